/-! DISTANCES, and the search by a queue (pure) -/
def adj (cn w : Nat) (kn : Nat → Nat) (c d : Nat) : Prop := ∃ m, 1 ≤ m ∧ m < 5 ∧ opb cn w kn c m = true ∧ nx cn w c m = some d
/-- d can be reached from s in at most n moves, from cells that ex allows -/
def rch (cn w : Nat) (kn : Nat → Nat) (ex : Nat → Bool) (s : Nat) : Nat → Nat → Prop
  | 0, d => d = s
  | n + 1, d => rch cn w kn ex s n d ∨ ∃ c, rch cn w kn ex s n c ∧ ex c = true ∧ adj cn w kn c d
def isD (cn w : Nat) (kn : Nat → Nat) (ex : Nat → Bool) (s d k : Nat) : Prop := rch cn w kn ex s k d ∧ ∀ j, j < k → ¬ rch cn w kn ex s j d
theorem rch_mono {cn w : Nat} {kn : Nat → Nat} {ex : Nat → Bool} {s n d : Nat} (h : rch cn w kn ex s n d) : ∀ q, rch cn w kn ex s (n + q) d
  | 0 => h
  | q + 1 => Or.inl (rch_mono h q)
theorem rch_le {cn w : Nat} {kn : Nat → Nat} {ex : Nat → Bool} {s n n' d : Nat} (h : rch cn w kn ex s n d) (hl : n ≤ n') : rch cn w kn ex s n' d := by
  have := rch_mono h (n' - n)
  rwa [Nat.add_sub_cancel' hl] at this
theorem isD_uni {cn w : Nat} {kn : Nat → Nat} {ex : Nat → Bool} {s d k k' : Nat} (h : isD cn w kn ex s d k) (h' : isD cn w kn ex s d k') : k = k' := by
  rcases Nat.lt_trichotomy k k' with z | z | z
  · exact absurd h.1 (h'.2 k z)
  · exact z
  · exact absurd h'.1 (h.2 k' z)
/-- how many of the cells before n have p -/
def cnt (p : Nat → Bool) : Nat → Nat
  | 0 => 0
  | n + 1 => cnt p n + if p n then 1 else 0
theorem cnt_le (p : Nat → Bool) : ∀ n, cnt p n ≤ n
  | 0 => Nat.le_refl _
  | n + 1 => by
    have := cnt_le p n
    show cnt p n + _ ≤ n + 1
    split <;> omega
theorem cnt_congr {p p' : Nat → Bool} : ∀ {n}, (∀ d, d < n → p d = p' d) → cnt p n = cnt p' n
  | 0, _ => rfl
  | n + 1, h => by
    show cnt p n + _ = cnt p' n + _
    rw [cnt_congr (fun d hd => h d (by omega)), h n (by omega)]
/-- one cell fewer -/
theorem cnt_one {p p' : Nat → Bool} {a : Nat} : ∀ {n}, a < n → p a = true → p' a = false → (∀ d, d < n → d ≠ a → p' d = p d) → cnt p n = cnt p' n + 1
  | 0, h, _, _, _ => by omega
  | n + 1, h, h1, h2, h3 => by
    show cnt p n + _ = cnt p' n + _ + 1
    by_cases e : n = a
    · subst e
      rw [cnt_congr (p := p) (p' := p') (fun d hd => (h3 d (by omega) (by omega)).symm), h1, h2]
      simp
    · rw [cnt_one (a := a) (by omega) h1 h2 (fun d hd hne => h3 d (by omega) hne), h3 n (by omega) e]
      omega
theorem cnt_pos {p : Nat → Bool} {a : Nat} : ∀ {n}, a < n → p a = true → 0 < cnt p n
  | 0, h, _ => by omega
  | n + 1, h, h1 => by
    show 0 < cnt p n + _
    by_cases e : n = a
    · subst e; rw [h1]; simp
    · have := cnt_pos (n := n) (a := a) (by omega) h1
      omega
/-- the search's state: fn the distances found, qn the queue of f cells; those before i have been looked around, and of the i-th the moves before m -/
def BI (cn w : Nat) (kn : Nat → Nat) (ex : Nat → Bool) (s i m : Nat) (fn : Nat → Option Nat) (qn : Nat → Nat) (f : Nat) : Prop :=
  f + cnt (fun d => (fn d).isNone) cn = cn ∧
  (∀ p, p < f → qn p < cn ∧ ∃ k, fn (qn p) = some k ∧ k ≤ p ∧ isD cn w kn ex s (qn p) k) ∧
  (∀ d, d < cn → (fn d).isSome → ∃ p, p < f ∧ qn p = d) ∧
  (∀ p p' k k', p ≤ p' → p' < f → fn (qn p) = some k → fn (qn p') = some k' → k ≤ k') ∧
  (∀ p a b, i < f → p < f → fn (qn i) = some a → fn (qn p) = some b → b ≤ a + 1) ∧
  (∀ p m' d, p < f → (p < i ∨ (p = i ∧ m' < m)) → ex (qn p) = true → 1 ≤ m' → m' < 5 → opb cn w kn (qn p) m' = true → nx cn w (qn p) m' = some d → (fn d).isSome) ∧
  (∃ p, p < f ∧ qn p = s)
/-- all cells as near as the i-th are in the queue -/
theorem BI.near {cn w : Nat} {kn : Nat → Nat} {ex : Nat → Bool} {s i m : Nat} {fn : Nat → Option Nat} {qn : Nat → Nat} {f a : Nat} (h0 : 0 < w) (hh : ∃ h, cn = w * h) (h : BI cn w kn ex s i m fn qn f) (hi : i < f) (ha : fn (qn i) = some a) : ∀ j e, j ≤ a → rch cn w kn ex s j e → e < cn ∧ ∃ p, p < f ∧ qn p = e
  | 0, e, _, hr => by
    obtain ⟨p, hp, hq⟩ := h.2.2.2.2.2.2
    have e1 : e = s := hr
    rw [e1, ← hq]
    exact ⟨(h.2.1 p hp).1, p, hp, rfl⟩
  | j + 1, e, hj, hr => by
    rcases hr with hr | ⟨c, hc, hx, m', h1, h2, h3, h4⟩
    · exact BI.near h0 hh h hi ha j e (by omega) hr
    · obtain ⟨hcn, p, hp, hpc⟩ := BI.near h0 hh h hi ha j c (by omega) hc
      obtain ⟨-, k, hk, -, hD⟩ := h.2.1 p hp
      have hkj : k ≤ j := by
        rcases Nat.lt_or_ge j k with z | z
        · rw [hpc] at hD
          exact absurd hc (hD.2 j z)
        · exact z
      have hpi : p < i := by
        rcases Nat.lt_or_ge p i with z | z
        · exact z
        · have := h.2.2.2.1 i p a k z hp ha hk
          omega
      have he : e < cn := nx_lt h0 hh hcn h4
      have hs := h.2.2.2.2.2.1 p m' e hp (Or.inl hpi) (by rw [hpc]; exact hx) h1 h2 (by rw [hpc]; exact h3) (by rw [hpc]; exact h4)
      exact ⟨he, h.2.2.1 e he hs⟩
theorem BI.f_le {cn w : Nat} {kn : Nat → Nat} {ex : Nat → Bool} {s i m : Nat} {fn : Nat → Option Nat} {qn : Nat → Nat} {f : Nat} (h : BI cn w kn ex s i m fn qn f) : f ≤ cn := by
  have := h.1
  omega
/-- a move that leads nowhere new -/
theorem BI.skip {cn w : Nat} {kn : Nat → Nat} {ex : Nat → Bool} {s i m : Nat} {fn : Nat → Option Nat} {qn : Nat → Nat} {f : Nat} (h : BI cn w kn ex s i m fn qn f) (hn : ∀ d, opb cn w kn (qn i) m = true → nx cn w (qn i) m = some d → (fn d).isSome) : BI cn w kn ex s i (m + 1) fn qn f := by
  obtain ⟨a1, a2, a3, a4, a5, a6, a7⟩ := h
  refine ⟨a1, a2, a3, a4, a5, fun p m' d hp hc hx h1 h2 h3 h4 => ?_, a7⟩
  by_cases e : p = i ∧ m' = m
  · obtain ⟨rfl, rfl⟩ := e
    exact hn d h3 h4
  · exact a6 p m' d hp (by omega) hx h1 h2 h3 h4
/-- a move to a cell that is new -/
theorem BI.add {cn w : Nat} {kn : Nat → Nat} {ex : Nat → Bool} {s i m : Nat} {fn : Nat → Option Nat} {qn : Nat → Nat} {f k d : Nat} (h0 : 0 < w) (hh : ∃ h, cn = w * h) (h : BI cn w kn ex s i m fn qn f) (hi : i < f) (hx : ex (qn i) = true) (hk : fn (qn i) = some k) (h1 : 1 ≤ m) (h5 : m < 5) (ho : opb cn w kn (qn i) m = true) (hd : nx cn w (qn i) m = some d) (hn : fn d = none) : f < cn ∧ BI cn w kn ex s i (m + 1) (va_up fn d (some (k + 1))) (va_up qn f d) (f + 1) := by
  have hnear := BI.near h0 hh h hi hk
  obtain ⟨a1, a2, a3, a4, a5, a6, a7⟩ := h
  have hqi := (a2 i hi).1
  have hdc : d < cn := nx_lt h0 hh hqi hd
  obtain ⟨ki, hki, hkle, hDi⟩ := (a2 i hi).2
  have eki : ki = k := Option.some.inj (hki.symm.trans hk)
  subst eki
  have hcp : 0 < cnt (fun d => (fn d).isNone) cn := cnt_pos hdc (by simp [hn])
  have hfl : f < cn := by omega
  have hqd : ∀ p, p < f → qn p ≠ d := by
    intro p hp z
    obtain ⟨-, k', hk', -⟩ := a2 p hp
    rw [z, hn] at hk'
    cases hk'
  have hq : ∀ p, p < f → va_up qn f d p = qn p := fun p hp => va_up_ne _ _ (by omega)
  have hfq : ∀ p, p < f → va_up fn d (some (ki + 1)) (va_up qn f d p) = fn (qn p) := fun p hp => by rw [hq p hp, va_up_ne _ _ (hqd p hp)]
  have hff : va_up fn d (some (ki + 1)) (va_up qn f d f) = some (ki + 1) := by rw [va_up_self, va_up_self]
  have hDd : isD cn w kn ex s d (ki + 1) := by
    refine ⟨Or.inr ⟨qn i, hDi.1, hx, m, h1, h5, ho, hd⟩, fun j hj hr => ?_⟩
    obtain ⟨-, p, hp, hpd⟩ := hnear j d (by omega) hr
    exact hqd p hp hpd
  refine ⟨hfl, ?_, fun p hp => ?_, fun e he hs => ?_, fun p p' k1 k2 hpp hp' e1 e2 => ?_, fun p a b _ hp e1 e2 => ?_, fun p m' e hp hc hx' g1 g2 g3 g4 => ?_, ?_⟩
  · have := cnt_one (p := fun d => (fn d).isNone) (p' := fun e => (va_up fn d (some (ki + 1)) e).isNone) (a := d) (n := cn) hdc (by simp [hn]) (by simp [va_up_self]) (fun e _ hne => by simp [va_up_ne _ _ hne])
    omega
  · by_cases e : p = f
    · subst e
      rw [va_up_self]
      exact ⟨hdc, ki + 1, va_up_self _ _ _, by omega, hDd⟩
    · have hp' : p < f := by omega
      rw [hfq p hp', hq p hp']
      exact a2 p hp'
  · by_cases e1 : e = d
    · exact ⟨f, by omega, by rw [va_up_self, e1]⟩
    · rw [va_up_ne _ _ e1] at hs
      obtain ⟨p, hp, hpe⟩ := a3 e he hs
      exact ⟨p, by omega, by rw [hq p hp]; exact hpe⟩
  · by_cases e : p' = f
    · subst e
      rw [hff] at e2
      cases e2
      by_cases e3 : p = p'
      · subst e3
        rw [hff] at e1
        cases e1
        exact Nat.le_refl _
      · rw [hfq p (by omega)] at e1
        exact a5 p ki k1 hi (by omega) hk e1
    · rw [hfq p' (by omega)] at e2
      rw [hfq p (by omega)] at e1
      exact a4 p p' k1 k2 hpp (by omega) e1 e2
  · rw [hfq i hi] at e1
    by_cases e : p = f
    · subst e
      rw [hff] at e2
      cases e2
      rw [hk] at e1
      cases e1
      exact Nat.le_refl _
    · rw [hfq p (by omega)] at e2
      exact a5 p a b hi (by omega) e1 e2
  · by_cases e2 : e = d
    · rw [e2, va_up_self]; rfl
    · rw [va_up_ne _ _ e2]
      have hpf : p < f := by omega
      rw [hq p hpf] at hx' g3 g4
      by_cases e3 : p = i ∧ m' = m
      · obtain ⟨rfl, rfl⟩ := e3
        rw [hd] at g4
        cases g4
        exact absurd rfl e2
      · exact a6 p m' e hpf (by omega) hx' g1 g2 g3 g4
  · obtain ⟨p, hp, hps⟩ := a7
    exact ⟨p, by omega, by rw [hq p hp]; exact hps⟩
/-- the i-th is through -/
theorem BI.next {cn w : Nat} {kn : Nat → Nat} {ex : Nat → Bool} {s i m : Nat} {fn : Nat → Option Nat} {qn : Nat → Nat} {f : Nat} (h : BI cn w kn ex s i m fn qn f) (hi : i < f) (hm : 5 ≤ m ∨ ¬ ex (qn i) = true) : BI cn w kn ex s (i + 1) 1 fn qn f := by
  obtain ⟨a1, a2, a3, a4, a5, a6, a7⟩ := h
  refine ⟨a1, a2, a3, a4, fun p a b hi' hp e1 e2 => ?_, fun p m' d hp hc hx h1 h2 h3 h4 => ?_, a7⟩
  · obtain ⟨-, k, hk, -⟩ := a2 i hi
    have h1 := a5 p k b hi hp hk e2
    have h2 := a4 i (i + 1) k a (by omega) hi' hk e1
    omega
  · by_cases e : p = i
    · subst e
      rcases hm with hm | hm
      · exact a6 p m' d hp (Or.inr ⟨rfl, by omega⟩) hx h1 h2 h3 h4
      · exact absurd hx hm
    · exact a6 p m' d hp (Or.inl (by omega)) hx h1 h2 h3 h4
/-- a number with p, if there is one -/
noncomputable def pick (p : Nat → Prop) : Option Nat := @dite _ (Nonempty { k : Nat // p k }) (Classical.propDecidable _) (fun h => some (Classical.choice h).1) (fun _ => none)
theorem pick_some {p : Nat → Prop} {k : Nat} (hk : p k) (hu : ∀ j, p j → j = k) : pick p = some k := by
  have h : Nonempty { k : Nat // p k } := ⟨⟨k, hk⟩⟩
  unfold pick
  rw [dif_pos h]
  exact congrArg some (hu _ (Classical.choice h).2)
theorem pick_none {p : Nat → Prop} (h : ∀ k, ¬ p k) : pick p = none := by
  unfold pick
  rw [dif_neg]
  rintro ⟨k, hk⟩
  exact h k hk
/-- the distance, or none -/
noncomputable def dsp (cn w : Nat) (kn : Nat → Nat) (ex : Nat → Bool) (s d : Nat) : Option Nat := pick (fun k => isD cn w kn ex s d k)
theorem rch_has {cn w : Nat} {kn : Nat → Nat} {ex : Nat → Bool} {s d : Nat} : ∀ n, rch cn w kn ex s n d → ∃ k, k ≤ n ∧ isD cn w kn ex s d k
  | 0, h => ⟨0, Nat.le_refl _, h, fun j hj => by omega⟩
  | n + 1, h => by
    by_cases h1 : rch cn w kn ex s n d
    · obtain ⟨k, hk, hD⟩ := rch_has n h1
      exact ⟨k, by omega, hD⟩
    · exact ⟨n + 1, Nat.le_refl _, h, fun j hj hr => h1 (rch_le hr (by omega))⟩
/-- the search's end -/
theorem BI.end {cn w : Nat} {kn : Nat → Nat} {ex : Nat → Bool} {s i m : Nat} {fn : Nat → Option Nat} {qn : Nat → Nat} {f : Nat} (h0 : 0 < w) (hh : ∃ h, cn = w * h) (h : BI cn w kn ex s i m fn qn f) (hi : f ≤ i) : ∀ d, d < cn → fn d = dsp cn w kn ex s d ∧ ∀ k, fn d = some k → k < cn := by
  obtain ⟨a1, a2, a3, a4, a5, a6, a7⟩ := h
  have hall : ∀ n e, rch cn w kn ex s n e → e < cn ∧ ∃ p, p < f ∧ qn p = e := by
    intro n
    induction n with
    | zero =>
      intro e hr
      obtain ⟨p, hp, hq⟩ := a7
      have e1 : e = s := hr
      rw [e1, ← hq]
      exact ⟨(a2 p hp).1, p, hp, rfl⟩
    | succ n ih =>
      intro e hr
      rcases hr with hr | ⟨c, hc, hx, m', h1, h2, h3, h4⟩
      · exact ih e hr
      · obtain ⟨hcn, p, hp, hpc⟩ := ih c hc
        have he : e < cn := nx_lt h0 hh hcn h4
        have hs := a6 p m' e hp (Or.inl (by omega)) (by rw [hpc]; exact hx) h1 h2 (by rw [hpc]; exact h3) (by rw [hpc]; exact h4)
        exact ⟨he, a3 e he hs⟩
  intro d hd
  cases hf : fn d with
  | some k =>
    obtain ⟨p, hp, hpd⟩ := a3 d hd (by rw [hf]; rfl)
    obtain ⟨-, k', hk', hkp, hD⟩ := a2 p hp
    rw [hpd] at hk' hD
    have e : k' = k := Option.some.inj (hk'.symm.trans hf)
    subst e
    refine ⟨(pick_some hD (fun j hj => isD_uni hj hD)).symm, fun k2 h2 => ?_⟩
    cases h2
    omega
  | none =>
    refine ⟨(pick_none (fun k hk => ?_)).symm, fun k2 h2 => by cases h2⟩
    obtain ⟨-, p, hp, hpd⟩ := hall k d hk.1
    obtain ⟨-, k', hk', -⟩ := a2 p hp
    rw [hpd, hf] at hk'
    cases hk'
/-- the search's start -/
theorem BI.start {cn w : Nat} {kn : Nat → Nat} {ex : Nat → Bool} {s : Nat} {qn : Nat → Nat} (hs : s < cn) (hq : qn 0 = s) : BI cn w kn ex s 0 1 (va_up (fun _ => none) s (some 0)) qn 1 := by
  have hD : isD cn w kn ex s s 0 := ⟨rfl, fun j hj => by omega⟩
  have hz : ∀ p, p < 1 → p = 0 := fun p hp => by omega
  have hc0 : ∀ n, cnt (fun d => ((fun _ => none : Nat → Option Nat) d).isNone) n = n := by
    intro n
    induction n with
    | zero => rfl
    | succ n ih =>
      show cnt _ n + _ = _
      rw [ih]; rfl
  refine ⟨?_, fun p hp => ?_, fun d hd hds => ?_, fun p p' k k' hpp hp' e1 e2 => ?_, fun p a b _ hp e1 e2 => ?_, fun p m' d hp hc => by omega, 0, by omega, hq⟩
  · have := cnt_one (p := fun d => ((fun _ => none : Nat → Option Nat) d).isNone) (p' := fun e => (va_up (fun _ => none) s (some 0) e : Option Nat).isNone) (a := s) (n := cn) hs rfl (by simp [va_up_self]) (fun e _ hne => by simp [va_up_ne _ _ hne])
    rw [hc0] at this
    omega
  · rw [hz p hp, hq]
    exact ⟨hs, 0, va_up_self _ _ _, Nat.le_refl _, hD⟩
  · by_cases e : d = s
    · exact ⟨0, by omega, by rw [hq, e]⟩
    · rw [va_up_ne _ _ e] at hds
      cases hds
  · rw [hz p (by omega)] at e1
    rw [hz p' hp'] at e2
    rw [e1] at e2
    cases e2
    exact Nat.le_refl _
  · rw [hz p hp] at e2
    rw [e1] at e2
    cases e2
    omega
