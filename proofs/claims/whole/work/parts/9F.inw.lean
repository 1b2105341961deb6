/-! What always holds of ways; a way always exists -/
def inP (kn : Nat → Nat) (rn : Nat) (P : Nat → Nat → Nat) (te : Nat → Nat) (t : Nat) : Prop :=
  (∀ q, q < rn → ∀ x, te q ≤ x → P q x = P q (te q)) ∧ (∀ q, q < rn → 1 < kn (P q (te q))) ∧ (∀ q q', q < rn → q' < rn → ¬ q = q' → ∀ τ, t ≤ τ → ¬ P q τ = P q' τ) ∧ (∀ q, q < rn → t < te q → te q ≤ t + 158 ∨ ∃ q', q' < rn ∧ t < te q' ∧ te q' < te q ∧ te q ≤ te q' + 158)
theorem gap_bd {kn : Nat → Nat} {rn : Nat} {P : Nat → Nat → Nat} {te : Nat → Nat} {t : Nat} (h : inP kn rn P te t) : ∀ m q, q < rn → cnt (fun x => decide (t < te x ∧ te x ≤ te q)) rn ≤ m → te q ≤ t + 158 * m
  | 0, q, hq, hc => by
    rcases Nat.lt_or_ge t (te q) with z | z
    · have := cnt_pos (p := fun x => decide (t < te x ∧ te x ≤ te q)) hq (decide_eq_true ⟨z, Nat.le_refl _⟩)
      omega
    · omega
  | m + 1, q, hq, hc => by
    rcases Nat.lt_or_ge t (te q) with z | z
    · rcases h.2.2.2 q hq z with y | ⟨q', h1, h2, h3, h4⟩
      · omega
      · have hu := cnt_up (p := fun x => decide (t < te x ∧ te x ≤ te q)) (p' := fun x => decide (t < te x ∧ te x ≤ te q')) (a := q) hq (decide_eq_true ⟨z, Nat.le_refl _⟩) (decide_eq_false (fun y => by omega)) (fun d _ hd => by
          have := of_decide_eq_true hd
          exact decide_eq_true ⟨this.1, by omega⟩)
        have := gap_bd h m q' h1 (by omega)
        omega
    · omega
theorem te_6 {kn : Nat → Nat} {rn : Nat} {P : Nat → Nat → Nat} {te : Nat → Nat} {t : Nat} (hrn : rn ≤ 6) (h : inP kn rn P te t) (q : Nat) (hq : q < rn) : te q ≤ t + 948 := by
  have := gap_bd h 6 q hq (by have := cnt_le (fun x => decide (t < te x ∧ te x ≤ te q)) rn; omega)
  omega
theorem te_5 {kn : Nat → Nat} {rn : Nat} {P : Nat → Nat → Nat} {te : Nat → Nat} {t r : Nat} (hrn : rn ≤ 6) (h : inP kn rn P te t) (hr : r < rn) (hter : te r ≤ t) (q : Nat) (hq : q < rn) : te q ≤ t + 790 := by
  have hu := cnt_up (p := fun _ => true) (p' := fun x => decide (t < te x ∧ te x ≤ te q)) (a := r) hr rfl (decide_eq_false (fun y => by omega)) (fun d _ hd => rfl)
  have hl := cnt_le (fun _ => true) rn
  have := gap_bd h 5 q hq (by omega)
  omega
theorem eo_no {P : Nat → Nat → Nat} {te : Nat → Nat} {r c rn : Nat} (h : eoB P te r c rn = false) : ∀ q, q < rn → ¬ q = r → ¬ P q (te q) = c := by
  intro q h1 h2 h3
  have := (eoB_iff (P := P) (te := te) (r := r) (c := c) rn).mpr ⟨q, h1, h2, h3⟩
  rw [h] at this
  cases this
theorem ex_way {cn w : Nat} {kn : Nat → Nat} {rn : Nat} {P : Nat → Nat → Nat} {te : Nat → Nat} {t r W : Nat} {sho : Option Nat} {goal : Nat} (h0 : 0 < w) (hh : ∃ h, cn = w * h) (h80 : cn ≤ 80) (hJ : ∀ c, c < cn → 1 < kn c → JA cn w kn c) (hP : inP kn rn P te t) (hPc : ∀ q, q < rn → ∀ τ, P q τ < cn ∧ ¬ kn (P q τ) = 0) (hr : r < rn) (hter : te r ≤ t) (hW : ∀ q, q < rn → ¬ q = r → te q ≤ t + W) (hg : goal < cn ∧ 1 < kn goal ∧ eoB P te r goal rn = false) (hs : ∀ h, sho = some h → h < cn ∧ 1 < kn h ∧ eoB P te r h rn = false) : ∃ L, okL cn w kn P te rn r t sho (s0f sho (P r t)) (P r t) goal L ∧ L ≤ W + 158 := by
  obtain ⟨p1, p2, p3, p4⟩ := hP
  obtain ⟨g1, g2, g3⟩ := hg
  have hc0 : ∀ τ, t ≤ τ → P r τ = P r t := fun τ hτ => by rw [p1 r hr τ (by omega), p1 r hr t hter]
  have hk0 : 1 < kn (P r t) := by rw [p1 r hr t hter]; exact p2 r hr
  have hcl := (hPc r hr t).1
  have hno : ∀ q, q < rn → ¬ q = r → ∀ τ, t ≤ τ → ¬ P q τ = P r t := fun q h1 h2 τ hτ h3 => p3 q r h1 hr h2 τ hτ (by rw [h3, hc0 τ hτ])
  have hf0 : ∀ q, q < rn → ¬ q = r → ¬ P q (te q) = P r t := fun q h1 h2 h3 => hno q h1 h2 (t + W) (by omega) (by rw [p1 q h1 (t + W) (hW q h1 h2)]; exact h3)
  have hclr : ∀ n, clr P te rn r t goal (W + n) := fun n q τ h1 h2 h3 h4 => by have := hW q h1 h2; omega
  cases sho with
  | none =>
    obtain ⟨n, hn, hrc⟩ := JA_rch h0 hh hcl hk0 (hJ _ hcl hk0) g1 g2
    have hw := waitG (cn := cn) (w := w) (kn := kn) (P := P) (rn := rn) (r := r) (t := t) (sho := none) (c0 := P r t) (Y := True) (fun _ => by unfold s0f; rw [if_pos (Or.inl rfl)]) (by omega) hno W
    obtain ⟨s, s1, s2, s3⟩ := leg p1 p2 hW (by omega) hf0 hw n goal hrc (by omega) (eo_no g3)
    rw [s3 trivial] at s1
    exact ⟨W + n, ⟨hclr n, s1⟩, by omega⟩
  | some h =>
    obtain ⟨a1, a2, a3⟩ := hs h rfl
    obtain ⟨n, hn, hrc⟩ := JA_rch h0 hh hcl hk0 (hJ _ hcl hk0) a1 a2
    obtain ⟨m, hm, hrm⟩ := JA_rch h0 hh a1 a2 (hJ _ a1 a2) g1 g2
    have hw := waitG (cn := cn) (w := w) (kn := kn) (P := P) (rn := rn) (r := r) (t := t) (sho := some h) (c0 := P r t) (Y := False) (fun z => z.elim) (by omega) hno W
    obtain ⟨s, s1, s2, s3⟩ := leg p1 p2 hW (by omega) hf0 hw n h hrc (by omega) (eo_no a3)
    have hw2 : RwG cn w kn P rn r t (some h) (s0f (some h) (P r t)) (P r t) True (W + n) h := ⟨s, s1, s2, fun _ => s2 rfl⟩
    obtain ⟨s', s1', s2', s3'⟩ := leg p1 p2 (fun q h1 h2 => by have := hW q h1 h2; omega) (by omega) (eo_no a3) hw2 m goal hrm (by omega) (eo_no g3)
    rw [s3' trivial] at s1'
    refine ⟨W + n + m, ⟨?_, s1'⟩, by omega⟩
    rw [Nat.add_assoc]
    exact hclr (n + m)
theorem max_of (te : Nat → Nat) (r t : Nat) : ∀ n, ∃ W, (∀ q, q < n → ¬ q = r → te q ≤ t + W) ∧ (W = 0 ∨ ∃ q, q < n ∧ ¬ q = r ∧ te q = t + W)
  | 0 => ⟨0, fun q hq => absurd hq (Nat.not_lt_zero q), Or.inl rfl⟩
  | n + 1 => by
    obtain ⟨W, h1, h2⟩ := max_of te r t n
    by_cases e : n = r ∨ te n ≤ t + W
    · refine ⟨W, fun q hq hr => ?_, ?_⟩
      · by_cases z : q = n
        · rcases e with y | y
          · exact absurd (z.trans y) hr
          · rw [z]; exact y
        · exact h1 q (by omega) hr
      · rcases h2 with z | ⟨q, q1, q2, q3⟩
        · exact Or.inl z
        · exact Or.inr ⟨q, by omega, q2, q3⟩
    · refine ⟨te n - t, fun q hq hr => ?_, Or.inr ⟨n, by omega, by omega, by omega⟩⟩
      by_cases z : q = n
      · rw [z]; omega
      · have := h1 q (by omega) hr; omega
theorem gap_in {kn : Nat → Nat} {rn : Nat} {P : Nat → Nat → Nat} {te : Nat → Nat} {t r v : Nat} (hP : inP kn rn P te t) (hter : te r ≤ t) (htv : t < v) : ∀ u q, te q ≤ u → q < rn → v ≤ te q → v ≤ t + 158 ∨ ∃ q', q' < rn ∧ ¬ q' = r ∧ t < te q' ∧ te q' < v ∧ v ≤ te q' + 158
  | 0, q, hu, _, hv => by omega
  | u + 1, q, hu, hq, hv => by
    rcases hP.2.2.2 q hq (by omega) with z | ⟨q', h1, h2, h3, h4⟩
    · left; omega
    · rcases Nat.lt_or_ge (te q') v with y | y
      · exact Or.inr ⟨q', h1, (fun e => by rw [e] at h2; omega), h2, y, by omega⟩
      · exact gap_in hP hter htv u q' (by omega) h1 y
/-- a new way keeps it -/
theorem inP_way {cn w : Nat} {kn : Nat → Nat} {rn : Nat} {P : Nat → Nat → Nat} {te : Nat → Nat} {t r : Nat} {sho : Option Nat} {goal L : Nat} {p : Nat → Nat} (h0 : 0 < w) (hh : ∃ h, cn = w * h) (h80 : cn ≤ 80) (hJ : ∀ c, c < cn → 1 < kn c → JA cn w kn c) (hP : inP kn rn P te t) (hPc : ∀ q, q < rn → ∀ τ, P q τ < cn ∧ ¬ kn (P q τ) = 0) (hr : r < rn) (hter : te r ≤ t) (hg : goal < cn ∧ 1 < kn goal ∧ eoB P te r goal rn = false) (hs : ∀ h, sho = some h → h < cn ∧ 1 < kn h ∧ eoB P te r h rn = false) (hy : isWy cn w kn P te rn r t sho goal L p) : inP kn rn (nwP P r t L p) (nwE te r t L) t := by
  obtain ⟨W, hW, hWm⟩ := max_of te r t rn
  obtain ⟨L', hL', hLW⟩ := ex_way h0 hh h80 hJ hP hPc hr hter hW hg hs
  obtain ⟨w1, w2, w3, sp, w4⟩ := hy
  have hLe : L ≤ W + 158 := by
    rcases Nat.lt_or_ge L' L with z | z
    · exact absurd hL' (w3 L' z)
    · omega
  obtain ⟨p1, p2, p3, p4⟩ := id hP
  have pL := isW_end w2.2 w4
  have p0 : p 0 = P r t := w4.1
  have hv : ∀ τ, t + L ≤ τ → nwP P r t L p r τ = goal := by
    intro τ hτ
    unfold nwP
    by_cases z : t < τ
    · rw [if_pos ⟨rfl, z⟩, show min (τ - t) L = L by omega, pL]
    · have e1 : L = 0 := by omega
      have e2 : τ = t := by omega
      rw [if_neg (fun y => z y.2), e2, ← p0, ← pL, e1]
  have other : ∀ q, ¬ q = r → ∀ τ, nwP P r t L p q τ = P q τ := fun q e τ => by unfold nwP; rw [if_neg (fun z => e z.1)]
  have en : nwE te r t L r = t + L := by unfold nwE; rw [if_pos rfl]
  have eo : ∀ q, ¬ q = r → nwE te r t L q = te q := fun q e => by unfold nwE; rw [if_neg e]
  have two : ∀ q, q < rn → ¬ q = r → ∀ τ, t ≤ τ → ¬ P q τ = nwP P r t L p r τ := by
    intro q hq e τ hτ
    rcases Nat.lt_or_ge τ (t + L) with z | z
    · by_cases y : t < τ
      · have e3 : nwP P r t L p r τ = p (τ - t) := by unfold nwP; rw [if_pos ⟨rfl, y⟩, show min (τ - t) L = τ - t by omega]
        rw [e3]
        obtain ⟨j, hj⟩ : ∃ j, τ = t + j + 1 := ⟨τ - t - 1, by omega⟩
        have h2 := Lw_R w2.2 _ _ _ (isW_L w2.2 w4 (τ - t) (by omega))
        rw [show L - (L - (τ - t)) = j + 1 by omega, show τ - t = j + 1 by omega] at h2
        have h3 := tkn_t rn (Rw_free h2) q hq e
        rw [show τ - t = j + 1 by omega, hj]
        exact h3
      · have e2 : τ = t := by omega
        rw [e2, show nwP P r t L p r t = P r t by unfold nwP; rw [if_neg (fun y => by omega)]]
        exact p3 q r hq hr e t (Nat.le_refl _)
    · rw [hv τ z]
      rcases Nat.lt_or_ge τ (te q) with y | y
      · exact w2.1 q τ hq e z y
      · rw [p1 q hq τ y]; exact eo_no hg.2.2 q hq e
  refine ⟨fun q hq x hx => ?_, fun q hq => ?_, fun q q' h1 h2 h3 τ hτ => ?_, fun q hq ht => ?_⟩
  · by_cases e : q = r
    · rw [e] at hx ⊢
      rw [en] at hx ⊢
      rw [hv x hx, hv _ (Nat.le_refl _)]
    · rw [eo q e] at hx ⊢
      rw [other q e, other q e]; exact p1 q hq x hx
  · by_cases e : q = r
    · rw [e, en, hv _ (Nat.le_refl _)]; exact hg.2.1
    · rw [eo q e, other q e]; exact p2 q hq
  · by_cases e : q = r
    · have e' : ¬ q' = r := fun z => h3 (e.trans z.symm)
      rw [e, other q' e']
      exact fun z => two q' h2 e' τ hτ z.symm
    · by_cases e' : q' = r
      · rw [e', other q e]
        exact two q h1 e τ hτ
      · rw [other q e, other q' e']
        exact p3 q q' h1 h2 h3 τ hτ
  · by_cases e : q = r
    · rw [e, en] at ht ⊢
      rcases hWm with z | ⟨q', q1, q2, q3⟩
      · left; omega
      · rcases Nat.lt_or_ge (t + W) (t + L) with y | y
        · rcases Nat.eq_zero_or_pos W with z | z
          · left; omega
          · exact Or.inr ⟨q', q1, by rw [eo q' q2]; omega, by rw [eo q' q2]; omega, by rw [eo q' q2]; omega⟩
        · rcases gap_in hP hter ht (te q') q' (Nat.le_refl _) q1 (by omega) with z | ⟨q'', a1, a2, a3, a4, a5⟩
          · exact Or.inl z
          · exact Or.inr ⟨q'', a1, by rw [eo q'' a2]; exact a3, by rw [eo q'' a2]; exact a4, by rw [eo q'' a2]; exact a5⟩
    · rw [eo q e] at ht ⊢
      rcases p4 q hq ht with z | ⟨q', a1, a2, a3, a4⟩
      · exact Or.inl z
      · have e' : ¬ q' = r := fun z => by rw [z] at a2; omega
        exact Or.inr ⟨q', a1, by rw [eo q' e']; exact a2, by rw [eo q' e']; exact a3, by rw [eo q' e']; exact a4⟩
def inW (cn w : Nat) (kn : Nat → Nat) (rn : Nat) (s : fS) : Prop := (∀ c, c < cn → 1 < kn c → JA cn w kn c) ∧ inP kn rn s.2.2.1 s.2.2.2.1 (tmF s)
theorem ft_pl {cn : Nat} {kn : Nat → Nat} {on tn : Nat} {O T : Nat → Nat → Int32} {P : Nat → Nat → Nat} {te : Nat → Nat} {rn r k : Nat} {D : Nat → Int32} (hw : tWf cn kn on tn O T) (hb : bst (ftB T (fun c => eoB P te r c rn)) D tn = some k) : (tst T k < cn ∧ 1 < kn (tst T k) ∧ eoB P te r (tst T k) rn = false) ∧ ∀ h, some (tsh T k) = some h → h < cn ∧ 1 < kn h ∧ eoB P te r h rn = false := by
  obtain ⟨hk, hft⟩ := bst_lt hb
  unfold ftB at hft
  simp only [Bool.and_eq_true, decide_eq_true_eq, Bool.not_eq_true'] at hft
  obtain ⟨⟨a1, a2, a3⟩, ⟨b1, b2, b3⟩, -⟩ := hw k hk
  refine ⟨⟨b2, by omega, hft.2.2⟩, fun h e => ?_⟩
  cases e
  exact ⟨a2, by omega, hft.2.1⟩
theorem rf_pl {cn : Nat} {kn : Nat → Nat} {Wn : Nat → Bool} {P : Nat → Nat → Nat} {te : Nat → Nat} {rn r d : Nat} {D : Nat → Int32} (hb : bst (rfB kn Wn (fun c => eoB P te r c rn)) D cn = some d) : d < cn ∧ 1 < kn d ∧ eoB P te r d rn = false := by
  obtain ⟨hk, hft⟩ := bst_lt hb
  unfold rfB at hft
  simp only [Bool.and_eq_true, decide_eq_true_eq, Bool.not_eq_true'] at hft
  exact ⟨hk, hft.1, hft.2.2⟩
theorem wyX_of {cn w : Nat} {kn : Nat → Nat} {on tn rn : Nat} {s : fS} {r : Nat} (h0 : 0 < w) (hh : ∃ h, cn = w * h) (h80 : cn ≤ 80) (hI : inF cn kn on tn rn s) (hW : inW cn w kn rn s) (hr : r < rn) (hter : s.2.2.2.1 r ≤ tmF s) : wyX cn w kn tn rn s r := by
  obtain ⟨O, T, P, te, B, t, A, wy, lg⟩ := s
  obtain ⟨i1, i2, i3, i4, i5, i6, i7, i8, i9⟩ := hI
  obtain ⟨hJ, hP⟩ := hW
  have hP : inP kn rn P te t := hP
  have hter : te r ≤ t := hter
  have hb := te_5 i3 hP hr hter
  refine ⟨fun k hk => ?_, fun d hd => ?_⟩
  · obtain ⟨a, b⟩ := ft_pl i6 hk
    obtain ⟨L, hL, hl⟩ := ex_way h0 hh h80 hJ hP i8 hr hter (fun q hq _ => hb q hq) a b
    exact ⟨L, by omega, hL⟩
  · obtain ⟨L, hL, hl⟩ := ex_way (sho := none) h0 hh h80 hJ hP i8 hr hter (fun q hq _ => hb q hq) (rf_pl hd) (fun h e => by cases e)
    exact ⟨L, by omega, hL⟩
theorem inW_lfw {cn w : Nat} {kn : Nat → Nat} {on tn rn : Nat} {s : fS} {r : Nat} (h0 : 0 < w) (hh : ∃ h, cn = w * h) (h80 : cn ≤ 80) (hI : inF cn kn on tn rn s) (hW : inW cn w kn rn s) (hr : r < rn) (hter : s.2.2.2.1 r ≤ tmF s) : inW cn w kn rn (lfw cn w kn tn rn s r) := by
  obtain ⟨O, T, P, te, B, t, A, wy, lg⟩ := s
  obtain ⟨i1, i2, i3, i4, i5, i6, i7, i8, i9⟩ := hI
  have hW2 := hW
  obtain ⟨hJ, hP⟩ := hW
  have hP : inP kn rn P te t := hP
  have hter : te r ≤ t := hter
  rcases lfw_cases (cn := cn) (w := w) (kn := kn) (tn := tn) (rn := rn) O T P te B t A wy lg r with e | ⟨k, x, hb, hx, e⟩ | ⟨d, x, -, hb, hx, e⟩ <;> rw [e]
  · exact hW2
  · obtain ⟨a, b⟩ := ft_pl i6 hb
    exact ⟨hJ, inP_way h0 hh h80 hJ hP i8 hr hter a b (wyF_is hx)⟩
  · exact ⟨hJ, inP_way h0 hh h80 hJ hP i8 hr hter (rf_pl hb) (fun h e => by cases e) (wyF_is hx)⟩
theorem inW_lfA {cn w : Nat} {kn : Nat → Nat} {on tn rn : Nat} {s : fS} (h0 : 0 < w) (hh : ∃ h, cn = w * h) (h80 : cn ≤ 80) (hI : inF cn kn on tn rn s) (hW : inW cn w kn rn s) : ∀ n, n ≤ rn → inW cn w kn rn (lfA cn w kn tn rn s n)
  | 0, _ => hW
  | n + 1, hn => by
    have ih := inW_lfA h0 hh h80 hI hW n (by omega)
    unfold lfA
    split
    · rename_i z
      exact inW_lfw h0 hh h80 (inF_lfA h0 hh hI n (by omega)) ih (by omega) z
    · exact ih
theorem gOn_P (s : fS) (r : Nat) : (gOn s r).2.2.1 = s.2.2.1 := by
  obtain ⟨O, T, P, te, B, t, A, wy, lg⟩ := s
  show (wkO (mvB (O, T, P, te, B, t, A, wy, lg) r) r).2.2.1 = P
  unfold mvB wkO
  simp only
  split <;> (try split) <;> (try split) <;> rfl
theorem goA_P (s : fS) : ∀ n, (goA s n).2.2.1 = s.2.2.1
  | 0 => rfl
  | n + 1 => by
    unfold goA
    rw [gOn_P, goA_P s n]
theorem inP_t {kn : Nat → Nat} {rn : Nat} {P : Nat → Nat → Nat} {te : Nat → Nat} {t : Nat} (h : inP kn rn P te t) : inP kn rn P te (t + 1) := by
  obtain ⟨p1, p2, p3, p4⟩ := h
  refine ⟨p1, p2, fun q q' h1 h2 h3 τ hτ => p3 q q' h1 h2 h3 τ (by omega), fun q hq ht => ?_⟩
  rcases p4 q hq (by omega) with z | ⟨q', a1, a2, a3, a4⟩
  · left; omega
  · by_cases e : te q' = t + 1
    · left; omega
    · exact Or.inr ⟨q', a1, by omega, a3, a4⟩
theorem stp_P {cn w : Nat} {kn : Nat → Nat} {tn rn : Nat} (s : fS) : (stp cn w kn tn rn s).2.2.1 = (lfA cn w kn tn rn s rn).2.2.1 := by
  unfold stp
  have h1 : ∀ s : fS, (wtS cn w kn rn s).2.2.1 = s.2.2.1 := fun s => by obtain ⟨O, T, P, te, B, t, A, wy, lg⟩ := s; rfl
  have h2 : ∀ s : fS, (tkT1 s).2.2.1 = s.2.2.1 := fun s => by obtain ⟨O, T, P, te, B, t, A, wy, lg⟩ := s; rfl
  rw [h1, goA_P, h2]
theorem inW_stp {cn w : Nat} {kn : Nat → Nat} {on tn rn : Nat} {s : fS} (h0 : 0 < w) (hh : ∃ h, cn = w * h) (h80 : cn ≤ 80) (hI : inF cn kn on tn rn s) (hW : inW cn w kn rn s) : inW cn w kn rn (stp cn w kn tn rn s) := by
  have h := inW_lfA h0 hh h80 hI hW rn (Nat.le_refl _)
  refine ⟨h.1, ?_⟩
  rw [stp_P, stp_te, stp_t]
  have h2 := h.2
  rw [lfA_t] at h2
  exact inP_t h2
theorem inW_itS {cn w : Nat} {kn : Nat → Nat} {on tn rn : Nat} {s : fS} (h0 : 0 < w) (hh : ∃ h, cn = w * h) (h80 : cn ≤ 80) (hI : inF cn kn on tn rn s) (hW : inW cn w kn rn s) : ∀ k, tmF s + k ≤ 4000 → inW cn w kn rn (itS cn w kn tn rn s k)
  | 0, _ => hW
  | k + 1, hk => inW_stp h0 hh h80 (inF_itS h0 hh hI k (by omega)) (inW_itS h0 hh h80 hI hW k (by omega))
theorem okX_of {cn w : Nat} {kn : Nat → Nat} {on tn rn : Nat} {s : fS} (h0 : 0 < w) (hh : ∃ h, cn = w * h) (h80 : cn ≤ 80) (hI : inF cn kn on tn rn s) (hW : inW cn w kn rn s) : okX cn w kn tn rn s := by
  intro i hi hle
  exact wyX_of h0 hh h80 (inF_lfA h0 hh hI i (by omega)) (inW_lfA h0 hh h80 hI hW i (by omega)) hi (by rw [lfA_t]; exact hle)
