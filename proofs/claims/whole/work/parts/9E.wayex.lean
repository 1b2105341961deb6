/-! A way always exists: counting, legs -/
theorem cnt_sub {p p' : Nat → Bool} : ∀ {n}, (∀ d, d < n → p' d = true → p d = true) → cnt p' n ≤ cnt p n
  | 0, _ => Nat.le_refl _
  | n + 1, h => by
    have ih := cnt_sub (n := n) (p := p) (p' := p') (fun d hd => h d (by omega))
    have hn := h n (by omega)
    show cnt p' n + (if p' n = true then 1 else 0) ≤ cnt p n + (if p n = true then 1 else 0)
    by_cases z : p' n = true
    · rw [if_pos z, if_pos (hn z)]; omega
    · rw [if_neg z]; omega
theorem cnt_up {p p' : Nat → Bool} {a : Nat} : ∀ {n}, a < n → p a = true → p' a = false → (∀ d, d < n → p' d = true → p d = true) → cnt p' n + 1 ≤ cnt p n
  | 0, ha, _, _, _ => absurd ha (Nat.not_lt_zero a)
  | n + 1, ha, h1, h2, h => by
    have hn := h n (by omega)
    show cnt p' n + (if p' n = true then 1 else 0) + 1 ≤ cnt p n + (if p n = true then 1 else 0)
    by_cases e : a = n
    · subst e
      have ih := cnt_sub (n := a) (p := p) (p' := p') (fun d hd => h d (by omega))
      rw [if_pos h1, if_neg (by rw [h2]; exact Bool.noConfusion)]; omega
    · have ih := cnt_up (n := n) (by omega) h1 h2 (fun d hd => h d (by omega))
      by_cases z : p' n = true
      · rw [if_pos z, if_pos (hn z)]; omega
      · rw [if_neg z]; omega
theorem isD_pred {cn w : Nat} {kn : Nat → Nat} {ex : Nat → Bool} {s d k : Nat} (h : isD cn w kn ex s d (k + 1)) : ∃ c, isD cn w kn ex s c k := by
  obtain ⟨h1, h2⟩ := h
  rcases h1 with z | ⟨c, c1, c2, c3⟩
  · exact absurd z (h2 k (by omega))
  · exact ⟨c, c1, fun j hj y => h2 (j + 1) (by omega) (Or.inr ⟨c, y, c2, c3⟩)⟩
theorem isD_all {cn w : Nat} {kn : Nat → Nat} {ex : Nat → Bool} {s : Nat} : ∀ k d, isD cn w kn ex s d k → ∀ j, j ≤ k → ∃ c, isD cn w kn ex s c j
  | 0, d, h, j, hj => by
    have e : j = 0 := by omega
    rw [e]; exact ⟨d, h⟩
  | k + 1, d, h, j, hj => by
    by_cases e : j = k + 1
    · rw [e]; exact ⟨d, h⟩
    · obtain ⟨c, hc⟩ := isD_pred h
      exact isD_all k c hc j (by omega)
noncomputable def rcB (cn w : Nat) (kn : Nat → Nat) (ex : Nat → Bool) (s n : Nat) : Nat → Bool := fun d => @decide (rch cn w kn ex s n d) (Classical.propDecidable _)
theorem rcB_iff {cn w : Nat} {kn : Nat → Nat} {ex : Nat → Bool} {s n d : Nat} : rcB cn w kn ex s n d = true ↔ rch cn w kn ex s n d := @decide_eq_true_iff _ (Classical.propDecidable _)
/-- a shortest way is shorter than the cells are many -/
theorem isD_lt {cn w : Nat} {kn : Nat → Nat} {ex : Nat → Bool} {s d k : Nat} (h0 : 0 < w) (hh : ∃ h, cn = w * h) (hs : s < cn) (h : isD cn w kn ex s d k) : k < cn := by
  have key : ∀ j, j ≤ k → j + 1 ≤ cnt (rcB cn w kn ex s j) cn := by
    intro j
    induction j with
    | zero =>
      intro _
      exact cnt_pos hs (rcB_iff.mpr rfl)
    | succ j ih =>
      intro hj
      have ih := ih (by omega)
      obtain ⟨c, c1, c2⟩ := isD_all k d h (j + 1) hj
      have hc := rch_in h0 hh hs _ _ c1
      have hup := cnt_up (p := rcB cn w kn ex s (j + 1)) (p' := rcB cn w kn ex s j) (a := c) hc (rcB_iff.mpr c1) (by
        cases z : rcB cn w kn ex s j c with
        | false => rfl
        | true => exact absurd (rcB_iff.mp z) (c2 j (by omega))) (fun x _ hx => rcB_iff.mpr (Or.inl (rcB_iff.mp hx)))
      omega
  have := key k (Nat.le_refl _)
  have := cnt_le (rcB cn w kn ex s k) cn
  omega
theorem JA_rch {cn w : Nat} {kn : Nat → Nat} {a d : Nat} (h0 : 0 < w) (hh : ∃ h, cn = w * h) (ha : a < cn) (hk : 1 < kn a) (hJ : JA cn w kn a) (hd : d < cn) (hd1 : 1 < kn d) : ∃ n, n < cn ∧ rch cn w kn (exT false kn a) a n d := by
  have h := (dsw_ne (by omega)).mp (hJ d hd hd1)
  obtain ⟨n, hn⟩ := h
  obtain ⟨k, -, hk⟩ := rch_has n hn
  exact ⟨k, isD_lt h0 hh ha hk, hk.1⟩
theorem tkn_f {P : Nat → Nat → Nat} {r τ d : Nat} : ∀ o, (∀ q, q < o → ¬ q = r → ¬ P q (τ + 1) = d) → tkn P r τ d o = false
  | 0, _ => rfl
  | o + 1, h => by
    show (tkn P r τ d o || (decide (¬ o = r) && decide (d = P o (τ + 1)))) = false
    rw [tkn_f o (fun q hq => h q (by omega)), Bool.false_or]
    by_cases e : o = r
    · rw [decide_eq_false (fun z => z e)]; rfl
    · rw [decide_eq_false (fun z : d = P o (τ + 1) => h o (by omega) e z.symm), Bool.and_false]
theorem swp_f {P : Nat → Nat → Nat} {r τ c d : Nat} : ∀ o, (∀ q, q < o → ¬ q = r → ¬ (P q (τ + 1) = c ∧ P q τ = d)) → swp P r τ c d o = false
  | 0, _ => rfl
  | o + 1, h => by
    show (swp P r τ c d o || (decide (¬ o = r) && (decide (c = P o (τ + 1)) && decide (d = P o τ)))) = false
    rw [swp_f o (fun q hq => h q (by omega)), Bool.false_or]
    by_cases e : o = r
    · rw [decide_eq_false (fun z => z e)]; rfl
    · by_cases e1 : c = P o (τ + 1)
      · rw [decide_eq_false (fun z : d = P o τ => h o (by omega) e ⟨e1.symm, z.symm⟩), Bool.and_false, Bool.and_false]
      · rw [decide_eq_false e1, Bool.false_and, Bool.and_false]
theorem tkn_t {P : Nat → Nat → Nat} {r τ d : Nat} : ∀ o, tkn P r τ d o = false → ∀ q, q < o → ¬ q = r → ¬ P q (τ + 1) = d
  | 0, _, q, hq, _ => absurd hq (Nat.not_lt_zero q)
  | o + 1, h, q, hq, hr => by
    have h : (tkn P r τ d o || (decide (¬ o = r) && decide (d = P o (τ + 1)))) = false := h
    rw [Bool.or_eq_false_iff] at h
    by_cases e : q = o
    · subst e
      have h2 := h.2
      rw [decide_eq_true hr, Bool.true_and] at h2
      exact fun z => of_decide_eq_false h2 z.symm
    · exact tkn_t o h.1 q (by omega) hr
/-- a step once all others have ended -/
theorem may_free {cn w : Nat} {kn : Nat → Nat} {P : Nat → Nat → Nat} {te : Nat → Nat} {rn r τ c m d : Nat} (hc : ∀ q, q < rn → ∀ x, te q ≤ x → P q x = P q (te q)) (hτ : ∀ q, q < rn → ¬ q = r → te q ≤ τ) (hn : nx cn w c m = some d) (hkc : ¬ kn c = 0) (hkd : ¬ kn d = 0) (hf : ∀ q, q < rn → ¬ q = r → ¬ P q (te q) = d) : may cn w kn P rn r τ c m = some d := by
  refine may_spec.mpr ⟨hn, opb_of hn hkc hkd, tkn_f rn (fun q hq hr => ?_), swp_f rn (fun q hq hr z => ?_)⟩
  · rw [hc q hq (τ + 1) (by have := hτ q hq hr; omega)]; exact hf q hq hr
  · rw [hc q hq τ (hτ q hq hr)] at z; exact hf q hq hr z.2
/-- reached, and the flag is right -/
def RwG (cn w : Nat) (kn : Nat → Nat) (P : Nat → Nat → Nat) (rn r t : Nat) (sho : Option Nat) (s0 c0 : Nat) (Y : Prop) (k d : Nat) : Prop := ∃ s, Rw cn w kn P rn r t sho s0 c0 k s d ∧ (sho = some d → s = 1) ∧ (Y → s = 1)
theorem RwG_s {cn w : Nat} {kn : Nat → Nat} {P : Nat → Nat → Nat} {rn r t : Nat} {sho : Option Nat} {s0 c0 : Nat} {Y : Prop} {k c m d : Nat} (hm : m < 5) (h : RwG cn w kn P rn r t sho s0 c0 Y k c) (hy : may cn w kn P rn r (t + k) c m = some d) : RwG cn w kn P rn r t sho s0 c0 Y (k + 1) d := by
  obtain ⟨s, h1, h2, h3⟩ := h
  refine ⟨sd sho s d, ⟨s, c, m, hm, h1, hy, rfl⟩, fun z => by unfold sd; rw [if_pos z], fun z => ?_⟩
  unfold sd
  split
  · rfl
  · exact h3 z
theorem leg {cn w : Nat} {kn : Nat → Nat} {P : Nat → Nat → Nat} {te : Nat → Nat} {rn r t : Nat} {sho : Option Nat} {s0 c0 : Nat} {Y : Prop} {k a : Nat} (hc : ∀ q, q < rn → ∀ x, te q ≤ x → P q x = P q (te q)) (hpl : ∀ q, q < rn → 1 < kn (P q (te q))) (hτ : ∀ q, q < rn → ¬ q = r → te q ≤ t + k) (hka : ¬ kn a = 0) (hfa : ∀ q, q < rn → ¬ q = r → ¬ P q (te q) = a) (h : RwG cn w kn P rn r t sho s0 c0 Y k a) : ∀ n d, rch cn w kn (exT false kn a) a n d → ¬ kn d = 0 → (∀ q, q < rn → ¬ q = r → ¬ P q (te q) = d) → RwG cn w kn P rn r t sho s0 c0 Y (k + n) d
  | 0, d, hd, _, _ => by
    have e : d = a := hd
    rw [e]; exact h
  | n + 1, d, hd, hkd, hfd => by
    have hτ' : ∀ q, q < rn → ¬ q = r → te q ≤ t + (k + n) := fun q h1 h2 => by have := hτ q h1 h2; omega
    rcases hd with z | ⟨c, c1, c2, m, m1, m2, m3, m4⟩
    · exact RwG_s (m := 0) (by omega) (leg hc hpl hτ hka hfa h n d z hkd hfd) (may_free hc hτ' (by unfold nx; rw [if_pos rfl]) hkd hkd hfd)
    · have hkc := (opb_kn m3 m4).1
      have hfc : ∀ q, q < rn → ¬ q = r → ¬ P q (te q) = c := by
        intro q h1 h2 h3
        unfold exT at c2
        rw [Bool.false_or, Bool.or_eq_true, beq_iff_eq, decide_eq_true_eq] at c2
        rcases c2 with y | y
        · exact hfa q h1 h2 (h3.trans y)
        · exact y (by rw [← h3]; exact hpl q h1)
      exact RwG_s m2 (leg hc hpl hτ hka hfa h n c c1 hkc hfc) (may_free hc hτ' m4 hkc hkd hfd)
/-- waiting -/
theorem waitG {cn w : Nat} {kn : Nat → Nat} {P : Nat → Nat → Nat} {rn r t : Nat} {sho : Option Nat} {c0 : Nat} {Y : Prop} (hY : Y → s0f sho c0 = 1) (hk : ¬ kn c0 = 0) (hno : ∀ q, q < rn → ¬ q = r → ∀ τ, t ≤ τ → ¬ P q τ = c0) : ∀ k, RwG cn w kn P rn r t sho (s0f sho c0) c0 Y k c0
  | 0 => ⟨s0f sho c0, ⟨rfl, rfl⟩, fun z => by unfold s0f; rw [if_pos (Or.inr z)], hY⟩
  | k + 1 => by
    have hn : nx cn w c0 0 = some c0 := by unfold nx; rw [if_pos rfl]
    refine RwG_s (m := 0) (by omega) (waitG hY hk hno k) (may_spec.mpr ⟨hn, opb_of hn hk hk, tkn_f rn (fun q h1 h2 => hno q h1 h2 _ (by omega)), swp_f rn (fun q h1 h2 z => hno q h1 h2 _ (by omega) z.2)⟩)
