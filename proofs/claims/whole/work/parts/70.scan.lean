/-! Reading (pure): what a scan without fault says; the first place that is apart -/
theorem scn_w {tx : Nat → Nat} : ∀ f k c w w', scn tx f k 0 c w = scn tx f k 0 c w'
  | 0, k, c, w, w' => by
    unfold scn
    simp
  | f + 1, k, c, w, w' => by
    unfold scn
    by_cases h9 : kd (tx k) = 9
    · simp only [if_pos h9]
    · simp only [if_neg h9]
      by_cases h5 : kd (tx k) = 5
      · simp [h5]
      · rw [scn_w f (k + 1) (c + 1) w w']
        simp [h5]
theorem scn_ok {tx : Nat → Nat} {n : Nat} : ∀ f k l c w, k + f = n → l ≤ 7 → (l = 0 → c ≤ 10 ∧ ldc tx k = c) → (0 < l → 0 < w ∧ w ≤ 10 ∧ c ≤ w ∧ ldc tx k = w * l + c) → (∀ j, j < k → ¬ kd (tx j) = 9) → (scn tx f k l c w).1 = 0 → 0 < (scn tx f k l c w).2.2 ∧ (scn tx f k l c w).2.2 ≤ 10 ∧ (∀ j, j < n → ¬ kd (tx j) = 9) ∧ ∃ h, h ≤ 8 ∧ 0 < h ∧ ldc tx n = (scn tx f k l c w).2.2 * h
  | 0, k, l, c, w, hk, hl, h0, h1, h9, hs => by
    have e : k = n := by omega
    subst e
    unfold scn at hs ⊢
    by_cases hc : c = 0 ∨ (0 < l ∧ c < w)
    · simp only [if_pos hc] at hs
      exact absurd hs (by decide)
    · simp only [if_neg hc]
      have hc0 : 0 < c := by omega
      rcases Nat.eq_zero_or_pos l with z | z
      · obtain ⟨a1, a2⟩ := h0 z
        exact ⟨hc0, a1, h9, 1, by omega, by omega, by rw [a2, Nat.mul_one]⟩
      · obtain ⟨a1, a2, a3, a4⟩ := h1 z
        have e : c = w := by omega
        refine ⟨hc0, by omega, h9, l + 1, by omega, by omega, ?_⟩
        rw [a4, e, Nat.mul_add, Nat.mul_one]
  | f + 1, k, l, c, w, hk, hl, h0, h1, h9, hs => by
    unfold scn at hs ⊢
    by_cases hk9 : kd (tx k) = 9
    · simp only [if_pos hk9] at hs
      exact absurd hs (by decide)
    · simp only [if_neg hk9] at hs ⊢
      have h9' : ∀ j, j < k + 1 → ¬ kd (tx j) = 9 := by
        intro j hj
        by_cases e : j = k
        · rw [e]; exact hk9
        · exact h9 j (by omega)
      have hld : ldc tx (k + 1) = ldc tx k + if kd (tx k) = 5 then 0 else 1 := rfl
      by_cases h5 : kd (tx k) = 5
      · rw [if_pos h5] at hld
        simp only [if_pos h5] at hs ⊢
        by_cases hc : c = 0 ∨ (0 < l ∧ c < w)
        · simp only [if_pos hc] at hs
          exact absurd hs (by decide)
        · simp only [if_neg hc] at hs ⊢
          by_cases hl8 : l + 1 < 8
          · simp only [if_pos hl8] at hs ⊢
            refine scn_ok f (k + 1) (l + 1) 0 c (by omega) (by omega) (by omega) (fun _ => ?_) h9' hs
            rcases Nat.eq_zero_or_pos l with z | z
            · obtain ⟨a1, a2⟩ := h0 z
              refine ⟨by omega, a1, by omega, ?_⟩
              rw [hld, a2, z]; simp
            · obtain ⟨a1, a2, a3, a4⟩ := h1 z
              have e : c = w := by omega
              refine ⟨by omega, by omega, by omega, ?_⟩
              rw [hld, a4, e, Nat.mul_add, Nat.mul_one]
          · simp only [if_neg hl8] at hs
            exact absurd hs (by decide)
      · rw [if_neg h5] at hld
        simp only [if_neg h5] at hs ⊢
        by_cases hc : c + 1 ≤ (if l = 0 then 10 else w)
        · simp only [if_pos hc] at hs ⊢
          refine scn_ok f (k + 1) l (c + 1) w (by omega) hl (fun z => ?_) (fun z => ?_) h9' hs
          · rw [if_pos z] at hc
            exact ⟨hc, by rw [hld, (h0 z).2]⟩
          · rw [if_neg (by omega)] at hc
            obtain ⟨a1, a2, a3, a4⟩ := h1 z
            exact ⟨a1, a2, hc, by rw [hld, a4]; omega⟩
        · simp only [if_neg hc] at hs
          exact absurd hs (by decide)
/-- the least of the first n cells that is a place and lacks a way to another -/
noncomputable def apF (cn w : Nat) (kn : Nat → Nat) : Nat → Option Nat
  | 0 => none
  | n + 1 => match apF cn w kn n with
    | some c => some c
    | none => @ite _ (1 < kn n ∧ ¬ JA cn w kn n) (Classical.propDecidable _) (some n) none
theorem apF_none {cn w : Nat} {kn : Nat → Nat} : ∀ {n}, (∀ c, c < n → 1 < kn c → JA cn w kn c) → apF cn w kn n = none
  | 0, _ => rfl
  | n + 1, h => by
    unfold apF
    rw [apF_none (fun c hc => h c (by omega))]
    simp only
    rw [if_neg]
    rintro ⟨h1, h2⟩
    exact h2 (h n (by omega) h1)
theorem apF_some {cn w : Nat} {kn : Nat → Nat} {c : Nat} (h1 : 1 < kn c) (h2 : ¬ JA cn w kn c) (h3 : ∀ d, d < c → 1 < kn d → JA cn w kn d) : ∀ n, c < n → apF cn w kn n = some c
  | 0, h => by omega
  | n + 1, h => by
    unfold apF
    by_cases e : c = n
    · subst e
      rw [apF_none h3]
      simp only
      rw [if_pos ⟨h1, h2⟩]
    · rw [apF_some h1 h2 h3 n (by omega)]
theorem apF_FA {cn w : Nat} {kn : Nat → Nat} {r : Option fz_V} (h : FA cn w kn r) : r = some (zI (oI (apF cn w kn cn))) ∧ (∀ c, apF cn w kn cn = some c → c < cn) := by
  rcases h with ⟨rfl, h⟩ | ⟨c, hc, rfl, h1, h2, h3⟩
  · rw [apF_none h]
    exact ⟨rfl, fun c z => by cases z⟩
  · rw [apF_some h1 h2 h3 cn hc]
    exact ⟨rfl, fun d z => by cases z; exact hc⟩
theorem apF_JA {cn w : Nat} {kn : Nat → Nat} : ∀ {n}, apF cn w kn n = none → ∀ c, c < n → 1 < kn c → JA cn w kn c
  | 0, _, c, hc, _ => by omega
  | n + 1, h, c, hc, hk => by
    unfold apF at h
    cases hb : apF cn w kn n with
    | some d => rw [hb] at h; cases h
    | none =>
      rw [hb] at h
      simp only at h
      by_cases e : c = n
      · subst e
        by_cases hj : JA cn w kn c
        · exact hj
        · rw [if_pos ⟨hk, hj⟩] at h; cases h
      · exact apF_JA hb c (by omega) hk
