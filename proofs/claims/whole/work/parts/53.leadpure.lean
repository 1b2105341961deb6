/-! THE WAY (pure): what leads to the goal; narrow gives that -/
/-- j ticks before the end at tick L: it can be there, and from there it can come to the goal in time -/
def Lw (cn w : Nat) (kn : Nat → Nat) (P : Nat → Nat → Nat) (rn r t : Nat) (sho : Option Nat) (s0 c0 goal L : Nat) : Nat → Nat → Nat → Prop
  | 0, s, d => s = 1 ∧ d = goal
  | j + 1, s, c => Rw cn w kn P rn r t sho s0 c0 (L - (j + 1)) s c ∧ ∃ m d, m < 5 ∧ may cn w kn P rn r (t + (L - (j + 1))) c m = some d ∧ Lw cn w kn P rn r t sho s0 c0 goal L j (sd sho s d) d
theorem Lw_R {cn w : Nat} {kn : Nat → Nat} {P : Nat → Nat → Nat} {rn r t : Nat} {sho : Option Nat} {s0 c0 goal L : Nat} (hL : Rw cn w kn P rn r t sho s0 c0 L 1 goal) : ∀ j s d, Lw cn w kn P rn r t sho s0 c0 goal L j s d → Rw cn w kn P rn r t sho s0 c0 (L - j) s d
  | 0, s, d, h => by
    obtain ⟨rfl, rfl⟩ := h
    exact hL
  | j + 1, s, d, h => h.1
theorem Rw_free {cn w : Nat} {kn : Nat → Nat} {P : Nat → Nat → Nat} {rn r t : Nat} {sho : Option Nat} {s0 c0 k s d : Nat} (h : Rw cn w kn P rn r t sho s0 c0 (k + 1) s d) : tkn P r (t + k) d rn = false := by
  obtain ⟨s', c, m, -, -, hy, -⟩ := h
  exact (may_spec.mp hy).2.2.1
theorem Rw_sh {cn w : Nat} {kn : Nat → Nat} {P : Nat → Nat → Nat} {rn r t : Nat} {s0 c0 k h : Nat} : ¬ Rw cn w kn P rn r t (some h) s0 c0 (k + 1) 0 h := by
  rintro ⟨s', c, m, -, -, -, h4⟩
  unfold sd at h4
  rw [if_pos rfl] at h4
  cases h4
theorem shf_inv {cn w : Nat} {m c e : Nat} {X : Nat → Bool} (h1 : 1 ≤ m) (h5 : m < 5) (hn : nx cn w c m = some e) : shf w (inv m) X c = X e := by
  rcases (show m = 1 ∨ m = 2 ∨ m = 3 ∨ m = 4 by omega) with rfl | rfl | rfl | rfl
  · show (decide (w ≤ c) && X (c - w)) = X e
    have hn : (if w ≤ c then some (c - w) else none) = some e := hn
    split at hn
    · rename_i h
      cases hn
      simp [h]
    · cases hn
  · show X (c + 1) = X e
    have hn : (if c % w + 1 < w then some (c + 1) else none) = some e := hn
    split at hn
    · cases hn; rfl
    · cases hn
  · show X (c + w) = X e
    have hn : (if c + w < cn then some (c + w) else none) = some e := hn
    split at hn
    · cases hn; rfl
    · cases hn
  · show (decide (1 ≤ c) && X (c - 1)) = X e
    have hn : (if 0 < c % w then some (c - 1) else none) = some e := hn
    split at hn
    · rename_i hl
      cases hn
      have : 1 ≤ c := by
        rcases Nat.eq_zero_or_pos c with z | z
        · rw [z, Nat.zero_mod] at hl; omega
        · exact z
      simp [this]
    · cases hn
theorem bck_iff {w : Nat} {X : Nat → Bool} {A : Nat → Nat → Bool} {d : Nat} : ∀ n, bck w X A d n = true ↔ ∃ m, 1 ≤ m ∧ m < n ∧ shf w (inv m) X d = true ∧ A m d = true
  | 0 => by simp [bck]
  | n + 1 => by
    show (bck w X A d n || _) = true ↔ _
    rw [Bool.or_eq_true, bck_iff n]
    constructor
    · rintro (⟨m, h1, h2, h3⟩ | h)
      · exact ⟨m, h1, by omega, h3⟩
      · simp only [Bool.and_eq_true, decide_eq_true_eq] at h
        exact ⟨n, h.1, by omega, h.2⟩
    · rintro ⟨m, h1, h2, h3, h4⟩
      by_cases e : m = n
      · subst e
        exact Or.inr (by simp [h1, h3, h4])
      · exact Or.inl ⟨m, h1, by omega, h3, h4⟩
theorem toS_iff {cn w : Nat} {kn : Nat → Nat} {P : Nat → Nat → Nat} {rn r t k L : Nat} {sho : Option Nat} {s0 c0 goal : Nat} {re : Nat → Int64} (hL : Rw cn w kn P rn r t sho s0 c0 L 1 goal) (hk : k < L) (hsh : ∀ h, sho = some h → h < 80)
    (hT : ∀ s d, s < 2 → d < 128 → (xS re (4 * (k + 1) + 2 * s) d = true ↔ Lw cn w kn P rn r t sho s0 c0 goal L (L - (k + 1)) s d)) {s d : Nat} (hs : s < 2) (hd : d < 128) : toS re k sho s d = true ↔ Lw cn w kn P rn r t sho s0 c0 goal L (L - (k + 1)) (sd sho s d) d := by
  have t0 : ∀ e, e < 128 → (xS re (4 * k + 4) e = true ↔ Lw cn w kn P rn r t sho s0 c0 goal L (L - (k + 1)) 0 e) := fun e he => hT 0 e (by omega) he
  have t1 : ∀ e, e < 128 → (xS re (4 * k + 6) e = true ↔ Lw cn w kn P rn r t sho s0 c0 goal L (L - (k + 1)) 1 e) := fun e he => hT 1 e (by omega) he
  rcases (show s = 0 ∨ s = 1 by omega) with rfl | rfl
  · cases sho with
    | none =>
      show (xS re (4 * k + 4) d || false) = true ↔ _
      rw [Bool.or_false, t0 d hd]
      rfl
    | some h =>
      have hh := hsh h rfl
      show (xS re (4 * k + 4) d || (decide (d = h) && xS re (4 * k + 6) h)) = true ↔ _
      simp only [Bool.or_eq_true, Bool.and_eq_true, decide_eq_true_eq]
      rw [t0 d hd, t1 h (by omega)]
      unfold sd
      by_cases e : some h = some d
      · have e2 : h = d := Option.some.inj e
        rw [if_pos e]
        subst e2
        constructor
        · rintro (z | z)
          · have z2 := Lw_R hL _ _ _ z
            rw [show L - (L - (k + 1)) = k + 1 by omega] at z2
            exact absurd z2 Rw_sh
          · exact z.2
        · intro z
          exact Or.inr ⟨rfl, z⟩
      · rw [if_neg e]
        constructor
        · rintro (z | z)
          · exact z
          · exact absurd (by rw [z.1]) e
        · intro z
          exact Or.inl z
  · show xS re (4 * k + 6) d = true ↔ _
    rw [t1 d hd]
    have : sd sho 1 d = 1 := by unfold sd; split <;> rfl
    rw [this]
theorem nwS_iff {cn w : Nat} {kn : Nat → Nat} {P : Nat → Nat → Nat} {rn r t k L : Nat} {sho : Option Nat} {s0 c0 goal : Nat} {st : Nat → Int32} {op re al : Nat → Int64} {lo hi : Int64} (h0 : 0 < w) (h80 : cn ≤ 80) (hh : ∃ h, cn = w * h) (hS : gS w st) (hO : gO cn w kn op) (hP : ∀ q, q < rn → P q (t + k) < 2 ^ 31) (hs : seen P st op r (t + k) rn lo hi al) (hc0 : c0 < cn) (hk0 : ¬ kn c0 = 0) (hs0 : s0 < 2)
    (hL : Rw cn w kn P rn r t sho s0 c0 L 1 goal) (hk : k < L) (hsh : ∀ h, sho = some h → h < 80)
    (hR : ∀ s d, s < 2 → d < 128 → (xS re (4 * k + 2 * s) d = true ↔ Rw cn w kn P rn r t sho s0 c0 k s d))
    (hT : ∀ s d, s < 2 → d < 128 → (xS re (4 * (k + 1) + 2 * s) d = true ↔ Lw cn w kn P rn r t sho s0 c0 goal L (L - (k + 1)) s d)) {s d : Nat} (hs2 : s < 2) (hd : d < 128) : nwS w re al k sho s d = true ↔ Lw cn w kn P rn r t sho s0 c0 goal L (L - k) s d := by
  have hto := fun s' d' h1 h2 => toS_iff (s := s') (d := d') hL hk hsh hT h1 h2
  have hA : ∀ m c, m < 5 → c < 128 → aS al m c = ((decide (c < cn) && opb cn w kn c m) && !blk P st r (t + k) m c rn) := by
    intro m c hm hc
    show X2 _ _ c = _
    rw [X2_inS al _ hc, hs.2 m c hm hc, gO_c hO hm hc]
  have hfree : ∀ s' e, Lw cn w kn P rn r t sho s0 c0 goal L (L - (k + 1)) s' e → tkn P r (t + k) e rn = false := by
    intro s' e h
    have h2 := Lw_R hL _ _ _ h
    rw [show L - (L - (k + 1)) = k + 1 by omega] at h2
    exact Rw_free h2
  have hstep : Lw cn w kn P rn r t sho s0 c0 goal L (L - k) s d ↔ Rw cn w kn P rn r t sho s0 c0 k s d ∧ ∃ m e, m < 5 ∧ may cn w kn P rn r (t + k) d m = some e ∧ Lw cn w kn P rn r t sho s0 c0 goal L (L - (k + 1)) (sd sho s e) e := by
    have e1 : L - k = (L - (k + 1)) + 1 := by omega
    rw [e1]
    show (Rw cn w kn P rn r t sho s0 c0 (L - ((L - (k + 1)) + 1)) s d ∧ ∃ m e, m < 5 ∧ may cn w kn P rn r (t + (L - ((L - (k + 1)) + 1))) d m = some e ∧ _) ↔ _
    rw [show L - ((L - (k + 1)) + 1) = k by omega]
  rw [hstep]
  unfold nwS
  simp only [Bool.and_eq_true, Bool.or_eq_true]
  rw [hR s d hs2 hd, hto s d hs2 hd, bck_iff]
  constructor
  · rintro ⟨hr, h⟩
    refine ⟨hr, ?_⟩
    obtain ⟨a1, a2, a3⟩ := Rw_in h0 hh hc0 hk0 hs0 k s d hr
    rcases h with h | ⟨m, m1, m2, m3, m4⟩
    · have hf := hfree _ _ h
      refine ⟨0, d, by omega, may_spec.mpr ⟨rfl, ?_, hf, ?_⟩, h⟩
      · unfold opb
        show (!(kn d == 0) && !(kn d == 0)) = true
        simp [a2]
      · cases hz : swp P r (t + k) d d rn with
        | false => rfl
        | true => rw [swp_tkn rn hz] at hf; cases hf
    · rw [hA m d m2 hd] at m4
      simp only [Bool.and_eq_true, Bool.not_eq_true'] at m4
      obtain ⟨e, he⟩ := opb_nx m4.1.2
      have hel := nx_lt h0 hh a1 he
      rw [shf_inv m1 m2 he] at m3
      simp only [Bool.and_eq_true] at m3
      have hle := (hto s e hs2 (by omega)).mp m3.2
      refine ⟨m, e, m2, may_spec.mpr ⟨he, m4.1.2, hfree _ _ hle, ?_⟩, hle⟩
      rw [← blk_swp hS m1 m2 he (by omega) rn hP]
      exact m4.2
  · rintro ⟨hr, m, e, hm, hy, hle⟩
    refine ⟨hr, ?_⟩
    obtain ⟨a1, a2, a3⟩ := Rw_in h0 hh hc0 hk0 hs0 k s d hr
    obtain ⟨b1, b2, b3, b4⟩ := may_spec.mp hy
    have hel := nx_lt h0 hh a1 b1
    by_cases ez : m = 0
    · subst ez
      have b1 : some d = some e := b1
      cases b1
      exact Or.inl hle
    · refine Or.inr ⟨m, by omega, hm, ?_, ?_⟩
      · rw [shf_inv (by omega) hm b1]
        simp only [Bool.and_eq_true, decide_eq_true_eq]
        exact ⟨by omega, (hto s e hs2 (by omega)).mpr hle⟩
      · rw [hA m d hm hd, blk_swp hS (by omega) hm b1 (by omega) rn hP, b4, b2]
        simp [a1]
