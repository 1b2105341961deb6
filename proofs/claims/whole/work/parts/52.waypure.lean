/-! THE WAY (pure): where a robot can be tick by tick; and the search's sets are that -/
/-- a robot before o that goes from d to c in the tick -/
def swp (P : Nat → Nat → Nat) (r τ c d : Nat) : Nat → Bool
  | 0 => false
  | o + 1 => swp P r τ c d o || (decide (¬ o = r) && (decide (c = P o (τ + 1)) && decide (d = P o τ)))
/-- where move m leads robot r from c in the tick from τ on, beside the others -/
def may (cn w : Nat) (kn : Nat → Nat) (P : Nat → Nat → Nat) (rn r τ c m : Nat) : Option Nat := match nx cn w c m with
  | none => none
  | some d => if (opb cn w kn c m && (!tkn P r τ d rn && !swp P r τ c d rn)) = true then some d else none
def sd (sho : Option Nat) (s d : Nat) : Nat := if sho = some d then 1 else s
/-- it can be in d then, and has been in the shelf (s = 1) or not -/
def Rw (cn w : Nat) (kn : Nat → Nat) (P : Nat → Nat → Nat) (rn r t : Nat) (sho : Option Nat) (s0 c0 : Nat) : Nat → Nat → Nat → Prop
  | 0, s, d => s = s0 ∧ d = c0
  | k + 1, s, d => ∃ s' c m, m < 5 ∧ Rw cn w kn P rn r t sho s0 c0 k s' c ∧ may cn w kn P rn r (t + k) c m = some d ∧ s = sd sho s' d
theorem may_spec {cn w : Nat} {kn : Nat → Nat} {P : Nat → Nat → Nat} {rn r τ c m d : Nat} : may cn w kn P rn r τ c m = some d ↔ nx cn w c m = some d ∧ opb cn w kn c m = true ∧ tkn P r τ d rn = false ∧ swp P r τ c d rn = false := by
  unfold may
  cases hn : nx cn w c m with
  | none => simp
  | some e =>
    constructor
    · intro h
      simp only at h
      split at h
      · rename_i hb
        cases h
        simp only [Bool.and_eq_true, Bool.not_eq_true'] at hb
        exact ⟨rfl, hb.1, hb.2.1, hb.2.2⟩
      · cases h
    · rintro ⟨h1, h2, h3, h4⟩
      cases h1
      simp [h2, h3, h4]
theorem opb_kn {cn w : Nat} {kn : Nat → Nat} {c m d : Nat} (h : opb cn w kn c m = true) (hn : nx cn w c m = some d) : ¬ kn c = 0 ∧ ¬ kn d = 0 := by
  unfold opb at h
  rw [hn] at h
  simpa using h
theorem Rw_in {cn w : Nat} {kn : Nat → Nat} {P : Nat → Nat → Nat} {rn r t : Nat} {sho : Option Nat} {s0 c0 : Nat} (h0 : 0 < w) (hh : ∃ h, cn = w * h) (hc : c0 < cn) (hk : ¬ kn c0 = 0) (hs : s0 < 2) : ∀ k s d, Rw cn w kn P rn r t sho s0 c0 k s d → d < cn ∧ ¬ kn d = 0 ∧ s < 2
  | 0, s, d, h => by
    obtain ⟨rfl, rfl⟩ := h
    exact ⟨hc, hk, hs⟩
  | k + 1, s, d, h => by
    obtain ⟨s', c, m, hm, hr, hy, rfl⟩ := h
    obtain ⟨a1, a2, a3⟩ := Rw_in h0 hh hc hk hs k s' c hr
    obtain ⟨b1, b2, b3, b4⟩ := may_spec.mp hy
    refine ⟨nx_lt h0 hh a1 b1, (opb_kn b2 b1).2, ?_⟩
    unfold sd
    split <;> omega
theorem swp_tkn {P : Nat → Nat → Nat} {r τ c d : Nat} : ∀ o, swp P r τ c d o = true → tkn P r τ c o = true
  | 0, h => by cases h
  | o + 1, h => by
    have h : (swp P r τ c d o || (decide (¬ o = r) && (decide (c = P o (τ + 1)) && decide (d = P o τ)))) = true := h
    show (tkn P r τ c o || _) = true
    rw [Bool.or_eq_true] at h ⊢
    rcases h with h | h
    · exact Or.inl (swp_tkn o h)
    · simp only [Bool.and_eq_true, decide_eq_true_eq] at h ⊢
      exact Or.inr ⟨h.1, h.2.1⟩
theorem blk_swp {cn w : Nat} {P : Nat → Nat → Nat} {st : Nat → Int32} {r τ c d m : Nat} (hS : gS w st) (h1 : 1 ≤ m) (h5 : m < 5) (hn : nx cn w c m = some d) (hd : d < 2 ^ 31) : ∀ o, (∀ q, q < o → P q τ < 2 ^ 31) → blk P st r τ m c o = swp P r τ c d o
  | 0, _ => rfl
  | o + 1, hP => by
    show (blk P st r τ m c o || _) = (swp P r τ c d o || _)
    rw [blk_swp hS h1 h5 hn hd o (fun q hq => hP q (by omega))]
    congr 2
    rw [decide_eq_true h1, Bool.true_and]
    by_cases hc : c = P o (τ + 1)
    · rw [← hc, hS m h5, nx_st hn h5]
      congr 1
      simp only [decide_eq_decide]
      exact nI_eq hd (hP o (by omega))
    · simp [hc]
/-- a set moved: its cells from which the move leads there -/
theorem shf_nx {cn w : Nat} {kn : Nat → Nat} {m : Nat} {X : Nat → Bool} (h0 : 0 < w) (h1 : 1 ≤ m) (h5 : m < 5) (hX : ∀ c, X c = true → opb cn w kn c m = true) (d : Nat) : shf w m X d = true ↔ ∃ c, X c = true ∧ nx cn w c m = some d := by
  have ho : ∀ c, X c = true → ∃ e, nx cn w c m = some e := fun c hc => opb_nx (hX c hc)
  rcases (show m = 1 ∨ m = 2 ∨ m = 3 ∨ m = 4 by omega) with rfl | rfl | rfl | rfl
  · show X (d + w) = true ↔ _
    constructor
    · intro h
      refine ⟨d + w, h, ?_⟩
      show (if w ≤ d + w then some (d + w - w) else none) = some d
      rw [if_pos (by omega), Nat.add_sub_cancel]
    · rintro ⟨c, hc, hn⟩
      have hn : (if w ≤ c then some (c - w) else none) = some d := hn
      split at hn
      · cases hn
        rw [show c - w + w = c by omega]; exact hc
      · cases hn
  · show (decide (1 ≤ d) && X (d - 1)) = true ↔ _
    constructor
    · intro h
      simp only [Bool.and_eq_true, decide_eq_true_eq] at h
      refine ⟨d - 1, h.2, ?_⟩
      obtain ⟨e, he⟩ := ho _ h.2
      have he : (if (d - 1) % w + 1 < w then some (d - 1 + 1) else none) = some e := he
      show (if (d - 1) % w + 1 < w then some (d - 1 + 1) else none) = some d
      split at he
      · rename_i hl
        rw [if_pos hl, show d - 1 + 1 = d by omega]
      · cases he
    · rintro ⟨c, hc, hn⟩
      have hn : (if c % w + 1 < w then some (c + 1) else none) = some d := hn
      split at hn
      · cases hn
        simp [hc]
      · cases hn
  · show (decide (w ≤ d) && X (d - w)) = true ↔ _
    constructor
    · intro h
      simp only [Bool.and_eq_true, decide_eq_true_eq] at h
      refine ⟨d - w, h.2, ?_⟩
      obtain ⟨e, he⟩ := ho _ h.2
      have he : (if d - w + w < cn then some (d - w + w) else none) = some e := he
      show (if d - w + w < cn then some (d - w + w) else none) = some d
      split at he
      · rename_i hl
        rw [if_pos hl, show d - w + w = d by omega]
      · cases he
    · rintro ⟨c, hc, hn⟩
      have hn : (if c + w < cn then some (c + w) else none) = some d := hn
      split at hn
      · cases hn
        simp [hc]
      · cases hn
  · show X (d + 1) = true ↔ _
    constructor
    · intro h
      refine ⟨d + 1, h, ?_⟩
      obtain ⟨e, he⟩ := ho _ h
      have he : (if 0 < (d + 1) % w then some (d + 1 - 1) else none) = some e := he
      show (if 0 < (d + 1) % w then some (d + 1 - 1) else none) = some d
      split at he
      · rename_i hl
        rw [if_pos hl, Nat.add_sub_cancel]
      · cases he
    · rintro ⟨c, hc, hn⟩
      have hn : (if 0 < c % w then some (c - 1) else none) = some d := hn
      split at hn
      · rename_i hl
        cases hn
        have : 0 < c := by
          rcases Nat.eq_zero_or_pos c with z | z
          · rw [z, Nat.zero_mod] at hl; omega
          · exact z
        rw [show c - 1 + 1 = c by omega]; exact hc
      · cases hn
theorem acc_iff {w : Nat} {X : Nat → Nat → Bool} {d : Nat} : ∀ n, acc w X d n = true ↔ ∃ m, 1 ≤ m ∧ m < n ∧ shf w m (X m) d = true
  | 0 => by simp [acc]
  | n + 1 => by
    show (acc w X d n || _) = true ↔ _
    rw [Bool.or_eq_true, acc_iff n]
    constructor
    · rintro (⟨m, h1, h2, h3⟩ | h)
      · exact ⟨m, h1, by omega, h3⟩
      · simp only [Bool.and_eq_true, decide_eq_true_eq] at h
        exact ⟨n, h.1, by omega, h.2⟩
    · rintro ⟨m, h1, h2, h3⟩
      by_cases e : m = n
      · subst e
        exact Or.inr (by simp [h1, h3])
      · exact Or.inl ⟨m, h1, by omega, h3⟩
theorem gO_c {cn w : Nat} {kn : Nat → Nat} {o : Nat → Int64} (h : gO cn w kn o) {c m : Nat} (hm : m < 5) (hc : c < 128) : inS o (2 * m) c = (decide (c < cn) && opb cn w kn c m) := by
  unfold inS
  rw [h m (c / 64) (c % 64) hm (by omega) (by omega), show 64 * (c / 64) + c % 64 = c by omega]
/-- a tick of the search is a tick of what can be -/
theorem nxS_iff {cn w : Nat} {kn : Nat → Nat} {P : Nat → Nat → Nat} {rn r τ : Nat} {st : Nat → Int32} {op re al : Nat → Int64} {lo hi : Int64} {at_ : Nat} {S : Nat → Prop} (h0 : 0 < w) (h80 : cn ≤ 80) (hh : ∃ h, cn = w * h) (hS : gS w st) (hO : gO cn w kn op) (hP : ∀ q, q < rn → P q τ < 2 ^ 31) (hs : seen P st op r τ rn lo hi al) (hR : ∀ d, d < 128 → (xS re at_ d = true ↔ S d)) (hin : ∀ d, S d → d < cn ∧ ¬ kn d = 0) {d : Nat} (hd : d < 128) : nxS w lo hi re al at_ d = true ↔ ∃ c m, m < 5 ∧ S c ∧ may cn w kn P rn r τ c m = some d := by
  unfold nxS
  rw [hs.1 d hd]
  have hA : ∀ m c, m < 5 → c < 128 → xA re al at_ m c = (xS re at_ c && ((decide (c < cn) && opb cn w kn c m) && !blk P st r τ m c rn)) := by
    intro m c hm hc
    show X2 _ _ c = _
    rw [X2_and, X2_inS al _ hc, hs.2 m c hm hc, gO_c hO hm hc]
  have hAb : ∀ m c, 128 ≤ c → xA re al at_ m c = false := fun m c hc => X2_big _ _ hc
  have hX : ∀ m, m < 5 → ∀ c, xA re al at_ m c = true → opb cn w kn c m = true := by
    intro m hm c hc
    by_cases h : c < 128
    · rw [hA m c hm h] at hc
      simp only [Bool.and_eq_true] at hc
      exact hc.2.1.2
    · rw [hAb m c (by omega)] at hc
      cases hc
  simp only [Bool.and_eq_true, Bool.or_eq_true, Bool.not_eq_true']
  rw [hR d hd, acc_iff]
  constructor
  · rintro ⟨h | ⟨m, h1, h2, h3⟩, ht⟩
    · obtain ⟨a1, a2⟩ := hin d h
      refine ⟨d, 0, by omega, h, may_spec.mpr ⟨rfl, ?_, ht, ?_⟩⟩
      · unfold opb
        show (!(kn d == 0) && !(kn d == 0)) = true
        simp [a2]
      · cases hz : swp P r τ d d rn with
        | false => rfl
        | true => rw [swp_tkn rn hz] at ht; cases ht
    · obtain ⟨c, hc, hn⟩ := (shf_nx h0 h1 h2 (hX m h2) d).mp h3
      have hcl : c < 128 := by
        rcases Nat.lt_or_ge c 128 with z | z
        · exact z
        · rw [hAb m c z] at hc; cases hc
      rw [hA m c h2 hcl] at hc
      simp only [Bool.and_eq_true, Bool.not_eq_true'] at hc
      refine ⟨c, m, h2, (hR c hcl).mp hc.1, may_spec.mpr ⟨hn, hc.2.1.2, ht, ?_⟩⟩
      rw [← blk_swp hS h1 h2 hn (by omega) rn hP]
      exact hc.2.2
  · rintro ⟨c, m, hm, hc, hy⟩
    obtain ⟨b1, b2, b3, b4⟩ := may_spec.mp hy
    refine ⟨?_, b3⟩
    obtain ⟨a1, a2⟩ := hin c hc
    by_cases e : m = 0
    · subst e
      have b1 : some c = some d := b1
      cases b1
      exact Or.inl hc
    · refine Or.inr ⟨m, by omega, hm, (shf_nx h0 (by omega) hm (hX m hm) d).mpr ⟨c, ?_, b1⟩⟩
      rw [hA m c hm (by omega), (hR c (by omega)).mpr hc, blk_swp hS (by omega) hm b1 (by omega) rn hP, b4, b2]
      simp [a1]
theorem rcS_iff {cn w : Nat} {kn : Nat → Nat} {P : Nat → Nat → Nat} {rn r t k : Nat} {sho : Option Nat} {s0 c0 : Nat} {st : Nat → Int32} {op re al : Nat → Int64} {lo hi : Int64} (h0 : 0 < w) (h80 : cn ≤ 80) (hh : ∃ h, cn = w * h) (hS : gS w st) (hO : gO cn w kn op) (hP : ∀ q, q < rn → P q (t + k) < 2 ^ 31) (hs : seen P st op r (t + k) rn lo hi al) (hc0 : c0 < cn) (hk0 : ¬ kn c0 = 0) (hs0 : s0 < 2)
    (hR : ∀ s d, s < 2 → d < 128 → (xS re (4 * k + 2 * s) d = true ↔ Rw cn w kn P rn r t sho s0 c0 k s d)) (hsh : ∀ h, sho = some h → h < 80) {s d : Nat} (hs2 : s < 2) (hd : d < 128) : rcS w lo hi re al k sho s d = true ↔ Rw cn w kn P rn r t sho s0 c0 (k + 1) s d := by
  have hin := fun s' d' h => Rw_in (P := P) (rn := rn) (r := r) (t := t) (sho := sho) h0 hh hc0 hk0 hs0 k s' d' h
  have hN : ∀ s' e, s' < 2 → e < 128 → (nxS w lo hi re al (4 * k + 2 * s') e = true ↔ ∃ c m, m < 5 ∧ Rw cn w kn P rn r t sho s0 c0 k s' c ∧ may cn w kn P rn r (t + k) c m = some e) := fun s' e h1 h2 => nxS_iff (S := fun c => Rw cn w kn P rn r t sho s0 c0 k s' c) h0 h80 hh hS hO hP hs (fun e he => hR s' e h1 he) (fun e he => ⟨(hin s' e he).1, (hin s' e he).2.1⟩) h2
  cases sho with
  | none =>
    show nxS w lo hi re al (4 * k + 2 * s) d = true ↔ _
    rw [hN s d hs2 hd]
    constructor
    · rintro ⟨c, m, a1, a2, a3⟩
      exact ⟨s, c, m, a1, a2, a3, rfl⟩
    · rintro ⟨s', c, m, a1, a2, a3, a4⟩
      have a4 : s = s' := a4
      subst a4
      exact ⟨c, m, a1, a2, a3⟩
  | some h =>
    have hh8 := hsh h rfl
    have n0 : ∀ e, e < 128 → (nxS w lo hi re al (4 * k) e = true ↔ ∃ c m, m < 5 ∧ Rw cn w kn P rn r t (some h) s0 c0 k 0 c ∧ may cn w kn P rn r (t + k) c m = some e) := fun e he => hN 0 e (by omega) he
    have n1 : ∀ e, e < 128 → (nxS w lo hi re al (4 * k + 2) e = true ↔ ∃ c m, m < 5 ∧ Rw cn w kn P rn r t (some h) s0 c0 k 1 c ∧ may cn w kn P rn r (t + k) c m = some e) := fun e he => hN 1 e (by omega) he
    rcases (show s = 0 ∨ s = 1 by omega) with rfl | rfl
    · rw [rcS_0]
      simp only [Bool.and_eq_true, Bool.not_eq_true', decide_eq_false_iff_not]
      rw [n0 d hd]
      constructor
      · rintro ⟨⟨c, m, a1, a2, a3⟩, hne⟩
        refine ⟨0, c, m, a1, a2, a3, ?_⟩
        unfold sd
        rw [if_neg (fun z => hne (Option.some.inj z).symm)]
      · rintro ⟨s', c, m, a1, a2, a3, a4⟩
        unfold sd at a4
        split at a4
        · cases a4
        · rename_i hne
          subst a4
          exact ⟨⟨c, m, a1, a2, a3⟩, fun z => hne (by rw [z])⟩
    · rw [rcS_1]
      simp only [Bool.and_eq_true, Bool.or_eq_true, decide_eq_true_eq]
      rw [n1 d hd, n0 h (by omega)]
      constructor
      · rintro (⟨c, m, a1, a2, a3⟩ | ⟨⟨c, m, a1, a2, a3⟩, rfl⟩)
        · refine ⟨1, c, m, a1, a2, a3, ?_⟩
          unfold sd
          split <;> rfl
        · refine ⟨0, c, m, a1, a2, a3, ?_⟩
          unfold sd
          rw [if_pos rfl]
      · rintro ⟨s', c, m, a1, a2, a3, a4⟩
        have hs' := (hin s' c a2).2.2
        unfold sd at a4
        split at a4
        · rename_i he
          have he : h = d := Option.some.inj he
          subst he
          rcases (show s' = 0 ∨ s' = 1 by omega) with rfl | rfl
          · exact Or.inr ⟨⟨c, m, a1, a2, a3⟩, rfl⟩
          · exact Or.inl ⟨c, m, a1, a2, a3⟩
        · subst a4
          exact Or.inl ⟨c, m, a1, a2, a3⟩
