/-! Ways go both ways; distances by levels (pure) -/
theorem nx_inv {cn w : Nat} {c m d : Nat} (h0 : 0 < w) (hc : c < cn) (h1 : 1 ≤ m) (h5 : m < 5) (hn : nx cn w c m = some d) : nx cn w d (inv m) = some c := by
  rcases (show m = 1 ∨ m = 2 ∨ m = 3 ∨ m = 4 by omega) with rfl | rfl | rfl | rfl
  · have hn : (if w ≤ c then some (c - w) else none) = some d := hn
    show (if d + w < cn then some (d + w) else none) = some c
    split at hn
    · cases hn
      rw [if_pos (by omega)]
      congr 1; omega
    · cases hn
  · have hn : (if c % w + 1 < w then some (c + 1) else none) = some d := hn
    show (if 0 < d % w then some (d - 1) else none) = some c
    split at hn
    · rename_i hl
      cases hn
      have e : (c + 1) % w = c % w + 1 := by rw [Nat.add_mod, Nat.mod_eq_of_lt (show 1 < w by omega), Nat.mod_eq_of_lt hl]
      rw [if_pos (by omega)]
      congr 1
    · cases hn
  · have hn : (if c + w < cn then some (c + w) else none) = some d := hn
    show (if w ≤ d then some (d - w) else none) = some c
    split at hn
    · cases hn
      rw [if_pos (by omega)]
      congr 1; omega
    · cases hn
  · have hn : (if 0 < c % w then some (c - 1) else none) = some d := hn
    show (if d % w + 1 < w then some (d + 1) else none) = some c
    split at hn
    · rename_i hl
      cases hn
      have hc0 : 0 < c := by
        rcases Nat.eq_zero_or_pos c with z | z
        · rw [z, Nat.zero_mod] at hl; omega
        · exact z
      have hm := Nat.mod_lt c h0
      have e : (c - 1) % w = c % w - 1 := by
        have e1 := Nat.div_add_mod c w
        have e2 : c - 1 = (c % w - 1) + w * (c / w) := by omega
        rw [e2, Nat.add_mul_mod_self_left, Nat.mod_eq_of_lt (by omega)]
      rw [if_pos (by omega)]
      congr 1; omega
    · cases hn
theorem adj_sym {cn w : Nat} {kn : Nat → Nat} {c d : Nat} (h0 : 0 < w) (hc : c < cn) (h : adj cn w kn c d) : adj cn w kn d c := by
  obtain ⟨m, h1, h5, h3, h4⟩ := h
  obtain ⟨k1, k2⟩ := opb_kn h3 h4
  have hi := nx_inv h0 hc h1 h5 h4
  exact ⟨inv m, inv_in.1, inv_in.2, opb_of hi k2 k1, hi⟩
theorem rch_in {cn w : Nat} {kn : Nat → Nat} {ex : Nat → Bool} {s : Nat} (h0 : 0 < w) (hh : ∃ h, cn = w * h) (hs : s < cn) : ∀ n d, rch cn w kn ex s n d → d < cn
  | 0, d, h => by
    have e : d = s := h
    omega
  | n + 1, d, h => by
    rcases h with h | ⟨c, hc, _, m, _, _, _, h4⟩
    · exact rch_in h0 hh hs n d h
    · exact nx_lt h0 hh (rch_in h0 hh hs n c hc) h4
theorem exF {kn : Nat → Nat} {s c : Nat} : exT false kn s c = true ↔ (c = s ∨ ¬ 1 < kn c) := by
  unfold exT
  simp only [Bool.false_or, Bool.or_eq_true, beq_iff_eq, decide_eq_true_eq]
theorem rch_back {cn w : Nat} {kn : Nat → Nat} {s z : Nat} (h0 : 0 < w) (hh : ∃ h, cn = w * h) (hs : s < cn) : ∀ n d, rch cn w kn (exT false kn s) s n d → ∀ m, rch cn w kn (exT false kn z) z m d → (d = z ∨ ¬ 1 < kn d) → ∃ m', rch cn w kn (exT false kn z) z m' s
  | 0, d, h, m, hz, _ => by
    have e : d = s := h
    rw [← e]; exact ⟨m, hz⟩
  | n + 1, d, h, m, hz, hx => by
    rcases h with h | ⟨c, hc, hxc, ha⟩
    · exact rch_back h0 hh hs n d h m hz hx
    · have hcn := rch_in h0 hh hs n c hc
      have hzc : rch cn w kn (exT false kn z) z (m + 1) c := Or.inr ⟨d, hz, exF.mpr hx, adj_sym h0 hcn ha⟩
      rcases exF.mp hxc with e | e
      · rw [← e]; exact ⟨m + 1, hzc⟩
      · exact rch_back h0 hh hs n c hc (m + 1) hzc (Or.inr e)
theorem rch_sym {cn w : Nat} {kn : Nat → Nat} {s d n : Nat} (h0 : 0 < w) (hh : ∃ h, cn = w * h) (hs : s < cn) (h : rch cn w kn (exT false kn s) s n d) : ∃ m, rch cn w kn (exT false kn d) d m s := rch_back h0 hh hs n d h 0 rfl (Or.inl rfl)
theorem dsw_iff {cn w : Nat} {kn : Nat → Nat} {ex : Nat → Bool} {s d k : Nat} : dsw cn w kn ex s d = some k ↔ ¬ kn s = 0 ∧ isD cn w kn ex s d k := by
  unfold dsw
  by_cases h : kn s = 0
  · rw [if_pos h]
    exact ⟨fun z => (by cases z), fun z => absurd h z.1⟩
  · rw [if_neg h]
    constructor
    · intro z
      refine ⟨h, ?_⟩
      by_cases hx : ∃ k, isD cn w kn ex s d k
      · obtain ⟨k', hk'⟩ := hx
        have e : dsp cn w kn ex s d = some k' := pick_some hk' (fun j hj => isD_uni hj hk')
        rw [e] at z
        cases z
        exact hk'
      · have e : dsp cn w kn ex s d = none := pick_none (fun k hk => hx ⟨k, hk⟩)
        rw [e] at z; cases z
    · rintro ⟨_, hk⟩
      exact pick_some hk (fun j hj => isD_uni hj hk)
theorem dsw_ne {cn w : Nat} {kn : Nat → Nat} {ex : Nat → Bool} {s d : Nat} (hk : ¬ kn s = 0) : dsw cn w kn ex s d ≠ none ↔ ∃ n, rch cn w kn ex s n d := by
  constructor
  · intro h
    cases hv : dsw cn w kn ex s d with
    | none => exact absurd hv h
    | some k => exact ⟨k, (dsw_iff.mp hv).2.1⟩
  · rintro ⟨n, hn⟩
    obtain ⟨k, _, hD⟩ := rch_has n hn
    rw [dsw_iff.mpr ⟨hk, hD⟩]
    exact fun z => by cases z
theorem JA_of {cn w : Nat} {kn : Nat → Nat} {c : Nat} (h0 : 0 < w) (hh : ∃ h, cn = w * h) (hc : c < cn) (hk : 1 < kn c) (hno : ∀ d, d < c → 1 < kn d → ¬ apB cn w kn d) : ¬ apB cn w kn c → JA cn w kn c := by
  intro hn d hd hkd
  rw [dsw_ne (by omega)]
  by_cases hr : ∃ n, rch cn w kn (exT false kn c) c n d
  · exact hr
  · exfalso
    rcases Nat.lt_trichotomy d c with z | z | z
    · refine hno d z hkd ⟨c, z, hc, hk, fun ⟨n, hn2⟩ => ?_⟩
      exact hr (rch_sym h0 hh hd hn2)
    · exact hr ⟨0, z⟩
    · exact hn ⟨d, z, hd, hkd, hr⟩
theorem apB_JA {cn w : Nat} {kn : Nat → Nat} {c : Nat} (hk : 1 < kn c) (h : apB cn w kn c) : ¬ JA cn w kn c := by
  obtain ⟨d, h1, h2, h3, h4⟩ := h
  intro hJ
  exact h4 ((dsw_ne (by omega)).mp (hJ d h2 h3))
/-- distances: levels -/
theorem D_0 {cn w : Nat} {kn : Nat → Nat} {ex : Nat → Bool} {a x : Nat} : dsw cn w kn ex a x = some 0 ↔ ¬ kn a = 0 ∧ x = a := by
  rw [dsw_iff]
  exact ⟨fun h => ⟨h.1, h.2.1⟩, fun h => ⟨h.1, h.2, fun j hj => by omega⟩⟩
theorem D_up {cn w : Nat} {kn : Nat → Nat} {a c x m d : Nat} (h : dsw cn w kn (exT true kn a) a c = some d) (h1 : 1 ≤ m) (h5 : m < 5) (hkc : ¬ kn c = 0) (hn : nx cn w c m = some x) (hx : ¬ kn x = 0) : ∃ k, k ≤ d + 1 ∧ dsw cn w kn (exT true kn a) a x = some k := by
  obtain ⟨ha, hD⟩ := dsw_iff.mp h
  have hr : rch cn w kn (exT true kn a) a (d + 1) x := Or.inr ⟨c, hD.1, rfl, m, h1, h5, opb_of hn hkc hx, hn⟩
  obtain ⟨k, hk, hDk⟩ := rch_has (d + 1) hr
  exact ⟨k, hk, dsw_iff.mpr ⟨ha, hDk⟩⟩
theorem D_dn {cn w : Nat} {kn : Nat → Nat} {ex : Nat → Bool} {a x d : Nat} (h0 : 0 < w) (hh : ∃ h, cn = w * h) (hac : a < cn) (h : dsw cn w kn ex a x = some (d + 1)) : ∃ c m, c < cn ∧ dsw cn w kn ex a c = some d ∧ 1 ≤ m ∧ m < 5 ∧ nx cn w c m = some x ∧ ¬ kn c = 0 ∧ ¬ kn x = 0 := by
  obtain ⟨ha, hD⟩ := dsw_iff.mp h
  rcases hD.1 with hr | ⟨c, hc, hx, m, h1, h5, h3, h4⟩
  · exact absurd hr (hD.2 d (by omega))
  · obtain ⟨k1, k2⟩ := opb_kn h3 h4
    refine ⟨c, m, rch_in h0 hh hac d c hc, dsw_iff.mpr ⟨ha, hc, fun j hj hr => ?_⟩, h1, h5, h4, k1, k2⟩
    exact hD.2 (j + 1) (by omega) (Or.inr ⟨c, hr, hx, m, h1, h5, h3, h4⟩)
theorem D_in {cn w : Nat} {kn : Nat → Nat} {ex : Nat → Bool} {a x d : Nat} (h0 : 0 < w) (hh : ∃ h, cn = w * h) (hac : a < cn) (h : dsw cn w kn ex a x = some d) : x < cn ∧ ¬ kn x = 0 := by
  refine ⟨rch_in h0 hh hac d x (dsw_iff.mp h).2.1, ?_⟩
  cases d with
  | zero =>
    obtain ⟨h1, h2⟩ := D_0.mp h
    rw [h2]; exact h1
  | succ d =>
    obtain ⟨c, m, _, _, _, _, _, _, h8⟩ := D_dn h0 hh hac h
    exact h8
theorem D_all {cn w : Nat} {kn : Nat → Nat} {ex : Nat → Bool} {a : Nat} (h0 : 0 < w) (hh : ∃ h, cn = w * h) (hac : a < cn) {d : Nat} (hno : ∀ x, ¬ dsw cn w kn ex a x = some (d + 1)) : ∀ j x, ¬ dsw cn w kn ex a x = some (d + 1 + j)
  | 0, x => hno x
  | j + 1, x => by
    intro h
    obtain ⟨c, m, _, h2, _⟩ := D_dn (d := d + 1 + j) h0 hh hac h
    exact D_all h0 hh hac hno j c h2
/-- a pass of measure: those of distance d look around -/
def msI (cn w : Nat) (kn : Nat → Nat) (a d c m : Nat) (F : Nat → Int32) (mo u0 : Nat) : Prop :=
  (∀ x k, x < cn → dsw cn w kn (exT true kn a) a x = some k → k ≤ d → F x = nI k) ∧
  (∀ x, x < cn → (∀ k, dsw cn w kn (exT true kn a) a x = some k → d < k) → F x = -1 ∨ (F x = nI (d + 1) ∧ dsw cn w kn (exT true kn a) a x = some (d + 1))) ∧
  (∀ c' m' x, (c' < c ∨ (c' = c ∧ m' < m)) → 1 ≤ m' → m' < 5 → dsw cn w kn (exT true kn a) a c' = some d → nx cn w c' m' = some x → ¬ kn x = 0 → ¬ F x = -1) ∧
  ((mo = 0 ∧ ∀ x, x < cn → (∀ k, dsw cn w kn (exT true kn a) a x = some k → d < k) → F x = -1) ∨ (mo = 1 ∧ cnt (fun x => decide (F x = -1)) cn < u0))
theorem msI_val {cn w : Nat} {kn : Nat → Nat} {a d c m : Nat} {F : Nat → Int32} {mo u0 : Nat} (h : msI cn w kn a d c m F mo u0) (hd : d < 1000) {x : Nat} (hx : x < cn) (hv : F x = nI d) : dsw cn w kn (exT true kn a) a x = some d := by
  by_cases hk : ∃ k, dsw cn w kn (exT true kn a) a x = some k ∧ k ≤ d
  · obtain ⟨k, h1, h2⟩ := hk
    have := (h.1 x k hx h1 h2).symm.trans hv
    rw [(nI_eq (by omega) (by omega)).mp this] at h1
    exact h1
  · rcases h.2.1 x hx (fun k hk2 => by
      rcases Nat.lt_or_ge d k with z | z
      · exact z
      · exact absurd ⟨k, hk2, z⟩ hk) with z | z
    · rw [z] at hv
      exact absurd hv.symm (oI_ne (by omega))
    · have := (nI_eq (by omega) (by omega)).mp (z.1.symm.trans hv)
      omega
theorem msI_skip {cn w : Nat} {kn : Nat → Nat} {a d c m : Nat} {F : Nat → Int32} {mo u0 : Nat} (h : msI cn w kn a d c m F mo u0) (hs : ∀ x, nx cn w c m = some x → ¬ kn x = 0 → ¬ F x = -1) : msI cn w kn a d c (m + 1) F mo u0 := by
  refine ⟨h.1, h.2.1, fun c' m' x hcm h1 h5 hD hn hk => ?_, h.2.2.2⟩
  by_cases z : c' = c ∧ m' = m
  · obtain ⟨rfl, rfl⟩ := z
    exact hs x hn hk
  · exact h.2.2.1 c' m' x (by omega) h1 h5 hD hn hk
theorem msI_next {cn w : Nat} {kn : Nat → Nat} {a d c m : Nat} {F : Nat → Int32} {mo u0 : Nat} (h : msI cn w kn a d c m F mo u0) (hs : 5 ≤ m ∨ ¬ dsw cn w kn (exT true kn a) a c = some d) : msI cn w kn a d (c + 1) 1 F mo u0 := by
  refine ⟨h.1, h.2.1, fun c' m' x hcm h1 h5 hD hn hk => ?_, h.2.2.2⟩
  by_cases z : c' = c
  · subst z
    rcases hs with y | y
    · exact h.2.2.1 c' m' x (Or.inr ⟨rfl, by omega⟩) h1 h5 hD hn hk
    · exact absurd hD y
  · exact h.2.2.1 c' m' x (Or.inl (by omega)) h1 h5 hD hn hk
theorem msI_add {cn w : Nat} {kn : Nat → Nat} {a d c m x : Nat} {F : Nat → Int32} {mo u0 : Nat} (h0 : 0 < w) (hh : ∃ h, cn = w * h) (hac : a < cn) (hd : d < 1000) (h : msI cn w kn a d c m F mo u0) (hu : cnt (fun x => decide (F x = -1)) cn ≤ u0) (hD : dsw cn w kn (exT true kn a) a c = some d) (h1 : 1 ≤ m) (h5 : m < 5) (hn : nx cn w c m = some x) (hk : ¬ kn x = 0) (hF : F x = -1) : msI cn w kn a d c (m + 1) (upd F x (nI (d + 1))) 1 u0 := by
  obtain ⟨hcl, hkc⟩ := D_in h0 hh hac hD
  obtain ⟨k, hk1, hk2⟩ := D_up hD h1 h5 hkc hn hk
  have hxl := nx_lt h0 hh hcl hn
  have hkd : k = d + 1 := by
    rcases Nat.lt_or_ge d k with z | z
    · omega
    · have := h.1 x k hxl hk2 z
      rw [hF] at this
      exact absurd this.symm (oI_ne (by omega))
  subst hkd
  have hne : ¬ nI (d + 1) = -1 := oI_ne (by omega)
  refine ⟨fun y j hy hj hjd => ?_, fun y hy hj => ?_, fun c' m' y hcm g1 g5 gD gn gk => ?_, Or.inr ⟨rfl, ?_⟩⟩
  · by_cases e : y = x
    · rw [e, hk2] at hj; cases hj; omega
    · rw [pk_un e]; exact h.1 y j hy hj hjd
  · by_cases e : y = x
    · right; rw [e, pk_us]; exact ⟨rfl, hk2⟩
    · rw [pk_un e]; exact h.2.1 y hy hj
  · by_cases e : y = x
    · rw [e, pk_us]; exact hne
    · rw [pk_un e]
      by_cases z : c' = c ∧ m' = m
      · obtain ⟨rfl, rfl⟩ := z
        rw [hn] at gn; cases gn; exact absurd rfl e
      · exact h.2.2.1 c' m' y (by omega) g1 g5 gD gn gk
  · have e := cnt_one (p := fun x => decide (F x = -1)) (p' := fun y => decide (upd F x (nI (d + 1)) y = -1)) hxl (by simp [hF]) (by simp only [pk_us]; exact decide_eq_false hne) (fun y hy hyx => by simp only [pk_un hyx])
    omega
/-- between the passes -/
def msX (cn w : Nat) (kn : Nat → Nat) (a d : Nat) (F : Nat → Int32) : Prop := (∀ x k, x < cn → dsw cn w kn (exT true kn a) a x = some k → k ≤ d → F x = nI k) ∧ ∀ x, x < cn → (∀ k, dsw cn w kn (exT true kn a) a x = some k → d < k) → F x = -1
theorem msI_end {cn w : Nat} {kn : Nat → Nat} {a d : Nat} {F : Nat → Int32} {mo u0 : Nat} (h0 : 0 < w) (hh : ∃ h, cn = w * h) (hac : a < cn) (h : msI cn w kn a d cn 1 F mo u0) : (mo = 0 ∧ ∀ x, x < cn → F x = oI (dsw cn w kn (exT true kn a) a x)) ∨ (mo = 1 ∧ msX cn w kn a (d + 1) F ∧ cnt (fun x => decide (F x = -1)) cn < u0) := by
  have hset : ∀ x, x < cn → dsw cn w kn (exT true kn a) a x = some (d + 1) → F x = nI (d + 1) := by
    intro x hx hD
    obtain ⟨c, m, g1, g2, g3, g4, g5, g6, g7⟩ := D_dn h0 hh hac hD
    have hne := h.2.2.1 c m x (Or.inl g1) g3 g4 g2 g5 g7
    rcases h.2.1 x hx (fun k hk => by rw [hD] at hk; cases hk; omega) with z | z
    · exact absurd z hne
    · exact z.1
  rcases h.2.2.2 with ⟨h1, h2⟩ | ⟨h1, h2⟩
  · refine Or.inl ⟨h1, fun x hx => ?_⟩
    have hno : ∀ x, ¬ dsw cn w kn (exT true kn a) a x = some (d + 1) := by
      intro y hy
      obtain ⟨hyl, _⟩ := D_in h0 hh hac hy
      obtain ⟨c, m, g1, g2, g3, g4, g5, g6, g7⟩ := D_dn h0 hh hac hy
      exact h.2.2.1 c m y (Or.inl g1) g3 g4 g2 g5 g7 (h2 y hyl (fun k hk => by rw [hy] at hk; cases hk; omega))
    cases hv : dsw cn w kn (exT true kn a) a x with
    | none =>
      exact h2 x hx (fun k hk => by rw [hv] at hk; cases hk)
    | some k =>
      rcases Nat.lt_or_ge d k with z | z
      · have := D_all h0 hh hac hno (k - (d + 1)) x
        rw [show d + 1 + (k - (d + 1)) = k by omega] at this
        exact absurd hv this
      · exact h.1 x k hx hv z
  · refine Or.inr ⟨h1, ⟨fun x k hx hk hkd => ?_, fun x hx hk => ?_⟩, h2⟩
    · by_cases e : k = d + 1
      · rw [e] at hk ⊢; exact hset x hx hk
      · exact h.1 x k hx hk (by omega)
    · rcases h.2.1 x hx (fun k hk2 => by have := hk k hk2; omega) with z | z
      · exact z
      · have := hk _ z.2; omega
