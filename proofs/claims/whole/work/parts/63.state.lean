/-! THE STATE: what both sides stand for; the table of paths -/
/-- c is the end of another of the first n robots -/
def eoB (P : Nat → Nat → Nat) (te : Nat → Nat) (r c : Nat) : Nat → Bool
  | 0 => false
  | n + 1 => eoB P te r c n || (decide (¬ n = r) && decide (P n (te n) = c))
theorem eoB_iff {P : Nat → Nat → Nat} {te : Nat → Nat} {r c : Nat} : ∀ n, eoB P te r c n = true ↔ ∃ q, q < n ∧ ¬ q = r ∧ P q (te q) = c
  | 0 => by
    constructor
    · intro h; cases h
    · rintro ⟨q, h, -⟩; omega
  | n + 1 => by
    show (eoB P te r c n || _) = true ↔ _
    rw [Bool.or_eq_true, eoB_iff n, Bool.and_eq_true, decide_eq_true_eq, decide_eq_true_eq]
    constructor
    · rintro (⟨q, h1, h2⟩ | ⟨h1, h2⟩)
      · exact ⟨q, by omega, h2⟩
      · exact ⟨n, by omega, h1, h2⟩
    · rintro ⟨q, h1, h2, h3⟩
      by_cases e : q = n
      · subst e; exact Or.inr ⟨h2, h3⟩
      · exact Or.inl ⟨q, by omega, h2, h3⟩
/-- the table holds the paths P with the end times te; robot q's own row is right up to kt q -/
def ttR (kt : Nat → Nat) (rn : Nat) (P : Nat → Nat → Nat) (te : Nat → Nat) (rows : Nat → Int64) (en et ow : Nat → Int32) : Prop := (∀ q, q < rn → et q = nI (te q) ∧ te q ≤ 5000 ∧ en q = nI (P q (te q)) ∧ (∀ τ, te q ≤ τ → P q τ = P q (te q)) ∧ (∀ τ, τ ≤ kt q ∨ τ < te q → bt (rows τ) q = P q τ) ∧ ∀ τ, P q τ < 80) ∧ (∀ q, q < rn → ow (P q (te q)) = nI q) ∧ ∀ c, c < 80 → (∀ q, q < rn → ¬ P q (te q) = c) → ow c = -1
theorem ttR_at {kt : Nat → Nat} {rn : Nat} {P : Nat → Nat → Nat} {te : Nat → Nat} {rows : Nat → Int64} {en et ow : Nat → Int32} (h : ttR kt rn P te rows en et ow) : ∀ q τ, q < rn → τ < 5001 → cAt rows en et q τ = nI (P q τ) := by
  intro q τ hq hτ
  obtain ⟨h1, h2, h3, h4, h5, h6⟩ := h.1 q hq
  unfold cAt
  rw [h1]
  by_cases e : τ < te q
  · rw [if_pos ((nI_ltI (by omega) (by omega)).mpr e), h5 τ (Or.inr e)]
  · rw [if_neg (fun z => e ((nI_ltI (by omega) (by omega)).mp z)), h3, h4 τ (by omega)]
theorem ttR_ow {kt : Nat → Nat} {rn : Nat} {P : Nat → Nat → Nat} {te : Nat → Nat} {rows : Nat → Int64} {en et ow : Nat → Int32} (hrn : rn ≤ 6) (h : ttR kt rn P te rows en et ow) {r : Nat} (hr : r < rn) : owE ow r (fun c => eoB P te r c rn) := by
  intro c hc
  cases hv : eoB P te r c rn with
  | true =>
    obtain ⟨q, h1, h2, h3⟩ := (eoB_iff rn).mp hv
    have e := h.2.1 q h1
    rw [h3] at e
    show (if _ then (1 : Int32) else 0) = bI (eoB P te r c rn)
    rw [hv, if_pos]
    · rfl
    · rw [e]
      exact ⟨oI_ne (by omega), fun z => h2 ((nI_eq (by omega) (by omega)).mp z)⟩
  | false =>
    show (if _ then (1 : Int32) else 0) = bI (eoB P te r c rn)
    rw [hv, if_neg]
    · rfl
    · rintro ⟨h1, h2⟩
      by_cases hx : ∃ q, q < rn ∧ P q (te q) = c
      · obtain ⟨q, a1, a2⟩ := hx
        have e := h.2.1 q a1
        rw [a2] at e
        have hqr : ¬ q = r := fun z => h2 (by rw [e, z])
        have := (eoB_iff (P := P) (te := te) (r := r) (c := c) rn).mpr ⟨q, a1, hqr, a2⟩
        rw [hv] at this
        cases this
      · exact h1 (h.2.2 c hc (fun q a1 a2 => hx ⟨q, a1, a2⟩))
/-- the paths with a new way of robot r: L ticks from t on -/
def nwP (P : Nat → Nat → Nat) (r t L : Nat) (p : Nat → Nat) : Nat → Nat → Nat := fun q τ => if q = r ∧ t < τ then p (min (τ - t) L) else P q τ
def nwE (te : Nat → Nat) (r t L : Nat) : Nat → Nat := fun q => if q = r then t + L else te q
/-- the earliest way -/
def isWy (cn w : Nat) (kn : Nat → Nat) (P : Nat → Nat → Nat) (te : Nat → Nat) (rn r t : Nat) (sho : Option Nat) (goal L : Nat) (p : Nat → Nat) : Prop := L < 1000 ∧ okL cn w kn P te rn r t sho (s0f sho (P r t)) (P r t) goal L ∧ (∀ j, j < L → ¬ okL cn w kn P te rn r t sho (s0f sho (P r t)) (P r t) goal j) ∧ ∃ sp, isW cn w kn P rn r t sho (s0f sho (P r t)) (P r t) goal L p sp L
theorem isW_end {cn w : Nat} {kn : Nat → Nat} {P : Nat → Nat → Nat} {rn r t : Nat} {sho : Option Nat} {s0 c0 goal L : Nat} {p sp : Nat → Nat} (hL : Rw cn w kn P rn r t sho s0 c0 L 1 goal) (h : isW cn w kn P rn r t sho s0 c0 goal L p sp L) : p L = goal := by
  have h2 := isW_L hL h L (Nat.le_refl _)
  rw [Nat.sub_self] at h2
  exact h2.2
theorem isW_in {cn w : Nat} {kn : Nat → Nat} {P : Nat → Nat → Nat} {rn r t : Nat} {sho : Option Nat} {s0 c0 goal L : Nat} {p sp : Nat → Nat} (h0 : 0 < w) (hh : ∃ h, cn = w * h) (hc : c0 < cn) (hk : ¬ kn c0 = 0) (hs : s0 < 2) (hL : Rw cn w kn P rn r t sho s0 c0 L 1 goal) (h : isW cn w kn P rn r t sho s0 c0 goal L p sp L) {j : Nat} (hj : j ≤ L) : p j < cn ∧ ¬ kn (p j) = 0 := by
  have h2 := Lw_R hL _ _ _ (isW_L hL h j hj)
  have h3 := Rw_in h0 hh hc hk hs _ _ _ h2
  exact ⟨h3.1, h3.2.1⟩
theorem isW_same {cn w : Nat} {kn : Nat → Nat} {P : Nat → Nat → Nat} {rn r t : Nat} {sho : Option Nat} {s0 c0 goal L : Nat} {p sp p' sp' : Nat → Nat} {k : Nat} (h : isW cn w kn P rn r t sho s0 c0 goal L p sp k) (h' : isW cn w kn P rn r t sho s0 c0 goal L p' sp' k) : ∀ j, j ≤ k → p j = p' j ∧ sp j = sp' j
  | 0, _ => ⟨h.1.trans h'.1.symm, h.2.1.trans h'.2.1.symm⟩
  | j + 1, hj => by
    obtain ⟨e1, e2⟩ := isW_same h h' j (by omega)
    obtain ⟨m, a1, a2, a3, a4⟩ := h.2.2 j (by omega)
    obtain ⟨m', b1, b2, b3, b4⟩ := h'.2.2 j (by omega)
    rw [← e1, ← e2] at b2 b4
    have hm : m = m' := by
      rcases Nat.lt_trichotomy m m' with z | z | z
      · exact absurd a2 (b4 m _ z)
      · exact z
      · exact absurd b2 (a4 m' _ z)
    subst hm
    have hp : p (j + 1) = p' (j + 1) := by
      have := a2.1.symm.trans b2.1
      exact Option.some.inj this
    exact ⟨hp, by rw [a3, b3, hp, e2]⟩
theorem isWy_one {cn w : Nat} {kn : Nat → Nat} {P : Nat → Nat → Nat} {te : Nat → Nat} {rn r t : Nat} {sho : Option Nat} {goal L L' : Nat} {p p' : Nat → Nat} (h : isWy cn w kn P te rn r t sho goal L p) (h' : isWy cn w kn P te rn r t sho goal L' p') : L = L' ∧ ∀ j, j ≤ L → p j = p' j := by
  obtain ⟨a1, a2, a3, sp, a4⟩ := h
  obtain ⟨b1, b2, b3, sp', b4⟩ := h'
  have e : L = L' := by
    rcases Nat.lt_trichotomy L L' with z | z | z
    · exact absurd a2 (b3 L z)
    · exact z
    · exact absurd b2 (a3 L' z)
  subst e
  exact ⟨rfl, fun j hj => (isW_same a4 b4 j hj).1⟩
theorem nwP_one {P : Nat → Nat → Nat} {r t L : Nat} {p p' : Nat → Nat} (h : ∀ j, j ≤ L → p j = p' j) : nwP P r t L p = nwP P r t L p' := by
  funext q τ
  unfold nwP
  split
  · exact h _ (Nat.min_le_right _ _)
  · rfl
/-- behind a search the table holds the new way -/
theorem ttR_way {cn w : Nat} {kn : Nat → Nat} {kt : Nat → Nat} {rn : Nat} {P : Nat → Nat → Nat} {te : Nat → Nat} {rows rows' : Nat → Int64} {en et ow : Nat → Int32} {r t : Nat} {sho : Option Nat} {goal L : Nat} {p : Nat → Nat} (hrn : rn ≤ 6) (h : ttR kt rn P te rows en et ow) (hr : r < rn) (hkt : kt r = t) (ht : t ≤ 4000) (hter : te r ≤ t) (h0 : 0 < w) (h80 : cn ≤ 80) (hh : ∃ h, cn = w * h) (hc : P r t < cn) (hk : ¬ kn (P r t) = 0) (hgo : goal < 80) (hE : eoB P te r goal rn = false) (hW : isWy cn w kn P te rn r t sho goal L p) (hrw : rwQ rows r t L p rows') : ttR kt rn (nwP P r t L p) (nwE te r t L) rows' (upd en r (nI goal)) (upd et r (nI (t + L))) (upd (upd ow (P r (te r)) (-1)) goal (nI r)) := by
  obtain ⟨w1, w2, w3, sp, w4⟩ := hW
  have hs0 := s0f_lt sho (P r t)
  have pL := isW_end w2.2 w4
  have p0 : p 0 = P r t := w4.1
  have hlt : ∀ j, j ≤ L → p j < 80 := fun j hj => by have := (isW_in h0 hh hc hk hs0 w2.2 w4 hj).1; omega
  have other : ∀ q, ¬ q = r → ∀ τ, nwP P r t L p q τ = P q τ := fun q hq τ => by unfold nwP; rw [if_neg (fun z => hq z.1)]
  have hend : nwP P r t L p r (t + L) = goal := by
    unfold nwP
    by_cases z : t < t + L
    · rw [if_pos ⟨rfl, z⟩, show min (t + L - t) L = L by omega]; exact pL
    · have e : L = 0 := by omega
      rw [if_neg (fun y => z y.2), e, Nat.add_zero, ← p0]
      rw [e] at pL; exact pL
  have hen' : ∀ q, nwP P r t L p q (nwE te r t L q) = if q = r then goal else P q (te q) := by
    intro q
    unfold nwE
    by_cases e : q = r
    · rw [if_pos e, if_pos e, e]; exact hend
    · rw [if_neg e, if_neg e, other q e]
  have hno : ∀ q, q < rn → ¬ q = r → ¬ P q (te q) = goal := by
    intro q h1 h2 h3
    have := (eoB_iff (P := P) (te := te) (r := r) (c := goal) rn).mpr ⟨q, h1, h2, h3⟩
    rw [hE] at this; cases this
  refine ⟨fun q hq => ?_, fun q hq => ?_, fun c hc80 hx => ?_⟩
  · obtain ⟨h1, h2, h3, h4, h5, h6⟩ := h.1 q hq
    by_cases e : q = r
    · subst e
      refine ⟨?_, ?_, ?_, ?_, ?_, ?_⟩
      · rw [pk_us]; unfold nwE; rw [if_pos rfl]
      · unfold nwE; rw [if_pos rfl]; omega
      · rw [pk_us, hen', if_pos rfl]
      · intro τ hτ
        rw [hen', if_pos rfl]
        have hτ : t + L ≤ τ := by unfold nwE at hτ; rw [if_pos rfl] at hτ; exact hτ
        unfold nwP
        by_cases z : t < τ
        · rw [if_pos ⟨rfl, z⟩, show min (τ - t) L = L by omega]; exact pL
        · have e : L = 0 := by omega
          have e2 : τ = t := by omega
          rw [if_neg (fun y => z y.2), e2, ← p0]
          rw [e] at pL; exact pL
      · intro τ hτ
        have hτ : τ ≤ t ∨ τ < t + L := by
          unfold nwE at hτ; rw [if_pos rfl, hkt] at hτ; exact hτ
        rw [hrw τ q (by omega)]
        unfold nwP
        by_cases z : t < τ
        · rw [if_pos ⟨rfl, z, by omega⟩, if_pos ⟨rfl, z⟩, show min (τ - t) L = τ - t by omega]
        · rw [if_neg (fun y => z y.2.1), if_neg (fun y => z y.2), h5 τ (Or.inl (by omega))]
      · intro τ
        unfold nwP
        split
        · exact hlt _ (Nat.min_le_right _ _)
        · exact h6 τ
    · have e2 : nwE te r t L q = te q := by unfold nwE; rw [if_neg e]
      refine ⟨?_, ?_, ?_, ?_, ?_, ?_⟩
      · rw [pk_un e, e2]; exact h1
      · rw [e2]; exact h2
      · rw [pk_un e, e2, other q e]; exact h3
      · intro τ hτ
        rw [e2] at hτ ⊢
        rw [other q e, other q e]; exact h4 τ hτ
      · intro τ hτ
        rw [e2] at hτ
        rw [other q e, hrw τ q (by omega), if_neg (fun z => e z.1)]; exact h5 τ hτ
      · intro τ
        rw [other q e]; exact h6 τ
  · rw [hen']
    by_cases e : q = r
    · rw [if_pos e, pk_us, e]
    · rw [if_neg e, pk_un (hno q hq e), pk_un (fun z => ?_)]
      · exact h.2.1 q hq
      · have a := h.2.1 q hq
        have b := h.2.1 r hr
        rw [z, b] at a
        exact e ((nI_eq (by omega) (by omega)).mp a.symm)
  · have hcg : ¬ c = goal := fun z => hx r hr (by rw [hen', if_pos rfl, z])
    rw [pk_un hcg]
    by_cases e : c = P r (te r)
    · rw [e, pk_us]
    · rw [pk_un e]
      refine h.2.2 c hc80 (fun q hq hqc => ?_)
      by_cases e2 : q = r
      · subst e2; exact e hqc.symm
      · exact hx q hq (by rw [hen', if_neg e2]; exact hqc)
