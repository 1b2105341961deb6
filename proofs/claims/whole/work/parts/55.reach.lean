/-! WaySearch: reachGoal -/
/-- from tick k on no other comes to the goal -/
def clr (P : Nat → Nat → Nat) (te : Nat → Nat) (rn r t goal k : Nat) : Prop := ∀ q τ, q < rn → ¬ q = r → t + k ≤ τ → τ < te q → ¬ P q τ = goal
theorem clo_clr {P : Nat → Nat → Nat} {te : Nat → Nat} {rn r t goal cl : Nat} (h : clo P te rn r t goal rn cl) (k : Nat) : cl ≤ k ↔ clr P te rn r t goal k := by
  constructor
  · intro hk q τ h1 h2 h3 h4
    exact h.1 q h1 h2 τ (by omega) h4
  · intro hk
    rcases h.2 with z | ⟨q, h1, h2, h3, h4⟩
    · omega
    · rcases Nat.lt_or_ge k cl with z | z
      · exact absurd h4 (hk q _ h1 h2 (by omega) h3)
      · exact z
/-- a way can end at tick k -/
def okL (cn w : Nat) (kn : Nat → Nat) (P : Nat → Nat → Nat) (te : Nat → Nat) (rn r t : Nat) (sho : Option Nat) (s0 c0 goal k : Nat) : Prop := clr P te rn r t goal k ∧ Rw cn w kn P rn r t sho s0 c0 k 1 goal
/-- what a search stands on -/
def wyC (cn w : Nat) (kn : Nat → Nat) (P : Nat → Nat → Nat) (te : Nat → Nat) (rn r t : Nat) (sho : Option Nat) (s0 c0 goal : Nat) (st : Nat → Int32) (op rows : Nat → Int64) (en et : Nat → Int32) : Prop := 0 < w ∧ w ≤ 10 ∧ cn ≤ 80 ∧ (∃ h, cn = w * h) ∧ gS w st ∧ gO cn w kn op ∧ rn ≤ 6 ∧ r < rn ∧ t ≤ 4000 ∧ (∀ r τ, r < rn → τ < 5001 → cAt rows en et r τ = nI (P r τ)) ∧ (∀ r τ, r < rn → P r τ < 80) ∧ c0 < cn ∧ ¬ kn c0 = 0 ∧ s0 < 2 ∧ (∀ h, sho = some h → h < 80) ∧ goal < 80 ∧ (∀ q, q < rn → te q ≤ 5000) ∧ ∀ q, q < rn → et q = nI (te q)
abbrev wWy (g : Nat) (sz wd : Nat → Int32) (st : Nat → Nat → Int32) (op : Nat → Nat → Int64) (rn : Nat) (rows : Nat → Int64) (en et : Nat → Int32) (lo hi : Int64) (r t : Nat) (sh go : Int32) (re al : Nat → Int64) : fz_W := [(2, eGr sz wd), (3, e5 st), (4, eL op), (19, eTT (nI rn)), (20, eRw rows), (21, e6 en), (22, e6 et), (25, eWS g lo hi (nI r) (nI t) sh go), (26, eRe re), (27, eAl al)]
/-- the sets up to tick k -/
def reA (cn w : Nat) (kn : Nat → Nat) (P : Nat → Nat → Nat) (rn r t : Nat) (sho : Option Nat) (s0 c0 k : Nat) (re : Nat → Int64) : Prop := ∀ j, j ≤ k → ∀ s d, s < 2 → d < 128 → (xS re (4 * j + 2 * s) d = true ↔ Rw cn w kn P rn r t sho s0 c0 j s d)
/-- what reachGoal answers -/
def rgQ (cn w : Nat) (kn : Nat → Nat) (P : Nat → Nat → Nat) (te : Nat → Nat) (rn r t : Nat) (sho : Option Nat) (s0 c0 goal : Nat) (re : Nat → Int64) (x : Option fz_V) : Prop := (∃ L, L < 1000 ∧ x = some (zI (nI L)) ∧ okL cn w kn P te rn r t sho s0 c0 goal L ∧ (∀ j, j < L → ¬ okL cn w kn P te rn r t sho s0 c0 goal j) ∧ reA cn w kn P rn r t sho s0 c0 L re) ∨ (x = some (zI (-1)) ∧ ∀ j, j < 1000 → ¬ okL cn w kn P te rn r t sho s0 c0 goal j)
theorem lX9_reach {G : fz_G} {E0 : Nat → fz_E} (g : Nat) (hg : g < 2) (sz wd : Nat → Int32) (st : Nat → Nat → Int32) (op : Nat → Nat → Int64) (rn : Nat) (rows : Nat → Int64) (en et : Nat → Int32) (r t : Nat) (cn w : Nat) (kn : Nat → Nat) (P : Nat → Nat → Nat) (te : Nat → Nat) (sho : Option Nat) (s0 c0 goal : Nat) (hC : wyC cn w kn P te rn r t sho s0 c0 goal (st g) (op g) rows en et) (cl : Nat) (hcl5 : cl ≤ 5000) (hcl : ∀ k, cl ≤ k ↔ clr P te rn r t goal k) :
    ∀ f k, k + f = 1000 → (∀ j, j < k → ¬ okL cn w kn P te rn r t sho s0 c0 goal j) → ∀ lo hi re al, reA cn w kn P rn r t sho s0 c0 k re → fz_J G mX9_reachGoal rX9_reachGoal (fz_Z G E0 0 0 (fun x U => ∃ lo hi re al, rgQ cn w kn P te rn r t sho s0 c0 goal re x ∧ U = wWy g sz wd st op rn rows en et lo hi r t (oI sho) (nI goal) re al)) E0 0 0 7 [(2, zI (nI k)), (1, zI (nI cl)), (0, zR 25 0)] [] (wWy g sz wd st op rn rows en et lo hi r t (oI sho) (nI goal) re al) := by
  obtain ⟨h0, hw, h80, hh, hS, hO, hrn, hr, ht, hP, hP8, hc0, hk0, hs0, hsh, hgo, hte, het⟩ := hC
  intro f
  induction f with
  | zero =>
    intro k hk hno lo hi re al hre
    have e : k = 1000 := by omega
    subst e
    refine fz_iload_n dX9_reachGoal_7 rfl ?_
    refine fz_sipush (v := nI 1000) dX9_reachGoal_8 (by decide) ?_
    refine fz_icmp_ge (tgt := 53) dX9_reachGoal_11 (by decide) (fun c11 => ?_) (fun c11 => ?_)
    · skip
      refine fz_iconst (v := -1) dX9_reachGoal_53 (by decide) ?_
      refine fz_iret dX9_reachGoal_54 rfl (Nat.zero_le _) (Nat.zero_le _) ⟨lo, hi, re, al, Or.inr ⟨rfl, hno⟩, rfl⟩
    · exact absurd (nI_le (Nat.le_refl _) (by omega)) c11
  | succ f ih =>
    intro k hk hno lo hi re al hre
    have next : ¬ okL cn w kn P te rn r t sho s0 c0 goal k → fz_J G mX9_reachGoal rX9_reachGoal (fz_Z G E0 0 0 (fun x U => ∃ lo hi re al, rgQ cn w kn P te rn r t sho s0 c0 goal re x ∧ U = wWy g sz wd st op rn rows en et lo hi r t (oI sho) (nI goal) re al)) E0 0 0 37 [(2, zI (nI k)), (1, zI (nI cl)), (0, zR 25 0)] [] (wWy g sz wd st op rn rows en et lo hi r t (oI sho) (nI goal) re al) := by
      intro hno2
      refine fz_aload_n dX9_reachGoal_37 rfl ?_
      refine fz_iload_n dX9_reachGoal_38 rfl ?_
      refine fz_callV (tX9_lookAtOthers g hg sz wd st op rn rows en et P hrn hP hP8 r t k (by omega) (by omega) (oI sho) (nI goal) lo hi al) dX9_reachGoal_39 kX9_57 rfl (Nat.one_pos) ⟨rfl, rfl, rfl, rfl, rfl, rfl, rfl, rfl, rfl, trivial⟩ (Nat.le_of_ble_eq_true rfl) (Nat.le_of_ble_eq_true rfl) (Nat.le_of_ble_eq_true rfl) (Nat.le_of_ble_eq_true rfl) (Nat.le_of_ble_eq_true rfl) rfl (fun r U hq => ?_)
      obtain ⟨rfl, lo2, hi2, al2, hs2, rfl⟩ := hq
      refine fz_back rfl ?_
      refine fz_wo (V' := wWy g sz wd st op rn rows en et lo2 hi2 r t (oI sho) (nI goal) re al2) rfl ?_
      refine fz_aload_n dX9_reachGoal_42 rfl ?_
      refine fz_iload_n dX9_reachGoal_43 rfl ?_
      refine fz_callV (tX9_spread g hg sz wd st lo2 hi2 (nI r) (nI t) (nI goal) sho hsh re al2 w k h0 hw hS (by omega)) dX9_reachGoal_44 kX9_74 rfl (Nat.one_pos) ⟨rfl, rfl, rfl, rfl, rfl, trivial⟩ (Nat.le_of_ble_eq_true rfl) (Nat.le_of_ble_eq_true rfl) (Nat.le_of_ble_eq_true rfl) (Nat.le_of_ble_eq_true rfl) (Nat.le_of_ble_eq_true rfl) rfl (fun r U hq => ?_)
      obtain ⟨rfl, re3, hs3, rfl⟩ := hq
      refine fz_back rfl ?_
      refine fz_wo (V' := wWy g sz wd st op rn rows en et lo2 hi2 r t (oI sho) (nI goal) re3 al2) rfl ?_
      refine fz_incN dX9_reachGoal_47 rfl (Nat.le_of_ble_eq_true rfl) ?_
      refine fz_goto (tgt := 7) dX9_reachGoal_50 (by decide) ?_
      refine ih (k + 1) (by omega) (fun j hj => ?_) lo2 hi2 re3 al2 (fun j hj s d hs hd => ?_)
      · by_cases e : j = k
        · rw [e]; exact hno2
        · exact hno j (by omega)
      · by_cases e : j = k + 1
        · subst e
          have e2 := hs3.2 s d hs hd
          rw [show 4 * k + 4 + 2 * s = 4 * (k + 1) + 2 * s by omega] at e2
          rw [e2]
          exact rcS_iff h0 h80 hh hS hO (fun q hq => by have := hP8 q (t + k) hq; omega) hs2 hc0 hk0 hs0 (fun s d a b => hre k (Nat.le_refl _) s d a b) hsh hs hd
        · have e1 : xS re3 (4 * j + 2 * s) d = xS re (4 * j + 2 * s) d := by
            show X2 _ _ d = X2 _ _ d
            rw [hs3.1 _ (by omega), hs3.1 _ (by omega)]
          rw [e1]
          exact hre j (by omega) s d hs hd
    refine fz_iload_n dX9_reachGoal_7 rfl ?_
    refine fz_sipush (v := nI 1000) dX9_reachGoal_8 (by decide) ?_
    refine fz_icmp_ge (tgt := 53) dX9_reachGoal_11 (by decide) (fun c11 => ?_) (fun c11 => ?_)
    · exact absurd ((nI_leI (by omega) (by omega)).mp c11) (by omega)
    · skip
      refine fz_iload_n dX9_reachGoal_14 rfl ?_
      refine fz_iload_n dX9_reachGoal_15 rfl ?_
      refine fz_icmp_lt (tgt := 37) dX9_reachGoal_16 (by decide) (fun c16 => ?_) (fun c16 => ?_)
      · have hkc : k < cl := (nI_ltI (by omega) (by omega)).mp c16
        exact next (fun z => by have := (hcl k).mpr z.1; omega)
      · have hkc : cl ≤ k := by
          rcases Nat.lt_or_ge k cl with z | z
          · exact absurd ((nI_ltI (by omega) (by omega)).mpr z) c16
          · exact z
        refine fz_aload_n dX9_reachGoal_19 rfl ?_
        refine fz_iconst (v := nI 4) dX9_reachGoal_20 (by decide) ?_
        refine fz_iload_n dX9_reachGoal_21 rfl ?_
        refine fz_imul dX9_reachGoal_22 ?_
        refine fz_iconst (v := nI 2) dX9_reachGoal_23 (by decide) ?_
        refine fz_iadd dX9_reachGoal_24 ?_
        refine fz_aload_n dX9_reachGoal_25 rfl ?_
        refine fz_get dX9_reachGoal_26 fX9_36 rfl (Nat.one_pos) rfl ?_
        rw [nI_mul, nI_add]
        refine fz_callV (tX9_holds g lo hi (nI r) (nI t) (oI sho) (nI goal) (4 * k + 2) goal (by omega) hgo re) dX9_reachGoal_29 kX9_70 rfl (Nat.one_pos) ⟨rfl, rfl, trivial⟩ (Nat.le_of_ble_eq_true rfl) (Nat.le_of_ble_eq_true rfl) (Nat.le_of_ble_eq_true rfl) (Nat.le_of_ble_eq_true rfl) (Nat.le_of_ble_eq_true rfl) rfl (fun r U hq => ?_)
        obtain ⟨rfl, rfl⟩ := hq
        refine fz_back rfl ?_
        refine fz_wo (V' := wWy g sz wd st op rn rows en et lo hi r t (oI sho) (nI goal) re al) rfl ?_
        rw [← X2_inS re _ (by omega)]
        have hR1 : xS re (4 * k + 2) goal = true ↔ Rw cn w kn P rn r t sho s0 c0 k 1 goal := hre k (Nat.le_refl _) 1 goal (by omega) (by omega)
        cases hv : xS re (4 * k + 2) goal with
        | false =>
          have hv2 : X2 (re (4 * k + 2)) (re (4 * k + 2 + 1)) goal = false := hv
          rw [hv2]
          refine fz_if_eq (tgt := 37) dX9_reachGoal_32 (by decide) (fun c32 => ?_) (fun c32 => ?_)
          · exact next (fun z => by rw [hR1.mpr z.2] at hv; cases hv)
          · exact absurd rfl c32
        | true =>
          have hv2 : X2 (re (4 * k + 2)) (re (4 * k + 2 + 1)) goal = true := hv
          rw [hv2]
          refine fz_if_eq (tgt := 37) dX9_reachGoal_32 (by decide) (fun c32 => ?_) (fun c32 => ?_)
          · exact absurd c32 (by decide)
          · skip
            refine fz_iload_n dX9_reachGoal_35 rfl ?_
            refine fz_iret dX9_reachGoal_36 rfl (Nat.zero_le _) (Nat.zero_le _) ⟨lo, hi, re, al, Or.inl ⟨k, by omega, rfl, ⟨(hcl k).mp hkc, hR1.mp hv⟩, hno, hre⟩, rfl⟩
theorem tX9_reachGoal {G : fz_G} (g : Nat) (hg : g < 2) (sz wd : Nat → Int32) (st : Nat → Nat → Int32) (op : Nat → Nat → Int64) (rn : Nat) (rows : Nat → Int64) (en et : Nat → Int32) (r t : Nat) (cn w : Nat) (kn : Nat → Nat) (P : Nat → Nat → Nat) (te : Nat → Nat) (sho : Option Nat) (s0 c0 goal : Nat) (hC : wyC cn w kn P te rn r t sho s0 c0 goal (st g) (op g) rows en et) (lo hi : Int64) (re al : Nat → Int64) (hre : reA cn w kn P rn r t sho s0 c0 0 re) :
    fz_T G mX9_reachGoal rX9_reachGoal [zR 25 0] (wWy g sz wd st op rn rows en et lo hi r t (oI sho) (nI goal) re al) (fun x U => ∃ lo hi re al, rgQ cn w kn P te rn r t sho s0 c0 goal re x ∧ U = wWy g sz wd st op rn rows en et lo hi r t (oI sho) (nI goal) re al) := by
  have hC2 := hC
  obtain ⟨h0, hw, h80, hh, hS, hO, hrn, hr, ht, hP, hP8, hc0, hk0, hs0, hsh, hgo, hte, het⟩ := hC2
  refine fz_T.of (by decide) (Nat.le_of_ble_eq_true rfl) (fun E0 => ?_)
  refine fz_aload_n dX9_reachGoal_0 rfl ?_
  refine fz_callV (tX9_clear g rn rows en et lo hi r t (oI sho) goal P te hrn (by omega) ht hP hP8 hgo hte het) dX9_reachGoal_1 kX9_67 rfl (Nat.one_pos) ⟨rfl, rfl, rfl, rfl, rfl, trivial⟩ (Nat.le_of_ble_eq_true rfl) (Nat.le_of_ble_eq_true rfl) (Nat.le_of_ble_eq_true rfl) (Nat.le_of_ble_eq_true rfl) (Nat.le_of_ble_eq_true rfl) rfl (fun r U hq => ?_)
  obtain ⟨⟨cl, hc5, rfl, hcl⟩, rfl⟩ := hq
  refine fz_back rfl ?_
  refine fz_wo (V' := wWy g sz wd st op rn rows en et lo hi r t (oI sho) (nI goal) re al) rfl ?_
  refine fz_istore_n dX9_reachGoal_4 (Nat.le_of_ble_eq_true rfl) ?_
  refine fz_iconst (v := nI 0) dX9_reachGoal_5 (by decide) ?_
  refine fz_istore_n dX9_reachGoal_6 (Nat.le_of_ble_eq_true rfl) ?_
  exact lX9_reach g hg sz wd st op rn rows en et r t cn w kn P te sho s0 c0 goal hC cl hc5 (clo_clr hcl) 1000 0 rfl (fun j hj => by omega) lo hi re al hre
