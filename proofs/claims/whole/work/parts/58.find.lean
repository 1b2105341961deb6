/-! WaySearch: find -/
/-- side 1 from the start on: no shelf, or it stands in it -/
def s0f (sho : Option Nat) (c0 : Nat) : Nat := if sho = none ∨ sho = some c0 then 1 else 0
theorem s0f_lt (sho : Option Nat) (c0 : Nat) : s0f sho c0 < 2 := by unfold s0f; split <;> omega
/-- a set with one cell in it -/
theorem one_set {re r2 : Nat → Int64} {k s0 c : Nat} (hs0 : s0 < 2) (hc : c < 80) (h : ∀ j, r2 j = if 4 * k ≤ j ∧ j < 4 * k + 4 then 0 else re j) : ∀ s d, s < 2 → d < 128 → (xS (vp_updL r2 (4 * k + 2 * s0 + c / 64) (r2 (4 * k + 2 * s0 + c / 64) ||| ((1 : Int64) <<< ((nI c).toInt64 &&& 63)))) (4 * k + 2 * s) d = true ↔ s = s0 ∧ d = c) := by
  intro s d hs hd
  rw [xS_inS _ _ hd]
  unfold inS
  by_cases e : 4 * k + 2 * s + d / 64 = 4 * k + 2 * s0 + c / 64
  · rw [e, pk_uLs, bl_or, h, if_pos (by omega), bl_0, bl_1shl (by omega) (by omega)]
    simp only [Bool.false_or, decide_eq_true_eq]
    omega
  · rw [pk_uLn e, h, if_pos (by omega), bl_0]
    constructor
    · intro z; cases z
    · rintro ⟨rfl, rfl⟩; exact absurd rfl e
theorem one_else {re r2 : Nat → Int64} {k s0 c : Nat} (hs0 : s0 < 2) (hc : c < 80) (x : Int64) (h : ∀ j, r2 j = if 4 * k ≤ j ∧ j < 4 * k + 4 then 0 else re j) : ∀ j, j < 4 * k → vp_updL r2 (4 * k + 2 * s0 + c / 64) x j = re j := by
  intro j hj
  rw [pk_uLn (by omega), h, if_neg (by omega)]
/-- how a search ends: with the earliest way, or there is none -/
def fdQ (cn w : Nat) (kn : Nat → Nat) (P : Nat → Nat → Nat) (te : Nat → Nat) (rn r t : Nat) (sho : Option Nat) (c0 goal : Nat) (rows : Nat → Int64) (en et ow : Nat → Int32) (en0 : Nat) (x : Option fz_V) (rows' : Nat → Int64) (en' et' ow' : Nat → Int32) : Prop := (∃ L p sp, L < 1000 ∧ x = some (zI (nI L)) ∧ okL cn w kn P te rn r t sho (s0f sho c0) c0 goal L ∧ (∀ j, j < L → ¬ okL cn w kn P te rn r t sho (s0f sho c0) c0 goal j) ∧ isW cn w kn P rn r t sho (s0f sho c0) c0 goal L p sp L ∧ rwQ rows r t L p rows' ∧ en' = upd en r (nI goal) ∧ et' = upd et r (nI (t + L)) ∧ ow' = upd (upd ow en0 (-1)) goal (nI r)) ∨ (x = some (zI (-1)) ∧ (∀ j, j < 1000 → ¬ okL cn w kn P te rn r t sho (s0f sho c0) c0 goal j) ∧ rows' = rows ∧ en' = en ∧ et' = et ∧ ow' = ow)
theorem lX9_find {G : fz_G} {E0 : Nat → fz_E} {Z : List Frame → Array Value → State → State → Prop} (g : Nat) (hg : g < 2) (sz wd : Nat → Int32) (st : Nat → Nat → Int32) (op : Nat → Nat → Int64) (rn : Nat) (rows : Nat → Int64) (en et ow : Nat → Int32) (r t : Nat) (cn w : Nat) (kn : Nat → Nat) (P : Nat → Nat → Nat) (te : Nat → Nat) (sho : Option Nat) (s0 c0 goal : Nat) (hC : wyC cn w kn P te rn r t sho s0 c0 goal (st g) (op g) rows en et) (L : Nat) (hL1 : L < 1000) (hL : Rw cn w kn P rn r t sho s0 c0 L 1 goal)
    (kk : ∀ lo hi re al (x : Int32), leA cn w kn P rn r t sho s0 c0 goal L 0 re → fz_J G mX9_find rX9_find Z E0 0 0 140 [(8, zI x), (7, zI (nI L)), (6, zI (nI s0)), (5, zI (nI c0)), (0, zR 25 0)] [] (wFo g sz wd st op rn rows en et ow lo hi r t (oI sho) (nI goal) re al)) :
    ∀ k, k < L → ∀ lo hi re al, reA cn w kn P rn r t sho s0 c0 k re → leA cn w kn P rn r t sho s0 c0 goal L k re → fz_J G mX9_find rX9_find Z E0 0 0 117 [(8, zI (nI k)), (7, zI (nI L)), (6, zI (nI s0)), (5, zI (nI c0)), (0, zR 25 0)] [] (wFo g sz wd st op rn rows en et ow lo hi r t (oI sho) (nI goal) re al) := by
  obtain ⟨h0, hw, h80, hh, hS, hO, hrn, hr, ht, hP, hP8, hc0, hk0, hs0, hsh, hgo, hte, het⟩ := hC
  intro k
  induction k with
  | zero =>
    intro hk lo hi re al hR hT
    refine fz_iload dX9_find_117 rfl ?_
    refine fz_if_le (tgt := 140) dX9_find_119 (by decide) (fun c119 => ?_) (fun c119 => ?_)
    · exact kk lo hi re al _ hT
    · exact absurd (by decide) c119
  | succ k ih =>
    intro hk lo hi re al hR hT
    refine fz_iload dX9_find_117 rfl ?_
    refine fz_if_le (tgt := 140) dX9_find_119 (by decide) (fun c119 => ?_) (fun c119 => ?_)
    · exact absurd c119 (nI_nle (by omega) (by omega))
    · skip
      refine fz_aload_n dX9_find_122 rfl ?_
      refine fz_iload dX9_find_123 rfl ?_
      refine fz_callV (tX9_lookAtOthers g hg sz wd st op rn rows en et P hrn hP hP8 r t (k + 1) (by omega) (by omega) (oI sho) (nI goal) lo hi al) dX9_find_125 kX9_57 rfl (Nat.one_pos) ⟨rfl, rfl, rfl, rfl, rfl, rfl, rfl, rfl, rfl, trivial⟩ (Nat.le_of_ble_eq_true rfl) (Nat.le_of_ble_eq_true rfl) (Nat.le_of_ble_eq_true rfl) (Nat.le_of_ble_eq_true rfl) (Nat.le_of_ble_eq_true rfl) rfl (fun r U hq => ?_)
      obtain ⟨rfl, lo2, hi2, al2, hs2, rfl⟩ := hq
      refine fz_back rfl ?_
      refine fz_wo (V' := wFo g sz wd st op rn rows en et ow lo2 hi2 r t (oI sho) (nI goal) re al2) rfl ?_
      refine fz_aload_n dX9_find_128 rfl ?_
      refine fz_iload dX9_find_129 rfl ?_
      refine fz_callV (tX9_narrow g hg sz wd st lo2 hi2 (nI r) (nI t) (nI goal) sho hsh re al2 w (k + 1) h0 hw hS (by omega)) dX9_find_131 kX9_60 rfl (Nat.one_pos) ⟨rfl, rfl, rfl, rfl, rfl, trivial⟩ (Nat.le_of_ble_eq_true rfl) (Nat.le_of_ble_eq_true rfl) (Nat.le_of_ble_eq_true rfl) (Nat.le_of_ble_eq_true rfl) (Nat.le_of_ble_eq_true rfl) rfl (fun r U hq => ?_)
      obtain ⟨rfl, re3, hs3, rfl⟩ := hq
      refine fz_back rfl ?_
      refine fz_wo (V' := wFo g sz wd st op rn rows en et ow lo2 hi2 r t (oI sho) (nI goal) re3 al2) rfl ?_
      refine fz_iinc dX9_find_134 rfl (Nat.le_of_ble_eq_true rfl) ?_
      have hdec : nI (k + 1) + Int32.ofInt (-1) = nI k := by
        rw [show nI (k + 1) + Int32.ofInt (-1) = nI (k + 1) - nI 1 from by rw [Int32.sub_eq_add_neg]; congr 1]
        exact nI_sub1 k
      rw [hdec]
      refine fz_goto (tgt := 117) dX9_find_137 (by decide) ?_
      have same : ∀ j s d, s < 2 → (j < k + 1 ∨ k + 1 < j) → xS re3 (4 * j + 2 * s) d = xS re (4 * j + 2 * s) d := by
        intro j s d hs hj
        show X2 _ _ d = X2 _ _ d
        rw [hs3.1 _ (by omega), hs3.1 _ (by omega)]
      refine ih (by omega) lo2 hi2 re3 al2 (fun j hj s d hs hd => ?_) (fun j hj1 hj2 s d hs hd => ?_)
      · rw [same j s d hs (by omega)]
        exact hR j (by omega) s d hs hd
      · by_cases e : j = k + 1
        · subst e
          rw [hs3.2 s hs d hd]
          exact nwS_iff h0 h80 hh hS hO (fun q hq => by have := hP8 q (t + (k + 1)) hq; omega) hs2 hc0 hk0 hs0 hL (by omega) hsh (fun s d a b => hR (k + 1) (Nat.le_refl _) s d a b) (fun s d a b => hT (k + 1 + 1) (by omega) (by omega) s d a b) hs hd
        · rw [same j s d hs (by omega)]
          exact hT j (by omega) hj2 s d hs hd
theorem tX9_find {G : fz_G} (g : Nat) (hg : g < 2) (sz wd : Nat → Int32) (st : Nat → Nat → Int32) (op : Nat → Nat → Int64) (rn : Nat) (rows : Nat → Int64) (en et ow : Nat → Int32) (r t : Nat) (cn w : Nat) (kn : Nat → Nat) (P : Nat → Nat → Nat) (te : Nat → Nat) (sho : Option Nat) (c0 goal : Nat) (hC : wyC cn w kn P te rn r t sho (s0f sho c0) c0 goal (st g) (op g) rows en et) (hter : te r ≤ t) (en0 : Nat) (hen : en r = nI en0) (hen0 : en0 < 80) (hPc : P r t = c0) (lo hi : Int64) (rb ts sh go : Int32) (re al : Nat → Int64) :
    fz_T G mX9_find rX9_find [zR 25 0, zI (nI r), zI (nI t), zI (oI sho), zI (nI goal)] [(2, eGr sz wd), (3, e5 st), (4, eL op), (19, eTT (nI rn)), (20, eRw rows), (21, e6 en), (22, e6 et), (23, e80 ow), (25, eWS g lo hi rb ts sh go), (26, eRe re), (27, eAl al)] (fun x U => ∃ lo hi re al rows' en' et' ow', fdQ cn w kn P te rn r t sho c0 goal rows en et ow en0 x rows' en' et' ow' ∧ U = wFo g sz wd st op rn rows' en' et' ow' lo hi r t (oI sho) (nI goal) re al) := by
  have hC2 := hC
  obtain ⟨h0, hw, h80, hh, hS, hO, hrn, hr, ht, hP, hP8, hc0, hk0, hs0, hsh, hgo, hte, het⟩ := hC2
  refine fz_T.of (by decide) (Nat.le_of_ble_eq_true rfl) (fun E0 => ?_)
  refine fz_aload_n dX9_find_0 rfl ?_
  refine fz_iload_n dX9_find_1 rfl ?_
  refine fz_put1 dX9_find_2 fX9_26 rfl (Nat.le_of_ble_eq_true rfl) ⟨rfl, rfl⟩ ?_
  refine fz_aload_n dX9_find_5 rfl ?_
  refine fz_iload_n dX9_find_6 rfl ?_
  refine fz_put1 dX9_find_7 fX9_30 rfl (Nat.le_of_ble_eq_true rfl) ⟨rfl, rfl⟩ ?_
  refine fz_aload_n dX9_find_10 rfl ?_
  refine fz_iload_n dX9_find_11 rfl ?_
  refine fz_put1 dX9_find_12 fX9_33 rfl (Nat.le_of_ble_eq_true rfl) ⟨rfl, rfl⟩ ?_
  refine fz_aload_n dX9_find_15 rfl ?_
  refine fz_iload dX9_find_16 rfl ?_
  refine fz_put1 dX9_find_18 fX9_36 rfl (Nat.le_of_ble_eq_true rfl) ⟨rfl, rfl⟩ ?_
  refine fz_aload_n dX9_find_21 rfl ?_
  refine fz_get dX9_find_22 fX9_22 rfl (Nat.one_pos) rfl ?_
  refine fz_aload_n dX9_find_25 rfl ?_
  refine fz_get dX9_find_26 fX9_26 rfl (Nat.one_pos) rfl ?_
  refine fz_aload_n dX9_find_29 rfl ?_
  refine fz_get dX9_find_30 fX9_30 rfl (Nat.one_pos) rfl ?_
  refine fz_callV (tX8_cellAt (nI rn) rows en et r t (by omega) (by omega)) dX9_find_33 kX9_39 rfl (Nat.one_pos) ⟨rfl, rfl, rfl, rfl, trivial⟩ (Nat.le_of_ble_eq_true rfl) (Nat.le_of_ble_eq_true rfl) (Nat.le_of_ble_eq_true rfl) (Nat.le_of_ble_eq_true rfl) (Nat.le_of_ble_eq_true rfl) rfl (fun r U hq => ?_)
  obtain ⟨rfl, rfl⟩ := hq
  refine fz_back rfl ?_
  rw [hP r t hr (by omega), hPc]
  refine fz_wo (V' := wFo g sz wd st op rn rows en et ow lo hi r t (oI sho) (nI goal) re al) rfl ?_
  have main : fz_J G mX9_find rX9_find (fz_Z G E0 rX9_find.cells rX9_find.slots (fun x U => ∃ lo hi re al rows' en' et' ow', fdQ cn w kn P te rn r t sho c0 goal rows en et ow en0 x rows' en' et' ow' ∧ U = wFo g sz wd st op rn rows' en' et' ow' lo hi r t (oI sho) (nI goal) re al)) E0 0 0 62 [(6, zI (nI (s0f sho c0))), (5, zI (nI c0)), (0, zR 25 0)] [] (wFo g sz wd st op rn rows en et ow lo hi r t (oI sho) (nI goal) re al) := by
    refine fz_aload_n dX9_find_62 rfl ?_
    refine fz_iconst (v := nI 0) dX9_find_63 (by decide) ?_
    refine fz_callV (tX9_empty g lo hi (nI r) (nI t) (oI sho) (nI goal) 0 (by omega) re) dX9_find_64 kX9_45 rfl (Nat.one_pos) ⟨rfl, rfl, trivial⟩ (Nat.le_of_ble_eq_true rfl) (Nat.le_of_ble_eq_true rfl) (Nat.le_of_ble_eq_true rfl) (Nat.le_of_ble_eq_true rfl) (Nat.le_of_ble_eq_true rfl) rfl (fun r U hq => ?_)
    obtain ⟨rfl, re2, hre2, rfl⟩ := hq
    refine fz_back rfl ?_
    refine fz_wo (V' := wFo g sz wd st op rn rows en et ow lo hi r t (oI sho) (nI goal) re2 al) rfl ?_
    refine fz_aload_n dX9_find_67 rfl ?_
    refine fz_iconst (v := nI 2) dX9_find_68 (by decide) ?_
    refine fz_iload dX9_find_69 rfl ?_
    refine fz_imul dX9_find_71 ?_
    refine fz_iload dX9_find_72 rfl ?_
    rw [nI_mul]
    refine fz_callV (tX9_add g lo hi (nI r) (nI t) (oI sho) (nI goal) (2 * s0f sho c0) c0 (by omega) (by omega) re2) dX9_find_74 kX9_49 rfl (Nat.one_pos) ⟨rfl, rfl, trivial⟩ (Nat.le_of_ble_eq_true rfl) (Nat.le_of_ble_eq_true rfl) (Nat.le_of_ble_eq_true rfl) (Nat.le_of_ble_eq_true rfl) (Nat.le_of_ble_eq_true rfl) rfl (fun r U hq => ?_)
    obtain ⟨rfl, rfl⟩ := hq
    refine fz_back rfl ?_
    have hone := one_set (k := 0) hs0 (show c0 < 80 by omega) hre2
    rw [show 4 * 0 + 2 * s0f sho c0 = 2 * s0f sho c0 by omega] at hone
    refine fz_wo (V' := wFo g sz wd st op rn rows en et ow lo hi r t (oI sho) (nI goal) (vp_updL re2 (2 * s0f sho c0 + c0 / 64) (re2 (2 * s0f sho c0 + c0 / 64) ||| ((1 : Int64) <<< ((nI c0).toInt64 &&& 63)))) al) rfl ?_
    have hre0 : reA cn w kn P rn r t sho (s0f sho c0) c0 0 (vp_updL re2 (2 * s0f sho c0 + c0 / 64) (re2 (2 * s0f sho c0 + c0 / 64) ||| ((1 : Int64) <<< ((nI c0).toInt64 &&& 63)))) := by
      intro j hj s d hs hd
      have e : j = 0 := by omega
      subst e
      exact hone s d hs hd
    refine fz_aload_n dX9_find_77 rfl ?_
    refine fz_callV (tX9_reachGoal g hg sz wd st op rn rows en et r t cn w kn P te sho (s0f sho c0) c0 goal hC lo hi _ al hre0) dX9_find_78 kX9_53 rfl (Nat.one_pos) ⟨rfl, rfl, rfl, rfl, rfl, rfl, rfl, rfl, rfl, rfl, trivial⟩ (Nat.le_of_ble_eq_true rfl) (Nat.le_of_ble_eq_true rfl) (Nat.le_of_ble_eq_true rfl) (Nat.le_of_ble_eq_true rfl) (Nat.le_of_ble_eq_true rfl) rfl (fun r U hq => ?_)
    obtain ⟨lo3, hi3, re3, al3, hrg, rfl⟩ := hq
    rcases hrg with ⟨L, hL1, rfl, hok, hmin, hreL⟩ | ⟨rfl, hno⟩
    · skip
      refine fz_back rfl ?_
      refine fz_wo (V' := wFo g sz wd st op rn rows en et ow lo3 hi3 r t (oI sho) (nI goal) re3 al3) rfl ?_
      refine fz_istore dX9_find_81 (Nat.le_of_ble_eq_true rfl) ?_
      refine fz_iload dX9_find_83 rfl ?_
      refine fz_iconst (v := -1) dX9_find_85 (by decide) ?_
      refine fz_icmp_ne (tgt := 91) dX9_find_86 (by decide) (fun c86 => ?_) (fun c86 => ?_)
      · skip
        refine fz_aload_n dX9_find_91 rfl ?_
        refine fz_iload dX9_find_92 rfl ?_
        refine fz_callV (tX9_empty g lo3 hi3 (nI r) (nI t) (oI sho) (nI goal) L (by omega) re3) dX9_find_94 kX9_45 rfl (Nat.one_pos) ⟨rfl, rfl, trivial⟩ (Nat.le_of_ble_eq_true rfl) (Nat.le_of_ble_eq_true rfl) (Nat.le_of_ble_eq_true rfl) (Nat.le_of_ble_eq_true rfl) (Nat.le_of_ble_eq_true rfl) rfl (fun r U hq => ?_)
        obtain ⟨rfl, re4, hre4, rfl⟩ := hq
        refine fz_back rfl ?_
        refine fz_wo (V' := wFo g sz wd st op rn rows en et ow lo3 hi3 r t (oI sho) (nI goal) re4 al3) rfl ?_
        refine fz_aload_n dX9_find_97 rfl ?_
        refine fz_iconst (v := nI 4) dX9_find_98 (by decide) ?_
        refine fz_iload dX9_find_99 rfl ?_
        refine fz_imul dX9_find_101 ?_
        refine fz_iconst (v := nI 2) dX9_find_102 (by decide) ?_
        refine fz_iadd dX9_find_103 ?_
        refine fz_aload_n dX9_find_104 rfl ?_
        refine fz_get dX9_find_105 fX9_36 rfl (Nat.one_pos) rfl ?_
        rw [nI_mul, nI_add]
        refine fz_callV (tX9_add g lo3 hi3 (nI r) (nI t) (oI sho) (nI goal) (4 * L + 2) goal (by omega) hgo re4) dX9_find_108 kX9_49 rfl (Nat.one_pos) ⟨rfl, rfl, trivial⟩ (Nat.le_of_ble_eq_true rfl) (Nat.le_of_ble_eq_true rfl) (Nat.le_of_ble_eq_true rfl) (Nat.le_of_ble_eq_true rfl) (Nat.le_of_ble_eq_true rfl) rfl (fun r U hq => ?_)
        obtain ⟨rfl, rfl⟩ := hq
        refine fz_back rfl ?_
        have hone2 := one_set (s0 := 1) (by omega) hgo hre4
        have helse2 := one_else (s0 := 1) (by omega) hgo (re4 (4 * L + 2 + goal / 64) ||| ((1 : Int64) <<< ((nI goal).toInt64 &&& 63))) hre4
        rw [show 4 * L + 2 * 1 = 4 * L + 2 by omega] at hone2 helse2
        refine fz_wo (V' := wFo g sz wd st op rn rows en et ow lo3 hi3 r t (oI sho) (nI goal) (vp_updL re4 (4 * L + 2 + goal / 64) (re4 (4 * L + 2 + goal / 64) ||| ((1 : Int64) <<< ((nI goal).toInt64 &&& 63)))) al3) rfl ?_
        have fin : ∀ lo hi re al (x : Int32), leA cn w kn P rn r t sho (s0f sho c0) c0 goal L 0 re → fz_J G mX9_find rX9_find (fz_Z G E0 rX9_find.cells rX9_find.slots (fun x U => ∃ lo hi re al rows' en' et' ow', fdQ cn w kn P te rn r t sho c0 goal rows en et ow en0 x rows' en' et' ow' ∧ U = wFo g sz wd st op rn rows' en' et' ow' lo hi r t (oI sho) (nI goal) re al)) E0 0 0 140 [(8, zI x), (7, zI (nI L)), (6, zI (nI (s0f sho c0))), (5, zI (nI c0)), (0, zR 25 0)] [] (wFo g sz wd st op rn rows en et ow lo hi r t (oI sho) (nI goal) re al) := by
          intro lo5 hi5 re5 al5 x hle5
          refine fz_aload_n dX9_find_140 rfl ?_
          refine fz_iload dX9_find_141 rfl ?_
          refine fz_iload dX9_find_143 rfl ?_
          refine fz_iload dX9_find_145 rfl ?_
          refine fz_callV (tX9_follow g hg sz wd st op rn rows en et ow r t cn w kn P te sho (s0f sho c0) c0 goal hC hter en0 hen hen0 L hL1 hok.2 re5 hle5 lo5 hi5 al5) dX9_find_147 kX9_63 rfl (Nat.one_pos) ⟨rfl, rfl, rfl, rfl, rfl, rfl, rfl, rfl, rfl, rfl, rfl, trivial⟩ (Nat.le_of_ble_eq_true rfl) (Nat.le_of_ble_eq_true rfl) (Nat.le_of_ble_eq_true rfl) (Nat.le_of_ble_eq_true rfl) (Nat.le_of_ble_eq_true rfl) rfl (fun r U hq => ?_)
          obtain ⟨rfl, lo6, hi6, al6, rows6, p, sp, hw1, hw2, rfl⟩ := hq
          refine fz_back rfl ?_
          refine fz_iload dX9_find_150 rfl ?_
          refine fz_iret dX9_find_152 rfl (Nat.zero_le _) (Nat.zero_le _) ⟨lo6, hi6, re5, al6, rows6, _, _, _, Or.inl ⟨L, p, sp, hL1, rfl, hok, hmin, hw1, hw2, rfl, rfl, rfl⟩, rfl⟩
        have hlast : leA cn w kn P rn r t sho (s0f sho c0) c0 goal L (L - 1) (vp_updL re4 (4 * L + 2 + goal / 64) (re4 (4 * L + 2 + goal / 64) ||| ((1 : Int64) <<< ((nI goal).toInt64 &&& 63)))) := by
          intro j hj1 hj2 s d hs hd
          have e : j = L := by omega
          subst e
          rw [Nat.sub_self]
          exact hone2 s d hs hd
        refine fz_iload dX9_find_111 rfl ?_
        refine fz_iconst (v := nI 1) dX9_find_113 (by decide) ?_
        refine fz_isub dX9_find_114 ?_
        by_cases hL0 : L = 0
        · subst hL0
          refine fz_istore dX9_find_115 (Nat.le_of_ble_eq_true rfl) ?_
          refine fz_iload dX9_find_117 rfl ?_
          refine fz_if_le (tgt := 140) dX9_find_119 (by decide) (fun c119 => ?_) (fun c119 => ?_)
          · exact fin _ _ _ _ _ (fun j h1 h2 => by omega)
          · exact absurd (by decide) c119
        · rw [pk_sub (by omega)]
          refine fz_istore dX9_find_115 (Nat.le_of_ble_eq_true rfl) ?_
          refine lX9_find g hg sz wd st op rn rows en et ow r t cn w kn P te sho (s0f sho c0) c0 goal hC L hL1 hok.2 fin (L - 1) (by omega) lo3 hi3 _ al3 (fun j hj s d hs hd => ?_) hlast
          have e1 : xS (vp_updL re4 (4 * L + 2 + goal / 64) (re4 (4 * L + 2 + goal / 64) ||| ((1 : Int64) <<< ((nI goal).toInt64 &&& 63)))) (4 * j + 2 * s) d = xS re3 (4 * j + 2 * s) d := by
            show X2 _ _ d = X2 _ _ d
            rw [helse2 _ (by omega), helse2 _ (by omega)]
          rw [e1]
          exact hreL j (by omega) s d hs hd
      · exact absurd c86 (oI_ne (by omega))
    · skip
      refine fz_back rfl ?_
      refine fz_wo (V' := wFo g sz wd st op rn rows en et ow lo3 hi3 r t (oI sho) (nI goal) re3 al3) rfl ?_
      refine fz_istore dX9_find_81 (Nat.le_of_ble_eq_true rfl) ?_
      refine fz_iload dX9_find_83 rfl ?_
      refine fz_iconst (v := -1) dX9_find_85 (by decide) ?_
      refine fz_icmp_ne (tgt := 91) dX9_find_86 (by decide) (fun c86 => ?_) (fun c86 => ?_)
      · exact absurd rfl c86
      · skip
        refine fz_iconst (v := -1) dX9_find_89 (by decide) ?_
        refine fz_iret dX9_find_90 rfl (Nat.zero_le _) (Nat.zero_le _) ⟨lo3, hi3, re3, al3, rows, en, et, ow, Or.inr ⟨rfl, hno, rfl, rfl, rfl, rfl⟩, rfl⟩
  refine fz_istore dX9_find_36 (Nat.le_of_ble_eq_true rfl) ?_
  refine fz_aload_n dX9_find_38 rfl ?_
  refine fz_get dX9_find_39 fX9_33 rfl (Nat.one_pos) rfl ?_
  refine fz_iconst (v := -1) dX9_find_42 (by decide) ?_
  refine fz_icmp_eq (tgt := 55) dX9_find_43 (by decide) (fun c43 => ?_) (fun c43 => ?_)
  · have e : s0f sho c0 = 1 := by
      unfold s0f
      rw [if_pos]
      cases sho with
      | none => exact Or.inl rfl
      | some h => exact absurd c43 (oI_ne (by have := hsh h rfl; omega))
    rw [e] at main
    refine fz_iconst (v := nI 1) dX9_find_55 (by decide) ?_
    refine fz_goto (tgt := 60) dX9_find_56 (by decide) ?_
    refine fz_istore dX9_find_60 (Nat.le_of_ble_eq_true rfl) ?_
    refine fz_pk [0, 1, 2] rfl ?_
    exact main
  · skip
    refine fz_aload_n dX9_find_46 rfl ?_
    refine fz_get dX9_find_47 fX9_33 rfl (Nat.one_pos) rfl ?_
    refine fz_iload dX9_find_50 rfl ?_
    have hn : ¬ sho = none := fun z => c43 (by rw [z]; rfl)
    refine fz_icmp_ne (tgt := 59) dX9_find_52 (by decide) (fun c52 => ?_) (fun c52 => ?_)
    · have e : s0f sho c0 = 0 := by
        unfold s0f
        rw [if_neg]
        rintro (z | z)
        · exact hn z
        · rw [z] at c52; exact c52 rfl
      rw [e] at main
      refine fz_iconst (v := nI 0) dX9_find_59 (by decide) ?_
      refine fz_istore dX9_find_60 (Nat.le_of_ble_eq_true rfl) ?_
      refine fz_pk [0, 1, 2] rfl ?_
      exact main
    · have e : s0f sho c0 = 1 := by
        unfold s0f
        rw [if_pos]
        cases sho with
        | none => exact Or.inl rfl
        | some h =>
          have := hsh h rfl
          exact Or.inr (by rw [(nI_eq (by omega) (by omega)).mp c52])
      rw [e] at main
      refine fz_iconst (v := nI 1) dX9_find_55 (by decide) ?_
      refine fz_goto (tgt := 60) dX9_find_56 (by decide) ?_
      refine fz_istore dX9_find_60 (Nat.le_of_ble_eq_true rfl) ?_
      refine fz_pk [0, 1, 2] rfl ?_
      exact main
