/-! WaySearch: spread -/
theorem X2_and (a b c d : Int64) (i : Nat) : X2 (a &&& b) (c &&& d) i = (X2 a c i && X2 b d i) := by
  unfold X2
  split <;> rw [bl_and]
theorem X2_or2 (a b c d : Int64) (i : Nat) : X2 (a ||| b) (c ||| d) i = (X2 a c i || X2 b d i) := by
  unfold X2
  split <;> rw [bl_or]
theorem X2_andnot (a b c d : Int64) {i : Nat} (hi : i < 128) : X2 (a &&& (b ^^^ (-1))) (c &&& (d ^^^ (-1))) i = (X2 a c i && !X2 b d i) := by
  unfold X2
  by_cases h : i < 64
  · simp only [if_pos h]
    rw [bl_and, bl_not _ h]
  · simp only [if_neg h]
    rw [bl_and, bl_not _ (by omega)]
theorem X2_big (a b : Int64) {i : Nat} (hi : 128 ≤ i) : X2 a b i = false := by
  unfold X2
  rw [if_neg (by omega), bl_big (by omega)]
theorem X2_inS (re : Nat → Int64) (at_ : Nat) {c : Nat} (hc : c < 128) : X2 (re at_) (re (at_ + 1)) c = inS re at_ c := by
  unfold X2 inS
  by_cases h : c < 64
  · rw [if_pos h, show c / 64 = 0 by omega, show c % 64 = c by omega]; rfl
  · rw [if_neg h, show c / 64 = 1 by omega, show c % 64 = c - 64 by omega]
/-- a set moved by move m -/
def shf (w m : Nat) (X : Nat → Bool) (d : Nat) : Bool := if m = 1 then X (d + w) else if m = 2 then (decide (1 ≤ d) && X (d - 1)) else if m = 3 then (decide (w ≤ d) && X (d - w)) else X (d + 1)
theorem tX9_shLow {G : fz_G} (lo hi : Int64) (w m : Nat) (h0 : 0 < w) (hw : w ≤ 10) (h1 : 1 ≤ m) (h5 : m < 5) : fz_T G mX9_shiftedLow rX9_shiftedLow [zL lo, zL hi, zI (stI w m)] [] (fun r U => (∃ x : Int64, r = some (zL x) ∧ ∀ i, i < 64 → bl x i = shf w m (X2 lo hi) i) ∧ U = []) := by
  rcases (show m = 1 ∨ m = 2 ∨ m = 3 ∨ m = 4 by omega) with rfl | rfl | rfl | rfl
  · exact tX9_shiftedLow_n lo hi w h0 hw
  · exact tX9_shiftedLow_p lo hi 1 (by omega) (by omega)
  · exact tX9_shiftedLow_p lo hi w h0 hw
  · exact tX9_shiftedLow_n lo hi 1 (by omega) (by omega)
theorem tX9_shHigh {G : fz_G} (lo hi : Int64) (w m : Nat) (h0 : 0 < w) (hw : w ≤ 10) (h1 : 1 ≤ m) (h5 : m < 5) : fz_T G mX9_shiftedHigh rX9_shiftedHigh [zL lo, zL hi, zI (stI w m)] [] (fun r U => (∃ x : Int64, r = some (zL x) ∧ ∀ i, i < 64 → bl x i = shf w m (X2 lo hi) (64 + i)) ∧ U = []) := by
  rcases (show m = 1 ∨ m = 2 ∨ m = 3 ∨ m = 4 by omega) with rfl | rfl | rfl | rfl
  · exact tX9_shiftedHigh_n lo hi w h0 hw
  · refine (tX9_shiftedHigh_p lo hi 1 (by omega) (by omega)).mono (fun r U h => ?_)
    obtain ⟨⟨x, e, hx⟩, rfl⟩ := h
    refine ⟨⟨x, e, fun i hi => ?_⟩, rfl⟩
    rw [hx i hi]
    unfold shf
    rw [if_neg (by decide), if_pos rfl, decide_eq_true (by omega), Bool.true_and]
  · refine (tX9_shiftedHigh_p lo hi w h0 hw).mono (fun r U h => ?_)
    obtain ⟨⟨x, e, hx⟩, rfl⟩ := h
    refine ⟨⟨x, e, fun i hi => ?_⟩, rfl⟩
    rw [hx i hi]
    unfold shf
    rw [if_neg (by decide), if_neg (by decide), if_pos rfl, decide_eq_true (by omega), Bool.true_and]
  · exact tX9_shiftedHigh_n lo hi 1 (by omega) (by omega)
/-- the sets X m of the moves before m, each moved -/
def acc (w : Nat) (X : Nat → Nat → Bool) (d : Nat) : Nat → Bool
  | 0 => false
  | m + 1 => acc w X d m || (decide (1 ≤ m) && shf w m (X m) d)
abbrev wSp (g : Nat) (sz wd : Nat → Int32) (st : Nat → Nat → Int32) (lo hi : Int64) (rb ts sh go : Int32) (re al : Nat → Int64) : fz_W := [(2, eGr sz wd), (3, e5 st), (25, eWS g lo hi rb ts sh go), (26, eRe re), (27, eAl al)]
/-- the set at a place of reached, and that of its cells from which move m is allowed -/
abbrev xS (re : Nat → Int64) (at_ c : Nat) : Bool := X2 (re at_) (re (at_ + 1)) c
abbrev xA (re al : Nat → Int64) (at_ m c : Nat) : Bool := X2 (re at_ &&& al (2 * m)) (re (at_ + 1) &&& al (2 * m + 1)) c
theorem X2_bits {x y : Int64} {f : Nat → Bool} (hx : ∀ i, i < 64 → bl x i = f i) (hy : ∀ i, i < 64 → bl y i = f (64 + i)) {d : Nat} (hd : d < 128) : X2 x y d = f d := by
  unfold X2
  by_cases h : d < 64
  · rw [if_pos h, hx d h]
  · rw [if_neg h, hy (d - 64) (by omega), show 64 + (d - 64) = d by omega]
theorem lX9_spread_36 {G : fz_G} {E0 : Nat → fz_E} {Z : List Frame → Array Value → State → State → Prop} (g : Nat) (hg : g < 2) (sz wd : Nat → Int32) (st : Nat → Nat → Int32) (lo hi : Int64) (rb ts sh go : Int32) (re al : Nat → Int64) (w k s at_ : Nat) (h0 : 0 < w) (hw : w ≤ 10) (hS : gS w (st g)) (hat : at_ + 1 < 4004)
    (kk : ∀ x y : Int64, (∀ d, d < 128 → X2 x y d = (xS re at_ d || acc w (xA re al at_) d 5)) → fz_J G mX9_spread rX9_spread Z E0 0 0 132 [(8, zI (nI 5)), (6, zL y), (4, zL x), (3, zI (nI at_)), (2, zI (nI s)), (0, zR 25 0), (1, zI (nI k))] [] (wSp g sz wd st lo hi rb ts sh go re al)) :
    ∀ q m, 1 ≤ m → m + q = 5 → ∀ x y : Int64, (∀ d, d < 128 → X2 x y d = (xS re at_ d || acc w (xA re al at_) d m)) → fz_J G mX9_spread rX9_spread Z E0 0 0 36 [(8, zI (nI m)), (6, zL y), (4, zL x), (3, zI (nI at_)), (2, zI (nI s)), (0, zR 25 0), (1, zI (nI k))] [] (wSp g sz wd st lo hi rb ts sh go re al) := by
  intro q
  induction q with
  | zero =>
    intro m hm1 hm x y hx
    have e : m = 5 := by omega
    subst e
    refine fz_iload dX9_spread_36 rfl ?_
    refine fz_iconst (v := nI 5) dX9_spread_38 (by decide) ?_
    refine fz_icmp_ge (tgt := 132) dX9_spread_39 (by decide) (fun c39 => ?_) (fun c39 => ?_)
    · exact kk x y hx
    · exact absurd (nI_le (Nat.le_refl _) (by omega)) c39
  | succ q ih =>
    intro m hm1 hm x y hx
    refine fz_iload dX9_spread_36 rfl ?_
    refine fz_iconst (v := nI 5) dX9_spread_38 (by decide) ?_
    refine fz_icmp_ge (tgt := 132) dX9_spread_39 (by decide) (fun c39 => ?_) (fun c39 => ?_)
    · exact absurd ((nI_leI (by omega) (by omega)).mp c39) (by omega)
    · skip
      refine fz_aload_n dX9_spread_42 rfl ?_
      refine fz_get dX9_spread_43 fX9_9 rfl (Nat.one_pos) rfl ?_
      refine fz_iload_n dX9_spread_46 rfl ?_
      refine fz_lald dX9_spread_47 rfl rfl (Nat.one_pos) (vp_in_nI (by omega) (by omega)) ?_
      refine fz_aload_n dX9_spread_48 rfl ?_
      refine fz_get dX9_spread_49 fX9_15 rfl (Nat.one_pos) rfl ?_
      refine fz_iconst (v := nI 2) dX9_spread_52 (by decide) ?_
      refine fz_iload dX9_spread_53 rfl ?_
      refine fz_imul dX9_spread_55 ?_
      rw [nI_clamp (by omega), nI_mul]
      refine fz_lald dX9_spread_56 rfl rfl (Nat.one_pos) (vp_in_nI (by omega) (by omega)) ?_
      refine fz_land dX9_spread_57 ?_
      refine fz_lstore dX9_spread_58 (Nat.le_of_ble_eq_true rfl) ?_
      refine fz_aload_n dX9_spread_60 rfl ?_
      refine fz_get dX9_spread_61 fX9_9 rfl (Nat.one_pos) rfl ?_
      refine fz_iload_n dX9_spread_64 rfl ?_
      refine fz_iconst (v := nI 1) dX9_spread_65 (by decide) ?_
      refine fz_iadd dX9_spread_66 ?_
      rw [nI_clamp (by omega), nI_add]
      refine fz_lald dX9_spread_67 rfl rfl (Nat.one_pos) (vp_in_nI (by omega) (by omega)) ?_
      refine fz_aload_n dX9_spread_68 rfl ?_
      refine fz_get dX9_spread_69 fX9_15 rfl (Nat.one_pos) rfl ?_
      refine fz_iconst (v := nI 2) dX9_spread_72 (by decide) ?_
      refine fz_iload dX9_spread_73 rfl ?_
      refine fz_imul dX9_spread_75 ?_
      refine fz_iconst (v := nI 1) dX9_spread_76 (by decide) ?_
      refine fz_iadd dX9_spread_77 ?_
      rw [nI_clamp (by omega), nI_mul, nI_add]
      refine fz_lald dX9_spread_78 rfl rfl (Nat.one_pos) (vp_in_nI (by omega) (by omega)) ?_
      refine fz_land dX9_spread_79 ?_
      refine fz_lstore dX9_spread_80 (Nat.le_of_ble_eq_true rfl) ?_
      refine fz_lload dX9_spread_82 rfl ?_
      refine fz_lload dX9_spread_84 rfl ?_
      refine fz_lload dX9_spread_86 rfl ?_
      refine fz_aload_n dX9_spread_88 rfl ?_
      refine fz_get dX9_spread_89 fX9_18 rfl (Nat.one_pos) rfl ?_
      refine fz_get dX9_spread_92 fX9_105 rfl (hg) rfl ?_
      refine fz_iload dX9_spread_95 rfl ?_
      refine fz_iald dX9_spread_97 rfl rfl (hg) (vp_in_nI (by omega) (by omega)) ?_
      rw [nI_clamp (by omega), nI_clamp (by omega), hS m (by omega)]
      refine fz_callS (tX9_shLow (re at_ &&& al (2 * m)) (re (at_ + 1) &&& al (2 * m + 1)) w m h0 hw hm1 (by omega)) dX9_spread_98 kX9_111 trivial (Nat.le_of_ble_eq_true rfl) (Nat.le_of_ble_eq_true rfl) (Nat.le_of_ble_eq_true rfl) (Nat.le_of_ble_eq_true rfl) (Nat.le_of_ble_eq_true rfl) rfl (fun r U hq => ?_)
      obtain ⟨⟨x2, rfl, hx2⟩, rfl⟩ := hq
      refine fz_back rfl ?_
      refine fz_lor dX9_spread_101 ?_
      refine fz_lstore dX9_spread_102 (Nat.le_of_ble_eq_true rfl) ?_
      refine fz_lload dX9_spread_104 rfl ?_
      refine fz_lload dX9_spread_106 rfl ?_
      refine fz_lload dX9_spread_108 rfl ?_
      refine fz_aload_n dX9_spread_110 rfl ?_
      refine fz_get dX9_spread_111 fX9_18 rfl (Nat.one_pos) rfl ?_
      refine fz_get dX9_spread_114 fX9_105 rfl (hg) rfl ?_
      refine fz_iload dX9_spread_117 rfl ?_
      refine fz_iald dX9_spread_119 rfl rfl (hg) (vp_in_nI (by omega) (by omega)) ?_
      rw [nI_clamp (by omega), hS m (by omega)]
      refine fz_callS (tX9_shHigh (re at_ &&& al (2 * m)) (re (at_ + 1) &&& al (2 * m + 1)) w m h0 hw hm1 (by omega)) dX9_spread_120 kX9_115 trivial (Nat.le_of_ble_eq_true rfl) (Nat.le_of_ble_eq_true rfl) (Nat.le_of_ble_eq_true rfl) (Nat.le_of_ble_eq_true rfl) (Nat.le_of_ble_eq_true rfl) rfl (fun r U hq => ?_)
      obtain ⟨⟨y2, rfl, hy2⟩, rfl⟩ := hq
      refine fz_back rfl ?_
      refine fz_lor dX9_spread_123 ?_
      refine fz_lstore dX9_spread_124 (Nat.le_of_ble_eq_true rfl) ?_
      refine fz_incN dX9_spread_126 rfl (Nat.le_of_ble_eq_true rfl) ?_
      refine fz_goto (tgt := 36) dX9_spread_129 (by decide) ?_
      refine fz_pk [0, 1, 2, 5, 6, 7, 8] rfl ?_
      refine ih (m + 1) (by omega) (by omega) (x ||| x2) (y ||| y2) (fun d hd => ?_)
      rw [X2_or2, hx d hd, X2_bits (f := shf w m (xA re al at_ m)) hx2 hy2 hd]
      show _ = (_ || (acc w (xA re al at_) d m || _))
      rw [decide_eq_true hm1, Bool.true_and, Bool.or_assoc]
