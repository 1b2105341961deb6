/-! THE MAP: its moves; FleetController$Grid's small methods -/
/-- the cell to which move m leads from cell c, in a map of cn cells in lines of w -/
def nx (cn w c m : Nat) : Option Nat := if m = 0 then some c else if m = 1 then (if w ≤ c then some (c - w) else none) else if m = 2 then (if c % w + 1 < w then some (c + 1) else none) else if m = 3 then (if c + w < cn then some (c + w) else none) else (if 0 < c % w then some (c - 1) else none)
/-- whether move m can be made from cell c: neither is a wall -/
def opb (cn w : Nat) (kn : Nat → Nat) (c m : Nat) : Bool := !(kn c == 0) && (match nx cn w c m with
  | none => false
  | some d => !(kn d == 0))
def stI (w m : Nat) : Int32 := if m = 0 then 0 else if m = 1 then -(nI w) else if m = 2 then 1 else if m = 3 then nI w else -1
abbrev eGr (sz wd : Nat → Int32) : fz_E := zo 1 2 (fun g => [zR 3 g, zR 4 g, zR 5 g, zR 6 g, zR 7 g, zI (sz g), zI (wd g)])
abbrev e5 (f : Nat → Nat → Int32) : fz_E := zi 0 2 5 f
abbrev e8 (f : Nat → Nat → Int32) : fz_E := zi 0 2 80 f
abbrev eL (f : Nat → Nat → Int64) : fz_E := zl 1 2 10 f
theorem tX1_size {G : fz_G} (g : Nat) (hg : g < 2) (sz wd : Nat → Int32) : fz_T G mX1_size rX1_size [zR 2 g] [(2, eGr sz wd)] (fun r U => r = some (zI (sz g)) ∧ U = [(2, eGr sz wd)]) := by
  refine fz_T.of (by decide) (Nat.le_of_ble_eq_true rfl) (fun E0 => ?_)
  refine fz_aload_n dX1_size_0 rfl ?_
  refine fz_get dX1_size_1 fX1_28 rfl (hg) rfl ?_
  refine fz_iret dX1_size_4 rfl (Nat.zero_le _) (Nat.zero_le _) ⟨rfl, rfl⟩
theorem tX1_has_in {G : fz_G} (g : Nat) (hg : g < 2) (sz wd : Nat → Int32) (cn : Nat) (hs : sz g = nI cn) (hc : cn ≤ 80) (j : Nat) (hj : j < cn) : fz_T G mX1_has rX1_has [zR 2 g, zI (nI j)] [(2, eGr sz wd)] (fun r U => r = some (zI 1) ∧ U = [(2, eGr sz wd)]) := by
  refine fz_T.of (by decide) (Nat.le_of_ble_eq_true rfl) (fun E0 => ?_)
  refine fz_iload_n dX1_has_0 rfl ?_
  refine fz_if_lt (tgt := 16) dX1_has_1 (by decide) (fun c => ?_) (fun c => ?_)
  · exact absurd c (nI_pos (by omega))
  · skip
    refine fz_iload_n dX1_has_4 rfl ?_
    refine fz_aload_n dX1_has_5 rfl ?_
    refine fz_get dX1_has_6 fX1_28 rfl (hg) rfl ?_
    rw [hs]
    refine fz_icmp_ge (tgt := 16) dX1_has_9 (by decide) (fun c9 => ?_) (fun c9 => ?_)
    · exact absurd ((nI_leI (by omega) (by omega)).mp c9) (by omega)
    · skip
      refine fz_iconst (v := nI 1) dX1_has_12 (by decide) ?_
      refine fz_goto (tgt := 17) dX1_has_13 (by decide) ?_
      refine fz_zret dX1_has_17 rfl (by decide) (Nat.zero_le _) (Nat.zero_le _) ⟨rfl, rfl⟩
theorem tX1_has_out {G : fz_G} (g : Nat) (hg : g < 2) (sz wd : Nat → Int32) (x : Int32) (hx : x < 0 ∨ sz g ≤ x) : fz_T G mX1_has rX1_has [zR 2 g, zI x] [(2, eGr sz wd)] (fun r U => r = some (zI 0) ∧ U = [(2, eGr sz wd)]) := by
  refine fz_T.of (by decide) (Nat.le_of_ble_eq_true rfl) (fun E0 => ?_)
  refine fz_iload_n dX1_has_0 rfl ?_
  refine fz_if_lt (tgt := 16) dX1_has_1 (by decide) (fun c => ?_) (fun c => ?_)
  · skip
    refine fz_iconst (v := nI 0) dX1_has_16 (by decide) ?_
    refine fz_zret dX1_has_17 rfl (by decide) (Nat.zero_le _) (Nat.zero_le _) ⟨rfl, rfl⟩
  · skip
    refine fz_iload_n dX1_has_4 rfl ?_
    refine fz_aload_n dX1_has_5 rfl ?_
    refine fz_get dX1_has_6 fX1_28 rfl (hg) rfl ?_
    refine fz_icmp_ge (tgt := 16) dX1_has_9 (by decide) (fun c9 => ?_) (fun c9 => ?_)
    · skip
      refine fz_iconst (v := nI 0) dX1_has_16 (by decide) ?_
      refine fz_zret dX1_has_17 rfl (by decide) (Nat.zero_le _) (Nat.zero_le _) ⟨rfl, rfl⟩
    · exact absurd (hx.resolve_left c) c9
theorem tX1_kindAt_in {G : fz_G} (g : Nat) (hg : g < 2) (sz wd : Nat → Int32) (ki : Nat → Nat → Int32) (cn : Nat) (hs : sz g = nI cn) (hc : cn ≤ 80) (j : Nat) (hj : j < cn) : fz_T G mX1_kindAt rX1_kindAt [zR 2 g, zI (nI j)] [(2, eGr sz wd), (5, e8 ki)] (fun r U => r = some (zI (ki g j)) ∧ U = [(2, eGr sz wd), (5, e8 ki)]) := by
  refine fz_T.of (by decide) (Nat.le_of_ble_eq_true rfl) (fun E0 => ?_)
  refine fz_aload_n dX1_kindAt_0 rfl ?_
  refine fz_iload_n dX1_kindAt_1 rfl ?_
  refine fz_callV (tX1_has_in g hg sz wd cn hs hc j hj) dX1_kindAt_2 kX1_32 rfl (hg) ⟨rfl, trivial⟩ (Nat.le_of_ble_eq_true rfl) (Nat.le_of_ble_eq_true rfl) (Nat.le_of_ble_eq_true rfl) (Nat.le_of_ble_eq_true rfl) (Nat.le_of_ble_eq_true rfl) rfl (fun r U hq => ?_)
  obtain ⟨rfl, rfl⟩ := hq
  refine fz_back rfl ?_
  refine fz_if_eq (tgt := 17) dX1_kindAt_5 (by decide) (fun c => ?_) (fun c => ?_)
  · exact absurd c (by decide)
  · skip
    refine fz_aload_n dX1_kindAt_8 rfl ?_
    refine fz_get dX1_kindAt_9 fX1_19 rfl (hg) rfl ?_
    refine fz_iload_n dX1_kindAt_12 rfl ?_
    refine fz_iald dX1_kindAt_13 rfl rfl (hg) (vp_in_nI (by omega) (by omega)) ?_
    refine fz_goto (tgt := 18) dX1_kindAt_14 (by decide) ?_
    rw [nI_clamp (by omega)]
    refine fz_iret dX1_kindAt_18 rfl (Nat.zero_le _) (Nat.zero_le _) ⟨rfl, rfl⟩
theorem tX1_kindAt_out {G : fz_G} (g : Nat) (hg : g < 2) (sz wd : Nat → Int32) (ki : Nat → Nat → Int32) (x : Int32) (hx : x < 0 ∨ sz g ≤ x) : fz_T G mX1_kindAt rX1_kindAt [zR 2 g, zI x] [(2, eGr sz wd), (5, e8 ki)] (fun r U => r = some (zI (-1)) ∧ U = [(2, eGr sz wd), (5, e8 ki)]) := by
  refine fz_T.of (by decide) (Nat.le_of_ble_eq_true rfl) (fun E0 => ?_)
  refine fz_aload_n dX1_kindAt_0 rfl ?_
  refine fz_iload_n dX1_kindAt_1 rfl ?_
  refine fz_callV (tX1_has_out g hg sz wd x hx) dX1_kindAt_2 kX1_32 rfl (hg) ⟨rfl, trivial⟩ (Nat.le_of_ble_eq_true rfl) (Nat.le_of_ble_eq_true rfl) (Nat.le_of_ble_eq_true rfl) (Nat.le_of_ble_eq_true rfl) (Nat.le_of_ble_eq_true rfl) rfl (fun r U hq => ?_)
  obtain ⟨rfl, rfl⟩ := hq
  refine fz_back rfl ?_
  refine fz_if_eq (tgt := 17) dX1_kindAt_5 (by decide) (fun c => ?_) (fun c => ?_)
  · skip
    refine fz_iconst (v := -1) dX1_kindAt_17 (by decide) ?_
    refine fz_iret dX1_kindAt_18 rfl (Nat.zero_le _) (Nat.zero_le _) ⟨rfl, rfl⟩
  · exact absurd rfl c
theorem tX1_isPlace {G : fz_G} (g : Nat) (hg : g < 2) (sz wd : Nat → Int32) (ki : Nat → Nat → Int32) (j b : Nat) (hj : j < 80) (hb : b < 2 ^ 31) (hk : ki g j = nI b) : fz_T G mX1_isPlace rX1_isPlace [zR 2 g, zI (nI j)] [(2, eGr sz wd), (5, e8 ki)] (fun r U => r = some (zI (if 1 < b then 1 else 0)) ∧ U = [(2, eGr sz wd), (5, e8 ki)]) := by
  refine fz_T.of (by decide) (Nat.le_of_ble_eq_true rfl) (fun E0 => ?_)
  refine fz_aload_n dX1_isPlace_0 rfl ?_
  refine fz_get dX1_isPlace_1 fX1_19 rfl (hg) rfl ?_
  refine fz_iload_n dX1_isPlace_4 rfl ?_
  refine fz_iald dX1_isPlace_5 rfl rfl (hg) (vp_in_nI hj (by omega)) ?_
  refine fz_iconst (v := nI 1) dX1_isPlace_6 (by decide) ?_
  rw [nI_clamp (by omega), hk]
  refine fz_icmp_le (tgt := 14) dX1_isPlace_7 (by decide) (fun c => ?_) (fun c => ?_)
  · have h : ¬ 1 < b := by have := (nI_leI (by omega) (by omega)).mp c; omega
    refine fz_iconst (v := nI 0) dX1_isPlace_14 (by decide) ?_
    refine fz_zret dX1_isPlace_15 rfl (by decide) (Nat.zero_le _) (Nat.zero_le _) ⟨by rw [if_neg h]; rfl, rfl⟩
  · have h : 1 < b := by
      rcases Nat.lt_or_ge 1 b with z | z
      · exact z
      · exact absurd (nI_le z (by omega)) c
    refine fz_iconst (v := nI 1) dX1_isPlace_10 (by decide) ?_
    refine fz_goto (tgt := 15) dX1_isPlace_11 (by decide) ?_
    refine fz_zret dX1_isPlace_15 rfl (by decide) (Nat.zero_le _) (Nat.zero_le _) ⟨by rw [if_pos h]; rfl, rfl⟩
theorem tX1_measured {G : fz_G} (g : Nat) (hg : g < 2) (sz wd : Nat → Int32) (fa : Nat → Nat → Int32) (j : Nat) (hj : j < 80) : fz_T G mX1_measured rX1_measured [zR 2 g, zI (nI j)] [(2, eGr sz wd), (6, e8 fa)] (fun r U => r = some (zI (fa g j)) ∧ U = [(2, eGr sz wd), (6, e8 fa)]) := by
  refine fz_T.of (by decide) (Nat.le_of_ble_eq_true rfl) (fun E0 => ?_)
  refine fz_aload_n dX1_measured_0 rfl ?_
  refine fz_get dX1_measured_1 fX1_22 rfl (hg) rfl ?_
  refine fz_iload_n dX1_measured_4 rfl ?_
  refine fz_iald dX1_measured_5 rfl rfl (hg) (vp_in_nI hj (by omega)) ?_
  rw [nI_clamp (by omega)]
  refine fz_iret dX1_measured_6 rfl (Nat.zero_le _) (Nat.zero_le _) ⟨rfl, rfl⟩
theorem max_w {w : Nat} (h0 : 0 < w) (hw : w ≤ 10) : (if nI w < nI 1 then nI 1 else nI w) = nI w := by
  rw [if_neg]
  intro z
  have := (nI_ltI (by omega) (by omega)).mp z
  omega
theorem tX1_placeInText {G : fz_G} (g : Nat) (hg : g < 2) (sz wd : Nat → Int32) (w j : Nat) (h0 : 0 < w) (hw : w ≤ 10) (hd : wd g = nI w) (hj : j < 80) : fz_T G mX1_placeInText rX1_placeInText [zR 2 g, zI (nI j)] [(2, eGr sz wd)] (fun r U => r = some (zI (nI (j + j / w))) ∧ U = [(2, eGr sz wd)]) := by
  refine fz_T.of (by decide) (Nat.le_of_ble_eq_true rfl) (fun E0 => ?_)
  refine fz_iload_n dX1_placeInText_0 rfl ?_
  refine fz_iload_n dX1_placeInText_1 rfl ?_
  refine fz_aload_n dX1_placeInText_2 rfl ?_
  refine fz_get dX1_placeInText_3 fX1_36 rfl (hg) rfl ?_
  refine fz_iconst (v := nI 1) dX1_placeInText_6 (by decide) ?_
  refine fz_max dX1_placeInText_7 oX1_39 (Nat.le_of_ble_eq_true rfl) (Nat.le_of_ble_eq_true rfl) (Nat.zero_le _) (Nat.zero_le _) ?_
  rw [hd]
  refine fz_top (max_w h0 hw) ?_
  refine fz_idiv dX1_placeInText_10 (nI_ne0 h0 (by omega)) ?_
  refine fz_top (pk_div (by omega) h0 (by omega)) ?_
  refine fz_iadd dX1_placeInText_11 ?_
  rw [nI_add]
  refine fz_iret dX1_placeInText_12 rfl (Nat.zero_le _) (Nat.zero_le _) ⟨rfl, rfl⟩
theorem shr6 {j : Nat} (hj : j < 80) : nI j >>> (nI 6 &&& 31) = nI (j / 64) := by
  have h : (((nI 6 &&& 31 : Int32)).toBitVec.smod 32).toNat = 6 := by decide
  exact pk_shrN (by omega) _ 6 h
theorem ix_om {m j : Nat} (hm : m < 5) (hj : j < 80) : nI 2 * nI m + nI (j / 64) = nI (2 * m + j / 64) := by rw [nI_mul, nI_add]
theorem tX1_isOpen {G : fz_G} (g : Nat) (hg : g < 2) (sz wd : Nat → Int32) (op : Nat → Nat → Int64) (j m : Nat) (hj : j < 80) (hm : m < 5) : fz_T G mX1_isOpen rX1_isOpen [zR 2 g, zI (nI j), zI (nI m)] [(2, eGr sz wd), (4, eL op)] (fun r U => r = some (zI (if bl (op g (2 * m + j / 64)) (j % 64) then 1 else 0)) ∧ U = [(2, eGr sz wd), (4, eL op)]) := by
  refine fz_T.of (by decide) (Nat.le_of_ble_eq_true rfl) (fun E0 => ?_)
  refine fz_aload_n dX1_isOpen_0 rfl ?_
  refine fz_get dX1_isOpen_1 fX1_15 rfl (hg) rfl ?_
  refine fz_iconst (v := nI 2) dX1_isOpen_4 (by decide) ?_
  refine fz_iload_n dX1_isOpen_5 rfl ?_
  refine fz_imul dX1_isOpen_6 ?_
  refine fz_iload_n dX1_isOpen_7 rfl ?_
  refine fz_bipush (v := nI 6) dX1_isOpen_8 (by decide) ?_
  refine fz_ishr dX1_isOpen_10 ?_
  rw [shr6 hj]
  refine fz_iadd dX1_isOpen_11 ?_
  rw [ix_om hm hj]
  refine fz_lald dX1_isOpen_12 rfl rfl (hg) (vp_in_nI (by omega) (by omega)) ?_
  refine fz_iload_n dX1_isOpen_13 rfl ?_
  refine fz_lushr dX1_isOpen_14 ?_
  refine fz_lconst (v := 1) dX1_isOpen_15 (by decide) ?_
  refine fz_land dX1_isOpen_16 ?_
  rw [nI_clamp (by omega)]
  refine fz_topL (bl_test _ (by omega)) ?_
  refine fz_lconst (v := 0) dX1_isOpen_17 (by decide) ?_
  refine fz_lcmp dX1_isOpen_18 ?_
  refine fz_if_eq (tgt := 26) dX1_isOpen_19 (by decide) (fun c => ?_) (fun c => ?_)
  · have c := (lg_cmp_eq _ _).mp c
    refine fz_iconst (v := nI 0) dX1_isOpen_26 (by decide) ?_
    refine fz_zret dX1_isOpen_27 rfl (by decide) (Nat.zero_le _) (Nat.zero_le _) ⟨?_, rfl⟩
    split at c
    · exact absurd c (by decide)
    · rename_i h
      rw [if_neg h]; rfl
  · have c := fun z => c ((lg_cmp_eq _ _).mpr z)
    refine fz_iconst (v := nI 1) dX1_isOpen_22 (by decide) ?_
    refine fz_goto (tgt := 27) dX1_isOpen_23 (by decide) ?_
    refine fz_zret dX1_isOpen_27 rfl (by decide) (Nat.zero_le _) (Nat.zero_le _) ⟨?_, rfl⟩
    split at c
    · rename_i h
      rw [if_pos h]; rfl
    · exact absurd rfl c
