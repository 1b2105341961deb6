/-! THE TIMETABLE: FleetController$Timetable -/
theorem bt_bit (w : Int64) (k i : Nat) : (bt w k).testBit i = (decide (i < 8) && bl w (8 * k + i)) := by
  show (w.toBitVec.toNat / 2 ^ (8 * k) % 2 ^ 8).testBit i = _
  rw [Nat.testBit_mod_two_pow, Nat.testBit_div_two_pow, Nat.add_comm i]
  rfl
theorem bt_of {w : Int64} {k c : Nat} (hc : c < 256) (h : ∀ i, i < 8 → bl w (8 * k + i) = c.testBit i) : bt w k = c := by
  apply Nat.eq_of_testBit_eq
  intro i
  rw [bt_bit]
  by_cases hi : i < 8
  · rw [h i hi]; simp [hi]
  · have : c.testBit i = false := Nat.testBit_lt_two_pow (Nat.lt_of_lt_of_le hc (Nat.le_trans (show 256 ≤ 2 ^ 8 by decide) (Nat.pow_le_pow_right (by decide) (by omega))))
    simp [hi, this]
theorem bt_same {w w' : Int64} {k : Nat} (h : ∀ i, i < 8 → bl w (8 * k + i) = bl w' (8 * k + i)) : bt w k = bt w' k :=
  bt_of (bt_lt _ _) (fun i hi => by rw [h i hi, bt_bit]; simp [hi])
theorem bl_nI {c : Nat} (hc : c < 2 ^ 31) {i : Nat} (hi : i < 64) : bl (nI c).toInt64 i = c.testBit i := by
  rw [nI_l hc]
  show (BitVec.ofNat 64 c).getLsbD i = _
  rw [BitVec.getLsbD_ofNat]
  simp [hi]
theorem bl_255 {i : Nat} (hi : i < 64) : bl 255 i = decide (i < 8) := by
  have h : (255 : Int64) = (nI 255).toInt64 := by decide
  rw [h, bl_nI (by omega) hi]
  have h2 : ∀ i, i < 64 → (255 : Nat).testBit i = decide (i < 8) := by decide +kernel
  exact h2 i hi
/-- a byte of a long set anew -/
def wby (x : Int64) (r c : Nat) : Int64 := (x &&& (((255 : Int64) <<< ((nI (8 * r)).toInt64 &&& 63)) ^^^ (-1))) ||| ((nI c).toInt64 <<< ((nI (8 * r)).toInt64 &&& 63))
theorem wby_bit (x : Int64) {r c : Nat} (hr : r < 8) (hc : c < 256) {i : Nat} (hi : i < 64) : bl (wby x r c) i = if 8 * r ≤ i ∧ i < 8 * r + 8 then c.testBit (i - 8 * r) else bl x i := by
  unfold wby
  rw [bl_or, bl_and, bl_not _ hi, bl_shl _ (by omega) hi, bl_shl _ (by omega) hi, Nat.mod_eq_of_lt (show 8 * r < 64 by omega), bl_255 (by omega), bl_nI (by omega) (by omega)]
  by_cases h1 : 8 * r ≤ i
  · by_cases h2 : i < 8 * r + 8
    · have h3 : i - 8 * r < 8 := by omega
      rw [if_pos ⟨h1, h2⟩]
      simp [h1, h3]
    · have h3 : ¬ i - 8 * r < 8 := by omega
      have h4 : c.testBit (i - 8 * r) = false := Nat.testBit_lt_two_pow (Nat.lt_of_lt_of_le hc (Nat.le_trans (show 256 ≤ 2 ^ 8 by decide) (Nat.pow_le_pow_right (by decide) (by omega))))
      rw [if_neg (fun z => h2 z.2)]
      simp [h1, h3, h4]
  · rw [if_neg (fun z => h1 z.1)]
    simp [h1]
theorem wby_bt (x : Int64) {r c : Nat} (hr : r < 8) (hc : c < 256) {k : Nat} (hk : k < 8) : bt (wby x r c) k = if k = r then c else bt x k := by
  by_cases h : k = r
  · rw [if_pos h, h]
    exact bt_of hc (fun i hi => by rw [wby_bit x hr hc (by omega), if_pos (by omega), Nat.add_sub_cancel_left])
  · rw [if_neg h]
    exact bt_same (fun i hi => by rw [wby_bit x hr hc (by omega), if_neg (by omega)])
abbrev eTT (rb : Int32) : fz_E := zo 8 1 (fun _ => [zR 20 0, zR 21 0, zR 22 0, zR 23 0, zI rb])
abbrev eRw (rows : Nat → Int64) : fz_E := zl 1 1 5001 (fun _ => rows)
abbrev e6 (f : Nat → Int32) : fz_E := zi 0 1 6 (fun _ => f)
abbrev e80 (f : Nat → Int32) : fz_E := zi 0 1 80 (fun _ => f)
theorem tX8_robots {G : fz_G} (rb : Int32) : fz_T G mX8_robots rX8_robots [zR 19 0] [(19, eTT rb)] (fun r U => r = some (zI rb) ∧ U = [(19, eTT rb)]) := by
  refine fz_T.of (by decide) (Nat.le_of_ble_eq_true rfl) (fun E0 => ?_)
  refine fz_aload_n dX8_robots_0 rfl ?_
  refine fz_get dX8_robots_1 fX8_25 rfl (Nat.one_pos) rfl ?_
  refine fz_iret dX8_robots_4 rfl (Nat.zero_le _) (Nat.zero_le _) ⟨rfl, rfl⟩
theorem tX8_endOf {G : fz_G} (rb : Int32) (en : Nat → Int32) (r : Nat) (hr : r < 6) : fz_T G mX8_endOf rX8_endOf [zR 19 0, zI (nI r)] [(19, eTT rb), (21, e6 en)] (fun x U => x = some (zI (en r)) ∧ U = [(19, eTT rb), (21, e6 en)]) := by
  refine fz_T.of (by decide) (Nat.le_of_ble_eq_true rfl) (fun E0 => ?_)
  refine fz_aload_n dX8_endOf_0 rfl ?_
  refine fz_get dX8_endOf_1 fX8_15 rfl (Nat.one_pos) rfl ?_
  refine fz_iload_n dX8_endOf_4 rfl ?_
  refine fz_iald dX8_endOf_5 rfl rfl (Nat.one_pos) (vp_in_nI hr (by omega)) ?_
  rw [nI_clamp (by omega)]
  refine fz_iret dX8_endOf_6 rfl (Nat.zero_le _) (Nat.zero_le _) ⟨rfl, rfl⟩
theorem tX8_endTimeOf {G : fz_G} (rb : Int32) (et : Nat → Int32) (r : Nat) (hr : r < 6) : fz_T G mX8_endTimeOf rX8_endTimeOf [zR 19 0, zI (nI r)] [(19, eTT rb), (22, e6 et)] (fun x U => x = some (zI (et r)) ∧ U = [(19, eTT rb), (22, e6 et)]) := by
  refine fz_T.of (by decide) (Nat.le_of_ble_eq_true rfl) (fun E0 => ?_)
  refine fz_aload_n dX8_endTimeOf_0 rfl ?_
  refine fz_get dX8_endTimeOf_1 fX8_19 rfl (Nat.one_pos) rfl ?_
  refine fz_iload_n dX8_endTimeOf_4 rfl ?_
  refine fz_iald dX8_endTimeOf_5 rfl rfl (Nat.one_pos) (vp_in_nI hr (by omega)) ?_
  rw [nI_clamp (by omega)]
  refine fz_iret dX8_endTimeOf_6 rfl (Nat.zero_le _) (Nat.zero_le _) ⟨rfl, rfl⟩
theorem tX8_ownerOf {G : fz_G} (rb : Int32) (ow : Nat → Int32) (c : Nat) (hc : c < 80) : fz_T G mX8_ownerOf rX8_ownerOf [zR 19 0, zI (nI c)] [(19, eTT rb), (23, e80 ow)] (fun x U => x = some (zI (ow c)) ∧ U = [(19, eTT rb), (23, e80 ow)]) := by
  refine fz_T.of (by decide) (Nat.le_of_ble_eq_true rfl) (fun E0 => ?_)
  refine fz_aload_n dX8_ownerOf_0 rfl ?_
  refine fz_get dX8_ownerOf_1 fX8_22 rfl (Nat.one_pos) rfl ?_
  refine fz_iload_n dX8_ownerOf_4 rfl ?_
  refine fz_iald dX8_ownerOf_5 rfl rfl (Nat.one_pos) (vp_in_nI hc (by omega)) ?_
  rw [nI_clamp (by omega)]
  refine fz_iret dX8_ownerOf_6 rfl (Nat.zero_le _) (Nat.zero_le _) ⟨rfl, rfl⟩
theorem tX8_isEndOfOther {G : fz_G} (rb : Int32) (ow : Nat → Int32) (c r : Nat) (hc : c < 80) : fz_T G mX8_isEndOfOther rX8_isEndOfOther [zR 19 0, zI (nI c), zI (nI r)] [(19, eTT rb), (23, e80 ow)] (fun x U => x = some (zI (if ¬ ow c = -1 ∧ ¬ ow c = nI r then 1 else 0)) ∧ U = [(19, eTT rb), (23, e80 ow)]) := by
  refine fz_T.of (by decide) (Nat.le_of_ble_eq_true rfl) (fun E0 => ?_)
  refine fz_aload_n dX8_isEndOfOther_0 rfl ?_
  refine fz_get dX8_isEndOfOther_1 fX8_22 rfl (Nat.one_pos) rfl ?_
  refine fz_iload_n dX8_isEndOfOther_4 rfl ?_
  refine fz_iald dX8_isEndOfOther_5 rfl rfl (Nat.one_pos) (vp_in_nI hc (by omega)) ?_
  refine fz_iconst (v := -1) dX8_isEndOfOther_6 (by decide) ?_
  rw [nI_clamp (by omega)]
  refine fz_icmp_eq (tgt := 24) dX8_isEndOfOther_7 (by decide) (fun c7 => ?_) (fun c7 => ?_)
  · skip
    refine fz_iconst (v := nI 0) dX8_isEndOfOther_24 (by decide) ?_
    refine fz_zret dX8_isEndOfOther_25 rfl (by decide) (Nat.zero_le _) (Nat.zero_le _) ⟨by rw [if_neg (fun z => z.1 c7)]; rfl, rfl⟩
  · skip
    refine fz_aload_n dX8_isEndOfOther_10 rfl ?_
    refine fz_get dX8_isEndOfOther_11 fX8_22 rfl (Nat.one_pos) rfl ?_
    refine fz_iload_n dX8_isEndOfOther_14 rfl ?_
    refine fz_iald dX8_isEndOfOther_15 rfl rfl (Nat.one_pos) (vp_in_nI hc (by omega)) ?_
    refine fz_iload_n dX8_isEndOfOther_16 rfl ?_
    rw [nI_clamp (by omega)]
    refine fz_icmp_eq (tgt := 24) dX8_isEndOfOther_17 (by decide) (fun c17 => ?_) (fun c17 => ?_)
    · skip
      refine fz_iconst (v := nI 0) dX8_isEndOfOther_24 (by decide) ?_
      refine fz_zret dX8_isEndOfOther_25 rfl (by decide) (Nat.zero_le _) (Nat.zero_le _) ⟨by rw [if_neg (fun z => z.2 c17)]; rfl, rfl⟩
    · skip
      refine fz_iconst (v := nI 1) dX8_isEndOfOther_20 (by decide) ?_
      refine fz_goto (tgt := 25) dX8_isEndOfOther_21 (by decide) ?_
      refine fz_zret dX8_isEndOfOther_25 rfl (by decide) (Nat.zero_le _) (Nat.zero_le _) ⟨by rw [if_pos ⟨c7, c17⟩]; rfl, rfl⟩
theorem tX8_clear {G : fz_G} (rb : Int32) (ow : Nat → Int32) : fz_T G mX8_clear rX8_clear [zR 19 0] [(19, eTT rb), (23, e80 ow)] (fun x U => x = none ∧ ∃ ow', (∀ j, j < 80 → ow' j = -1) ∧ U = [(19, eTT 0), (23, e80 ow')]) := by
  refine fz_T.of (by decide) (Nat.le_of_ble_eq_true rfl) (fun E0 => ?_)
  refine fz_aload_n dX8_clear_0 rfl ?_
  refine fz_get dX8_clear_1 fX8_22 rfl (Nat.one_pos) rfl ?_
  refine fz_iconst (v := -1) dX8_clear_4 (by decide) ?_
  refine fz_callS (tJ7_fill_23 (-1) ow) dX8_clear_5 kX8_29 ⟨rfl, trivial⟩ (Nat.le_of_ble_eq_true rfl) (Nat.le_of_ble_eq_true rfl) (Nat.le_of_ble_eq_true rfl) (Nat.le_of_ble_eq_true rfl) (Nat.le_of_ble_eq_true rfl) rfl (fun r U hq => ?_)
  obtain ⟨rfl, a, ha, rfl⟩ := hq
  refine fz_back rfl ?_
  refine fz_aload_n dX8_clear_8 rfl ?_
  refine fz_iconst (v := nI 0) dX8_clear_9 (by decide) ?_
  refine fz_put1 dX8_clear_10 fX8_25 rfl (Nat.le_of_ble_eq_true rfl) ⟨rfl, rfl⟩ ?_
  refine fz_vret dX8_clear_13 rfl (Nat.zero_le _) (Nat.zero_le _) ⟨rfl, a, ha, rfl⟩
/-- where a robot is by the table -/
def cAt (rows : Nat → Int64) (en et : Nat → Int32) (r t : Nat) : Int32 := if nI t < et r then nI (bt (rows t) r) else en r
theorem tX8_cellAt {G : fz_G} (rb : Int32) (rows : Nat → Int64) (en et : Nat → Int32) (r t : Nat) (hr : r < 6) (ht : t < 5001) : fz_T G mX8_cellAt rX8_cellAt [zR 19 0, zI (nI r), zI (nI t)] [(19, eTT rb), (20, eRw rows), (21, e6 en), (22, e6 et)] (fun x U => x = some (zI (cAt rows en et r t)) ∧ U = [(19, eTT rb), (20, eRw rows), (21, e6 en), (22, e6 et)]) := by
  refine fz_T.of (by decide) (Nat.le_of_ble_eq_true rfl) (fun E0 => ?_)
  refine fz_iload_n dX8_cellAt_0 rfl ?_
  refine fz_aload_n dX8_cellAt_1 rfl ?_
  refine fz_get dX8_cellAt_2 fX8_19 rfl (Nat.one_pos) rfl ?_
  refine fz_iload_n dX8_cellAt_5 rfl ?_
  refine fz_iald dX8_cellAt_6 rfl rfl (Nat.one_pos) (vp_in_nI hr (by omega)) ?_
  rw [nI_clamp (by omega)]
  refine fz_icmp_lt (tgt := 19) dX8_cellAt_7 (by decide) (fun c7 => ?_) (fun c7 => ?_)
  · skip
    refine fz_aload_n dX8_cellAt_19 rfl ?_
    refine fz_get dX8_cellAt_20 fX8_9 rfl (Nat.one_pos) rfl ?_
    refine fz_iload_n dX8_cellAt_23 rfl ?_
    refine fz_lald dX8_cellAt_24 rfl rfl (Nat.one_pos) (vp_in_nI ht (by omega)) ?_
    refine fz_bipush (v := nI 8) dX8_cellAt_25 (by decide) ?_
    refine fz_iload_n dX8_cellAt_27 rfl ?_
    refine fz_imul dX8_cellAt_28 ?_
    refine fz_lushr dX8_cellAt_29 ?_
    refine fz_l2i dX8_cellAt_30 ?_
    refine fz_sipush (v := nI 255) dX8_cellAt_31 (by decide) ?_
    rw [nI_clamp (by omega), nI_mul]
    refine fz_iand dX8_cellAt_34 ?_
    rw [bt_u _ (by omega)]
    refine fz_iret dX8_cellAt_35 rfl (Nat.zero_le _) (Nat.zero_le _) ⟨by unfold cAt; rw [if_pos c7], rfl⟩
  · skip
    refine fz_aload_n dX8_cellAt_10 rfl ?_
    refine fz_get dX8_cellAt_11 fX8_15 rfl (Nat.one_pos) rfl ?_
    refine fz_iload_n dX8_cellAt_14 rfl ?_
    refine fz_iald dX8_cellAt_15 rfl rfl (Nat.one_pos) (vp_in_nI hr (by omega)) ?_
    refine fz_goto (tgt := 35) dX8_cellAt_16 (by decide) ?_
    rw [nI_clamp (by omega)]
    refine fz_iret dX8_cellAt_35 rfl (Nat.zero_le _) (Nat.zero_le _) ⟨by unfold cAt; rw [if_neg c7], rfl⟩
theorem tX8_write {G : fz_G} (rb : Int32) (rows : Nat → Int64) (r t c : Nat) (hr : r < 6) (ht : t < 5001) : fz_T G mX8_write rX8_write [zR 19 0, zI (nI r), zI (nI t), zI (nI c)] [(19, eTT rb), (20, eRw rows)] (fun x U => x = none ∧ U = [(19, eTT rb), (20, eRw (vp_updL rows t (wby (rows t) r c)))]) := by
  refine fz_T.of (by decide) (Nat.le_of_ble_eq_true rfl) (fun E0 => ?_)
  refine fz_bipush (v := nI 8) dX8_write_0 (by decide) ?_
  refine fz_iload_n dX8_write_2 rfl ?_
  refine fz_imul dX8_write_3 ?_
  rw [nI_mul]
  refine fz_istore dX8_write_4 (Nat.le_of_ble_eq_true rfl) ?_
  refine fz_aload_n dX8_write_6 rfl ?_
  refine fz_get dX8_write_7 fX8_9 rfl (Nat.one_pos) rfl ?_
  refine fz_iload_n dX8_write_10 rfl ?_
  refine fz_aload_n dX8_write_11 rfl ?_
  refine fz_get dX8_write_12 fX8_9 rfl (Nat.one_pos) rfl ?_
  refine fz_iload_n dX8_write_15 rfl ?_
  refine fz_lald dX8_write_16 rfl rfl (Nat.one_pos) (vp_in_nI ht (by omega)) ?_
  rw [nI_clamp (by omega)]
  refine fz_ldc2 dX8_write_17 nX8_39 ?_
  refine fz_iload dX8_write_20 rfl ?_
  refine fz_lshl dX8_write_22 ?_
  refine fz_ldc2 dX8_write_23 nX8_41 ?_
  refine fz_lxor dX8_write_26 ?_
  refine fz_land dX8_write_27 ?_
  refine fz_iload_n dX8_write_28 rfl ?_
  refine fz_i2l dX8_write_29 ?_
  refine fz_iload dX8_write_30 rfl ?_
  refine fz_lshl dX8_write_32 ?_
  refine fz_lor dX8_write_33 ?_
  refine fz_last1 dX8_write_34 rfl rfl (vp_in_nI ht (by omega)) ?_
  rw [nI_clamp (by omega)]
  refine fz_vret dX8_write_35 rfl (Nat.zero_le _) (Nat.zero_le _) ⟨rfl, rfl⟩
theorem tX8_setEnd {G : fz_G} (rb : Int32) (en et ow : Nat → Int32) (r t c e : Nat) (hr : r < 6) (hc : c < 80) (he : e < 80) (hen : en r = nI e) : fz_T G mX8_setEnd rX8_setEnd [zR 19 0, zI (nI r), zI (nI t), zI (nI c)] [(19, eTT rb), (21, e6 en), (22, e6 et), (23, e80 ow)] (fun x U => x = none ∧ U = [(19, eTT rb), (21, e6 (upd en r (nI c))), (22, e6 (upd et r (nI t))), (23, e80 (upd (upd ow e (-1)) c (nI r)))]) := by
  refine fz_T.of (by decide) (Nat.le_of_ble_eq_true rfl) (fun E0 => ?_)
  refine fz_aload_n dX8_setEnd_0 rfl ?_
  refine fz_get dX8_setEnd_1 fX8_22 rfl (Nat.one_pos) rfl ?_
  refine fz_aload_n dX8_setEnd_4 rfl ?_
  refine fz_get dX8_setEnd_5 fX8_15 rfl (Nat.one_pos) rfl ?_
  refine fz_iload_n dX8_setEnd_8 rfl ?_
  refine fz_iald dX8_setEnd_9 rfl rfl (Nat.one_pos) (vp_in_nI hr (by omega)) ?_
  rw [nI_clamp (by omega), hen]
  refine fz_iconst (v := -1) dX8_setEnd_10 (by decide) ?_
  refine fz_iast1 dX8_setEnd_11 rfl rfl (vp_in_nI he (by omega)) ?_
  rw [nI_clamp (by omega)]
  refine fz_aload_n dX8_setEnd_12 rfl ?_
  refine fz_get dX8_setEnd_13 fX8_22 rfl (Nat.one_pos) rfl ?_
  refine fz_iload_n dX8_setEnd_16 rfl ?_
  refine fz_iload_n dX8_setEnd_17 rfl ?_
  refine fz_iast1 dX8_setEnd_18 rfl rfl (vp_in_nI hc (by omega)) ?_
  rw [nI_clamp (by omega)]
  refine fz_aload_n dX8_setEnd_19 rfl ?_
  refine fz_get dX8_setEnd_20 fX8_15 rfl (Nat.one_pos) rfl ?_
  refine fz_iload_n dX8_setEnd_23 rfl ?_
  refine fz_iload_n dX8_setEnd_24 rfl ?_
  refine fz_iast1 dX8_setEnd_25 rfl rfl (vp_in_nI hr (by omega)) ?_
  rw [nI_clamp (by omega)]
  refine fz_aload_n dX8_setEnd_26 rfl ?_
  refine fz_get dX8_setEnd_27 fX8_19 rfl (Nat.one_pos) rfl ?_
  refine fz_iload_n dX8_setEnd_30 rfl ?_
  refine fz_iload_n dX8_setEnd_31 rfl ?_
  refine fz_iast1 dX8_setEnd_32 rfl rfl (vp_in_nI hr (by omega)) ?_
  rw [nI_clamp (by omega)]
  refine fz_vret dX8_setEnd_33 rfl (Nat.zero_le _) (Nat.zero_le _) ⟨rfl, rfl⟩
theorem tX8_add {G : fz_G} (rn : Nat) (hrn : rn < 6) (rows : Nat → Int64) (en et ow : Nat → Int32) (c : Nat) (hc : c < 80) : fz_T G mX8_add rX8_add [zR 19 0, zI (nI c)] [(19, eTT (nI rn)), (20, eRw rows), (21, e6 en), (22, e6 et), (23, e80 ow)] (fun x U => x = none ∧ U = [(19, eTT (nI (rn + 1))), (20, eRw (vp_updL rows 0 (wby (rows 0) rn c))), (21, e6 (upd en rn (nI c))), (22, e6 (upd et rn (nI 0))), (23, e80 (upd ow c (nI rn)))]) := by
  refine fz_T.of (by decide) (Nat.le_of_ble_eq_true rfl) (fun E0 => ?_)
  refine fz_aload_n dX8_add_0 rfl ?_
  refine fz_get dX8_add_1 fX8_15 rfl (Nat.one_pos) rfl ?_
  refine fz_aload_n dX8_add_4 rfl ?_
  refine fz_get dX8_add_5 fX8_25 rfl (Nat.one_pos) rfl ?_
  refine fz_iload_n dX8_add_8 rfl ?_
  refine fz_iast1 dX8_add_9 rfl rfl (vp_in_nI hrn (by omega)) ?_
  rw [nI_clamp (by omega)]
  refine fz_aload_n dX8_add_10 rfl ?_
  refine fz_get dX8_add_11 fX8_19 rfl (Nat.one_pos) rfl ?_
  refine fz_aload_n dX8_add_14 rfl ?_
  refine fz_get dX8_add_15 fX8_25 rfl (Nat.one_pos) rfl ?_
  refine fz_iconst (v := nI 0) dX8_add_18 (by decide) ?_
  refine fz_iast1 dX8_add_19 rfl rfl (vp_in_nI hrn (by omega)) ?_
  rw [nI_clamp (by omega)]
  refine fz_aload_n dX8_add_20 rfl ?_
  refine fz_get dX8_add_21 fX8_22 rfl (Nat.one_pos) rfl ?_
  refine fz_iload_n dX8_add_24 rfl ?_
  refine fz_aload_n dX8_add_25 rfl ?_
  refine fz_get dX8_add_26 fX8_25 rfl (Nat.one_pos) rfl ?_
  refine fz_iast1 dX8_add_29 rfl rfl (vp_in_nI hc (by omega)) ?_
  rw [nI_clamp (by omega)]
  refine fz_wo (V' := [(19, eTT (nI rn)), (20, eRw rows), (21, e6 (upd en rn (nI c))), (22, e6 (upd et rn (nI 0))), (23, e80 (upd ow c (nI rn)))]) rfl ?_
  refine fz_aload_n dX8_add_30 rfl ?_
  refine fz_aload_n dX8_add_31 rfl ?_
  refine fz_get dX8_add_32 fX8_25 rfl (Nat.one_pos) rfl ?_
  refine fz_iconst (v := nI 0) dX8_add_35 (by decide) ?_
  refine fz_iload_n dX8_add_36 rfl ?_
  refine fz_callV (tX8_write (nI rn) rows rn 0 c hrn (by omega)) dX8_add_37 kX8_35 rfl (Nat.one_pos) ⟨rfl, rfl, trivial⟩ (Nat.le_of_ble_eq_true rfl) (Nat.le_of_ble_eq_true rfl) (Nat.le_of_ble_eq_true rfl) (Nat.le_of_ble_eq_true rfl) (Nat.le_of_ble_eq_true rfl) rfl (fun r U hq => ?_)
  obtain ⟨rfl, rfl⟩ := hq
  refine fz_back rfl ?_
  refine fz_aload_n dX8_add_40 rfl ?_
  refine fz_dup dX8_add_41 rfl ?_
  refine fz_get dX8_add_42 fX8_25 rfl (Nat.one_pos) rfl ?_
  refine fz_iconst (v := nI 1) dX8_add_45 (by decide) ?_
  refine fz_iadd dX8_add_46 ?_
  rw [nI_add]
  refine fz_put1 dX8_add_47 fX8_25 rfl (Nat.le_of_ble_eq_true rfl) ⟨rfl, rfl⟩ ?_
  refine fz_vret dX8_add_50 rfl (Nat.zero_le _) (Nat.zero_le _) ⟨rfl, rfl⟩
theorem tX8_keep {G : fz_G} (rb : Int32) (rows : Nat → Int64) (en et : Nat → Int32) (r t c : Nat) (hr : r < 6) (ht : t < 5001) (hc : cAt rows en et r t = nI c) : fz_T G mX8_keep rX8_keep [zR 19 0, zI (nI r), zI (nI t)] [(19, eTT rb), (20, eRw rows), (21, e6 en), (22, e6 et)] (fun x U => x = none ∧ U = [(19, eTT rb), (20, eRw (vp_updL rows t (wby (rows t) r c))), (21, e6 en), (22, e6 et)]) := by
  refine fz_T.of (by decide) (Nat.le_of_ble_eq_true rfl) (fun E0 => ?_)
  refine fz_aload_n dX8_keep_0 rfl ?_
  refine fz_iload_n dX8_keep_1 rfl ?_
  refine fz_iload_n dX8_keep_2 rfl ?_
  refine fz_aload_n dX8_keep_3 rfl ?_
  refine fz_iload_n dX8_keep_4 rfl ?_
  refine fz_iload_n dX8_keep_5 rfl ?_
  refine fz_callV (tX8_cellAt rb rows en et r t hr ht) dX8_keep_6 kX8_43 rfl (Nat.one_pos) ⟨rfl, rfl, rfl, rfl, trivial⟩ (Nat.le_of_ble_eq_true rfl) (Nat.le_of_ble_eq_true rfl) (Nat.le_of_ble_eq_true rfl) (Nat.le_of_ble_eq_true rfl) (Nat.le_of_ble_eq_true rfl) rfl (fun r U hq => ?_)
  obtain ⟨rfl, rfl⟩ := hq
  refine fz_back rfl ?_
  rw [hc]
  refine fz_callV (tX8_write rb rows r t c hr ht) dX8_keep_9 kX8_35 rfl (Nat.one_pos) ⟨rfl, rfl, trivial⟩ (Nat.le_of_ble_eq_true rfl) (Nat.le_of_ble_eq_true rfl) (Nat.le_of_ble_eq_true rfl) (Nat.le_of_ble_eq_true rfl) (Nat.le_of_ble_eq_true rfl) rfl (fun r U hq => ?_)
  obtain ⟨rfl, rfl⟩ := hq
  refine fz_back rfl ?_
  refine fz_vret dX8_keep_12 rfl (Nat.zero_le _) (Nat.zero_le _) ⟨rfl, rfl⟩
