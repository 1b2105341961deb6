/-! THE TEXT: FleetController$MapText -/
abbrev eTx (len wd ln co fp : Int32) : fz_E := zo 2 1 (fun _ => [zR 9 0, zI len, zI wd, zI ln, zI co, zI fp])
abbrev eSg (sg : Nat → Int32) : fz_E := zi 0 1 90 (fun _ => sg)
theorem tX2_length {G : fz_G} (len wd ln co fp : Int32) : fz_T G mX2_length rX2_length [zR 8 0] [(8, eTx len wd ln co fp)] (fun r U => r = some (zI len) ∧ U = [(8, eTx len wd ln co fp)]) := by
  refine fz_T.of (by decide) (by decide) (fun E0 => ?_)
  refine fz_aload_n dX2_length_0 rfl ?_
  refine fz_get dX2_length_1 fX2_15 rfl (Nat.one_pos) rfl ?_
  refine fz_iret dX2_length_4 rfl (Nat.zero_le _) (Nat.zero_le _) ⟨rfl, rfl⟩
theorem tX2_width {G : fz_G} (len wd ln co fp : Int32) : fz_T G mX2_width rX2_width [zR 8 0] [(8, eTx len wd ln co fp)] (fun r U => r = some (zI wd) ∧ U = [(8, eTx len wd ln co fp)]) := by
  refine fz_T.of (by decide) (by decide) (fun E0 => ?_)
  refine fz_aload_n dX2_width_0 rfl ?_
  refine fz_get dX2_width_1 fX2_19 rfl (Nat.one_pos) rfl ?_
  refine fz_iret dX2_width_4 rfl (Nat.zero_le _) (Nat.zero_le _) ⟨rfl, rfl⟩
theorem tX2_faultPlace {G : fz_G} (len wd ln co fp : Int32) : fz_T G mX2_faultPlace rX2_faultPlace [zR 8 0] [(8, eTx len wd ln co fp)] (fun r U => r = some (zI fp) ∧ U = [(8, eTx len wd ln co fp)]) := by
  refine fz_T.of (by decide) (by decide) (fun E0 => ?_)
  refine fz_aload_n dX2_faultPlace_0 rfl ?_
  refine fz_get dX2_faultPlace_1 fX2_22 rfl (Nat.one_pos) rfl ?_
  refine fz_iret dX2_faultPlace_4 rfl (Nat.zero_le _) (Nat.zero_le _) ⟨rfl, rfl⟩
theorem tX2_wipe {G : fz_G} (len wd ln co fp : Int32) : fz_T G mX2_wipe rX2_wipe [zR 8 0] [(8, eTx len wd ln co fp)] (fun r U => r = some (zI len) ∧ U = [(8, eTx 0 wd ln co fp)]) := by
  refine fz_T.of (by decide) (by decide) (fun E0 => ?_)
  refine fz_aload_n dX2_wipe_0 rfl ?_
  refine fz_get dX2_wipe_1 fX2_15 rfl (Nat.one_pos) rfl ?_
  refine fz_istore_n dX2_wipe_4 (Nat.le_of_ble_eq_true rfl) ?_
  refine fz_aload_n dX2_wipe_5 rfl ?_
  refine fz_iconst (v := 0) dX2_wipe_6 (by decide) ?_
  refine fz_put1 dX2_wipe_7 fX2_15 rfl (Nat.le_of_ble_eq_true rfl) ⟨rfl, rfl⟩ ?_
  refine fz_iload_n dX2_wipe_10 rfl ?_
  refine fz_iret dX2_wipe_11 rfl (Nat.zero_le _) (Nat.zero_le _) ⟨rfl, rfl⟩
/-- the k-th byte of a long -/
def bt (w : Int64) (k : Nat) : Nat := w.toBitVec.toNat / 2 ^ (8 * k) % 256
theorem bt_lt (w : Int64) (k : Nat) : bt w k < 256 := Nat.mod_lt _ (by decide)
theorem bt_sh : ∀ k, k < 8 → ((8 : Int32) * nI k).toInt64.toUInt64 &&& Int64.toUInt64 63 = UInt64.ofNat (8 * k) := by decide +kernel
theorem tX2_byteOf {G : fz_G} (w : Int64) (k : Nat) (hk : k < 8) : fz_T G mX2_byteOf rX2_byteOf [zL w, zI (nI k)] [] (fun r U => r = some (zI (nI (bt w k))) ∧ U = []) := by
  refine fz_T.of (by decide) (by decide) (fun E0 => ?_)
  refine fz_lload_n dX2_byteOf_0 rfl ?_
  refine fz_bipush (v := 8) dX2_byteOf_1 (by decide) ?_
  refine fz_iload_n dX2_byteOf_3 rfl ?_
  refine fz_imul dX2_byteOf_4 ?_
  refine fz_lushr dX2_byteOf_5 ?_
  refine fz_l2i dX2_byteOf_6 ?_
  refine fz_sipush (v := 255) dX2_byteOf_7 (by decide) ?_
  refine fz_iand dX2_byteOf_10 ?_
  refine fz_top (y := nI (bt w k)) ?_ ?_
  · rw [bt_sh k hk]
    sorry
  · skip
    refine fz_iret dX2_byteOf_11 rfl (Nat.zero_le _) (Nat.zero_le _) ⟨rfl, rfl⟩
