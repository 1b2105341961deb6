/-! FleetController$Fleet: small ones -/
abbrev eFl (g : Nat) (sz nw wy lg : Int32) : fz_E := zo 0 1 (fun _ => [zR 10 0, zR 17 0, zR 19 0, zR 24 0, zR 25 0, zR 2 g, zI sz, zI nw, zI wy, zI lg])
theorem va_upU {α : Type} (f : Nat → α) (i : Nat) (a b : α) : va_up (va_up f i a) i b = va_up f i b := by
  funext j
  unfold va_up
  split <;> rfl
abbrev eA17 : fz_E := zq 5 1 6 (fun _ j => some (18, j))
theorem tX0_size {G : fz_G} (g : Nat) (sz nw wy lg : Int32) : fz_T G mX0_size rX0_size [zR 16 0] [(16, eFl g sz nw wy lg)] (fun r U => r = some (zI sz) ∧ U = [(16, eFl g sz nw wy lg)]) := by
  refine fz_T.of (by decide) (Nat.le_of_ble_eq_true rfl) (fun E0 => ?_)
  refine fz_aload_n dX0_size_0 rfl ?_
  refine fz_get dX0_size_1 fX0_49 rfl (Nat.one_pos) rfl ?_
  refine fz_iret dX0_size_4 rfl (Nat.zero_le _) (Nat.zero_le _) ⟨rfl, rfl⟩
theorem tX0_now {G : fz_G} (g : Nat) (sz nw wy lg : Int32) : fz_T G mX0_now rX0_now [zR 16 0] [(16, eFl g sz nw wy lg)] (fun r U => r = some (zI nw) ∧ U = [(16, eFl g sz nw wy lg)]) := by
  refine fz_T.of (by decide) (Nat.le_of_ble_eq_true rfl) (fun E0 => ?_)
  refine fz_aload_n dX0_now_0 rfl ?_
  refine fz_get dX0_now_1 fX0_53 rfl (Nat.one_pos) rfl ?_
  refine fz_iret dX0_now_4 rfl (Nat.zero_le _) (Nat.zero_le _) ⟨rfl, rfl⟩
theorem tX0_ways {G : fz_G} (g : Nat) (sz nw wy lg : Int32) : fz_T G mX0_ways rX0_ways [zR 16 0] [(16, eFl g sz nw wy lg)] (fun r U => r = some (zI wy) ∧ U = [(16, eFl g sz nw wy lg)]) := by
  refine fz_T.of (by decide) (Nat.le_of_ble_eq_true rfl) (fun E0 => ?_)
  refine fz_aload_n dX0_ways_0 rfl ?_
  refine fz_get dX0_ways_1 fX0_56 rfl (Nat.one_pos) rfl ?_
  refine fz_iret dX0_ways_4 rfl (Nat.zero_le _) (Nat.zero_le _) ⟨rfl, rfl⟩
theorem tX0_longestWay {G : fz_G} (g : Nat) (sz nw wy lg : Int32) : fz_T G mX0_longestWay rX0_longestWay [zR 16 0] [(16, eFl g sz nw wy lg)] (fun r U => r = some (zI lg) ∧ U = [(16, eFl g sz nw wy lg)]) := by
  refine fz_T.of (by decide) (Nat.le_of_ble_eq_true rfl) (fun E0 => ?_)
  refine fz_aload_n dX0_longestWay_0 rfl ?_
  refine fz_get dX0_longestWay_1 fX0_59 rfl (Nat.one_pos) rfl ?_
  refine fz_iret dX0_longestWay_4 rfl (Nat.zero_le _) (Nat.zero_le _) ⟨rfl, rfl⟩
theorem tX0_alarms {G : fz_G} (g : Nat) (sz nw wy lg al : Int32) : fz_T G mX0_alarms rX0_alarms [zR 16 0] [(16, eFl g sz nw wy lg), (24, eMo al)] (fun r U => r = some (zI al) ∧ U = [(16, eFl g sz nw wy lg), (24, eMo al)]) := by
  refine fz_T.of (by decide) (Nat.le_of_ble_eq_true rfl) (fun E0 => ?_)
  refine fz_aload_n dX0_alarms_0 rfl ?_
  refine fz_get dX0_alarms_1 fX0_27 rfl (Nat.one_pos) rfl ?_
  refine fz_callV (tX3_alarms al) dX0_alarms_4 kX0_62 rfl (Nat.one_pos) ⟨rfl, trivial⟩ (Nat.le_of_ble_eq_true rfl) (Nat.le_of_ble_eq_true rfl) (Nat.le_of_ble_eq_true rfl) (Nat.le_of_ble_eq_true rfl) (Nat.le_of_ble_eq_true rfl) rfl (fun r U hq => ?_)
  obtain ⟨rfl, rfl⟩ := hq
  refine fz_back rfl ?_
  refine fz_iret dX0_alarms_7 rfl (Nat.zero_le _) (Nat.zero_le _) ⟨rfl, rfl⟩
/-- all moves of the first n robots -/
def smI (B : Nat → Nat → Int32) : Nat → Int32
  | 0 => nI 0
  | n + 1 => smI B n + B n 1
theorem lX0_moves {G : fz_G} {E0 : Nat → fz_E} (g rn : Nat) (hrn : rn ≤ 6) (nw wy lg : Int32) (B : Nat → Nat → Int32) : ∀ q i, i + q = rn → fz_J G mX0_moves rX0_moves (fz_Z G E0 0 0 (fun r U => r = some (zI (smI B rn)) ∧ U = [(16, eFl g (nI rn) nw wy lg), (17, eA17), (18, eRo B)])) E0 0 0 4 [(2, zI (nI i)), (1, zI (smI B i)), (0, zR 16 0)] [] [(16, eFl g (nI rn) nw wy lg), (17, eA17), (18, eRo B)] := by
  intro q
  induction q with
  | zero =>
    intro i hi
    have e : i = rn := by omega
    subst e
    refine fz_iload_n dX0_moves_4 rfl ?_
    refine fz_aload_n dX0_moves_5 rfl ?_
    refine fz_get dX0_moves_6 fX0_49 rfl (Nat.one_pos) rfl ?_
    refine fz_icmp_ge (tgt := 30) dX0_moves_9 (by decide) (fun c9 => ?_) (fun c9 => ?_)
    · skip
      refine fz_iload_n dX0_moves_30 rfl ?_
      refine fz_iret dX0_moves_31 rfl (Nat.zero_le _) (Nat.zero_le _) ⟨rfl, rfl⟩
    · exact absurd (nI_le (Nat.le_refl _) (by omega)) c9
  | succ q ih =>
    intro i hi
    refine fz_iload_n dX0_moves_4 rfl ?_
    refine fz_aload_n dX0_moves_5 rfl ?_
    refine fz_get dX0_moves_6 fX0_49 rfl (Nat.one_pos) rfl ?_
    refine fz_icmp_ge (tgt := 30) dX0_moves_9 (by decide) (fun c9 => ?_) (fun c9 => ?_)
    · exact absurd ((nI_leI (by omega) (by omega)).mp c9) (by omega)
    · skip
      refine fz_iload_n dX0_moves_12 rfl ?_
      refine fz_aload_n dX0_moves_13 rfl ?_
      refine fz_get dX0_moves_14 fX0_11 rfl (Nat.one_pos) rfl ?_
      refine fz_iload_n dX0_moves_17 rfl ?_
      refine fz_aald dX0_moves_18 rfl rfl Nat.one_pos (vp_in_nI (by omega) (by omega)) (arr (by omega)) ?_
      refine fz_get dX0_moves_19 fX0_66 rfl ((by omega : i < 6)) rfl ?_
      refine fz_iadd dX0_moves_22 ?_
      refine fz_istore_n dX0_moves_23 (Nat.le_of_ble_eq_true rfl) ?_
      refine fz_incN dX0_moves_24 rfl (Nat.le_of_ble_eq_true rfl) ?_
      refine fz_goto (tgt := 4) dX0_moves_27 (by decide) ?_
      exact ih (i + 1) (by omega)
theorem tX0_moves {G : fz_G} (g rn : Nat) (hrn : rn ≤ 6) (nw wy lg : Int32) (B : Nat → Nat → Int32) : fz_T G mX0_moves rX0_moves [zR 16 0] [(16, eFl g (nI rn) nw wy lg), (17, eA17), (18, eRo B)] (fun r U => r = some (zI (smI B rn)) ∧ U = [(16, eFl g (nI rn) nw wy lg), (17, eA17), (18, eRo B)]) := by
  refine fz_T.of (by decide) (Nat.le_of_ble_eq_true rfl) (fun E0 => ?_)
  refine fz_iconst (v := nI 0) dX0_moves_0 (by decide) ?_
  refine fz_istore_n dX0_moves_1 (Nat.le_of_ble_eq_true rfl) ?_
  refine fz_iconst (v := nI 0) dX0_moves_2 (by decide) ?_
  refine fz_istore_n dX0_moves_3 (Nat.le_of_ble_eq_true rfl) ?_
  exact lX0_moves g rn hrn nw wy lg B rn 0 (by omega)
theorem tX0_begin {G : fz_G} (g g' gw : Nat) (sz nw wy lg rb al : Int32) (ow : Nat → Int32) (lo hi : Int64) (wb ws wh wg : Int32) : fz_T G mX0_begin rX0_begin [zR 16 0, zR 2 g'] [(16, eFl g sz nw wy lg), (19, eTT rb), (23, e80 ow), (24, eMo al), (25, eWS gw lo hi wb ws wh wg)] (fun r U => r = none ∧ ∃ ow', (∀ j, j < 80 → ow' j = -1) ∧ U = [(16, eFl g' (nI 0) (nI 0) (nI 0) (nI 0)), (19, eTT (nI 0)), (23, e80 ow'), (24, eMo (nI 0)), (25, eWS g' lo hi wb ws wh wg)]) := by
  refine fz_T.of (by decide) (Nat.le_of_ble_eq_true rfl) (fun E0 => ?_)
  refine fz_aload_n dX0_begin_0 rfl ?_
  refine fz_aload_n dX0_begin_1 rfl ?_
  refine fz_put1 dX0_begin_2 fX0_31 rfl (Nat.le_of_ble_eq_true rfl) ⟨rfl, rfl⟩ ?_
  refine fz_aload_n dX0_begin_5 rfl ?_
  refine fz_get dX0_begin_6 fX0_44 rfl (Nat.one_pos) rfl ?_
  refine fz_aload_n dX0_begin_9 rfl ?_
  refine fz_callV (tX9_begin gw g' lo hi wb ws wh wg) dX0_begin_10 kX0_69 rfl (Nat.one_pos) ⟨rfl, trivial⟩ (Nat.le_of_ble_eq_true rfl) (Nat.le_of_ble_eq_true rfl) (Nat.le_of_ble_eq_true rfl) (Nat.le_of_ble_eq_true rfl) (Nat.le_of_ble_eq_true rfl) rfl (fun r U hq => ?_)
  obtain ⟨rfl, rfl⟩ := hq
  refine fz_back rfl ?_
  refine fz_aload_n dX0_begin_13 rfl ?_
  refine fz_get dX0_begin_14 fX0_20 rfl (Nat.one_pos) rfl ?_
  refine fz_callV (tX8_clear rb ow) dX0_begin_17 kX0_73 rfl (Nat.one_pos) ⟨rfl, rfl, trivial⟩ (Nat.le_of_ble_eq_true rfl) (Nat.le_of_ble_eq_true rfl) (Nat.le_of_ble_eq_true rfl) (Nat.le_of_ble_eq_true rfl) (Nat.le_of_ble_eq_true rfl) rfl (fun r U hq => ?_)
  obtain ⟨rfl, ow', how, rfl⟩ := hq
  refine fz_back rfl ?_
  refine fz_aload_n dX0_begin_20 rfl ?_
  refine fz_get dX0_begin_21 fX0_27 rfl (Nat.one_pos) rfl ?_
  refine fz_callV (tX3_clear al) dX0_begin_24 kX0_76 rfl (Nat.one_pos) ⟨rfl, trivial⟩ (Nat.le_of_ble_eq_true rfl) (Nat.le_of_ble_eq_true rfl) (Nat.le_of_ble_eq_true rfl) (Nat.le_of_ble_eq_true rfl) (Nat.le_of_ble_eq_true rfl) rfl (fun r U hq => ?_)
  obtain ⟨rfl, rfl⟩ := hq
  refine fz_back rfl ?_
  refine fz_aload_n dX0_begin_27 rfl ?_
  refine fz_iconst (v := nI 0) dX0_begin_28 (by decide) ?_
  refine fz_put1 dX0_begin_29 fX0_49 rfl (Nat.le_of_ble_eq_true rfl) ⟨rfl, rfl⟩ ?_
  refine fz_aload_n dX0_begin_32 rfl ?_
  refine fz_iconst (v := nI 0) dX0_begin_33 (by decide) ?_
  refine fz_put1 dX0_begin_34 fX0_53 rfl (Nat.le_of_ble_eq_true rfl) ⟨rfl, rfl⟩ ?_
  refine fz_aload_n dX0_begin_37 rfl ?_
  refine fz_iconst (v := nI 0) dX0_begin_38 (by decide) ?_
  refine fz_put1 dX0_begin_39 fX0_56 rfl (Nat.le_of_ble_eq_true rfl) ⟨rfl, rfl⟩ ?_
  refine fz_aload_n dX0_begin_42 rfl ?_
  refine fz_iconst (v := nI 0) dX0_begin_43 (by decide) ?_
  refine fz_put1 dX0_begin_44 fX0_59 rfl (Nat.le_of_ble_eq_true rfl) ⟨rfl, rfl⟩ ?_
  refine fz_vret dX0_begin_47 rfl (Nat.zero_le _) (Nat.zero_le _) ⟨rfl, ow', how, rfl⟩
theorem tX0_put_full {G : fz_G} (g : Nat) (nw wy lg : Int32) (x : Int32) : fz_T G mX0_put rX0_put [zR 16 0, zI x] [(16, eFl g (nI 6) nw wy lg)] (fun r U => r = some (zI (-3)) ∧ U = [(16, eFl g (nI 6) nw wy lg)]) := by
  refine fz_T.of (by decide) (Nat.le_of_ble_eq_true rfl) (fun E0 => ?_)
  refine fz_aload_n dX0_put_0 rfl ?_
  refine fz_get dX0_put_1 fX0_49 rfl (Nat.one_pos) rfl ?_
  refine fz_bipush (v := nI 6) dX0_put_4 (by decide) ?_
  refine fz_icmp_ne (tgt := 12) dX0_put_6 (by decide) (fun c6 => ?_) (fun c6 => ?_)
  · exact absurd rfl c6
  · skip
    refine fz_bipush (v := -3) dX0_put_9 (by decide) ?_
    refine fz_iret dX0_put_11 rfl (Nat.zero_le _) (Nat.zero_le _) ⟨rfl, rfl⟩
theorem tX0_put_taken {G : fz_G} (g rn : Nat) (hrn : rn < 6) (nw wy lg rb : Int32) (ow : Nat → Int32) (c : Nat) (hc : c < 80) (ho : ¬ ow c = -1) : fz_T G mX0_put rX0_put [zR 16 0, zI (nI c)] [(16, eFl g (nI rn) nw wy lg), (19, eTT rb), (23, e80 ow)] (fun r U => r = some (zI (-1)) ∧ U = [(16, eFl g (nI rn) nw wy lg), (19, eTT rb), (23, e80 ow)]) := by
  refine fz_T.of (by decide) (Nat.le_of_ble_eq_true rfl) (fun E0 => ?_)
  refine fz_aload_n dX0_put_0 rfl ?_
  refine fz_get dX0_put_1 fX0_49 rfl (Nat.one_pos) rfl ?_
  refine fz_bipush (v := nI 6) dX0_put_4 (by decide) ?_
  refine fz_icmp_ne (tgt := 12) dX0_put_6 (by decide) (fun c6 => ?_) (fun c6 => ?_)
  · skip
    refine fz_aload_n dX0_put_12 rfl ?_
    refine fz_get dX0_put_13 fX0_20 rfl (Nat.one_pos) rfl ?_
    refine fz_iload_n dX0_put_16 rfl ?_
    refine fz_callV (tX8_ownerOf rb ow c hc) dX0_put_17 kX0_77 rfl (Nat.one_pos) ⟨rfl, rfl, trivial⟩ (Nat.le_of_ble_eq_true rfl) (Nat.le_of_ble_eq_true rfl) (Nat.le_of_ble_eq_true rfl) (Nat.le_of_ble_eq_true rfl) (Nat.le_of_ble_eq_true rfl) rfl (fun r U hq => ?_)
    obtain ⟨rfl, rfl⟩ := hq
    refine fz_back rfl ?_
    refine fz_iconst (v := -1) dX0_put_20 (by decide) ?_
    refine fz_icmp_eq (tgt := 26) dX0_put_21 (by decide) (fun c21 => ?_) (fun c21 => ?_)
    · exact absurd c21 ho
    · skip
      refine fz_iconst (v := -1) dX0_put_24 (by decide) ?_
      refine fz_iret dX0_put_25 rfl (Nat.zero_le _) (Nat.zero_le _) ⟨rfl, rfl⟩
  · exact absurd ((nI_eq (by omega) (by omega)).mp c6) (by omega)
theorem tX0_put {G : fz_G} (g rn : Nat) (hrn : rn < 6) (nw wy lg : Int32) (rows : Nat → Int64) (en et ow : Nat → Int32) (B : Nat → Nat → Int32) (c : Nat) (hc : c < 80) (ho : ow c = -1) : fz_T G mX0_put rX0_put [zR 16 0, zI (nI c)] [(16, eFl g (nI rn) nw wy lg), (17, eA17), (18, eRo B), (19, eTT (nI rn)), (20, eRw rows), (21, e6 en), (22, e6 et), (23, e80 ow)] (fun r U => r = some (zI (nI rn)) ∧ U = [(16, eFl g (nI (rn + 1)) nw wy lg), (17, eA17), (18, eRo (va_up B rn (roN (B rn)))), (19, eTT (nI (rn + 1))), (20, eRw (vp_updL rows 0 (wby (rows 0) rn c))), (21, e6 (upd en rn (nI c))), (22, e6 (upd et rn (nI 0))), (23, e80 (upd ow c (nI rn)))]) := by
  refine fz_T.of (by decide) (Nat.le_of_ble_eq_true rfl) (fun E0 => ?_)
  have hu : B = va_up B rn (B rn) := (va_upI B rn).symm
  refine fz_wo (V' := [(16, eFl g (nI rn) nw wy lg), (17, eA17), (18, eRo (va_up B rn (B rn))), (19, eTT (nI rn)), (20, eRw rows), (21, e6 en), (22, e6 et), (23, e80 ow)]) (by rw [← hu]) ?_
  refine fz_aload_n dX0_put_0 rfl ?_
  refine fz_get dX0_put_1 fX0_49 rfl (Nat.one_pos) rfl ?_
  refine fz_bipush (v := nI 6) dX0_put_4 (by decide) ?_
  refine fz_icmp_ne (tgt := 12) dX0_put_6 (by decide) (fun c6 => ?_) (fun c6 => ?_)
  · skip
    refine fz_aload_n dX0_put_12 rfl ?_
    refine fz_get dX0_put_13 fX0_20 rfl (Nat.one_pos) rfl ?_
    refine fz_iload_n dX0_put_16 rfl ?_
    refine fz_callV (tX8_ownerOf (nI rn) ow c hc) dX0_put_17 kX0_77 rfl (Nat.one_pos) ⟨rfl, rfl, trivial⟩ (Nat.le_of_ble_eq_true rfl) (Nat.le_of_ble_eq_true rfl) (Nat.le_of_ble_eq_true rfl) (Nat.le_of_ble_eq_true rfl) (Nat.le_of_ble_eq_true rfl) rfl (fun r U hq => ?_)
    obtain ⟨rfl, rfl⟩ := hq
    refine fz_back rfl ?_
    refine fz_iconst (v := -1) dX0_put_20 (by decide) ?_
    refine fz_icmp_eq (tgt := 26) dX0_put_21 (by decide) (fun c21 => ?_) (fun c21 => ?_)
    · skip
      refine fz_aload_n dX0_put_26 rfl ?_
      refine fz_get dX0_put_27 fX0_11 rfl (Nat.one_pos) rfl ?_
      refine fz_aload_n dX0_put_30 rfl ?_
      refine fz_get dX0_put_31 fX0_49 rfl (Nat.one_pos) rfl ?_
      refine fz_aald dX0_put_34 rfl rfl Nat.one_pos (vp_in_nI hrn (by omega)) (arr (by omega)) ?_
      refine fz_callV (tX6_begin B (B rn) rn hrn) dX0_put_35 kX0_81 rfl (hrn) ⟨rfl, trivial⟩ (Nat.le_of_ble_eq_true rfl) (Nat.le_of_ble_eq_true rfl) (Nat.le_of_ble_eq_true rfl) (Nat.le_of_ble_eq_true rfl) (Nat.le_of_ble_eq_true rfl) rfl (fun r U hq => ?_)
      obtain ⟨rfl, rfl⟩ := hq
      refine fz_back rfl ?_
      refine fz_aload_n dX0_put_38 rfl ?_
      refine fz_get dX0_put_39 fX0_20 rfl (Nat.one_pos) rfl ?_
      refine fz_iload_n dX0_put_42 rfl ?_
      refine fz_callV (tX8_add rn hrn rows en et ow c hc) dX0_put_43 kX0_83 rfl (Nat.one_pos) ⟨rfl, rfl, rfl, rfl, rfl, trivial⟩ (Nat.le_of_ble_eq_true rfl) (Nat.le_of_ble_eq_true rfl) (Nat.le_of_ble_eq_true rfl) (Nat.le_of_ble_eq_true rfl) (Nat.le_of_ble_eq_true rfl) rfl (fun r U hq => ?_)
      obtain ⟨rfl, rfl⟩ := hq
      refine fz_back rfl ?_
      refine fz_aload_n dX0_put_46 rfl ?_
      refine fz_dup dX0_put_47 rfl ?_
      refine fz_get dX0_put_48 fX0_49 rfl (Nat.one_pos) rfl ?_
      refine fz_iconst (v := nI 1) dX0_put_51 (by decide) ?_
      refine fz_iadd dX0_put_52 ?_
      rw [nI_add]
      refine fz_put1 dX0_put_53 fX0_49 rfl (Nat.le_of_ble_eq_true rfl) ⟨rfl, rfl⟩ ?_
      refine fz_aload_n dX0_put_56 rfl ?_
      refine fz_get dX0_put_57 fX0_49 rfl (Nat.one_pos) rfl ?_
      refine fz_iconst (v := nI 1) dX0_put_60 (by decide) ?_
      refine fz_isub dX0_put_61 ?_
      rw [nI_sub1]
      refine fz_iret dX0_put_62 rfl (Nat.zero_le _) (Nat.zero_le _) ⟨rfl, rfl⟩
    · exact absurd ho c21
  · exact absurd ((nI_eq (by omega) (by omega)).mp c6) (by omega)
theorem tX0_countWay {G : fz_G} (g : Nat) (sz nw : Int32) (wy lg L : Nat) (hl : lg < 2 ^ 31) (hL : L < 1000) : fz_T G mX0_countWay rX0_countWay [zR 16 0, zI (nI L)] [(16, eFl g sz nw (nI wy) (nI lg))] (fun r U => r = some (zI 1) ∧ U = [(16, eFl g sz nw (nI (wy + 1)) (nI (max lg L)))]) := by
  refine fz_T.of (by decide) (Nat.le_of_ble_eq_true rfl) (fun E0 => ?_)
  refine fz_iload_n dX0_countWay_0 rfl ?_
  refine fz_iconst (v := -1) dX0_countWay_1 (by decide) ?_
  refine fz_icmp_ne (tgt := 7) dX0_countWay_2 (by decide) (fun c2 => ?_) (fun c2 => ?_)
  · skip
    refine fz_aload_n dX0_countWay_7 rfl ?_
    refine fz_dup dX0_countWay_8 rfl ?_
    refine fz_get dX0_countWay_9 fX0_56 rfl (Nat.one_pos) rfl ?_
    refine fz_iconst (v := nI 1) dX0_countWay_12 (by decide) ?_
    refine fz_iadd dX0_countWay_13 ?_
    rw [nI_add]
    refine fz_put1 dX0_countWay_14 fX0_56 rfl (Nat.le_of_ble_eq_true rfl) ⟨rfl, rfl⟩ ?_
    refine fz_aload_n dX0_countWay_17 rfl ?_
    refine fz_aload_n dX0_countWay_18 rfl ?_
    refine fz_get dX0_countWay_19 fX0_59 rfl (Nat.one_pos) rfl ?_
    refine fz_iload_n dX0_countWay_22 rfl ?_
    refine fz_max dX0_countWay_23 oX0_173 (Nat.le_of_ble_eq_true rfl) (Nat.le_of_ble_eq_true rfl) (Nat.zero_le _) (Nat.zero_le _) ?_
    refine fz_top (y := nI (max lg L)) ?_ ?_
    · by_cases h : lg < L
      · rw [if_pos ((nI_ltI (by omega) (by omega)).mpr h), Nat.max_eq_right (by omega)]
      · rw [if_neg (fun z => h ((nI_ltI (by omega) (by omega)).mp z)), Nat.max_eq_left (by omega)]
    refine fz_put1 dX0_countWay_26 fX0_59 rfl (Nat.le_of_ble_eq_true rfl) ⟨rfl, rfl⟩ ?_
    refine fz_iconst (v := nI 1) dX0_countWay_29 (by decide) ?_
    refine fz_zret dX0_countWay_30 rfl (by decide) (Nat.zero_le _) (Nat.zero_le _) ⟨rfl, rfl⟩
  · exact absurd c2 (oI_ne (by omega))
theorem tX0_countWay_no {G : fz_G} (g : Nat) (sz nw wy lg : Int32) : fz_T G mX0_countWay rX0_countWay [zR 16 0, zI (-1)] [(16, eFl g sz nw wy lg)] (fun r U => r = some (zI 0) ∧ U = [(16, eFl g sz nw wy lg)]) := by
  refine fz_T.of (by decide) (Nat.le_of_ble_eq_true rfl) (fun E0 => ?_)
  refine fz_iload_n dX0_countWay_0 rfl ?_
  refine fz_iconst (v := -1) dX0_countWay_1 (by decide) ?_
  refine fz_icmp_ne (tgt := 7) dX0_countWay_2 (by decide) (fun c2 => ?_) (fun c2 => ?_)
  · exact absurd rfl c2
  · skip
    refine fz_iconst (v := nI 0) dX0_countWay_5 (by decide) ?_
    refine fz_zret dX0_countWay_6 rfl (by decide) (Nat.zero_le _) (Nat.zero_le _) ⟨rfl, rfl⟩
theorem tX0_hasPicked_no {G : fz_G} (g : Nat) (sz nw wy lg : Int32) : fz_T G mX0_hasPicked rX0_hasPicked [zR 16 0, zI (-1)] [(16, eFl g sz nw wy lg)] (fun r U => r = some (zI 0) ∧ U = [(16, eFl g sz nw wy lg)]) := by
  refine fz_T.of (by decide) (Nat.le_of_ble_eq_true rfl) (fun E0 => ?_)
  refine fz_iload_n dX0_hasPicked_0 rfl ?_
  refine fz_iconst (v := -1) dX0_hasPicked_1 (by decide) ?_
  refine fz_icmp_eq (tgt := 24) dX0_hasPicked_2 (by decide) (fun c2 => ?_) (fun c2 => ?_)
  · skip
    refine fz_iconst (v := nI 0) dX0_hasPicked_24 (by decide) ?_
    refine fz_zret dX0_hasPicked_25 rfl (by decide) (Nat.zero_le _) (Nat.zero_le _) ⟨rfl, rfl⟩
  · exact absurd rfl c2
theorem tX0_hasPicked {G : fz_G} (g : Nat) (sz nw wy lg : Int32) (oc tc nc pn : Int32) (T : Nat → Nat → Int32) (k : Nat) (hk : k < 90) : fz_T G mX0_hasPicked rX0_hasPicked [zR 16 0, zI (nI k)] [(10, eOs oc tc nc pn), (12, eA12), (15, eTa T), (16, eFl g sz nw wy lg)] (fun r U => r = some (zI (if T k 3 = nI 2 then 1 else 0)) ∧ U = [(10, eOs oc tc nc pn), (12, eA12), (15, eTa T), (16, eFl g sz nw wy lg)]) := by
  refine fz_T.of (by decide) (Nat.le_of_ble_eq_true rfl) (fun E0 => ?_)
  refine fz_iload_n dX0_hasPicked_0 rfl ?_
  refine fz_iconst (v := -1) dX0_hasPicked_1 (by decide) ?_
  refine fz_icmp_eq (tgt := 24) dX0_hasPicked_2 (by decide) (fun c2 => ?_) (fun c2 => ?_)
  · exact absurd c2 (oI_ne (by omega))
  · skip
    refine fz_aload_n dX0_hasPicked_5 rfl ?_
    refine fz_get dX0_hasPicked_6 fX0_35 rfl (Nat.one_pos) rfl ?_
    refine fz_iload_n dX0_hasPicked_9 rfl ?_
    refine fz_callV (tX5_taskAt oc tc nc pn k hk) dX0_hasPicked_10 kX0_112 rfl (Nat.one_pos) ⟨rfl, rfl, trivial⟩ (Nat.le_of_ble_eq_true rfl) (Nat.le_of_ble_eq_true rfl) (Nat.le_of_ble_eq_true rfl) (Nat.le_of_ble_eq_true rfl) (Nat.le_of_ble_eq_true rfl) rfl (fun r U hq => ?_)
    obtain ⟨rfl, rfl⟩ := hq
    refine fz_back rfl ?_
    refine fz_get dX0_hasPicked_13 fX0_161 rfl (hk) rfl ?_
    refine fz_iconst (v := nI 2) dX0_hasPicked_16 (by decide) ?_
    refine fz_icmp_ne (tgt := 24) dX0_hasPicked_17 (by decide) (fun c17 => ?_) (fun c17 => ?_)
    · skip
      refine fz_iconst (v := nI 0) dX0_hasPicked_24 (by decide) ?_
      refine fz_zret dX0_hasPicked_25 rfl (by decide) (Nat.zero_le _) (Nat.zero_le _) ⟨by rw [if_neg c17]; rfl, rfl⟩
    · skip
      refine fz_iconst (v := nI 1) dX0_hasPicked_20 (by decide) ?_
      refine fz_goto (tgt := 25) dX0_hasPicked_21 (by decide) ?_
      refine fz_zret dX0_hasPicked_25 rfl (by decide) (Nat.zero_le _) (Nat.zero_le _) ⟨by rw [if_pos c17]; rfl, rfl⟩
/-- a task that is taken, and picked at once where the robot stands in the shelf -/
def tkU (a : Nat → Int32) (r t c : Nat) : Nat → Int32 := if a 1 = nI c then upd (upd (upd (upd (upd a 3 (nI 1)) 4 (nI r)) 6 (nI t)) 3 (nI 2)) 7 (nI t) else upd (upd (upd a 3 (nI 1)) 4 (nI r)) 6 (nI t)
theorem tX0_take {G : fz_G} (g : Nat) (sz wy lg : Int32) (oc tc nc : Int32) (p m s i r t c : Nat) (hr : r < 6) (hi : i < 90) (hs : s < 80) (pf : Nat → Int32) (hpf : pf s = nI (m + 1)) (T B : Nat → Nat → Int32) (hst : T i 2 = nI s) : fz_T G mX0_take rX0_take [zR 16 0, zI (nI r), zI (nI c), zI (nI i)] [(10, eOs oc tc nc (nI (p + 1))), (12, eA12), (13, e80 pf), (15, eTa T), (16, eFl g sz (nI t) wy lg), (17, eA17), (18, eRo B)] (fun x U => x = none ∧ U = [(10, eOs oc tc nc (nI p)), (12, eA12), (13, e80 (upd pf s (nI m))), (15, eTa (va_up T i (tkU (T i) r t c))), (16, eFl g sz (nI t) wy lg), (17, eA17), (18, eRo (va_up B r (upd (B r) 0 (nI i))))]) := by
  refine fz_T.of (by decide) (Nat.le_of_ble_eq_true rfl) (fun E0 => ?_)
  have hu : B = va_up B r (B r) := (va_upI B r).symm
  refine fz_wo (V' := [(10, eOs oc tc nc (nI (p + 1))), (12, eA12), (13, e80 pf), (15, eTa T), (16, eFl g sz (nI t) wy lg), (17, eA17), (18, eRo (va_up B r (B r)))]) (by rw [← hu]) ?_
  refine fz_aload_n dX0_take_0 rfl ?_
  refine fz_get dX0_take_1 fX0_35 rfl (Nat.one_pos) rfl ?_
  refine fz_iload_n dX0_take_4 rfl ?_
  refine fz_callV (tX5_taskAt oc tc nc (nI (p + 1)) i hi) dX0_take_5 kX0_112 rfl (Nat.one_pos) ⟨rfl, rfl, trivial⟩ (Nat.le_of_ble_eq_true rfl) (Nat.le_of_ble_eq_true rfl) (Nat.le_of_ble_eq_true rfl) (Nat.le_of_ble_eq_true rfl) (Nat.le_of_ble_eq_true rfl) rfl (fun r U hq => ?_)
  obtain ⟨rfl, rfl⟩ := hq
  refine fz_back rfl ?_
  refine fz_astore dX0_take_8 (Nat.le_of_ble_eq_true rfl) ?_
  refine fz_aload_n dX0_take_10 rfl ?_
  refine fz_get dX0_take_11 fX0_11 rfl (Nat.one_pos) rfl ?_
  refine fz_iload_n dX0_take_14 rfl ?_
  refine fz_aald dX0_take_15 rfl rfl Nat.one_pos (vp_in_nI hr (by omega)) (arr (by omega)) ?_
  refine fz_iload_n dX0_take_16 rfl ?_
  refine fz_putRo dX0_take_17 fX0_178 (by decide) rfl (hr) ⟨rfl, rfl⟩ ?_
  refine fz_aload_n dX0_take_20 rfl ?_
  refine fz_get dX0_take_21 fX0_35 rfl (Nat.one_pos) rfl ?_
  refine fz_aload dX0_take_24 rfl ?_
  refine fz_iload_n dX0_take_26 rfl ?_
  refine fz_aload_n dX0_take_27 rfl ?_
  refine fz_get dX0_take_28 fX0_53 rfl (Nat.one_pos) rfl ?_
  refine fz_wo (V' := [(10, eOs oc tc nc (nI (p + 1))), (12, eA12), (13, e80 pf), (15, eTa T), (16, eFl g sz (nI t) wy lg), (17, eA17), (18, eRo (va_up B r (upd (B r) 0 (nI i))))]) rfl ?_
  refine fz_callV (tX5_take oc tc nc p m s i hi hs pf hpf T hst (nI r) (nI t)) dX0_take_31 kX0_181 rfl (Nat.one_pos) ⟨rfl, rfl, rfl, trivial⟩ (Nat.le_of_ble_eq_true rfl) (Nat.le_of_ble_eq_true rfl) (Nat.le_of_ble_eq_true rfl) (Nat.le_of_ble_eq_true rfl) (Nat.le_of_ble_eq_true rfl) rfl (fun r U hq => ?_)
  obtain ⟨rfl, rfl⟩ := hq
  refine fz_back rfl ?_
  refine fz_iload_n dX0_take_34 rfl ?_
  refine fz_aload dX0_take_35 rfl ?_
  refine fz_get dX0_take_37 fX0_116 rfl (hi) rfl ?_
  rw [va_up_self, pk_un (by decide), pk_un (by decide), pk_un (by decide)]
  refine fz_icmp_ne (tgt := 56) dX0_take_40 (by decide) (fun c40 => ?_) (fun c40 => ?_)
  · skip
    refine fz_vret dX0_take_56 rfl (Nat.zero_le _) (Nat.zero_le _) ⟨rfl, by unfold tkU; rw [if_neg (fun z => c40 z.symm)]; rfl⟩
  · skip
    refine fz_aload_n dX0_take_43 rfl ?_
    refine fz_get dX0_take_44 fX0_35 rfl (Nat.one_pos) rfl ?_
    refine fz_aload dX0_take_47 rfl ?_
    refine fz_aload_n dX0_take_49 rfl ?_
    refine fz_get dX0_take_50 fX0_53 rfl (Nat.one_pos) rfl ?_
    refine fz_callV (tX5_pick oc tc nc (nI p) i hi _ (nI t)) dX0_take_53 kX0_184 rfl (Nat.one_pos) ⟨rfl, rfl, trivial⟩ (Nat.le_of_ble_eq_true rfl) (Nat.le_of_ble_eq_true rfl) (Nat.le_of_ble_eq_true rfl) (Nat.le_of_ble_eq_true rfl) (Nat.le_of_ble_eq_true rfl) rfl (fun r U hq => ?_)
    obtain ⟨rfl, rfl⟩ := hq
    refine fz_back rfl ?_
    refine fz_vret dX0_take_56 rfl (Nat.zero_le _) (Nat.zero_le _) ⟨rfl, by unfold tkU; rw [if_pos c40.symm, va_up_self, va_upU]; rfl⟩
