/-! FleetController$Orders -/
theorem arr {k n : Nat} (h : n < 2 ^ 31) : some (k, (nI n).toNatClampNeg) = some (k, n) := by rw [nI_clamp h]
abbrev eOs (oc tc nc pn : Int32) : fz_E := zo 5 1 (fun _ => [zR 11 0, zR 12 0, zR 13 0, zI oc, zI tc, zI nc, zI pn])
abbrev eA11 : fz_E := zq 3 1 40 (fun _ j => some (14, j))
abbrev eA12 : fz_E := zq 4 1 90 (fun _ j => some (15, j))
theorem tX5_size {G : fz_G} (oc tc nc pn : Int32) : fz_T G mX5_size rX5_size [zR 10 0] [(10, eOs oc tc nc pn)] (fun r U => r = some (zI oc) ∧ U = [(10, eOs oc tc nc pn)]) := by
  refine fz_T.of (by decide) (Nat.le_of_ble_eq_true rfl) (fun E0 => ?_)
  refine fz_aload_n dX5_size_0 rfl ?_
  refine fz_get dX5_size_1 fX5_29 rfl (Nat.one_pos) rfl ?_
  refine fz_iret dX5_size_4 rfl (Nat.zero_le _) (Nat.zero_le _) ⟨rfl, rfl⟩
theorem tX5_open {G : fz_G} (oc tc nc pn : Int32) : fz_T G mX5_open rX5_open [zR 10 0] [(10, eOs oc tc nc pn)] (fun r U => r = some (zI nc) ∧ U = [(10, eOs oc tc nc pn)]) := by
  refine fz_T.of (by decide) (Nat.le_of_ble_eq_true rfl) (fun E0 => ?_)
  refine fz_aload_n dX5_open_0 rfl ?_
  refine fz_get dX5_open_1 fX5_33 rfl (Nat.one_pos) rfl ?_
  refine fz_iret dX5_open_4 rfl (Nat.zero_le _) (Nat.zero_le _) ⟨rfl, rfl⟩
theorem tX5_tasks {G : fz_G} (oc tc nc pn : Int32) : fz_T G mX5_tasks rX5_tasks [zR 10 0] [(10, eOs oc tc nc pn)] (fun r U => r = some (zI tc) ∧ U = [(10, eOs oc tc nc pn)]) := by
  refine fz_T.of (by decide) (Nat.le_of_ble_eq_true rfl) (fun E0 => ?_)
  refine fz_aload_n dX5_tasks_0 rfl ?_
  refine fz_get dX5_tasks_1 fX5_36 rfl (Nat.one_pos) rfl ?_
  refine fz_iret dX5_tasks_4 rfl (Nat.zero_le _) (Nat.zero_le _) ⟨rfl, rfl⟩
theorem tX5_pending {G : fz_G} (oc tc nc pn : Int32) : fz_T G mX5_pending rX5_pending [zR 10 0] [(10, eOs oc tc nc pn)] (fun r U => r = some (zI pn) ∧ U = [(10, eOs oc tc nc pn)]) := by
  refine fz_T.of (by decide) (Nat.le_of_ble_eq_true rfl) (fun E0 => ?_)
  refine fz_aload_n dX5_pending_0 rfl ?_
  refine fz_get dX5_pending_1 fX5_39 rfl (Nat.one_pos) rfl ?_
  refine fz_iret dX5_pending_4 rfl (Nat.zero_le _) (Nat.zero_le _) ⟨rfl, rfl⟩
theorem tX5_arePendingFor {G : fz_G} (oc tc nc pn : Int32) (pf : Nat → Int32) (c : Nat) (hc : c < 80) : fz_T G mX5_arePendingFor rX5_arePendingFor [zR 10 0, zI (nI c)] [(10, eOs oc tc nc pn), (13, e80 pf)] (fun r U => r = some (zI (if pf c ≤ 0 then 0 else 1)) ∧ U = [(10, eOs oc tc nc pn), (13, e80 pf)]) := by
  refine fz_T.of (by decide) (Nat.le_of_ble_eq_true rfl) (fun E0 => ?_)
  refine fz_aload_n dX5_arePendingFor_0 rfl ?_
  refine fz_get dX5_arePendingFor_1 fX5_23 rfl (Nat.one_pos) rfl ?_
  refine fz_iload_n dX5_arePendingFor_4 rfl ?_
  refine fz_iald dX5_arePendingFor_5 rfl rfl (Nat.one_pos) (vp_in_nI hc (by omega)) ?_
  rw [nI_clamp (by omega)]
  refine fz_if_le (tgt := 13) dX5_arePendingFor_6 (by decide) (fun c6 => ?_) (fun c6 => ?_)
  · skip
    refine fz_iconst (v := nI 0) dX5_arePendingFor_13 (by decide) ?_
    refine fz_zret dX5_arePendingFor_14 rfl (by decide) (Nat.zero_le _) (Nat.zero_le _) ⟨by rw [if_pos c6]; rfl, rfl⟩
  · skip
    refine fz_iconst (v := nI 1) dX5_arePendingFor_9 (by decide) ?_
    refine fz_goto (tgt := 14) dX5_arePendingFor_10 (by decide) ?_
    refine fz_zret dX5_arePendingFor_14 rfl (by decide) (Nat.zero_le _) (Nat.zero_le _) ⟨by rw [if_neg c6]; rfl, rfl⟩
theorem tX5_taskAt {G : fz_G} (oc tc nc pn : Int32) (i : Nat) (hi : i < 90) : fz_T G mX5_taskAt rX5_taskAt [zR 10 0, zI (nI i)] [(10, eOs oc tc nc pn), (12, eA12)] (fun r U => r = some (zR 15 i) ∧ U = [(10, eOs oc tc nc pn), (12, eA12)]) := by
  refine fz_T.of (by decide) (Nat.le_of_ble_eq_true rfl) (fun E0 => ?_)
  refine fz_aload_n dX5_taskAt_0 rfl ?_
  refine fz_get dX5_taskAt_1 fX5_19 rfl (Nat.one_pos) rfl ?_
  refine fz_iload_n dX5_taskAt_4 rfl ?_
  refine fz_aald dX5_taskAt_5 rfl rfl Nat.one_pos (vp_in_nI hi (by omega)) (arr (by omega)) ?_
  refine fz_aret dX5_taskAt_6 rfl (Or.inl ⟨_, rfl⟩) (Nat.zero_le _) (Nat.zero_le _) ⟨rfl, rfl⟩
theorem tX5_clear {G : fz_G} (oc tc nc pn : Int32) (pf : Nat → Int32) : fz_T G mX5_clear rX5_clear [zR 10 0] [(10, eOs oc tc nc pn), (13, e80 pf)] (fun r U => r = none ∧ ∃ pf', (∀ j, j < 80 → pf' j = nI 0) ∧ U = [(10, eOs (nI 0) (nI 0) (nI 0) (nI 0)), (13, e80 pf')]) := by
  refine fz_T.of (by decide) (Nat.le_of_ble_eq_true rfl) (fun E0 => ?_)
  refine fz_aload_n dX5_clear_0 rfl ?_
  refine fz_get dX5_clear_1 fX5_23 rfl (Nat.one_pos) rfl ?_
  refine fz_iconst (v := nI 0) dX5_clear_4 (by decide) ?_
  refine fz_callS (tJ7_fill_13 (nI 0) pf) dX5_clear_5 kX5_42 ⟨rfl, trivial⟩ (Nat.le_of_ble_eq_true rfl) (Nat.le_of_ble_eq_true rfl) (Nat.le_of_ble_eq_true rfl) (Nat.le_of_ble_eq_true rfl) (Nat.le_of_ble_eq_true rfl) rfl (fun r U hq => ?_)
  obtain ⟨rfl, a, ha, rfl⟩ := hq
  refine fz_back rfl ?_
  refine fz_aload_n dX5_clear_8 rfl ?_
  refine fz_iconst (v := nI 0) dX5_clear_9 (by decide) ?_
  refine fz_put1 dX5_clear_10 fX5_29 rfl (Nat.le_of_ble_eq_true rfl) ⟨rfl, rfl⟩ ?_
  refine fz_aload_n dX5_clear_13 rfl ?_
  refine fz_iconst (v := nI 0) dX5_clear_14 (by decide) ?_
  refine fz_put1 dX5_clear_15 fX5_36 rfl (Nat.le_of_ble_eq_true rfl) ⟨rfl, rfl⟩ ?_
  refine fz_aload_n dX5_clear_18 rfl ?_
  refine fz_iconst (v := nI 0) dX5_clear_19 (by decide) ?_
  refine fz_put1 dX5_clear_20 fX5_33 rfl (Nat.le_of_ble_eq_true rfl) ⟨rfl, rfl⟩ ?_
  refine fz_aload_n dX5_clear_23 rfl ?_
  refine fz_iconst (v := nI 0) dX5_clear_24 (by decide) ?_
  refine fz_put1 dX5_clear_25 fX5_39 rfl (Nat.le_of_ble_eq_true rfl) ⟨rfl, rfl⟩ ?_
  refine fz_vret dX5_clear_28 rfl (Nat.zero_le _) (Nat.zero_le _) ⟨rfl, a, ha, rfl⟩
theorem tX5_haveRoomFor {G : fz_G} (on tn : Nat) (ho : on ≤ 40) (ht : tn ≤ 90) (nc pn : Int32) (m : Nat) (hm : m ≤ 3) : fz_T G mX5_haveRoomFor rX5_haveRoomFor [zR 10 0, zI (nI m)] [(10, eOs (nI on) (nI tn) nc pn)] (fun r U => r = some (zI (if on < 40 ∧ tn + m ≤ 90 then 1 else 0)) ∧ U = [(10, eOs (nI on) (nI tn) nc pn)]) := by
  refine fz_T.of (by decide) (Nat.le_of_ble_eq_true rfl) (fun E0 => ?_)
  refine fz_aload_n dX5_haveRoomFor_0 rfl ?_
  refine fz_get dX5_haveRoomFor_1 fX5_29 rfl (Nat.one_pos) rfl ?_
  refine fz_bipush (v := nI 40) dX5_haveRoomFor_4 (by decide) ?_
  refine fz_icmp_ge (tgt := 24) dX5_haveRoomFor_6 (by decide) (fun c6 => ?_) (fun c6 => ?_)
  · have h1 : 40 ≤ on := (nI_leI (by omega) (by omega)).mp c6
    refine fz_iconst (v := nI 0) dX5_haveRoomFor_24 (by decide) ?_
    refine fz_zret dX5_haveRoomFor_25 rfl (by decide) (Nat.zero_le _) (Nat.zero_le _) ⟨by rw [if_neg (by omega)]; rfl, rfl⟩
  · have h1 : on < 40 := by
      rcases Nat.lt_or_ge on 40 with z | z
      · exact z
      · exact absurd (nI_le z (by omega)) c6
    refine fz_aload_n dX5_haveRoomFor_9 rfl ?_
    refine fz_get dX5_haveRoomFor_10 fX5_36 rfl (Nat.one_pos) rfl ?_
    refine fz_iload_n dX5_haveRoomFor_13 rfl ?_
    refine fz_iadd dX5_haveRoomFor_14 ?_
    rw [nI_add]
    refine fz_bipush (v := nI 90) dX5_haveRoomFor_15 (by decide) ?_
    refine fz_icmp_gt (tgt := 24) dX5_haveRoomFor_17 (by decide) (fun c17 => ?_) (fun c17 => ?_)
    · have h2 : 90 < tn + m := (nI_ltI (by omega) (by omega)).mp c17
      refine fz_iconst (v := nI 0) dX5_haveRoomFor_24 (by decide) ?_
      refine fz_zret dX5_haveRoomFor_25 rfl (by decide) (Nat.zero_le _) (Nat.zero_le _) ⟨by rw [if_neg (by omega)]; rfl, rfl⟩
    · have h2 : tn + m ≤ 90 := by
        rcases Nat.lt_or_ge 90 (tn + m) with z | z
        · exact absurd (nI_lt z (by omega)) c17
        · exact z
      refine fz_iconst (v := nI 1) dX5_haveRoomFor_20 (by decide) ?_
      refine fz_goto (tgt := 25) dX5_haveRoomFor_21 (by decide) ?_
      refine fz_zret dX5_haveRoomFor_25 rfl (by decide) (Nat.zero_le _) (Nat.zero_le _) ⟨by rw [if_pos ⟨h1, h2⟩]; rfl, rfl⟩
theorem tX5_add {G : fz_G} (on : Nat) (ho : on < 40) (tc pn : Int32) (nn : Nat) (O : Nat → Nat → Int32) (s n t : Int32) : fz_T G mX5_add rX5_add [zR 10 0, zI s, zI n, zI t] [(10, eOs (nI on) tc (nI nn) pn), (11, eA11), (14, eOr O)] (fun r U => r = some (zI (nI on)) ∧ U = [(10, eOs (nI (on + 1)) tc (nI (nn + 1)) pn), (11, eA11), (14, eOr (va_up O on (orN s n tc t (O on))))]) := by
  refine fz_T.of (by decide) (Nat.le_of_ble_eq_true rfl) (fun E0 => ?_)
  refine fz_aload_n dX5_add_0 rfl ?_
  refine fz_get dX5_add_1 fX5_11 rfl (Nat.one_pos) rfl ?_
  refine fz_aload_n dX5_add_4 rfl ?_
  refine fz_get dX5_add_5 fX5_29 rfl (Nat.one_pos) rfl ?_
  refine fz_aald dX5_add_8 rfl rfl Nat.one_pos (vp_in_nI ho (by omega)) (arr (by omega)) ?_
  refine fz_iload_n dX5_add_9 rfl ?_
  refine fz_iload_n dX5_add_10 rfl ?_
  refine fz_aload_n dX5_add_11 rfl ?_
  refine fz_get dX5_add_12 fX5_36 rfl (Nat.one_pos) rfl ?_
  refine fz_iload_n dX5_add_15 rfl ?_
  have hu : O = va_up O on (O on) := (va_upI O on).symm
  refine fz_wo (V' := [(10, eOs (nI on) tc (nI nn) pn), (11, eA11), (14, eOr (va_up O on (O on)))]) (by rw [← hu]) ?_
  refine fz_callV (tX4_begin O (O on) on ho s n tc t) dX5_add_16 kX5_48 rfl (ho) ⟨rfl, trivial⟩ (Nat.le_of_ble_eq_true rfl) (Nat.le_of_ble_eq_true rfl) (Nat.le_of_ble_eq_true rfl) (Nat.le_of_ble_eq_true rfl) (Nat.le_of_ble_eq_true rfl) rfl (fun r U hq => ?_)
  obtain ⟨rfl, rfl⟩ := hq
  refine fz_back rfl ?_
  refine fz_aload_n dX5_add_19 rfl ?_
  refine fz_dup dX5_add_20 rfl ?_
  refine fz_get dX5_add_21 fX5_33 rfl (Nat.one_pos) rfl ?_
  refine fz_iconst (v := nI 1) dX5_add_24 (by decide) ?_
  refine fz_iadd dX5_add_25 ?_
  rw [nI_add]
  refine fz_put1 dX5_add_26 fX5_33 rfl (Nat.le_of_ble_eq_true rfl) ⟨rfl, rfl⟩ ?_
  refine fz_aload_n dX5_add_29 rfl ?_
  refine fz_dup dX5_add_30 rfl ?_
  refine fz_get dX5_add_31 fX5_29 rfl (Nat.one_pos) rfl ?_
  refine fz_iconst (v := nI 1) dX5_add_34 (by decide) ?_
  refine fz_iadd dX5_add_35 ?_
  rw [nI_add]
  refine fz_put1 dX5_add_36 fX5_29 rfl (Nat.le_of_ble_eq_true rfl) ⟨rfl, rfl⟩ ?_
  refine fz_aload_n dX5_add_39 rfl ?_
  refine fz_get dX5_add_40 fX5_29 rfl (Nat.one_pos) rfl ?_
  refine fz_iconst (v := nI 1) dX5_add_43 (by decide) ?_
  refine fz_isub dX5_add_44 ?_
  refine fz_top (y := nI on) (nI_pred on) ?_
  refine fz_iret dX5_add_45 rfl (Nat.zero_le _) (Nat.zero_le _) ⟨rfl, rfl⟩
theorem tX5_addTask {G : fz_G} (on tn k s : Nat) (hk : k < 40) (ht : tn < 90) (hs : s < 80) (oc nc : Int32) (pn : Nat) (O T : Nat → Nat → Int32) (pf : Nat → Int32) (sh : Int32) (hst : O k 0 = nI s) (m : Nat) (hpf : pf s = nI m) : fz_T G mX5_addTask rX5_addTask [zR 10 0, zI (nI k), zI sh] [(10, eOs oc (nI tn) nc (nI pn)), (11, eA11), (12, eA12), (13, e80 pf), (14, eOr O), (15, eTa T)] (fun r U => r = none ∧ U = [(10, eOs oc (nI (tn + 1)) nc (nI (pn + 1))), (11, eA11), (12, eA12), (13, e80 (upd pf s (nI (m + 1)))), (14, eOr O), (15, eTa (va_up T tn (tkN (nI k) sh (nI s) (O k 4) (T tn))))]) := by
  refine fz_T.of (by decide) (Nat.le_of_ble_eq_true rfl) (fun E0 => ?_)
  refine fz_aload_n dX5_addTask_0 rfl ?_
  refine fz_get dX5_addTask_1 fX5_11 rfl (Nat.one_pos) rfl ?_
  refine fz_iload_n dX5_addTask_4 rfl ?_
  refine fz_aald dX5_addTask_5 rfl rfl Nat.one_pos (vp_in_nI hk (by omega)) (arr (by omega)) ?_
  refine fz_astore_n dX5_addTask_6 (Nat.le_of_ble_eq_true rfl) ?_
  refine fz_aload_n dX5_addTask_7 rfl ?_
  refine fz_get dX5_addTask_8 fX5_19 rfl (Nat.one_pos) rfl ?_
  refine fz_aload_n dX5_addTask_11 rfl ?_
  refine fz_get dX5_addTask_12 fX5_36 rfl (Nat.one_pos) rfl ?_
  refine fz_aald dX5_addTask_15 rfl rfl Nat.one_pos (vp_in_nI ht (by omega)) (arr (by omega)) ?_
  refine fz_iload_n dX5_addTask_16 rfl ?_
  refine fz_iload_n dX5_addTask_17 rfl ?_
  refine fz_aload_n dX5_addTask_18 rfl ?_
  refine fz_get dX5_addTask_19 fX5_52 rfl (hk) rfl ?_
  refine fz_aload_n dX5_addTask_22 rfl ?_
  refine fz_get dX5_addTask_23 fX5_55 rfl (hk) rfl ?_
  have hu : T = va_up T tn (T tn) := (va_upI T tn).symm
  rw [hst]
  refine fz_wo (V' := [(10, eOs oc (nI tn) nc (nI pn)), (11, eA11), (12, eA12), (13, e80 pf), (14, eOr O), (15, eTa (va_up T tn (T tn)))]) (by rw [← hu]) ?_
  refine fz_callV (tX7_begin T (T tn) tn ht (nI k) sh (nI s) (O k 4)) dX5_addTask_26 kX5_58 rfl (ht) ⟨rfl, trivial⟩ (Nat.le_of_ble_eq_true rfl) (Nat.le_of_ble_eq_true rfl) (Nat.le_of_ble_eq_true rfl) (Nat.le_of_ble_eq_true rfl) (Nat.le_of_ble_eq_true rfl) rfl (fun r U hq => ?_)
  obtain ⟨rfl, rfl⟩ := hq
  refine fz_back rfl ?_
  refine fz_aload_n dX5_addTask_29 rfl ?_
  refine fz_dup dX5_addTask_30 rfl ?_
  refine fz_get dX5_addTask_31 fX5_36 rfl (Nat.one_pos) rfl ?_
  refine fz_iconst (v := nI 1) dX5_addTask_34 (by decide) ?_
  refine fz_iadd dX5_addTask_35 ?_
  rw [nI_add]
  refine fz_put1 dX5_addTask_36 fX5_36 rfl (Nat.le_of_ble_eq_true rfl) ⟨rfl, rfl⟩ ?_
  refine fz_aload_n dX5_addTask_39 rfl ?_
  refine fz_dup dX5_addTask_40 rfl ?_
  refine fz_get dX5_addTask_41 fX5_39 rfl (Nat.one_pos) rfl ?_
  refine fz_iconst (v := nI 1) dX5_addTask_44 (by decide) ?_
  refine fz_iadd dX5_addTask_45 ?_
  rw [nI_add]
  refine fz_put1 dX5_addTask_46 fX5_39 rfl (Nat.le_of_ble_eq_true rfl) ⟨rfl, rfl⟩ ?_
  refine fz_aload_n dX5_addTask_49 rfl ?_
  refine fz_get dX5_addTask_50 fX5_23 rfl (Nat.one_pos) rfl ?_
  refine fz_aload_n dX5_addTask_53 rfl ?_
  refine fz_get dX5_addTask_54 fX5_52 rfl (hk) rfl ?_
  rw [hst]
  refine fz_dup2_11 dX5_addTask_57 rfl rfl ?_
  refine fz_iald dX5_addTask_58 rfl rfl (Nat.one_pos) (vp_in_nI hs (by omega)) ?_
  rw [nI_clamp (by omega), hpf]
  refine fz_iconst (v := nI 1) dX5_addTask_59 (by decide) ?_
  refine fz_iadd dX5_addTask_60 ?_
  rw [nI_add]
  refine fz_iast1 dX5_addTask_61 rfl rfl (vp_in_nI hs (by omega)) ?_
  rw [nI_clamp (by omega)]
  refine fz_vret dX5_addTask_62 rfl (Nat.zero_le _) (Nat.zero_le _) ⟨rfl, rfl⟩
