/-! FleetController$Orders: what happens to tasks -/
theorem nI_sub1 (n : Nat) : nI (n + 1) - nI 1 = nI n := nI_pred n
theorem tX5_leavePending {G : fz_G} (oc tc nc : Int32) (p m s i : Nat) (hi : i < 90) (hs : s < 80) (pf : Nat → Int32) (hpf : pf s = nI (m + 1)) (T : Nat → Nat → Int32) (hst : T i 2 = nI s) (x : Int32) : fz_T G mX5_leavePending rX5_leavePending [zR 10 0, zR 15 i, zI x] [(10, eOs oc tc nc (nI (p + 1))), (13, e80 pf), (15, eTa T)] (fun r U => r = none ∧ U = [(10, eOs oc tc nc (nI p)), (13, e80 (upd pf s (nI m))), (15, eTa (va_up T i (upd (T i) 3 x)))]) := by
  refine fz_T.of (by decide) (Nat.le_of_ble_eq_true rfl) (fun E0 => ?_)
  have hu : T = va_up T i (T i) := (va_upI T i).symm
  refine fz_wo (V' := [(10, eOs oc tc nc (nI (p + 1))), (13, e80 pf), (15, eTa (va_up T i (T i)))]) (by rw [← hu]) ?_
  refine fz_aload_n dX5_leavePending_0 rfl ?_
  refine fz_iload_n dX5_leavePending_1 rfl ?_
  refine fz_putTa dX5_leavePending_2 fX5_64 (by decide) rfl (hi) ⟨rfl, rfl⟩ ?_
  refine fz_aload_n dX5_leavePending_5 rfl ?_
  refine fz_dup dX5_leavePending_6 rfl ?_
  refine fz_get dX5_leavePending_7 fX5_39 rfl (Nat.one_pos) rfl ?_
  refine fz_iconst (v := nI 1) dX5_leavePending_10 (by decide) ?_
  refine fz_isub dX5_leavePending_11 ?_
  refine fz_top (y := nI p) (nI_sub1 p) ?_
  refine fz_put1 dX5_leavePending_12 fX5_39 rfl (Nat.le_of_ble_eq_true rfl) ⟨rfl, rfl⟩ ?_
  refine fz_aload_n dX5_leavePending_15 rfl ?_
  refine fz_get dX5_leavePending_16 fX5_23 rfl (Nat.one_pos) rfl ?_
  refine fz_aload_n dX5_leavePending_19 rfl ?_
  refine fz_get dX5_leavePending_20 fX5_90 rfl (hi) rfl ?_
  rw [va_up_self, pk_un (by decide), hst]
  refine fz_dup2_11 dX5_leavePending_23 rfl rfl ?_
  refine fz_iald dX5_leavePending_24 rfl rfl (Nat.one_pos) (vp_in_nI hs (by omega)) ?_
  rw [nI_clamp (by omega), hpf]
  refine fz_iconst (v := nI 1) dX5_leavePending_25 (by decide) ?_
  refine fz_isub dX5_leavePending_26 ?_
  refine fz_top (y := nI m) (nI_sub1 m) ?_
  refine fz_iast1 dX5_leavePending_27 rfl rfl (vp_in_nI hs (by omega)) ?_
  rw [nI_clamp (by omega)]
  refine fz_vret dX5_leavePending_28 rfl (Nat.zero_le _) (Nat.zero_le _) ⟨rfl, rfl⟩
/-- an order with one open task fewer -/
def fin1 (b : Nat → Int32) (u : Nat) (t : Int32) : Nat → Int32 := if u = 0 then upd (upd b 3 (nI 0)) 5 t else upd b 3 (nI u)
theorem tX5_finishOne {G : fz_G} (oc tc pn : Int32) (c u k : Nat) (hk : k < 40) (hu : u < 1000) (O : Nat → Nat → Int32) (h3 : O k 3 = nI (u + 1)) (t : Int32) : fz_T G mX5_finishOne rX5_finishOne [zR 10 0, zR 14 k, zI t] [(10, eOs oc tc (nI (c + 1)) pn), (14, eOr O)] (fun r U => r = none ∧ U = [(10, eOs oc tc (nI (if u = 0 then c else c + 1)) pn), (14, eOr (va_up O k (fin1 (O k) u t)))]) := by
  refine fz_T.of (by decide) (Nat.le_of_ble_eq_true rfl) (fun E0 => ?_)
  have hv : O = va_up O k (O k) := (va_upI O k).symm
  refine fz_wo (V' := [(10, eOs oc tc (nI (c + 1)) pn), (14, eOr (va_up O k (O k)))]) (by rw [← hv]) ?_
  refine fz_aload_n dX5_finishOne_0 rfl ?_
  refine fz_dup dX5_finishOne_1 rfl ?_
  refine fz_get dX5_finishOne_2 fX5_91 rfl (hk) rfl ?_
  rw [va_up_self, h3]
  refine fz_iconst (v := nI 1) dX5_finishOne_5 (by decide) ?_
  refine fz_isub dX5_finishOne_6 ?_
  refine fz_top (y := nI u) (nI_sub1 u) ?_
  refine fz_putOr dX5_finishOne_7 fX5_91 (by decide) rfl (hk) ⟨rfl, rfl⟩ ?_
  refine fz_aload_n dX5_finishOne_10 rfl ?_
  refine fz_get dX5_finishOne_11 fX5_91 rfl (hk) rfl ?_
  rw [va_up_self, pk_us]
  refine fz_if_ne (tgt := 32) dX5_finishOne_14 (by decide) (fun c14 => ?_) (fun c14 => ?_)
  · have h0 : ¬ u = 0 := fun z => c14 (by rw [z]; exact nI_0)
    refine fz_vret dX5_finishOne_32 rfl (Nat.zero_le _) (Nat.zero_le _) ⟨rfl, by unfold fin1; rw [if_neg h0, if_neg h0]; rfl⟩
  · have h0 : u = 0 := (nI_eq (by omega) (by omega)).mp c14
    refine fz_aload_n dX5_finishOne_17 rfl ?_
    refine fz_iload_n dX5_finishOne_18 rfl ?_
    refine fz_putOr dX5_finishOne_19 fX5_94 (by decide) rfl (hk) ⟨rfl, rfl⟩ ?_
    refine fz_aload_n dX5_finishOne_22 rfl ?_
    refine fz_dup dX5_finishOne_23 rfl ?_
    refine fz_get dX5_finishOne_24 fX5_33 rfl (Nat.one_pos) rfl ?_
    refine fz_iconst (v := nI 1) dX5_finishOne_27 (by decide) ?_
    refine fz_isub dX5_finishOne_28 ?_
    refine fz_top (y := nI c) (nI_sub1 c) ?_
    refine fz_put1 dX5_finishOne_29 fX5_33 rfl (Nat.le_of_ble_eq_true rfl) ⟨rfl, rfl⟩ ?_
    refine fz_vret dX5_finishOne_32 rfl (Nat.zero_le _) (Nat.zero_le _) ⟨rfl, by unfold fin1; rw [if_pos h0, if_pos h0]; subst h0; rfl⟩
theorem tX5_take {G : fz_G} (oc tc nc : Int32) (p m s i : Nat) (hi : i < 90) (hs : s < 80) (pf : Nat → Int32) (hpf : pf s = nI (m + 1)) (T : Nat → Nat → Int32) (hst : T i 2 = nI s) (x t : Int32) : fz_T G mX5_take rX5_take [zR 10 0, zR 15 i, zI x, zI t] [(10, eOs oc tc nc (nI (p + 1))), (13, e80 pf), (15, eTa T)] (fun r U => r = none ∧ U = [(10, eOs oc tc nc (nI p)), (13, e80 (upd pf s (nI m))), (15, eTa (va_up T i (upd (upd (upd (T i) 3 (nI 1)) 4 x) 6 t)))]) := by
  refine fz_T.of (by decide) (Nat.le_of_ble_eq_true rfl) (fun E0 => ?_)
  refine fz_aload_n dX5_take_0 rfl ?_
  refine fz_aload_n dX5_take_1 rfl ?_
  refine fz_iconst (v := nI 1) dX5_take_2 (by decide) ?_
  refine fz_callV (tX5_leavePending oc tc nc p m s i hi hs pf hpf T hst (nI 1)) dX5_take_3 kX5_67 rfl (Nat.one_pos) ⟨rfl, rfl, rfl, trivial⟩ (Nat.le_of_ble_eq_true rfl) (Nat.le_of_ble_eq_true rfl) (Nat.le_of_ble_eq_true rfl) (Nat.le_of_ble_eq_true rfl) (Nat.le_of_ble_eq_true rfl) rfl (fun r U hq => ?_)
  obtain ⟨rfl, rfl⟩ := hq
  refine fz_back rfl ?_
  refine fz_aload_n dX5_take_6 rfl ?_
  refine fz_iload_n dX5_take_7 rfl ?_
  refine fz_putTa dX5_take_8 fX5_75 (by decide) rfl (hi) ⟨rfl, rfl⟩ ?_
  refine fz_aload_n dX5_take_11 rfl ?_
  refine fz_iload_n dX5_take_12 rfl ?_
  refine fz_putTa dX5_take_13 fX5_78 (by decide) rfl (hi) ⟨rfl, rfl⟩ ?_
  refine fz_vret dX5_take_16 rfl (Nat.zero_le _) (Nat.zero_le _) ⟨rfl, rfl⟩
theorem tX5_pick {G : fz_G} (oc tc nc pn : Int32) (i : Nat) (hi : i < 90) (T : Nat → Nat → Int32) (t : Int32) : fz_T G mX5_pick rX5_pick [zR 10 0, zR 15 i, zI t] [(10, eOs oc tc nc pn), (15, eTa T)] (fun r U => r = none ∧ U = [(10, eOs oc tc nc pn), (15, eTa (va_up T i (upd (upd (T i) 3 (nI 2)) 7 t)))]) := by
  refine fz_T.of (by decide) (Nat.le_of_ble_eq_true rfl) (fun E0 => ?_)
  have hu : T = va_up T i (T i) := (va_upI T i).symm
  refine fz_wo (V' := [(10, eOs oc tc nc pn), (15, eTa (va_up T i (T i)))]) (by rw [← hu]) ?_
  refine fz_aload_n dX5_pick_0 rfl ?_
  refine fz_iconst (v := nI 2) dX5_pick_1 (by decide) ?_
  refine fz_putTa dX5_pick_2 fX5_64 (by decide) rfl (hi) ⟨rfl, rfl⟩ ?_
  refine fz_aload_n dX5_pick_5 rfl ?_
  refine fz_iload_n dX5_pick_6 rfl ?_
  refine fz_putTa dX5_pick_7 fX5_81 (by decide) rfl (hi) ⟨rfl, rfl⟩ ?_
  refine fz_vret dX5_pick_10 rfl (Nat.zero_le _) (Nat.zero_le _) ⟨rfl, rfl⟩
theorem tX5_bring {G : fz_G} (oc tc pn : Int32) (i k c u : Nat) (hi : i < 90) (hk : k < 40) (hu : u < 1000) (T O : Nat → Nat → Int32) (hto : T i 0 = nI k) (h3 : O k 3 = nI (u + 1)) (t : Int32) : fz_T G mX5_bring rX5_bring [zR 10 0, zR 15 i, zI t] [(10, eOs oc tc (nI (c + 1)) pn), (11, eA11), (14, eOr O), (15, eTa T)] (fun r U => r = none ∧ U = [(10, eOs oc tc (nI (if u = 0 then c else c + 1)) pn), (11, eA11), (14, eOr (va_up O k (fin1 (O k) u t))), (15, eTa (va_up T i (upd (upd (T i) 3 (nI 3)) 8 t)))]) := by
  refine fz_T.of (by decide) (Nat.le_of_ble_eq_true rfl) (fun E0 => ?_)
  have hv : T = va_up T i (T i) := (va_upI T i).symm
  refine fz_wo (V' := [(10, eOs oc tc (nI (c + 1)) pn), (11, eA11), (14, eOr O), (15, eTa (va_up T i (T i)))]) (by rw [← hv]) ?_
  refine fz_aload_n dX5_bring_0 rfl ?_
  refine fz_iconst (v := nI 3) dX5_bring_1 (by decide) ?_
  refine fz_putTa dX5_bring_2 fX5_64 (by decide) rfl (hi) ⟨rfl, rfl⟩ ?_
  refine fz_aload_n dX5_bring_5 rfl ?_
  refine fz_iload_n dX5_bring_6 rfl ?_
  refine fz_putTa dX5_bring_7 fX5_84 (by decide) rfl (hi) ⟨rfl, rfl⟩ ?_
  refine fz_aload_n dX5_bring_10 rfl ?_
  refine fz_aload_n dX5_bring_11 rfl ?_
  refine fz_get dX5_bring_12 fX5_11 rfl (Nat.one_pos) rfl ?_
  refine fz_aload_n dX5_bring_15 rfl ?_
  refine fz_get dX5_bring_16 fX5_87 rfl (hi) rfl ?_
  rw [va_up_self, pk_un (by decide), pk_un (by decide), hto]
  refine fz_aald dX5_bring_19 rfl rfl Nat.one_pos (vp_in_nI hk (by omega)) (arr (by omega)) ?_
  refine fz_iload_n dX5_bring_20 rfl ?_
  refine fz_callV (tX5_finishOne oc tc pn c u k hk hu O h3 t) dX5_bring_21 kX5_71 rfl (Nat.one_pos) ⟨rfl, rfl, trivial⟩ (Nat.le_of_ble_eq_true rfl) (Nat.le_of_ble_eq_true rfl) (Nat.le_of_ble_eq_true rfl) (Nat.le_of_ble_eq_true rfl) (Nat.le_of_ble_eq_true rfl) rfl (fun r U hq => ?_)
  obtain ⟨rfl, rfl⟩ := hq
  refine fz_back rfl ?_
  refine fz_vret dX5_bring_24 rfl (Nat.zero_le _) (Nat.zero_le _) ⟨rfl, rfl⟩
theorem tX5_tellTask_in {G : fz_G} (oc nc pn : Int32) (tn i : Nat) (ht : tn ≤ 90) (hi : i < tn) (T : Nat → Nat → Int32) (x : Int32) : fz_T G mX5_tellTask rX5_tellTask [zR 10 0, zI (nI i), zI x] [(10, eOs oc (nI tn) nc pn), (12, eA12), (15, eTa T)] (fun r U => r = some (zI (tkT (T i) x)) ∧ U = [(10, eOs oc (nI tn) nc pn), (12, eA12), (15, eTa T)]) := by
  refine fz_T.of (by decide) (Nat.le_of_ble_eq_true rfl) (fun E0 => ?_)
  refine fz_iload_n dX5_tellTask_0 rfl ?_
  refine fz_if_lt (tgt := 12) dX5_tellTask_1 (by decide) (fun c1 => ?_) (fun c1 => ?_)
  · exact absurd c1 (nI_pos (by omega))
  · skip
    refine fz_iload_n dX5_tellTask_4 rfl ?_
    refine fz_aload_n dX5_tellTask_5 rfl ?_
    refine fz_get dX5_tellTask_6 fX5_36 rfl (Nat.one_pos) rfl ?_
    refine fz_icmp_lt (tgt := 16) dX5_tellTask_9 (by decide) (fun c9 => ?_) (fun c9 => ?_)
    · skip
      refine fz_aload_n dX5_tellTask_16 rfl ?_
      refine fz_get dX5_tellTask_17 fX5_19 rfl (Nat.one_pos) rfl ?_
      refine fz_iload_n dX5_tellTask_20 rfl ?_
      refine fz_aald dX5_tellTask_21 rfl rfl Nat.one_pos (vp_in_nI (by omega) (by omega)) (arr (by omega)) ?_
      refine fz_iload_n dX5_tellTask_22 rfl ?_
      refine fz_callV (tX7_tell T i (by omega) x) dX5_tellTask_23 kX5_97 rfl ((by omega : i < 90)) ⟨rfl, trivial⟩ (Nat.le_of_ble_eq_true rfl) (Nat.le_of_ble_eq_true rfl) (Nat.le_of_ble_eq_true rfl) (Nat.le_of_ble_eq_true rfl) (Nat.le_of_ble_eq_true rfl) rfl (fun r U hq => ?_)
      obtain ⟨rfl, rfl⟩ := hq
      refine fz_back rfl ?_
      refine fz_iret dX5_tellTask_26 rfl (Nat.zero_le _) (Nat.zero_le _) ⟨rfl, rfl⟩
    · exact absurd (nI_lt hi (by omega)) c9
theorem tX5_tellTask_out {G : fz_G} (oc tc nc pn : Int32) (T : Nat → Nat → Int32) (i x : Int32) (hi : i < 0 ∨ tc ≤ i) : fz_T G mX5_tellTask rX5_tellTask [zR 10 0, zI i, zI x] [(10, eOs oc tc nc pn), (12, eA12), (15, eTa T)] (fun r U => r = some (zI (-1)) ∧ U = [(10, eOs oc tc nc pn), (12, eA12), (15, eTa T)]) := by
  refine fz_T.of (by decide) (Nat.le_of_ble_eq_true rfl) (fun E0 => ?_)
  refine fz_iload_n dX5_tellTask_0 rfl ?_
  refine fz_if_lt (tgt := 12) dX5_tellTask_1 (by decide) (fun c1 => ?_) (fun c1 => ?_)
  · skip
    refine fz_iconst (v := -1) dX5_tellTask_12 (by decide) ?_
    refine fz_goto (tgt := 26) dX5_tellTask_13 (by decide) ?_
    refine fz_iret dX5_tellTask_26 rfl (Nat.zero_le _) (Nat.zero_le _) ⟨rfl, rfl⟩
  · skip
    refine fz_iload_n dX5_tellTask_4 rfl ?_
    refine fz_aload_n dX5_tellTask_5 rfl ?_
    refine fz_get dX5_tellTask_6 fX5_36 rfl (Nat.one_pos) rfl ?_
    refine fz_icmp_lt (tgt := 16) dX5_tellTask_9 (by decide) (fun c9 => ?_) (fun c9 => ?_)
    · exact absurd (hi.resolve_left c1) (Int32.not_le.mpr c9)
    · skip
      refine fz_iconst (v := -1) dX5_tellTask_12 (by decide) ?_
      refine fz_goto (tgt := 26) dX5_tellTask_13 (by decide) ?_
      refine fz_iret dX5_tellTask_26 rfl (Nat.zero_le _) (Nat.zero_le _) ⟨rfl, rfl⟩
theorem tX5_tellOrder_in {G : fz_G} (tc nc pn : Int32) (on i : Nat) (ht : on ≤ 40) (hi : i < on) (O : Nat → Nat → Int32) (x : Int32) : fz_T G mX5_tellOrder rX5_tellOrder [zR 10 0, zI (nI i), zI x] [(10, eOs (nI on) tc nc pn), (11, eA11), (14, eOr O)] (fun r U => r = some (zI (orT (O i) x)) ∧ U = [(10, eOs (nI on) tc nc pn), (11, eA11), (14, eOr O)]) := by
  refine fz_T.of (by decide) (Nat.le_of_ble_eq_true rfl) (fun E0 => ?_)
  refine fz_iload_n dX5_tellOrder_0 rfl ?_
  refine fz_if_lt (tgt := 12) dX5_tellOrder_1 (by decide) (fun c1 => ?_) (fun c1 => ?_)
  · exact absurd c1 (nI_pos (by omega))
  · skip
    refine fz_iload_n dX5_tellOrder_4 rfl ?_
    refine fz_aload_n dX5_tellOrder_5 rfl ?_
    refine fz_get dX5_tellOrder_6 fX5_29 rfl (Nat.one_pos) rfl ?_
    refine fz_icmp_lt (tgt := 16) dX5_tellOrder_9 (by decide) (fun c9 => ?_) (fun c9 => ?_)
    · skip
      refine fz_aload_n dX5_tellOrder_16 rfl ?_
      refine fz_get dX5_tellOrder_17 fX5_11 rfl (Nat.one_pos) rfl ?_
      refine fz_iload_n dX5_tellOrder_20 rfl ?_
      refine fz_aald dX5_tellOrder_21 rfl rfl Nat.one_pos (vp_in_nI (by omega) (by omega)) (arr (by omega)) ?_
      refine fz_iload_n dX5_tellOrder_22 rfl ?_
      refine fz_callV (tX4_tell O i (by omega) x) dX5_tellOrder_23 kX5_101 rfl ((by omega : i < 40)) ⟨rfl, trivial⟩ (Nat.le_of_ble_eq_true rfl) (Nat.le_of_ble_eq_true rfl) (Nat.le_of_ble_eq_true rfl) (Nat.le_of_ble_eq_true rfl) (Nat.le_of_ble_eq_true rfl) rfl (fun r U hq => ?_)
      obtain ⟨rfl, rfl⟩ := hq
      refine fz_back rfl ?_
      refine fz_iret dX5_tellOrder_26 rfl (Nat.zero_le _) (Nat.zero_le _) ⟨rfl, rfl⟩
    · exact absurd (nI_lt hi (by omega)) c9
theorem tX5_tellOrder_out {G : fz_G} (oc tc nc pn : Int32) (O : Nat → Nat → Int32) (i x : Int32) (hi : i < 0 ∨ oc ≤ i) : fz_T G mX5_tellOrder rX5_tellOrder [zR 10 0, zI i, zI x] [(10, eOs oc tc nc pn), (11, eA11), (14, eOr O)] (fun r U => r = some (zI (-1)) ∧ U = [(10, eOs oc tc nc pn), (11, eA11), (14, eOr O)]) := by
  refine fz_T.of (by decide) (Nat.le_of_ble_eq_true rfl) (fun E0 => ?_)
  refine fz_iload_n dX5_tellOrder_0 rfl ?_
  refine fz_if_lt (tgt := 12) dX5_tellOrder_1 (by decide) (fun c1 => ?_) (fun c1 => ?_)
  · skip
    refine fz_iconst (v := -1) dX5_tellOrder_12 (by decide) ?_
    refine fz_goto (tgt := 26) dX5_tellOrder_13 (by decide) ?_
    refine fz_iret dX5_tellOrder_26 rfl (Nat.zero_le _) (Nat.zero_le _) ⟨rfl, rfl⟩
  · skip
    refine fz_iload_n dX5_tellOrder_4 rfl ?_
    refine fz_aload_n dX5_tellOrder_5 rfl ?_
    refine fz_get dX5_tellOrder_6 fX5_29 rfl (Nat.one_pos) rfl ?_
    refine fz_icmp_lt (tgt := 16) dX5_tellOrder_9 (by decide) (fun c9 => ?_) (fun c9 => ?_)
    · exact absurd (hi.resolve_left c1) (Int32.not_le.mpr c9)
    · skip
      refine fz_iconst (v := -1) dX5_tellOrder_12 (by decide) ?_
      refine fz_goto (tgt := 26) dX5_tellOrder_13 (by decide) ?_
      refine fz_iret dX5_tellOrder_26 rfl (Nat.zero_le _) (Nat.zero_le _) ⟨rfl, rfl⟩
