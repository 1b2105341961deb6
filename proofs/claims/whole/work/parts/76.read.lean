/-! FleetController: read -/
/-- the map that a text without fault is, and what read says of it -/
noncomputable def rdF (σ : zS) : Int32 × zS := match σ with
  | (tx, n, fp, cn, w, kn, on, tn, rn, O, T, P, te, B, t, A, wy, lg) =>
    if ¬ (scn tx n 0 0 0 0).1 = 0 then ((scn tx n 0 0 0 0).1, (tx, n, nI (scn tx n 0 0 0 0).2.1, cn, w, kn, on, tn, rn, O, T, P, te, B, t, A, wy, lg))
    else if ¬ (hkd (ldk tx n) 2 (ldc tx n) && (hkd (ldk tx n) 3 (ldc tx n) && hkd (ldk tx n) 4 (ldc tx n))) = true then (-13, (tx, n, nI n, cn, w, kn, on, tn, rn, O, T, P, te, B, t, A, wy, lg))
    else match apF (ldc tx n) (scn tx n 0 0 0 0).2.2 (ldk tx n) (ldc tx n) with
      | some c => (-14, (tx, n, nI (c + c / (scn tx n 0 0 0 0).2.2), cn, w, kn, on, tn, rn, O, T, P, te, B, t, A, wy, lg))
      | none => (nI (ldc tx n), (tx, n, -1, ldc tx n, (scn tx n 0 0 0 0).2.2, ldk tx n, 0, 0, 0, O, T, P, te, B, 0, 0, 0, 0))
/-- the draft's place, seen from the map's -/
theorem dr_lt {g : Nat} : 1 - g < 2 := by omega
theorem scn_all {tx : Nat → Nat} {n : Nat} (h : (scn tx n 0 0 0 0).1 = 0) : 0 < (scn tx n 0 0 0 0).2.2 ∧ (scn tx n 0 0 0 0).2.2 ≤ 10 ∧ (∀ j, j < n → ¬ kd (tx j) = 9) ∧ ldc tx n ≤ 80 ∧ 0 < ldc tx n ∧ ∃ h, ldc tx n = (scn tx n 0 0 0 0).2.2 * h := by
  obtain ⟨h1, h2, h3, m, h4, h5, h6⟩ := scn_ok (tx := tx) (n := n) n 0 0 0 0 (by omega) (by omega) (fun _ => ⟨by omega, rfl⟩) (fun z => by omega) (fun j hj => by omega) h
  refine ⟨h1, h2, h3, ?_, ?_, m, h6⟩
  · rw [h6]
    exact Nat.le_trans (Nat.mul_le_mul h2 h4) (by decide)
  · rw [h6]
    exact Nat.mul_pos h1 h5
theorem tX10_findFault {G : fz_G} (g : Nat) (hg : g < 2) (fp : Int32) (n tw : Nat) (hn : n ≤ 90) (htw : tw ≤ 10) (ln co tf : Int32) (sg : Nat → Int32) (tx : Nat → Nat) (htq : tq sg tx n) (sz wd : Nat → Int32) (st : Nat → Nat → Int32) (op : Nat → Nat → Int64) (ki fa qu : Nat → Nat → Int32) :
    fz_T G mX10_findFault rX10_findFault [zR 1 0] [(1, eFC g fp), (2, eGr sz wd), (3, e5 st), (4, eL op), (5, e8 ki), (6, e8 fa), (7, e8 qu), (8, eTx (nI n) (nI tw) ln co tf), (9, eSg sg)] (fun r U => ∃ (fp' : Int32) (tw' : Nat) (ln' co' tf' : Int32) (a b : Int32) (s k F Q : Nat → Int32) (o : Nat → Int64), tw' ≤ 10 ∧ U = [(1, eFC g fp'), (2, eGr (va_up sz (1 - g) a) (va_up wd (1 - g) b)), (3, e5 (va_up st (1 - g) s)), (4, eL (va_up op (1 - g) o)), (5, e8 (va_up ki (1 - g) k)), (6, e8 (va_up fa (1 - g) F)), (7, e8 (va_up qu (1 - g) Q)), (8, eTx (nI n) (nI tw') ln' co' tf'), (9, eSg sg)] ∧ ((¬ (scn tx n 0 0 0 0).1 = 0 ∧ r = some (zI (scn tx n 0 0 0 0).1) ∧ fp' = nI (scn tx n 0 0 0 0).2.1) ∨ ((scn tx n 0 0 0 0).1 = 0 ∧ ¬ (hkd (ldk tx n) 2 (ldc tx n) && (hkd (ldk tx n) 3 (ldc tx n) && hkd (ldk tx n) 4 (ldc tx n))) = true ∧ r = some (zI (-13)) ∧ fp' = nI n) ∨ ((scn tx n 0 0 0 0).1 = 0 ∧ (hkd (ldk tx n) 2 (ldc tx n) && (hkd (ldk tx n) 3 (ldc tx n) && hkd (ldk tx n) 4 (ldc tx n))) = true ∧ ∃ c, apF (ldc tx n) (scn tx n 0 0 0 0).2.2 (ldk tx n) (ldc tx n) = some c ∧ r = some (zI (-14)) ∧ fp' = nI (c + c / (scn tx n 0 0 0 0).2.2)) ∨ ((scn tx n 0 0 0 0).1 = 0 ∧ (hkd (ldk tx n) 2 (ldc tx n) && (hkd (ldk tx n) 3 (ldc tx n) && hkd (ldk tx n) 4 (ldc tx n))) = true ∧ apF (ldc tx n) (scn tx n 0 0 0 0).2.2 (ldk tx n) (ldc tx n) = none ∧ r = some (zI 0) ∧ fp' = -1 ∧ gK (ldc tx n) (scn tx n 0 0 0 0).2.2 (ldk tx n) a b k ∧ gS (scn tx n 0 0 0 0).2.2 s ∧ gO (ldc tx n) (scn tx n 0 0 0 0).2.2 (ldk tx n) o))) := by
  refine fz_T.of (by decide) (Nat.le_of_ble_eq_true rfl) (fun E0 => ?_)
  refine fz_wo (V' := [(1, eFC g fp), (2, eGr (va_up sz (1 - g) (sz (1 - g))) (va_up wd (1 - g) (wd (1 - g)))), (3, e5 (va_up st (1 - g) (st (1 - g)))), (4, eL (va_up op (1 - g) (op (1 - g)))), (5, e8 (va_up ki (1 - g) (ki (1 - g)))), (6, e8 (va_up fa (1 - g) (fa (1 - g)))), (7, e8 (va_up qu (1 - g) (qu (1 - g)))), (8, eTx (nI n) (nI tw) ln co tf), (9, eSg sg)]) (by rw [va_upI, va_upI, va_upI, va_upI, va_upI, va_upI, va_upI]) ?_
  refine fz_aload_n dX10_findFault_0 rfl ?_
  refine fz_get dX10_findFault_1 fX10_22 rfl (Nat.one_pos) rfl ?_
  refine fz_callV (tX2_findFault n tw hn htw ln co tf sg tx htq) dX10_findFault_4 kX10_151 rfl (Nat.one_pos) ⟨rfl, rfl, trivial⟩ (Nat.le_of_ble_eq_true rfl) (Nat.le_of_ble_eq_true rfl) (Nat.le_of_ble_eq_true rfl) (Nat.le_of_ble_eq_true rfl) (Nat.le_of_ble_eq_true rfl) rfl (fun r U hq => ?_)
  rw [scn_w n 0 0 tw 0] at hq
  obtain ⟨rfl, w', l', c', hw', hw0, rfl⟩ := hq
  refine fz_back rfl ?_
  refine fz_wo (V' := [(1, eFC g fp), (2, eGr (va_up sz (1 - g) (sz (1 - g))) (va_up wd (1 - g) (wd (1 - g)))), (3, e5 (va_up st (1 - g) (st (1 - g)))), (4, eL (va_up op (1 - g) (op (1 - g)))), (5, e8 (va_up ki (1 - g) (ki (1 - g)))), (6, e8 (va_up fa (1 - g) (fa (1 - g)))), (7, e8 (va_up qu (1 - g) (qu (1 - g)))), (8, eTx (nI n) (nI w') l' c' (nI (scn tx n 0 0 0 0).2.1)), (9, eSg sg)]) rfl ?_
  refine fz_istore_n dX10_findFault_7 (Nat.le_of_ble_eq_true rfl) ?_
  refine fz_iload_n dX10_findFault_8 rfl ?_
  refine fz_if_eq (tgt := 25) dX10_findFault_9 (by decide) (fun c9 => ?_) (fun c9 => ?_)
  · obtain ⟨s1, s2, s3, s4, s5, s6⟩ := scn_all c9
    have hw0 := hw0 c9
    subst hw0
    refine fz_aload_n dX10_findFault_25 rfl ?_
    refine fz_get dX10_findFault_26 fX10_16 rfl (Nat.one_pos) rfl ?_
    refine fz_aload_n dX10_findFault_29 rfl ?_
    refine fz_get dX10_findFault_30 fX10_22 rfl (Nat.one_pos) rfl ?_
    refine fz_callV (tX1_load (1 - g) dr_lt sz wd (sz (1 - g)) (wd (1 - g)) st ki (st (1 - g)) (ki (1 - g)) op (op (1 - g)) n _ hn s1 s2 l' c' _ sg tx htq s3 s4 s6) dX10_findFault_33 kX10_154 rfl (dr_lt) ⟨rfl, rfl, rfl, rfl, rfl, rfl, trivial⟩ (Nat.le_of_ble_eq_true rfl) (Nat.le_of_ble_eq_true rfl) (Nat.le_of_ble_eq_true rfl) (Nat.le_of_ble_eq_true rfl) (Nat.le_of_ble_eq_true rfl) rfl (fun r U hq => ?_)
    obtain ⟨rfl, s', k', o', hK, hS, hO, rfl⟩ := hq
    refine fz_back rfl ?_
    refine fz_wo (V' := [(1, eFC g fp), (2, eGr (va_up sz (1 - g) (nI (ldc tx n))) (va_up wd (1 - g) (nI (scn tx n 0 0 0 0).2.2))), (3, e5 (va_up st (1 - g) s')), (4, eL (va_up op (1 - g) o')), (5, e8 (va_up ki (1 - g) k')), (6, e8 (va_up fa (1 - g) (fa (1 - g)))), (7, e8 (va_up qu (1 - g) (qu (1 - g)))), (8, eTx (nI n) (nI (scn tx n 0 0 0 0).2.2) l' c' (nI (scn tx n 0 0 0 0).2.1)), (9, eSg sg)]) rfl ?_
    have hK2 : gK (ldc tx n) (scn tx n 0 0 0 0).2.2 (ldk tx n) (va_up sz (1 - g) (nI (ldc tx n)) (1 - g)) (va_up wd (1 - g) (nI (scn tx n 0 0 0 0).2.2) (1 - g)) (va_up ki (1 - g) k' (1 - g)) := by rw [va_up_self, va_up_self, va_up_self]; exact hK
    have hS2 : gS (scn tx n 0 0 0 0).2.2 (va_up st (1 - g) s' (1 - g)) := by rw [va_up_self]; exact hS
    have hO2 : gO (ldc tx n) (scn tx n 0 0 0 0).2.2 (ldk tx n) (va_up op (1 - g) o' (1 - g)) := by rw [va_up_self]; exact hO
    refine fz_aload_n dX10_findFault_36 rfl ?_
    refine fz_get dX10_findFault_37 fX10_16 rfl (Nat.one_pos) rfl ?_
    refine fz_callV (tX1_hasAllKinds (1 - g) dr_lt _ _ _ (ldc tx n) _ (ldk tx n) hK2) dX10_findFault_40 kX10_158 rfl (dr_lt) ⟨rfl, rfl, trivial⟩ (Nat.le_of_ble_eq_true rfl) (Nat.le_of_ble_eq_true rfl) (Nat.le_of_ble_eq_true rfl) (Nat.le_of_ble_eq_true rfl) (Nat.le_of_ble_eq_true rfl) rfl (fun r U hq => ?_)
    obtain ⟨rfl, rfl⟩ := hq
    refine fz_back rfl ?_
    refine fz_wo (V' := [(1, eFC g fp), (2, eGr (va_up sz (1 - g) (nI (ldc tx n))) (va_up wd (1 - g) (nI (scn tx n 0 0 0 0).2.2))), (3, e5 (va_up st (1 - g) s')), (4, eL (va_up op (1 - g) o')), (5, e8 (va_up ki (1 - g) k')), (6, e8 (va_up fa (1 - g) (fa (1 - g)))), (7, e8 (va_up qu (1 - g) (qu (1 - g)))), (8, eTx (nI n) (nI (scn tx n 0 0 0 0).2.2) l' c' (nI (scn tx n 0 0 0 0).2.1)), (9, eSg sg)]) rfl ?_
    by_cases hkk : (hkd (ldk tx n) 2 (ldc tx n) && (hkd (ldk tx n) 3 (ldc tx n) && hkd (ldk tx n) 4 (ldc tx n))) = true
    · rw [if_pos hkk]
      refine fz_if_ne (tgt := 60) dX10_findFault_43 (by decide) (fun c43 => ?_) (fun c43 => ?_)
      · skip
        refine fz_aload_n dX10_findFault_60 rfl ?_
        refine fz_get dX10_findFault_61 fX10_16 rfl (Nat.one_pos) rfl ?_
        refine fz_callV (tX1_firstPlaceApart (1 - g) dr_lt _ _ _ _ _ fa qu (fa (1 - g)) (qu (1 - g)) (ldc tx n) _ (ldk tx n) hK2 hS2 hO2) dX10_findFault_64 kX10_165 rfl (dr_lt) ⟨rfl, rfl, rfl, rfl, rfl, rfl, trivial⟩ (Nat.le_of_ble_eq_true rfl) (Nat.le_of_ble_eq_true rfl) (Nat.le_of_ble_eq_true rfl) (Nat.le_of_ble_eq_true rfl) (Nat.le_of_ble_eq_true rfl) rfl (fun r U hq => ?_)
        obtain ⟨hFA, F', Q', rfl⟩ := hq
        obtain ⟨rfl, hap⟩ := apF_FA hFA
        refine fz_back rfl ?_
        refine fz_wo (V' := [(1, eFC g fp), (2, eGr (va_up sz (1 - g) (nI (ldc tx n))) (va_up wd (1 - g) (nI (scn tx n 0 0 0 0).2.2))), (3, e5 (va_up st (1 - g) s')), (4, eL (va_up op (1 - g) o')), (5, e8 (va_up ki (1 - g) k')), (6, e8 (va_up fa (1 - g) F')), (7, e8 (va_up qu (1 - g) Q')), (8, eTx (nI n) (nI (scn tx n 0 0 0 0).2.2) l' c' (nI (scn tx n 0 0 0 0).2.1)), (9, eSg sg)]) rfl ?_
        refine fz_istore_n dX10_findFault_67 (Nat.le_of_ble_eq_true rfl) ?_
        refine fz_iload_n dX10_findFault_68 rfl ?_
        refine fz_iconst (v := -1) dX10_findFault_69 (by decide) ?_
        cases hap2 : apF (ldc tx n) (scn tx n 0 0 0 0).2.2 (ldk tx n) (ldc tx n) with
        | none =>
          refine fz_icmp_eq (tgt := 88) dX10_findFault_70 (by decide) (fun c70 => ?_) (fun c70 => ?_)
          · skip
            refine fz_aload_n dX10_findFault_88 rfl ?_
            refine fz_iconst (v := -1) dX10_findFault_89 (by decide) ?_
            refine fz_put1 dX10_findFault_90 fX10_42 rfl (Nat.le_of_ble_eq_true rfl) ⟨rfl, rfl⟩ ?_
            refine fz_iconst (v := nI 0) dX10_findFault_93 (by decide) ?_
            refine fz_iret dX10_findFault_94 rfl (Nat.zero_le _) (Nat.zero_le _) ⟨_, _, _, _, _, _, _, _, _, _, _, _, s2, rfl, Or.inr (Or.inr (Or.inr ⟨c9, hkk, rfl, rfl, rfl, hK, hS, hO⟩))⟩
          · exact absurd rfl c70
        | some c =>
          have hc := hap c hap2
          refine fz_icmp_eq (tgt := 88) dX10_findFault_70 (by decide) (fun c70 => ?_) (fun c70 => ?_)
          · exact absurd c70 (oI_ne (by omega))
          · skip
            refine fz_aload_n dX10_findFault_73 rfl ?_
            refine fz_aload_n dX10_findFault_74 rfl ?_
            refine fz_get dX10_findFault_75 fX10_16 rfl (Nat.one_pos) rfl ?_
            refine fz_iload_n dX10_findFault_78 rfl ?_
            refine fz_top (y := nI c) rfl ?_
            refine fz_callV (tX1_placeInText (1 - g) dr_lt _ _ (scn tx n 0 0 0 0).2.2 c s1 s2 (va_up_self _ _ _) (by omega)) dX10_findFault_79 kX10_168 rfl (dr_lt) ⟨rfl, trivial⟩ (Nat.le_of_ble_eq_true rfl) (Nat.le_of_ble_eq_true rfl) (Nat.le_of_ble_eq_true rfl) (Nat.le_of_ble_eq_true rfl) (Nat.le_of_ble_eq_true rfl) rfl (fun r U hq => ?_)
            obtain ⟨rfl, rfl⟩ := hq
            refine fz_back rfl ?_
            refine fz_put1 dX10_findFault_82 fX10_42 rfl (Nat.le_of_ble_eq_true rfl) ⟨rfl, rfl⟩ ?_
            refine fz_bipush (v := -14) dX10_findFault_85 (by decide) ?_
            refine fz_iret dX10_findFault_87 rfl (Nat.zero_le _) (Nat.zero_le _) ⟨_, _, _, _, _, _, _, _, _, _, _, _, s2, rfl, Or.inr (Or.inr (Or.inl ⟨c9, hkk, c, rfl, rfl, rfl⟩))⟩
      · exact absurd c43 (by decide)
    · rw [if_neg hkk]
      refine fz_if_ne (tgt := 60) dX10_findFault_43 (by decide) (fun c43 => ?_) (fun c43 => ?_)
      · exact absurd rfl c43
      · skip
        refine fz_aload_n dX10_findFault_46 rfl ?_
        refine fz_aload_n dX10_findFault_47 rfl ?_
        refine fz_get dX10_findFault_48 fX10_22 rfl (Nat.one_pos) rfl ?_
        refine fz_callV (tX2_length (nI n) _ _ _ _) dX10_findFault_51 kX10_162 rfl (Nat.one_pos) ⟨rfl, trivial⟩ (Nat.le_of_ble_eq_true rfl) (Nat.le_of_ble_eq_true rfl) (Nat.le_of_ble_eq_true rfl) (Nat.le_of_ble_eq_true rfl) (Nat.le_of_ble_eq_true rfl) rfl (fun r U hq => ?_)
        obtain ⟨rfl, rfl⟩ := hq
        refine fz_back rfl ?_
        refine fz_put1 dX10_findFault_54 fX10_42 rfl (Nat.le_of_ble_eq_true rfl) ⟨rfl, rfl⟩ ?_
        refine fz_bipush (v := -13) dX10_findFault_57 (by decide) ?_
        refine fz_iret dX10_findFault_59 rfl (Nat.zero_le _) (Nat.zero_le _) ⟨_, _, _, _, _, _, _, _, _, _, _, _, s2, rfl, Or.inr (Or.inl ⟨c9, hkk, rfl, rfl⟩)⟩
  · skip
    refine fz_aload_n dX10_findFault_12 rfl ?_
    refine fz_aload_n dX10_findFault_13 rfl ?_
    refine fz_get dX10_findFault_14 fX10_22 rfl (Nat.one_pos) rfl ?_
    refine fz_callV (tX2_faultPlace (nI n) (nI w') l' c' (nI (scn tx n 0 0 0 0).2.1)) dX10_findFault_17 kX10_152 rfl (Nat.one_pos) ⟨rfl, trivial⟩ (Nat.le_of_ble_eq_true rfl) (Nat.le_of_ble_eq_true rfl) (Nat.le_of_ble_eq_true rfl) (Nat.le_of_ble_eq_true rfl) (Nat.le_of_ble_eq_true rfl) rfl (fun r U hq => ?_)
    obtain ⟨rfl, rfl⟩ := hq
    refine fz_back rfl ?_
    refine fz_put1 dX10_findFault_20 fX10_42 rfl (Nat.le_of_ble_eq_true rfl) ⟨rfl, rfl⟩ ?_
    refine fz_iload_n dX10_findFault_23 rfl ?_
    refine fz_iret dX10_findFault_24 rfl (Nat.zero_le _) (Nat.zero_le _) ⟨_, w', _, _, _, _, _, _, _, _, _, _, hw', rfl, Or.inl ⟨c9, rfl, rfl⟩⟩
