/-! FleetController: read, its end -/
theorem tX10_read {G : fz_G} (σ : zS) (V : fz_W) (hV : clR σ V) : fz_T G mX10_read rX10_read [zR 1 0] V (fun r U => r = some (zI (rdF σ).1) ∧ clR (rdF σ).2 U) := by
  obtain ⟨tx, n, fp, cn, w, kn, on, tn, rn, O, T, P, te, B, t, A, wy, lg⟩ := σ
  obtain ⟨g, tw, ln, co, tf, sg, sz, wd, st, op, ki, fa, qu, F, Q, nc, pn, pf, rows, en, et, ow, lo, hi, rb, ts, sh, go, re, al, hg, hn, htw, htq, hM, hoc, htt, rfl⟩ := hV
  have hgn : ¬ g = 1 - g := by omega
  have hgg : 1 - (1 - g) = g := by omega
  refine fz_T.of (by decide) (Nat.le_of_ble_eq_true rfl) (fun E0 => ?_)
  refine fz_aload_n dX10_read_0 rfl ?_
  refine fz_callV (tX10_findFault g hg fp n tw hn htw ln co tf sg tx htq sz wd st op ki (va_up fa g F) (va_up qu g Q)) dX10_read_1 kX10_54 rfl (Nat.one_pos) ⟨rfl, rfl, rfl, rfl, rfl, rfl, rfl, rfl, rfl, trivial⟩ (Nat.le_of_ble_eq_true rfl) (Nat.le_of_ble_eq_true rfl) (Nat.le_of_ble_eq_true rfl) (Nat.le_of_ble_eq_true rfl) (Nat.le_of_ble_eq_true rfl) rfl (fun r U hq => ?_)
  obtain ⟨fp', tw', ln', co', tf', a, b, s, k, F', Q', o, htw', rfl, hc⟩ := hq
  refine fz_back rfl ?_
  refine fz_wo (V' := wAl g fp' n tw' ln' co' tf' sg (wSt g (va_up sz (1 - g) a) (va_up wd (1 - g) b) (va_up st (1 - g) s) (va_up op (1 - g) o) (va_up ki (1 - g) k) (va_up (va_up fa g F) (1 - g) F') (va_up (va_up qu g Q) (1 - g) Q') (va_up (va_up fa g F) (1 - g) F' g) (va_up (va_up qu g Q) (1 - g) Q' g) on tn nc pn pf O T rn t wy lg B rows en et ow A lo hi rb ts sh go re al)) (by unfold wSt; rw [va_upI, va_upI]; rfl) ?_
  have hM2 : gM cn w kn (va_up sz (1 - g) a g) (va_up wd (1 - g) b g) (va_up st (1 - g) s g) (va_up op (1 - g) o g) (va_up ki (1 - g) k g) := by
    rw [va_up_ne _ _ hgn, va_up_ne _ _ hgn, va_up_ne _ _ hgn, va_up_ne _ _ hgn, va_up_ne _ _ hgn]; exact hM
  have same : ∀ v : Int32, ¬ v = 0 → rdF (tx, n, fp, cn, w, kn, on, tn, rn, O, T, P, te, B, t, A, wy, lg) = (v, (tx, n, fp', cn, w, kn, on, tn, rn, O, T, P, te, B, t, A, wy, lg)) → fz_J G mX10_read rX10_read (fz_Z G E0 rX10_read.cells rX10_read.slots (fun r U => r = some (zI (rdF (tx, n, fp, cn, w, kn, on, tn, rn, O, T, P, te, B, t, A, wy, lg)).1) ∧ clR (rdF (tx, n, fp, cn, w, kn, on, tn, rn, O, T, P, te, B, t, A, wy, lg)).2 U)) E0 0 0 4 [(0, zR 1 0)] [zI v] (wAl g fp' n tw' ln' co' tf' sg (wSt g (va_up sz (1 - g) a) (va_up wd (1 - g) b) (va_up st (1 - g) s) (va_up op (1 - g) o) (va_up ki (1 - g) k) (va_up (va_up fa g F) (1 - g) F') (va_up (va_up qu g Q) (1 - g) Q') (va_up (va_up fa g F) (1 - g) F' g) (va_up (va_up qu g Q) (1 - g) Q' g) on tn nc pn pf O T rn t wy lg B rows en et ow A lo hi rb ts sh go re al)) := by
    intro v hv he
    rw [he]
    refine fz_istore_n dX10_read_4 (Nat.le_of_ble_eq_true rfl) ?_
    refine fz_iload_n dX10_read_5 rfl ?_
    refine fz_if_eq (tgt := 11) dX10_read_6 (by decide) (fun c6 => ?_) (fun c6 => ?_)
    · exact absurd c6 hv
    · skip
      refine fz_iload_n dX10_read_9 rfl ?_
      refine fz_iret dX10_read_10 rfl (Nat.zero_le _) (Nat.zero_le _) ⟨rfl, g, tw', ln', co', tf', sg, _, _, _, _, _, _, _, _, _, nc, pn, pf, rows, en, et, ow, lo, hi, rb, ts, sh, go, re, al, hg, hn, htw', htq, hM2, hoc, htt, rfl⟩
  rcases hc with ⟨c1, rfl, rfl⟩ | ⟨c1, c2, rfl, rfl⟩ | ⟨c1, c2, c, c3, rfl, rfl⟩ | ⟨c1, c2, c3, rfl, rfl, hK, hS, hO⟩
  · refine same _ c1 ?_
    unfold rdF
    simp only [if_pos c1]
  · refine same _ (by decide) ?_
    unfold rdF
    simp only [if_neg (show ¬ ¬ (scn tx n 0 0 0 0).1 = 0 from fun z => z c1), if_pos c2]
  · refine same _ (by decide) ?_
    unfold rdF
    simp only [if_neg (show ¬ ¬ (scn tx n 0 0 0 0).1 = 0 from fun z => z c1), if_neg (show ¬ ¬ (hkd (ldk tx n) 2 (ldc tx n) && (hkd (ldk tx n) 3 (ldc tx n) && hkd (ldk tx n) 4 (ldc tx n))) = true from fun z => z c2), c3]
  · have he : rdF (tx, n, fp, cn, w, kn, on, tn, rn, O, T, P, te, B, t, A, wy, lg) = (nI (ldc tx n), (tx, n, -1, ldc tx n, (scn tx n 0 0 0 0).2.2, ldk tx n, 0, 0, 0, O, T, P, te, B, 0, 0, 0, 0)) := by
      unfold rdF
      simp only [if_neg (show ¬ ¬ (scn tx n 0 0 0 0).1 = 0 from fun z => z c1), if_neg (show ¬ ¬ (hkd (ldk tx n) 2 (ldc tx n) && (hkd (ldk tx n) 3 (ldc tx n) && hkd (ldk tx n) 4 (ldc tx n))) = true from fun z => z c2), c3]
    rw [he]
    obtain ⟨s1, s2, s3, s4, s5, s6⟩ := scn_all c1
    have hM3 : gM (ldc tx n) (scn tx n 0 0 0 0).2.2 (ldk tx n) (va_up sz (1 - g) a (1 - g)) (va_up wd (1 - g) b (1 - g)) (va_up st (1 - g) s (1 - g)) (va_up op (1 - g) o (1 - g)) (va_up ki (1 - g) k (1 - g)) := by
      rw [va_up_self, va_up_self, va_up_self, va_up_self, va_up_self]
      exact ⟨hK.2.2.2.2.1, s4, fun _ => ⟨hK, hS, hO⟩⟩
    refine fz_wo (V' := (1, eFC g (-1)) :: (8, eTx (nI n) (nI tw') ln' co' tf') :: (9, eSg sg) :: [(2, eGr (va_up sz (1 - g) a) (va_up wd (1 - g) b)), (3, e5 (va_up st (1 - g) s)), (4, eL (va_up op (1 - g) o)), (5, e8 (va_up ki (1 - g) k)), (6, e8 (va_up (va_up fa g F) (1 - g) F')), (7, e8 (va_up (va_up qu g Q) (1 - g) Q')), (10, eOs (nI on) (nI tn) (nI nc) (nI pn)), (11, eA11), (12, eA12), (13, e80 pf), (14, eOr O), (15, eTa T), (16, eFl g (nI rn) (nI t) (nI wy) (nI lg)), (17, eA17), (18, eRo B), (19, eTT (nI rn)), (20, eRw rows), (21, e6 en), (22, e6 et), (23, e80 ow), (24, eMo (nI A)), (25, eWS g lo hi rb ts sh go), (26, eRe re), (27, eAl al)]) (by unfold wAl wSt; rw [va_upI, va_upI]) ?_
    refine fz_istore_n dX10_read_4 (Nat.le_of_ble_eq_true rfl) ?_
    refine fz_iload_n dX10_read_5 rfl ?_
    refine fz_if_eq (tgt := 11) dX10_read_6 (by decide) (fun c6 => ?_) (fun c6 => ?_)
    · skip
      refine fz_aload_n dX10_read_11 rfl ?_
      refine fz_get dX10_read_12 fX10_16 rfl (Nat.one_pos) rfl ?_
      refine fz_astore_n dX10_read_15 (Nat.le_of_ble_eq_true rfl) ?_
      refine fz_aload_n dX10_read_16 rfl ?_
      refine fz_aload_n dX10_read_17 rfl ?_
      refine fz_get dX10_read_18 fX10_12 rfl (Nat.one_pos) rfl ?_
      refine fz_put1 dX10_read_21 fX10_16 rfl (Nat.le_of_ble_eq_true rfl) ⟨rfl, rfl⟩ ?_
      refine fz_aload_n dX10_read_24 rfl ?_
      refine fz_aload_n dX10_read_25 rfl ?_
      refine fz_put1 dX10_read_26 fX10_12 rfl (Nat.le_of_ble_eq_true rfl) ⟨rfl, rfl⟩ ?_
      refine fz_aload_n dX10_read_29 rfl ?_
      refine fz_get dX10_read_30 fX10_29 rfl (Nat.one_pos) rfl ?_
      refine fz_callV (tX5_clear (nI on) (nI tn) (nI nc) (nI pn) pf) dX10_read_33 kX10_57 rfl (Nat.one_pos) ⟨rfl, rfl, trivial⟩ (Nat.le_of_ble_eq_true rfl) (Nat.le_of_ble_eq_true rfl) (Nat.le_of_ble_eq_true rfl) (Nat.le_of_ble_eq_true rfl) (Nat.le_of_ble_eq_true rfl) rfl (fun r U hq => ?_)
      obtain ⟨rfl, pf', hpf, rfl⟩ := hq
      refine fz_back rfl ?_
      refine fz_aload_n dX10_read_36 rfl ?_
      refine fz_get dX10_read_37 fX10_38 rfl (Nat.one_pos) rfl ?_
      refine fz_aload_n dX10_read_40 rfl ?_
      refine fz_get dX10_read_41 fX10_12 rfl (Nat.one_pos) rfl ?_
      refine fz_callV (tX0_begin g (1 - g) g (nI rn) (nI t) (nI wy) (nI lg) (nI rn) (nI A) ow lo hi rb ts sh go) dX10_read_44 kX10_60 rfl (Nat.one_pos) ⟨rfl, rfl, rfl, rfl, rfl, trivial⟩ (Nat.le_of_ble_eq_true rfl) (Nat.le_of_ble_eq_true rfl) (Nat.le_of_ble_eq_true rfl) (Nat.le_of_ble_eq_true rfl) (Nat.le_of_ble_eq_true rfl) rfl (fun r U hq => ?_)
      obtain ⟨rfl, ow', how, rfl⟩ := hq
      refine fz_back rfl ?_
      refine fz_aload_n dX10_read_47 rfl ?_
      refine fz_get dX10_read_48 fX10_12 rfl (Nat.one_pos) rfl ?_
      refine fz_callV (tX1_size (1 - g) dr_lt _ _) dX10_read_51 kX10_64 rfl (dr_lt) ⟨rfl, trivial⟩ (Nat.le_of_ble_eq_true rfl) (Nat.le_of_ble_eq_true rfl) (Nat.le_of_ble_eq_true rfl) (Nat.le_of_ble_eq_true rfl) (Nat.le_of_ble_eq_true rfl) rfl (fun r U hq => ?_)
      obtain ⟨rfl, rfl⟩ := hq
      refine fz_back rfl ?_
      rw [hM3.1]
      refine fz_iret dX10_read_54 rfl (Nat.zero_le _) (Nat.zero_le _) ⟨rfl, 1 - g, tw', ln', co', tf', sg, va_up sz (1 - g) a, va_up wd (1 - g) b, va_up st (1 - g) s, va_up op (1 - g) o, va_up ki (1 - g) k, va_up fa g F, va_up qu g Q, F', Q', 0, 0, pf', rows, en, et, ow', lo, hi, rb, ts, sh, go, re, al, dr_lt, hn, htw', htq, hM3, ⟨rfl, hpf, rfl⟩, fun _ => ⟨fun q hq => by omega, fun q hq => by omega, fun c hc _ => how c hc⟩, ?_⟩
      show _ = wAl (1 - g) (-1) n tw' ln' co' tf' sg _
      unfold wAl eFC
      rw [hgg]
      rfl
    · exact absurd rfl c6
