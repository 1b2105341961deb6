/-! hasAllKinds, isMove -/
def hkd (kn : Nat → Nat) (v : Nat) : Nat → Bool
  | 0 => false
  | c + 1 => hkd kn v c || (kn c == v)
theorem msk_or : ∀ s, s < 32 → ∀ k, k < 5 → nI s ||| (nI 1 <<< (nI k &&& 31)) = nI (s ||| 2 ^ k) ∧ (s ||| 2 ^ k) < 32 ∧ ∀ v, v < 5 → (s ||| 2 ^ k).testBit v = (s.testBit v || (k == v)) := by decide +kernel
theorem msk_28 : ∀ s, s < 32 → ((nI s &&& nI 28) = nI 28 ↔ (s.testBit 2 && (s.testBit 3 && s.testBit 4)) = true) := by decide +kernel
theorem lX1_hasAllKinds {G : fz_G} {E0 : Nat → fz_E} (g : Nat) (hg : g < 2) (sz wd : Nat → Int32) (ki : Nat → Nat → Int32) (cn w : Nat) (kn : Nat → Nat) (hK : gK cn w kn (sz g) (wd g) (ki g)) :
    ∀ q c s, c + q = cn → s < 32 → (∀ v, v < 5 → s.testBit v = hkd kn v c) → fz_J G mX1_hasAllKinds rX1_hasAllKinds (fz_Z G E0 0 0 (fun r U => r = some (zI (if (hkd kn 2 cn && (hkd kn 3 cn && hkd kn 4 cn)) = true then 1 else 0)) ∧ U = [(2, eGr sz wd), (5, e8 ki)])) E0 0 0 4 [(2, zI (nI c)), (1, zI (nI s)), (0, zR 2 g)] [] [(2, eGr sz wd), (5, e8 ki)] := by
  intro q
  obtain ⟨k1, k2, k3, k4, k5, k6, k7⟩ := hK
  induction q with
  | zero =>
    intro c s hc hs hv
    have e : c = cn := by omega
    subst e
    refine fz_iload_n dX1_hasAllKinds_4 rfl ?_
    refine fz_aload_n dX1_hasAllKinds_5 rfl ?_
    refine fz_get dX1_hasAllKinds_6 fX1_28 rfl (hg) rfl ?_
    rw [k5]
    refine fz_icmp_ge (tgt := 29) dX1_hasAllKinds_9 (by decide) (fun c9 => ?_) (fun c9 => ?_)
    · skip
      refine fz_bipush (v := nI 28) dX1_hasAllKinds_29 (by decide) ?_
      refine fz_istore_n dX1_hasAllKinds_31 (Nat.le_of_ble_eq_true rfl) ?_
      refine fz_iload_n dX1_hasAllKinds_32 rfl ?_
      refine fz_iload_n dX1_hasAllKinds_33 rfl ?_
      refine fz_iand dX1_hasAllKinds_34 ?_
      refine fz_iload_n dX1_hasAllKinds_35 rfl ?_
      refine fz_icmp_ne (tgt := 43) dX1_hasAllKinds_36 (by decide) (fun c36 => ?_) (fun c36 => ?_)
      · skip
        refine fz_iconst (v := nI 0) dX1_hasAllKinds_43 (by decide) ?_
        refine fz_zret dX1_hasAllKinds_44 rfl (by decide) (Nat.zero_le _) (Nat.zero_le _) ⟨?_, rfl⟩
        have h := fun z => c36 ((msk_28 s hs).mpr z)
        rw [hv 2 (by omega), hv 3 (by omega), hv 4 (by omega)] at h
        rw [if_neg h]; rfl
      · skip
        refine fz_iconst (v := nI 1) dX1_hasAllKinds_39 (by decide) ?_
        refine fz_goto (tgt := 44) dX1_hasAllKinds_40 (by decide) ?_
        refine fz_zret dX1_hasAllKinds_44 rfl (by decide) (Nat.zero_le _) (Nat.zero_le _) ⟨?_, rfl⟩
        have h := (msk_28 s hs).mp c36
        rw [hv 2 (by omega), hv 3 (by omega), hv 4 (by omega)] at h
        rw [if_pos h]; rfl
    · exact absurd (nI_le (Nat.le_refl _) (by omega)) c9
  | succ q ih =>
    intro c s hc hs hv
    refine fz_iload_n dX1_hasAllKinds_4 rfl ?_
    refine fz_aload_n dX1_hasAllKinds_5 rfl ?_
    refine fz_get dX1_hasAllKinds_6 fX1_28 rfl (hg) rfl ?_
    rw [k5]
    refine fz_icmp_ge (tgt := 29) dX1_hasAllKinds_9 (by decide) (fun c9 => ?_) (fun c9 => ?_)
    · exact absurd ((nI_leI (by omega) (by omega)).mp c9) (by omega)
    · have hkc := k7 c (by omega)
      refine fz_iload_n dX1_hasAllKinds_12 rfl ?_
      refine fz_iconst (v := nI 1) dX1_hasAllKinds_13 (by decide) ?_
      refine fz_aload_n dX1_hasAllKinds_14 rfl ?_
      refine fz_get dX1_hasAllKinds_15 fX1_19 rfl (hg) rfl ?_
      refine fz_iload_n dX1_hasAllKinds_18 rfl ?_
      refine fz_iald dX1_hasAllKinds_19 rfl rfl (hg) (vp_in_nI (by omega) (by omega)) ?_
      rw [nI_clamp (by omega), hkc.1]
      obtain ⟨m1, m2, m3⟩ := msk_or s hs (kn c) (by omega)
      refine fz_ishl dX1_hasAllKinds_20 ?_
      refine fz_ior dX1_hasAllKinds_21 ?_
      rw [m1]
      refine fz_istore_n dX1_hasAllKinds_22 (Nat.le_of_ble_eq_true rfl) ?_
      refine fz_incN dX1_hasAllKinds_23 rfl (Nat.le_of_ble_eq_true rfl) ?_
      refine fz_goto (tgt := 4) dX1_hasAllKinds_26 (by decide) ?_
      refine ih (c + 1) (s ||| 2 ^ kn c) (by omega) m2 (fun v h => ?_)
      rw [m3 v h, hv v h]
      rfl
theorem tX1_hasAllKinds {G : fz_G} (g : Nat) (hg : g < 2) (sz wd : Nat → Int32) (ki : Nat → Nat → Int32) (cn w : Nat) (kn : Nat → Nat) (hK : gK cn w kn (sz g) (wd g) (ki g)) : fz_T G mX1_hasAllKinds rX1_hasAllKinds [zR 2 g] [(2, eGr sz wd), (5, e8 ki)] (fun r U => r = some (zI (if (hkd kn 2 cn && (hkd kn 3 cn && hkd kn 4 cn)) = true then 1 else 0)) ∧ U = [(2, eGr sz wd), (5, e8 ki)]) := by
  refine fz_T.of (by decide) (Nat.le_of_ble_eq_true rfl) (fun E0 => ?_)
  refine fz_iconst (v := nI 0) dX1_hasAllKinds_0 (by decide) ?_
  refine fz_istore_n dX1_hasAllKinds_1 (Nat.le_of_ble_eq_true rfl) ?_
  refine fz_iconst (v := nI 0) dX1_hasAllKinds_2 (by decide) ?_
  refine fz_istore_n dX1_hasAllKinds_3 (Nat.le_of_ble_eq_true rfl) ?_
  exact lX1_hasAllKinds g hg sz wd ki cn w kn hK cn 0 0 (by omega) (by omega) (fun v _ => by simp [hkd])
/-- whether some move from m on leads from a to b -/
def mvx (cn w : Nat) (kn : Nat → Nat) (a b : Nat) : Nat → Nat → Bool
  | 0, _ => false
  | q + 1, m => (opb cn w kn a m && decide (nx cn w a m = some b)) || mvx cn w kn a b q (m + 1)
theorem gO_at {cn w : Nat} {kn : Nat → Nat} {o : Nat → Int64} (h : gO cn w kn o) {c m : Nat} (hm : m < 5) (hc : c < cn) (h80 : cn ≤ 80) : bl (o (2 * m + c / 64)) (c % 64) = opb cn w kn c m := by
  rw [h m (c / 64) (c % 64) hm (by omega) (by omega), show 64 * (c / 64) + c % 64 = c by omega]
  simp [hc]
theorem opb_nx {cn w : Nat} {kn : Nat → Nat} {c m : Nat} (h : opb cn w kn c m = true) : ∃ d, nx cn w c m = some d := by
  unfold opb at h
  cases hn : nx cn w c m with
  | none => rw [hn] at h; simp at h
  | some d => exact ⟨d, rfl⟩
theorem lX1_isMove {G : fz_G} {E0 : Nat → fz_E} (g : Nat) (hg : g < 2) (sz wd : Nat → Int32) (st : Nat → Nat → Int32) (op : Nat → Nat → Int64) (cn w : Nat) (kn : Nat → Nat) (h0 : 0 < w) (h80 : cn ≤ 80) (hh : ∃ h, cn = w * h) (hS : gS w (st g)) (hO : gO cn w kn (op g)) (a b : Nat) (ha : a < cn) (hb : b < 2 ^ 31) :
    ∀ q m, m + q = 5 → fz_J G mX1_isMove rX1_isMove (fz_Z G E0 0 0 (fun r U => r = some (zI (if mvx cn w kn a b q m then 1 else 0)) ∧ U = [(2, eGr sz wd), (3, e5 st), (4, eL op)])) E0 0 0 2 [(3, zI (nI m)), (0, zR 2 g), (1, zI (nI a)), (2, zI (nI b))] [] [(2, eGr sz wd), (3, e5 st), (4, eL op)] := by
  intro q
  induction q with
  | zero =>
    intro m hm
    have e : m = 5 := by omega
    subst e
    refine fz_iload_n dX1_isMove_2 rfl ?_
    refine fz_iconst (v := nI 5) dX1_isMove_3 (by decide) ?_
    refine fz_icmp_ge (tgt := 36) dX1_isMove_4 (by decide) (fun c4 => ?_) (fun c4 => ?_)
    · skip
      refine fz_iconst (v := nI 0) dX1_isMove_36 (by decide) ?_
      refine fz_zret dX1_isMove_37 rfl (by decide) (Nat.zero_le _) (Nat.zero_le _) ⟨rfl, rfl⟩
    · exact absurd (nI_le (Nat.le_refl _) (by omega)) c4
  | succ q ih =>
    intro m hm
    have ih := ih (m + 1) (by omega)
    refine fz_iload_n dX1_isMove_2 rfl ?_
    refine fz_iconst (v := nI 5) dX1_isMove_3 (by decide) ?_
    refine fz_icmp_ge (tgt := 36) dX1_isMove_4 (by decide) (fun c4 => ?_) (fun c4 => ?_)
    · exact absurd ((nI_leI (by omega) (by omega)).mp c4) (by omega)
    · skip
      refine fz_aload_n dX1_isMove_7 rfl ?_
      refine fz_iload_n dX1_isMove_8 rfl ?_
      refine fz_iload_n dX1_isMove_9 rfl ?_
      refine fz_callV (tX1_isOpen g hg sz wd op a m (by omega) (by omega)) dX1_isMove_10 kX1_73 rfl (hg) ⟨rfl, rfl, trivial⟩ (Nat.le_of_ble_eq_true rfl) (Nat.le_of_ble_eq_true rfl) (Nat.le_of_ble_eq_true rfl) (Nat.le_of_ble_eq_true rfl) (Nat.le_of_ble_eq_true rfl) rfl (fun r U hq => ?_)
      obtain ⟨rfl, rfl⟩ := hq
      refine fz_back rfl ?_
      refine fz_wo (V' := [(2, eGr sz wd), (3, e5 st), (4, eL op)]) rfl ?_
      rw [gO_at hO (by omega) ha h80]
      cases ho : opb cn w kn a m with
      | false =>
        have e1 : mvx cn w kn a b (q + 1) m = mvx cn w kn a b q (m + 1) := by
          show ((opb cn w kn a m && _) || _) = _
          rw [ho]; simp
        rw [e1]
        refine fz_if_eq (tgt := 30) dX1_isMove_13 (by decide) (fun c13 => ?_) (fun c13 => ?_)
        · skip
          refine fz_incN dX1_isMove_30 rfl (Nat.le_of_ble_eq_true rfl) ?_
          refine fz_goto (tgt := 2) dX1_isMove_33 (by decide) ?_
          exact ih
        · exact absurd rfl c13
      | true =>
        obtain ⟨d, hd⟩ := opb_nx ho
        refine fz_if_eq (tgt := 30) dX1_isMove_13 (by decide) (fun c13 => ?_) (fun c13 => ?_)
        · exact absurd c13 (by decide)
        · skip
          refine fz_iload_n dX1_isMove_16 rfl ?_
          refine fz_aload_n dX1_isMove_17 rfl ?_
          refine fz_get dX1_isMove_18 fX1_9 rfl (hg) rfl ?_
          refine fz_iload_n dX1_isMove_21 rfl ?_
          refine fz_iald dX1_isMove_22 rfl rfl (hg) (vp_in_nI (by omega) (by omega)) ?_
          rw [nI_clamp (by omega), hS m (by omega)]
          refine fz_iadd dX1_isMove_23 ?_
          refine fz_iload_n dX1_isMove_24 rfl ?_
          rw [nx_st hd (by omega)]
          have hdl := nx_lt h0 hh ha hd
          refine fz_icmp_ne (tgt := 30) dX1_isMove_25 (by decide) (fun c25 => ?_) (fun c25 => ?_)
          · have hne : ¬ d = b := fun z => c25 (by rw [z])
            have e1 : mvx cn w kn a b (q + 1) m = mvx cn w kn a b q (m + 1) := by
              show ((opb cn w kn a m && decide (nx cn w a m = some b)) || _) = _
              rw [hd]; simp [hne]
            rw [e1]
            refine fz_incN dX1_isMove_30 rfl (Nat.le_of_ble_eq_true rfl) ?_
            refine fz_goto (tgt := 2) dX1_isMove_33 (by decide) ?_
            exact ih
          · have he : d = b := (nI_eq (by omega) hb).mp c25
            have e1 : mvx cn w kn a b (q + 1) m = true := by
              show ((opb cn w kn a m && decide (nx cn w a m = some b)) || _) = _
              rw [hd, ho]; simp [he]
            rw [e1]
            refine fz_iconst (v := nI 1) dX1_isMove_28 (by decide) ?_
            refine fz_zret dX1_isMove_29 rfl (by decide) (Nat.zero_le _) (Nat.zero_le _) ⟨rfl, rfl⟩
theorem tX1_isMove {G : fz_G} (g : Nat) (hg : g < 2) (sz wd : Nat → Int32) (st : Nat → Nat → Int32) (op : Nat → Nat → Int64) (cn w : Nat) (kn : Nat → Nat) (h0 : 0 < w) (h80 : cn ≤ 80) (hh : ∃ h, cn = w * h) (hS : gS w (st g)) (hO : gO cn w kn (op g)) (a b : Nat) (ha : a < cn) (hb : b < 2 ^ 31) :
    fz_T G mX1_isMove rX1_isMove [zR 2 g, zI (nI a), zI (nI b)] [(2, eGr sz wd), (3, e5 st), (4, eL op)] (fun r U => r = some (zI (if mvx cn w kn a b 5 0 then 1 else 0)) ∧ U = [(2, eGr sz wd), (3, e5 st), (4, eL op)]) := by
  refine fz_T.of (by decide) (Nat.le_of_ble_eq_true rfl) (fun E0 => ?_)
  refine fz_iconst (v := nI 0) dX1_isMove_0 (by decide) ?_
  refine fz_istore_n dX1_isMove_1 (Nat.le_of_ble_eq_true rfl) ?_
  exact lX1_isMove g hg sz wd st op cn w kn h0 h80 hh hS hO a b ha hb 5 0 rfl
