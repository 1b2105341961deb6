/-! Fleet: what it tells -/
/-- what a robot tells -/
def rbA (s : fS) (r : Nat) (x : Int32) : Int32 := match s with
  | (O, T, P, te, B, t, A, wy, lg) => if x < 0 ∨ nI 8 ≤ x then -2 else if x = nI 0 then nI (P r t) else if x = nI 1 then B r 0 else if x = nI 2 then (if ¬ B r 0 = -1 ∧ T (bT B r) 3 = nI 2 then 1 else 0) else if x = nI 3 then nI (P r (te r)) else if x = nI 4 then nI (te r - t) else if x = nI 5 then B r 1 else if x = nI 6 then B r 2 else B r 3
theorem rbA_in {O T : Nat → Nat → Int32} {P : Nat → Nat → Nat} {te : Nat → Nat} {B : Nat → Nat → Int32} {t A wy lg r j : Nat} (hj : j < 8) : rbA (O, T, P, te, B, t, A, wy, lg) r (nI j) = if j = 0 then nI (P r t) else if j = 1 then B r 0 else if j = 2 then (if ¬ B r 0 = -1 ∧ T (bT B r) 3 = nI 2 then 1 else 0) else if j = 3 then nI (P r (te r)) else if j = 4 then nI (te r - t) else if j = 5 then B r 1 else if j = 6 then B r 2 else B r 3 := by
  unfold rbA
  have hn : ¬ (nI j < 0 ∨ nI 8 ≤ nI j) := by
    rintro (z | z)
    · exact nI_pos (by omega) z
    · have := (nI_leI (by omega) (by omega)).mp z
      omega
  have he : ∀ i, i < 8 → (nI j = nI i ↔ j = i) := fun i hi => nI_eq (by omega) (by omega)
  simp only [if_neg hn, he 0 (by omega), he 1 (by omega), he 2 (by omega), he 3 (by omega), he 4 (by omega), he 5 (by omega), he 6 (by omega)]
theorem tX0_tellRobot_out {G : fz_G} (g : Nat) (rn : Nat) (nw wy lg x y : Int32) (hx : x < 0 ∨ nI rn ≤ x) : fz_T G mX0_tellRobot rX0_tellRobot [zR 16 0, zI x, zI y] [(16, eFl g (nI rn) nw wy lg)] (fun v U => v = some (zI (-1)) ∧ U = [(16, eFl g (nI rn) nw wy lg)]) := by
  refine fz_T.of (by decide) (Nat.le_of_ble_eq_true rfl) (fun E0 => ?_)
  refine fz_iload_n dX0_tellRobot_0 rfl ?_
  refine fz_if_lt (tgt := 12) dX0_tellRobot_1 (by decide) (fun c1 => ?_) (fun c1 => ?_)
  · skip
    refine fz_iconst (v := -1) dX0_tellRobot_12 (by decide) ?_
    refine fz_iret dX0_tellRobot_13 rfl (Nat.zero_le _) (Nat.zero_le _) ⟨rfl, rfl⟩
  · skip
    refine fz_iload_n dX0_tellRobot_4 rfl ?_
    refine fz_aload_n dX0_tellRobot_5 rfl ?_
    refine fz_get dX0_tellRobot_6 fX0_49 rfl (Nat.one_pos) rfl ?_
    refine fz_icmp_lt (tgt := 14) dX0_tellRobot_9 (by decide) (fun c9 => ?_) (fun c9 => ?_)
    · rcases hx with hx | hx
      · exact absurd hx c1
      · exact absurd c9 (Int32.not_lt.mpr hx)
    · skip
      refine fz_iconst (v := -1) dX0_tellRobot_12 (by decide) ?_
      refine fz_iret dX0_tellRobot_13 rfl (Nat.zero_le _) (Nat.zero_le _) ⟨rfl, rfl⟩
theorem max_sub {a t : Nat} (ha : a ≤ 5000) (ht : t ≤ 4000) : (if nI 0 < nI a - nI t then nI a - nI t else nI 0) = nI (a - t) := by
  by_cases h : t ≤ a
  · rw [pk_sub h]
    by_cases e : 0 < a - t
    · rw [if_pos ((nI_ltI (by omega) (by omega)).mpr e)]
    · rw [if_neg (fun z => e ((nI_ltI (by omega) (by omega)).mp z)), show a - t = 0 by omega]
  · rw [if_neg, show a - t = 0 by omega]
    intro z
    rw [Int32.lt_iff_toInt_lt, pk_sub_toInt (by omega) (by omega), nI_toInt (by omega)] at z
    omega
theorem tX0_tellRobot {G : fz_G} (cn w : Nat) (kn : Nat → Nat) (on tn rn g : Nat) (s : fS) (V : fz_W) (r : Nat) (hr : r < rn) (kt : Nat → Nat) (y : Int32) (hI : inF cn kn on tn rn s) (hV : stR cn w kn on tn rn g kt s V) : fz_T G mX0_tellRobot rX0_tellRobot [zR 16 0, zI (nI r), zI y] V (fun x U => x = some (zI (rbA s r y)) ∧ U = V) := by
  obtain ⟨O, T, P, te, B, t, A, wy, lg⟩ := s
  obtain ⟨i1, i2, i3, i4, i5, i6, i7, i8, i9⟩ := hI
  obtain ⟨sz, wd, st, op, ki, fa, qu, F, Q, nc, pn, pf, rows, en, et, ow, lo, hi, rb, ts, sh, go, re, al, hK, hS, hO, hoc, htt, rfl⟩ := hV
  have hP := ttR_at htt
  obtain ⟨q1, q2, q3, q4, q5, q6⟩ := htt.1 r hr
  have hr6 : r < 6 := by omega
  refine fz_T.of (by decide) (Nat.le_of_ble_eq_true rfl) (fun E0 => ?_)
  refine fz_iload_n dX0_tellRobot_0 rfl ?_
  refine fz_if_lt (tgt := 12) dX0_tellRobot_1 (by decide) (fun c1 => ?_) (fun c1 => ?_)
  · exact absurd c1 (nI_pos (by omega))
  · skip
    refine fz_iload_n dX0_tellRobot_4 rfl ?_
    refine fz_aload_n dX0_tellRobot_5 rfl ?_
    refine fz_get dX0_tellRobot_6 fX0_49 rfl (Nat.one_pos) rfl ?_
    refine fz_icmp_lt (tgt := 14) dX0_tellRobot_9 (by decide) (fun c9 => ?_) (fun c9 => ?_)
    · skip
      refine fz_iload_n dX0_tellRobot_14 rfl ?_
      rcases pk_ix y (n := 8) (by omega) with h | h | ⟨j, hj, rfl⟩
      · refine fz_tableOut (tgt := 162) dX0_tellRobot_15 (tw_out (n := 8) (by omega) (Or.inl h)) (by decide) ?_
        refine fz_bipush (v := -2) dX0_tellRobot_162 (by decide) ?_
        refine fz_iret dX0_tellRobot_164 rfl (Nat.zero_le _) (Nat.zero_le _) ⟨by unfold rbA; simp only [if_pos (show y < 0 ∨ nI 8 ≤ y from Or.inl h)], rfl⟩
      · refine fz_tableOut (tgt := 162) dX0_tellRobot_15 (tw_out (n := 8) (by omega) (Or.inr h)) (by decide) ?_
        refine fz_bipush (v := -2) dX0_tellRobot_162 (by decide) ?_
        refine fz_iret dX0_tellRobot_164 rfl (Nat.zero_le _) (Nat.zero_le _) ⟨by unfold rbA; simp only [if_pos (show y < 0 ∨ nI 8 ≤ y from Or.inr h)], rfl⟩
      · rw [rbA_in hj]
        rcases (show j = 0 ∨ j = 1 ∨ j = 2 ∨ j = 3 ∨ j = 4 ∨ j = 5 ∨ j = 6 ∨ j = 7 by omega) with rfl | rfl | rfl | rfl | rfl | rfl | rfl | rfl
        · refine fz_tableIn (off := 45) (tgt := 60) dX0_tellRobot_15 (by decide) (by decide) (by decide) (by decide) ?_
          refine fz_aload_n dX0_tellRobot_60 rfl ?_
          refine fz_get dX0_tellRobot_61 fX0_20 rfl (Nat.one_pos) rfl ?_
          refine fz_iload_n dX0_tellRobot_64 rfl ?_
          refine fz_aload_n dX0_tellRobot_65 rfl ?_
          refine fz_get dX0_tellRobot_66 fX0_53 rfl (Nat.one_pos) rfl ?_
          refine fz_callV (tX8_cellAt (nI rn) rows en et r t hr6 (by omega)) dX0_tellRobot_69 kX0_105 rfl (Nat.one_pos) ⟨rfl, rfl, rfl, rfl, trivial⟩ (Nat.le_of_ble_eq_true rfl) (Nat.le_of_ble_eq_true rfl) (Nat.le_of_ble_eq_true rfl) (Nat.le_of_ble_eq_true rfl) (Nat.le_of_ble_eq_true rfl) rfl (fun r U hq => ?_)
          obtain ⟨rfl, rfl⟩ := hq
          refine fz_back rfl ?_
          rw [hP r t hr (by omega)]
          refine fz_iret dX0_tellRobot_72 rfl (Nat.zero_le _) (Nat.zero_le _) ⟨rfl, rfl⟩
        · refine fz_tableIn (off := 58) (tgt := 73) dX0_tellRobot_15 (by decide) (by decide) (by decide) (by decide) ?_
          refine fz_aload_n dX0_tellRobot_73 rfl ?_
          refine fz_get dX0_tellRobot_74 fX0_11 rfl (Nat.one_pos) rfl ?_
          refine fz_iload_n dX0_tellRobot_77 rfl ?_
          refine fz_aald dX0_tellRobot_78 rfl rfl Nat.one_pos (vp_in_nI hr6 (by omega)) (arr (by omega)) ?_
          refine fz_get dX0_tellRobot_79 fX0_178 rfl (hr6) rfl ?_
          refine fz_iret dX0_tellRobot_82 rfl (Nat.zero_le _) (Nat.zero_le _) ⟨rfl, rfl⟩
        · refine fz_tableIn (off := 68) (tgt := 83) dX0_tellRobot_15 (by decide) (by decide) (by decide) (by decide) ?_
          refine fz_aload_n dX0_tellRobot_83 rfl ?_
          refine fz_aload_n dX0_tellRobot_84 rfl ?_
          refine fz_get dX0_tellRobot_85 fX0_11 rfl (Nat.one_pos) rfl ?_
          refine fz_iload_n dX0_tellRobot_88 rfl ?_
          refine fz_aald dX0_tellRobot_89 rfl rfl Nat.one_pos (vp_in_nI hr6 (by omega)) (arr (by omega)) ?_
          refine fz_get dX0_tellRobot_90 fX0_178 rfl (hr6) rfl ?_
          by_cases hb : B r 0 = -1
          · rw [hb]
            refine fz_callV (tX0_hasPicked_no g (nI rn) (nI t) (nI wy) (nI lg)) dX0_tellRobot_93 kX0_202 rfl (Nat.one_pos) ⟨rfl, trivial⟩ (Nat.le_of_ble_eq_true rfl) (Nat.le_of_ble_eq_true rfl) (Nat.le_of_ble_eq_true rfl) (Nat.le_of_ble_eq_true rfl) (Nat.le_of_ble_eq_true rfl) rfl (fun r U hq => ?_)
            obtain ⟨rfl, rfl⟩ := hq
            refine fz_back rfl ?_
            refine fz_if_eq (tgt := 103) dX0_tellRobot_96 (by decide) (fun c96 => ?_) (fun c96 => ?_)
            · skip
              refine fz_iconst (v := nI 0) dX0_tellRobot_103 (by decide) ?_
              refine fz_iret dX0_tellRobot_104 rfl (Nat.zero_le _) (Nat.zero_le _) ⟨by simp; rfl, rfl⟩
            · exact absurd rfl c96
          · obtain ⟨k, hk, hbk⟩ : ∃ k, k < tn ∧ B r 0 = nI k := (i9 r hr).resolve_left hb
            have hbT := bT_of hbk (by omega)
            rw [hbk, hbT]
            have hne : ¬ nI k = -1 := oI_ne (by omega)
            refine fz_callV (tX0_hasPicked g (nI rn) (nI t) (nI wy) (nI lg) (nI on) (nI tn) (nI nc) (nI pn) T k (by omega)) dX0_tellRobot_93 kX0_202 rfl (Nat.one_pos) ⟨rfl, rfl, rfl, rfl, trivial⟩ (Nat.le_of_ble_eq_true rfl) (Nat.le_of_ble_eq_true rfl) (Nat.le_of_ble_eq_true rfl) (Nat.le_of_ble_eq_true rfl) (Nat.le_of_ble_eq_true rfl) rfl (fun r U hq => ?_)
            obtain ⟨rfl, rfl⟩ := hq
            refine fz_back rfl ?_
            by_cases h2 : T k 3 = nI 2
            · rw [if_pos h2]
              refine fz_if_eq (tgt := 103) dX0_tellRobot_96 (by decide) (fun c96 => ?_) (fun c96 => ?_)
              · exact absurd c96 (by decide)
              · skip
                refine fz_iconst (v := nI 1) dX0_tellRobot_99 (by decide) ?_
                refine fz_goto (tgt := 104) dX0_tellRobot_100 (by decide) ?_
                refine fz_iret dX0_tellRobot_104 rfl (Nat.zero_le _) (Nat.zero_le _) ⟨by simp [hne, h2]; rfl, rfl⟩
            · rw [if_neg h2]
              refine fz_if_eq (tgt := 103) dX0_tellRobot_96 (by decide) (fun c96 => ?_) (fun c96 => ?_)
              · skip
                refine fz_iconst (v := nI 0) dX0_tellRobot_103 (by decide) ?_
                refine fz_iret dX0_tellRobot_104 rfl (Nat.zero_le _) (Nat.zero_le _) ⟨by simp [h2]; rfl, rfl⟩
              · exact absurd rfl c96
        · refine fz_tableIn (off := 90) (tgt := 105) dX0_tellRobot_15 (by decide) (by decide) (by decide) (by decide) ?_
          refine fz_aload_n dX0_tellRobot_105 rfl ?_
          refine fz_get dX0_tellRobot_106 fX0_20 rfl (Nat.one_pos) rfl ?_
          refine fz_iload_n dX0_tellRobot_109 rfl ?_
          refine fz_callV (tX8_endOf (nI rn) en r hr6) dX0_tellRobot_110 kX0_205 rfl (Nat.one_pos) ⟨rfl, rfl, trivial⟩ (Nat.le_of_ble_eq_true rfl) (Nat.le_of_ble_eq_true rfl) (Nat.le_of_ble_eq_true rfl) (Nat.le_of_ble_eq_true rfl) (Nat.le_of_ble_eq_true rfl) rfl (fun r U hq => ?_)
          obtain ⟨rfl, rfl⟩ := hq
          refine fz_back rfl ?_
          rw [q3]
          refine fz_iret dX0_tellRobot_113 rfl (Nat.zero_le _) (Nat.zero_le _) ⟨rfl, rfl⟩
        · refine fz_tableIn (off := 99) (tgt := 114) dX0_tellRobot_15 (by decide) (by decide) (by decide) (by decide) ?_
          refine fz_iconst (v := nI 0) dX0_tellRobot_114 (by decide) ?_
          refine fz_aload_n dX0_tellRobot_115 rfl ?_
          refine fz_get dX0_tellRobot_116 fX0_20 rfl (Nat.one_pos) rfl ?_
          refine fz_iload_n dX0_tellRobot_119 rfl ?_
          refine fz_callV (tX8_endTimeOf (nI rn) et r hr6) dX0_tellRobot_120 kX0_92 rfl (Nat.one_pos) ⟨rfl, rfl, trivial⟩ (Nat.le_of_ble_eq_true rfl) (Nat.le_of_ble_eq_true rfl) (Nat.le_of_ble_eq_true rfl) (Nat.le_of_ble_eq_true rfl) (Nat.le_of_ble_eq_true rfl) rfl (fun r U hq => ?_)
          obtain ⟨rfl, rfl⟩ := hq
          refine fz_back rfl ?_
          rw [q1]
          refine fz_aload_n dX0_tellRobot_123 rfl ?_
          refine fz_get dX0_tellRobot_124 fX0_53 rfl (Nat.one_pos) rfl ?_
          refine fz_isub dX0_tellRobot_127 ?_
          refine fz_max dX0_tellRobot_128 oX0_173 (Nat.le_of_ble_eq_true rfl) (Nat.le_of_ble_eq_true rfl) (Nat.zero_le _) (Nat.zero_le _) ?_
          refine fz_top (y := nI (te r - t)) (max_sub q2 i4) ?_
          refine fz_iret dX0_tellRobot_131 rfl (Nat.zero_le _) (Nat.zero_le _) ⟨rfl, rfl⟩
        · refine fz_tableIn (off := 117) (tgt := 132) dX0_tellRobot_15 (by decide) (by decide) (by decide) (by decide) ?_
          refine fz_aload_n dX0_tellRobot_132 rfl ?_
          refine fz_get dX0_tellRobot_133 fX0_11 rfl (Nat.one_pos) rfl ?_
          refine fz_iload_n dX0_tellRobot_136 rfl ?_
          refine fz_aald dX0_tellRobot_137 rfl rfl Nat.one_pos (vp_in_nI hr6 (by omega)) (arr (by omega)) ?_
          refine fz_get dX0_tellRobot_138 fX0_66 rfl (hr6) rfl ?_
          refine fz_iret dX0_tellRobot_141 rfl (Nat.zero_le _) (Nat.zero_le _) ⟨rfl, rfl⟩
        · refine fz_tableIn (off := 127) (tgt := 142) dX0_tellRobot_15 (by decide) (by decide) (by decide) (by decide) ?_
          refine fz_aload_n dX0_tellRobot_142 rfl ?_
          refine fz_get dX0_tellRobot_143 fX0_11 rfl (Nat.one_pos) rfl ?_
          refine fz_iload_n dX0_tellRobot_146 rfl ?_
          refine fz_aald dX0_tellRobot_147 rfl rfl Nat.one_pos (vp_in_nI hr6 (by omega)) (arr (by omega)) ?_
          refine fz_get dX0_tellRobot_148 fX0_199 rfl (hr6) rfl ?_
          refine fz_iret dX0_tellRobot_151 rfl (Nat.zero_le _) (Nat.zero_le _) ⟨rfl, rfl⟩
        · refine fz_tableIn (off := 137) (tgt := 152) dX0_tellRobot_15 (by decide) (by decide) (by decide) (by decide) ?_
          refine fz_aload_n dX0_tellRobot_152 rfl ?_
          refine fz_get dX0_tellRobot_153 fX0_11 rfl (Nat.one_pos) rfl ?_
          refine fz_iload_n dX0_tellRobot_156 rfl ?_
          refine fz_aald dX0_tellRobot_157 rfl rfl Nat.one_pos (vp_in_nI hr6 (by omega)) (arr (by omega)) ?_
          refine fz_get dX0_tellRobot_158 fX0_142 rfl (hr6) rfl ?_
          refine fz_iret dX0_tellRobot_161 rfl (Nat.zero_le _) (Nat.zero_le _) ⟨rfl, rfl⟩
    · exact absurd (nI_lt hr (by omega)) c9
theorem tX0_cellIn_out {G : fz_G} (g : Nat) (rn : Nat) (nw wy lg x y : Int32) (hx : x < 0 ∨ nI rn ≤ x ∨ y < 0) : fz_T G mX0_cellIn rX0_cellIn [zR 16 0, zI x, zI y] [(16, eFl g (nI rn) nw wy lg)] (fun v U => v = some (zI (-1)) ∧ U = [(16, eFl g (nI rn) nw wy lg)]) := by
  refine fz_T.of (by decide) (Nat.le_of_ble_eq_true rfl) (fun E0 => ?_)
  refine fz_iload_n dX0_cellIn_0 rfl ?_
  refine fz_if_lt (tgt := 16) dX0_cellIn_1 (by decide) (fun c1 => ?_) (fun c1 => ?_)
  · skip
    refine fz_iconst (v := -1) dX0_cellIn_16 (by decide) ?_
    refine fz_iret dX0_cellIn_17 rfl (Nat.zero_le _) (Nat.zero_le _) ⟨rfl, rfl⟩
  · skip
    refine fz_iload_n dX0_cellIn_4 rfl ?_
    refine fz_aload_n dX0_cellIn_5 rfl ?_
    refine fz_get dX0_cellIn_6 fX0_49 rfl (Nat.one_pos) rfl ?_
    refine fz_icmp_ge (tgt := 16) dX0_cellIn_9 (by decide) (fun c9 => ?_) (fun c9 => ?_)
    · skip
      refine fz_iconst (v := -1) dX0_cellIn_16 (by decide) ?_
      refine fz_iret dX0_cellIn_17 rfl (Nat.zero_le _) (Nat.zero_le _) ⟨rfl, rfl⟩
    · skip
      refine fz_iload_n dX0_cellIn_12 rfl ?_
      refine fz_if_ge (tgt := 18) dX0_cellIn_13 (by decide) (fun c13 => ?_) (fun c13 => ?_)
      · rcases hx with hx | hx | hx
        · exact absurd hx c1
        · exact absurd hx c9
        · exact absurd hx (Int32.not_lt.mpr c13)
      · skip
        refine fz_iconst (v := -1) dX0_cellIn_16 (by decide) ?_
        refine fz_iret dX0_cellIn_17 rfl (Nat.zero_le _) (Nat.zero_le _) ⟨rfl, rfl⟩
theorem min_1000 {y : Int32} (hy : ¬ y < 0) : ∃ k, k ≤ 1000 ∧ (if nI 1000 < y then nI 1000 else y) = nI k ∧ k = min y.toNatClampNeg 1000 := by
  have h0 : 0 ≤ y := Int32.not_lt.mp hy
  have h1 : (y.toNatClampNeg : Int) = y.toInt := by
    have := Int32.le_iff_toInt_le.mp h0
    simp at this
    show ((y.toInt.toNat : Nat) : Int) = y.toInt
    omega
  have h2 : y = nI y.toNatClampNeg := by
    apply Int32.toInt.inj
    have h3 := y.toInt_lt
    rw [nI_toInt (by omega)]; omega
  by_cases h : nI 1000 < y
  · rw [if_pos h]
    have h3 := Int32.lt_iff_toInt_lt.mp h
    rw [nI_toInt (by omega)] at h3
    exact ⟨1000, by omega, rfl, by omega⟩
  · rw [if_neg h]
    have h3 : ¬ (nI 1000).toInt < y.toInt := fun z => h (Int32.lt_iff_toInt_lt.mpr z)
    rw [nI_toInt (by omega)] at h3
    exact ⟨y.toNatClampNeg, by omega, h2, by omega⟩
theorem tX0_cellIn {G : fz_G} (g rn : Nat) (hrn : rn ≤ 6) (wy lg : Int32) (t : Nat) (ht : t ≤ 4000) (rows : Nat → Int64) (en et : Nat → Int32) (P : Nat → Nat → Nat) (hP : ∀ q τ, q < rn → τ < 5001 → cAt rows en et q τ = nI (P q τ)) (r : Nat) (hr : r < rn) (y : Int32) (hy : ¬ y < 0) : fz_T G mX0_cellIn rX0_cellIn [zR 16 0, zI (nI r), zI y] [(16, eFl g (nI rn) (nI t) wy lg), (19, eTT (nI rn)), (20, eRw rows), (21, e6 en), (22, e6 et)] (fun v U => v = some (zI (nI (P r (t + min y.toNatClampNeg 1000)))) ∧ U = [(16, eFl g (nI rn) (nI t) wy lg), (19, eTT (nI rn)), (20, eRw rows), (21, e6 en), (22, e6 et)]) := by
  refine fz_T.of (by decide) (Nat.le_of_ble_eq_true rfl) (fun E0 => ?_)
  refine fz_iload_n dX0_cellIn_0 rfl ?_
  refine fz_if_lt (tgt := 16) dX0_cellIn_1 (by decide) (fun c1 => ?_) (fun c1 => ?_)
  · exact absurd c1 (nI_pos (by omega))
  · skip
    refine fz_iload_n dX0_cellIn_4 rfl ?_
    refine fz_aload_n dX0_cellIn_5 rfl ?_
    refine fz_get dX0_cellIn_6 fX0_49 rfl (Nat.one_pos) rfl ?_
    refine fz_icmp_ge (tgt := 16) dX0_cellIn_9 (by decide) (fun c9 => ?_) (fun c9 => ?_)
    · exact absurd ((nI_leI (by omega) (by omega)).mp c9) (by omega)
    · skip
      refine fz_iload_n dX0_cellIn_12 rfl ?_
      refine fz_if_ge (tgt := 18) dX0_cellIn_13 (by decide) (fun c13 => ?_) (fun c13 => ?_)
      · skip
        refine fz_aload_n dX0_cellIn_18 rfl ?_
        refine fz_get dX0_cellIn_19 fX0_20 rfl (Nat.one_pos) rfl ?_
        refine fz_iload_n dX0_cellIn_22 rfl ?_
        refine fz_aload_n dX0_cellIn_23 rfl ?_
        refine fz_get dX0_cellIn_24 fX0_53 rfl (Nat.one_pos) rfl ?_
        refine fz_iload_n dX0_cellIn_27 rfl ?_
        refine fz_sipush (v := nI 1000) dX0_cellIn_28 (by decide) ?_
        refine fz_min dX0_cellIn_31 oX0_208 (Nat.le_of_ble_eq_true rfl) (Nat.le_of_ble_eq_true rfl) (Nat.zero_le _) (Nat.zero_le _) ?_
        obtain ⟨k, hk, e1, e2⟩ := min_1000 hy
        refine fz_top (y := nI k) e1 ?_
        refine fz_iadd dX0_cellIn_34 ?_
        rw [nI_add]
        refine fz_callV (tX8_cellAt (nI rn) rows en et r (t + k) (by omega) (by omega)) dX0_cellIn_35 kX0_105 rfl (Nat.one_pos) ⟨rfl, rfl, rfl, rfl, trivial⟩ (Nat.le_of_ble_eq_true rfl) (Nat.le_of_ble_eq_true rfl) (Nat.le_of_ble_eq_true rfl) (Nat.le_of_ble_eq_true rfl) (Nat.le_of_ble_eq_true rfl) rfl (fun r U hq => ?_)
        obtain ⟨rfl, rfl⟩ := hq
        refine fz_back rfl ?_
        rw [hP r (t + k) hr (by omega)]
        refine fz_iret dX0_cellIn_38 rfl (Nat.zero_le _) (Nat.zero_le _) ⟨by rw [e2], rfl⟩
      · exact absurd (Int32.not_lt.mp hy) c13
theorem tX0_cellAt_out {G : fz_G} (g : Nat) (rn : Nat) (nw wy lg x y : Int32) (hx : x < 0 ∨ nI rn ≤ x ∨ y < 0 ∨ nw < y) : fz_T G mX0_cellAt rX0_cellAt [zR 16 0, zI x, zI y] [(16, eFl g (nI rn) nw wy lg)] (fun v U => v = some (zI (-1)) ∧ U = [(16, eFl g (nI rn) nw wy lg)]) := by
  refine fz_T.of (by decide) (Nat.le_of_ble_eq_true rfl) (fun E0 => ?_)
  refine fz_iload_n dX0_cellAt_0 rfl ?_
  refine fz_if_lt (tgt := 24) dX0_cellAt_1 (by decide) (fun c1 => ?_) (fun c1 => ?_)
  · skip
    refine fz_iconst (v := -1) dX0_cellAt_24 (by decide) ?_
    refine fz_goto (tgt := 37) dX0_cellAt_25 (by decide) ?_
    refine fz_iret dX0_cellAt_37 rfl (Nat.zero_le _) (Nat.zero_le _) ⟨rfl, rfl⟩
  · skip
    refine fz_iload_n dX0_cellAt_4 rfl ?_
    refine fz_aload_n dX0_cellAt_5 rfl ?_
    refine fz_get dX0_cellAt_6 fX0_49 rfl (Nat.one_pos) rfl ?_
    refine fz_icmp_ge (tgt := 24) dX0_cellAt_9 (by decide) (fun c9 => ?_) (fun c9 => ?_)
    · skip
      refine fz_iconst (v := -1) dX0_cellAt_24 (by decide) ?_
      refine fz_goto (tgt := 37) dX0_cellAt_25 (by decide) ?_
      refine fz_iret dX0_cellAt_37 rfl (Nat.zero_le _) (Nat.zero_le _) ⟨rfl, rfl⟩
    · skip
      refine fz_iload_n dX0_cellAt_12 rfl ?_
      refine fz_if_lt (tgt := 24) dX0_cellAt_13 (by decide) (fun c13 => ?_) (fun c13 => ?_)
      · skip
        refine fz_iconst (v := -1) dX0_cellAt_24 (by decide) ?_
        refine fz_goto (tgt := 37) dX0_cellAt_25 (by decide) ?_
        refine fz_iret dX0_cellAt_37 rfl (Nat.zero_le _) (Nat.zero_le _) ⟨rfl, rfl⟩
      · skip
        refine fz_iload_n dX0_cellAt_16 rfl ?_
        refine fz_aload_n dX0_cellAt_17 rfl ?_
        refine fz_get dX0_cellAt_18 fX0_53 rfl (Nat.one_pos) rfl ?_
        refine fz_icmp_le (tgt := 28) dX0_cellAt_21 (by decide) (fun c21 => ?_) (fun c21 => ?_)
        · rcases hx with hx | hx | hx | hx
          · exact absurd hx c1
          · exact absurd hx c9
          · exact absurd hx c13
          · exact absurd c21 (Int32.not_le.mpr hx)
        · skip
          refine fz_iconst (v := -1) dX0_cellAt_24 (by decide) ?_
          refine fz_goto (tgt := 37) dX0_cellAt_25 (by decide) ?_
          refine fz_iret dX0_cellAt_37 rfl (Nat.zero_le _) (Nat.zero_le _) ⟨rfl, rfl⟩
theorem tX0_cellAt {G : fz_G} (g rn : Nat) (hrn : rn ≤ 6) (wy lg : Int32) (t : Nat) (ht : t ≤ 4000) (rows : Nat → Int64) (en et : Nat → Int32) (P : Nat → Nat → Nat) (hP : ∀ q τ, q < rn → τ < 5001 → cAt rows en et q τ = nI (P q τ)) (r : Nat) (hr : r < rn) (j : Nat) (hj : j ≤ t) : fz_T G mX0_cellAt rX0_cellAt [zR 16 0, zI (nI r), zI (nI j)] [(16, eFl g (nI rn) (nI t) wy lg), (19, eTT (nI rn)), (20, eRw rows), (21, e6 en), (22, e6 et)] (fun v U => v = some (zI (nI (P r j))) ∧ U = [(16, eFl g (nI rn) (nI t) wy lg), (19, eTT (nI rn)), (20, eRw rows), (21, e6 en), (22, e6 et)]) := by
  refine fz_T.of (by decide) (Nat.le_of_ble_eq_true rfl) (fun E0 => ?_)
  refine fz_iload_n dX0_cellAt_0 rfl ?_
  refine fz_if_lt (tgt := 24) dX0_cellAt_1 (by decide) (fun c1 => ?_) (fun c1 => ?_)
  · exact absurd c1 (nI_pos (by omega))
  · skip
    refine fz_iload_n dX0_cellAt_4 rfl ?_
    refine fz_aload_n dX0_cellAt_5 rfl ?_
    refine fz_get dX0_cellAt_6 fX0_49 rfl (Nat.one_pos) rfl ?_
    refine fz_icmp_ge (tgt := 24) dX0_cellAt_9 (by decide) (fun c9 => ?_) (fun c9 => ?_)
    · exact absurd ((nI_leI (by omega) (by omega)).mp c9) (by omega)
    · skip
      refine fz_iload_n dX0_cellAt_12 rfl ?_
      refine fz_if_lt (tgt := 24) dX0_cellAt_13 (by decide) (fun c13 => ?_) (fun c13 => ?_)
      · exact absurd c13 (nI_pos (by omega))
      · skip
        refine fz_iload_n dX0_cellAt_16 rfl ?_
        refine fz_aload_n dX0_cellAt_17 rfl ?_
        refine fz_get dX0_cellAt_18 fX0_53 rfl (Nat.one_pos) rfl ?_
        refine fz_icmp_le (tgt := 28) dX0_cellAt_21 (by decide) (fun c21 => ?_) (fun c21 => ?_)
        · skip
          refine fz_aload_n dX0_cellAt_28 rfl ?_
          refine fz_get dX0_cellAt_29 fX0_20 rfl (Nat.one_pos) rfl ?_
          refine fz_iload_n dX0_cellAt_32 rfl ?_
          refine fz_iload_n dX0_cellAt_33 rfl ?_
          refine fz_callV (tX8_cellAt (nI rn) rows en et r j (by omega) (by omega)) dX0_cellAt_34 kX0_105 rfl (Nat.one_pos) ⟨rfl, rfl, rfl, rfl, trivial⟩ (Nat.le_of_ble_eq_true rfl) (Nat.le_of_ble_eq_true rfl) (Nat.le_of_ble_eq_true rfl) (Nat.le_of_ble_eq_true rfl) (Nat.le_of_ble_eq_true rfl) rfl (fun r U hq => ?_)
          obtain ⟨rfl, rfl⟩ := hq
          refine fz_back rfl ?_
          rw [hP r j hr (by omega)]
          refine fz_iret dX0_cellAt_37 rfl (Nat.zero_le _) (Nat.zero_le _) ⟨rfl, rfl⟩
        · exact absurd (nI_le hj (by omega)) c21
