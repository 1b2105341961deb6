/-! THE MODEL: its face: robotOf, ahead, was, task, orderOf -/
theorem md_robotOf {G : fz_G} (σ : zS) (V : fz_W) (hI : inZ σ) (hV : mdR σ V) (x y : Int32) : fz_T G mX11_robotOf rX11_robotOf [zR 30 0, zI x, zI y] V (fun r U => r = some (zI (rbF σ.2.2.2.2.2.2.2.2.1 σ.2.2.2.2.2.2.2.2.2 x y)) ∧ mdR σ U) := by
  obtain ⟨tx, n, fp, cn, w, kn, on, tn, rn, O, T, P, te, B, t, A, wy, lg⟩ := σ
  obtain ⟨i1, i2, i3, i4, i5, i6, i7, i8, i9⟩ := hI.1
  have hV2 := hV
  obtain ⟨f, sg, ki, dr, fa, sn, wh, en, Rb, Od, Ta, re, le, hm, hn, htq, h80, hki, hfa, hmt, hrb, hod, hta, rfl⟩ := hV2
  obtain ⟨m0, m2, m3, m4, m11, m12, m19, m20, m21, m22, m28⟩ := id hm
  show fz_T _ _ _ _ _ (fun r U => r = some (zI (rbF rn (O, T, P, te, B, t, A, wy, lg) x y)) ∧ _)
  refine fz_T.of (by decide) (Nat.le_of_ble_eq_true rfl) (fun E0 => ?_)
  refine fz_iload_n dX11_robotOf_0 rfl ?_
  refine fz_iconst (v := nI 0) dX11_robotOf_1 (by decide) ?_
  refine fz_aload_n dX11_robotOf_2 rfl ?_
  refine fz_get dX11_robotOf_3 fX11_144 rfl (Nat.one_pos) rfl ?_
  rw [m12]
  refine fz_iconst (v := nI 1) dX11_robotOf_6 (by decide) ?_
  refine fz_isub dX11_robotOf_7 ?_
  refine fz_callS (tX11_inn x rn (by omega)) dX11_robotOf_8 kX11_162 trivial (Nat.le_of_ble_eq_true rfl) (Nat.le_of_ble_eq_true rfl) (Nat.le_of_ble_eq_true rfl) (Nat.le_of_ble_eq_true rfl) (Nat.le_of_ble_eq_true rfl) rfl (fun r U hq => ?_)
  obtain ⟨rfl, rfl⟩ := hq
  refine fz_back rfl ?_
  refine fz_wo (V' := wMd f sg ki dr fa sn wh en Rb Od Ta re le) rfl ?_
  rcases ix_cases x (n := rn) (by omega) with h | ⟨q, hq, rfl⟩
  · rw [if_pos h]
    have e : rbF rn (O, T, P, te, B, t, A, wy, lg) x y = -1 := by unfold rbF; rw [if_pos h]
    rw [e]
    refine fz_if_ne (tgt := 16) dX11_robotOf_11 (by decide) (fun c11 => ?_) (fun c11 => ?_)
    · exact absurd rfl c11
    · skip
      refine fz_iconst (v := -1) dX11_robotOf_14 (by decide) ?_
      refine fz_iret dX11_robotOf_15 rfl (Nat.zero_le _) (Nat.zero_le _) ⟨rfl, hV⟩
  · rw [if_neg (ix_in hq (by omega))]
    have e : rbF rn (O, T, P, te, B, t, A, wy, lg) (nI q) y = rbA (O, T, P, te, B, t, A, wy, lg) q y := by unfold rbF; rw [if_neg (ix_in hq (by omega)), nI_clamp (by omega)]
    rw [e]
    obtain ⟨q1, q2, q3, q4, q5, q6⟩ := hmt q hq
    have q1 : en q = nI (max (te q) t) := q1
    have q3 : max (te q) t < 5200 := q3
    refine fz_if_ne (tgt := 16) dX11_robotOf_11 (by decide) (fun c11 => ?_) (fun c11 => ?_)
    · skip
      refine fz_iload_n dX11_robotOf_16 rfl ?_
      rcases pk_ix y (n := 8) (by omega) with h | h | ⟨j, hj, rfl⟩
      · refine fz_tableOut (tgt := 167) dX11_robotOf_17 (tw_out (n := 8) (by omega) (Or.inl h)) (by decide) ?_
        refine fz_bipush (v := -2) dX11_robotOf_167 (by decide) ?_
        refine fz_iret dX11_robotOf_169 rfl (Nat.zero_le _) (Nat.zero_le _) ⟨by unfold rbA; simp only [if_pos (show y < 0 ∨ nI 8 ≤ y from Or.inl h)], hV⟩
      · refine fz_tableOut (tgt := 167) dX11_robotOf_17 (tw_out (n := 8) (by omega) (Or.inr h)) (by decide) ?_
        refine fz_bipush (v := -2) dX11_robotOf_167 (by decide) ?_
        refine fz_iret dX11_robotOf_169 rfl (Nat.zero_le _) (Nat.zero_le _) ⟨by unfold rbA; simp only [if_pos (show y < 0 ∨ nI 8 ≤ y from Or.inr h)], hV⟩
      · rw [rbA_in hj]
        rcases (show j = 0 ∨ j = 1 ∨ j = 2 ∨ j = 3 ∨ j = 4 ∨ j = 5 ∨ j = 6 ∨ j = 7 by omega) with rfl | rfl | rfl | rfl | rfl | rfl | rfl | rfl
        · refine fz_tableIn (off := 47) (tgt := 64) dX11_robotOf_17 (by decide) (by decide) (by decide) (by decide) ?_
          refine fz_aload_n dX11_robotOf_64 rfl ?_
          refine fz_iload_n dX11_robotOf_65 rfl ?_
          refine fz_aload_n dX11_robotOf_66 rfl ?_
          refine fz_get dX11_robotOf_67 fX11_141 rfl (Nat.one_pos) rfl ?_
          rw [m11]
          refine fz_callV (tX11_at f wh en _ rn i3 P te hmt q t hq (by omega)) dX11_robotOf_70 kX11_166 rfl (Nat.one_pos) ⟨rfl, rfl, rfl, trivial⟩ (Nat.le_of_ble_eq_true rfl) (Nat.le_of_ble_eq_true rfl) (Nat.le_of_ble_eq_true rfl) (Nat.le_of_ble_eq_true rfl) (Nat.le_of_ble_eq_true rfl) rfl (fun r U hq => ?_)
          obtain ⟨rfl, rfl⟩ := hq
          refine fz_back rfl ?_
          refine fz_iret dX11_robotOf_73 rfl (Nat.zero_le _) (Nat.zero_le _) ⟨rfl, hV⟩
        · refine fz_tableIn (off := 57) (tgt := 74) dX11_robotOf_17 (by decide) (by decide) (by decide) (by decide) ?_
          refine fz_aload_n dX11_robotOf_74 rfl ?_
          refine fz_get dX11_robotOf_75 fX11_36 rfl (Nat.one_pos) rfl ?_
          refine fz_iload_n dX11_robotOf_78 rfl ?_
          refine fz_iald dX11_robotOf_79 rfl rfl (Nat.one_pos) (vp_in_nI (by omega) (by omega)) ?_
          rw [nI_clamp (by omega), hrb q hq 0 (by omega)]
          refine fz_iret dX11_robotOf_80 rfl (Nat.zero_le _) (Nat.zero_le _) ⟨rfl, hV⟩
        · refine fz_tableIn (off := 64) (tgt := 81) dX11_robotOf_17 (by decide) (by decide) (by decide) (by decide) ?_
          refine fz_aload_n dX11_robotOf_81 rfl ?_
          refine fz_get dX11_robotOf_82 fX11_36 rfl (Nat.one_pos) rfl ?_
          refine fz_iload_n dX11_robotOf_85 rfl ?_
          refine fz_iald dX11_robotOf_86 rfl rfl (Nat.one_pos) (vp_in_nI (by omega) (by omega)) ?_
          rw [nI_clamp (by omega), hrb q hq 0 (by omega)]
          rcases i9 q hq with hb | ⟨k, hk, hb⟩
          · rw [hb]
            refine fz_if_lt (tgt := 109) dX11_robotOf_87 (by decide) (fun c87 => ?_) (fun c87 => ?_)
            · skip
              refine fz_iconst (v := nI 0) dX11_robotOf_109 (by decide) ?_
              refine fz_iret dX11_robotOf_110 rfl (Nat.zero_le _) (Nat.zero_le _) ⟨rfl, hV⟩
            · exact absurd (show (-1 : Int32) < 0 by decide) c87
          · rw [hb]
            have hkb : bT B q = k := by show (B q 0).toNatClampNeg = k; rw [hb, nI_clamp (by omega)]
            refine fz_if_lt (tgt := 109) dX11_robotOf_87 (by decide) (fun c87 => ?_) (fun c87 => ?_)
            · exact absurd c87 (nI_pos (by omega))
            · skip
              refine fz_aload_n dX11_robotOf_90 rfl ?_
              refine fz_get dX11_robotOf_91 fX11_69 rfl (Nat.one_pos) rfl ?_
              refine fz_aload_n dX11_robotOf_94 rfl ?_
              refine fz_get dX11_robotOf_95 fX11_36 rfl (Nat.one_pos) rfl ?_
              refine fz_iload_n dX11_robotOf_98 rfl ?_
              refine fz_iald dX11_robotOf_99 rfl rfl (Nat.one_pos) (vp_in_nI (by omega) (by omega)) ?_
              rw [nI_clamp (by omega), hrb q hq 0 (by omega), hb]
              refine fz_iald dX11_robotOf_100 rfl rfl (Nat.one_pos) (vp_in_nI (by omega) (by omega)) ?_
              refine fz_iconst (v := nI 2) dX11_robotOf_101 (by decide) ?_
              rw [nI_clamp (by omega), hta k hk 3 (by omega) (by omega), hkb]
              have hm1 : ¬ nI k = -1 := oI_ne (by omega)
              refine fz_icmp_ne (tgt := 109) dX11_robotOf_102 (by decide) (fun c102 => ?_) (fun c102 => ?_)
              · skip
                refine fz_iconst (v := nI 0) dX11_robotOf_109 (by decide) ?_
                refine fz_iret dX11_robotOf_110 rfl (Nat.zero_le _) (Nat.zero_le _) ⟨by rw [if_neg (show ¬ (2 = 0) by decide), if_neg (show ¬ (2 = 1) by decide), if_pos rfl, if_neg (fun z => c102 z.2)]; rfl, hV⟩
              · skip
                refine fz_iconst (v := nI 1) dX11_robotOf_105 (by decide) ?_
                refine fz_goto (tgt := 110) dX11_robotOf_106 (by decide) ?_
                refine fz_iret dX11_robotOf_110 rfl (Nat.zero_le _) (Nat.zero_le _) ⟨by rw [if_neg (show ¬ (2 = 0) by decide), if_neg (show ¬ (2 = 1) by decide), if_pos rfl, if_pos ⟨hm1, c102⟩]; rfl, hV⟩
        · refine fz_tableIn (off := 94) (tgt := 111) dX11_robotOf_17 (by decide) (by decide) (by decide) (by decide) ?_
          refine fz_aload_n dX11_robotOf_111 rfl ?_
          refine fz_iload_n dX11_robotOf_112 rfl ?_
          refine fz_callV (tX11_endOf f wh en _ rn i3 P te hmt q hq) dX11_robotOf_113 kX11_182 rfl (Nat.one_pos) ⟨rfl, rfl, rfl, trivial⟩ (Nat.le_of_ble_eq_true rfl) (Nat.le_of_ble_eq_true rfl) (Nat.le_of_ble_eq_true rfl) (Nat.le_of_ble_eq_true rfl) (Nat.le_of_ble_eq_true rfl) rfl (fun r U hq => ?_)
          obtain ⟨rfl, rfl⟩ := hq
          refine fz_back rfl ?_
          refine fz_iret dX11_robotOf_116 rfl (Nat.zero_le _) (Nat.zero_le _) ⟨rfl, hV⟩
        · refine fz_tableIn (off := 100) (tgt := 117) dX11_robotOf_17 (by decide) (by decide) (by decide) (by decide) ?_
          refine fz_aload_n dX11_robotOf_117 rfl ?_
          refine fz_get dX11_robotOf_118 fX11_33 rfl (Nat.one_pos) rfl ?_
          refine fz_iload_n dX11_robotOf_121 rfl ?_
          refine fz_iald dX11_robotOf_122 rfl rfl (Nat.one_pos) (vp_in_nI (by omega) (by omega)) ?_
          rw [nI_clamp (by omega), q1]
          refine fz_aload_n dX11_robotOf_123 rfl ?_
          refine fz_get dX11_robotOf_124 fX11_141 rfl (Nat.one_pos) rfl ?_
          rw [m11]
          refine fz_icmp_le (tgt := 144) dX11_robotOf_127 (by decide) (fun c127 => ?_) (fun c127 => ?_)
          · have := (nI_leI (by omega) (by omega)).mp c127
            refine fz_iconst (v := nI 0) dX11_robotOf_144 (by decide) ?_
            refine fz_iret dX11_robotOf_145 rfl (Nat.zero_le _) (Nat.zero_le _) ⟨by rw [show te q - t = 0 by omega]; rfl, hV⟩
          · have : t < te q := by rcases Nat.lt_or_ge t (te q) with z | z; exact z; exact absurd ((nI_leI (by omega) (by omega)).mpr (by omega)) c127
            refine fz_aload_n dX11_robotOf_130 rfl ?_
            refine fz_get dX11_robotOf_131 fX11_33 rfl (Nat.one_pos) rfl ?_
            refine fz_iload_n dX11_robotOf_134 rfl ?_
            refine fz_iald dX11_robotOf_135 rfl rfl (Nat.one_pos) (vp_in_nI (by omega) (by omega)) ?_
            rw [nI_clamp (by omega), q1]
            refine fz_aload_n dX11_robotOf_136 rfl ?_
            refine fz_get dX11_robotOf_137 fX11_141 rfl (Nat.one_pos) rfl ?_
            rw [m11]
            refine fz_isub dX11_robotOf_140 ?_
            refine fz_goto (tgt := 145) dX11_robotOf_141 (by decide) ?_
            refine fz_iret dX11_robotOf_145 rfl (Nat.zero_le _) (Nat.zero_le _) ⟨by rw [show max (te q) t = (te q - t) + t by omega, ← nI_add, Int32.add_sub_cancel]; rfl, hV⟩
        · refine fz_tableIn (off := 129) (tgt := 146) dX11_robotOf_17 (by decide) (by decide) (by decide) (by decide) ?_
          refine fz_aload_n dX11_robotOf_146 rfl ?_
          refine fz_get dX11_robotOf_147 fX11_39 rfl (Nat.one_pos) rfl ?_
          refine fz_iload_n dX11_robotOf_150 rfl ?_
          refine fz_iald dX11_robotOf_151 rfl rfl (Nat.one_pos) (vp_in_nI (by omega) (by omega)) ?_
          rw [nI_clamp (by omega), hrb q hq 1 (by omega)]
          refine fz_iret dX11_robotOf_152 rfl (Nat.zero_le _) (Nat.zero_le _) ⟨rfl, hV⟩
        · refine fz_tableIn (off := 136) (tgt := 153) dX11_robotOf_17 (by decide) (by decide) (by decide) (by decide) ?_
          refine fz_aload_n dX11_robotOf_153 rfl ?_
          refine fz_get dX11_robotOf_154 fX11_42 rfl (Nat.one_pos) rfl ?_
          refine fz_iload_n dX11_robotOf_157 rfl ?_
          refine fz_iald dX11_robotOf_158 rfl rfl (Nat.one_pos) (vp_in_nI (by omega) (by omega)) ?_
          rw [nI_clamp (by omega), hrb q hq 2 (by omega)]
          refine fz_iret dX11_robotOf_159 rfl (Nat.zero_le _) (Nat.zero_le _) ⟨rfl, hV⟩
        · refine fz_tableIn (off := 143) (tgt := 160) dX11_robotOf_17 (by decide) (by decide) (by decide) (by decide) ?_
          refine fz_aload_n dX11_robotOf_160 rfl ?_
          refine fz_get dX11_robotOf_161 fX11_45 rfl (Nat.one_pos) rfl ?_
          refine fz_iload_n dX11_robotOf_164 rfl ?_
          refine fz_iald dX11_robotOf_165 rfl rfl (Nat.one_pos) (vp_in_nI (by omega) (by omega)) ?_
          rw [nI_clamp (by omega), hrb q hq 3 (by omega)]
          refine fz_iret dX11_robotOf_166 rfl (Nat.zero_le _) (Nat.zero_le _) ⟨rfl, hV⟩
    · exact absurd c11 (by decide)
theorem md_ahead {G : fz_G} (σ : zS) (V : fz_W) (hI : inZ σ) (hte : ∀ q, q < σ.2.2.2.2.2.2.2.2.1 → σ.2.2.2.2.2.2.2.2.2.2.2.2.1 q ≤ tmF σ.2.2.2.2.2.2.2.2.2 + 1000) (hV : mdR σ V) (x y : Int32) : fz_T G mX11_ahead rX11_ahead [zR 30 0, zI x, zI y] V (fun r U => r = some (zI (ahF σ.2.2.2.2.2.2.2.2.1 σ.2.2.2.2.2.2.2.2.2 x y)) ∧ mdR σ U) := by
  obtain ⟨tx, n, fp, cn, w, kn, on, tn, rn, O, T, P, te, B, t, A, wy, lg⟩ := σ
  obtain ⟨i1, i2, i3, i4, i5, i6, i7, i8, i9⟩ := hI.1
  have hte : ∀ q, q < rn → te q ≤ t + 1000 := hte
  have hV2 := hV
  obtain ⟨f, sg, ki, dr, fa, sn, wh, en, Rb, Od, Ta, re, le, hm, hn, htq, h80, hki, hfa, hmt, hrb, hod, hta, rfl⟩ := hV2
  obtain ⟨m0, m2, m3, m4, m11, m12, m19, m20, m21, m22, m28⟩ := id hm
  show fz_T _ _ _ _ _ (fun r U => r = some (zI (ahF rn (O, T, P, te, B, t, A, wy, lg) x y)) ∧ _)
  refine fz_T.of (by decide) (Nat.le_of_ble_eq_true rfl) (fun E0 => ?_)
  refine fz_iload_n dX11_ahead_0 rfl ?_
  refine fz_iconst (v := nI 0) dX11_ahead_1 (by decide) ?_
  refine fz_aload_n dX11_ahead_2 rfl ?_
  refine fz_get dX11_ahead_3 fX11_144 rfl (Nat.one_pos) rfl ?_
  rw [m12]
  refine fz_iconst (v := nI 1) dX11_ahead_6 (by decide) ?_
  refine fz_isub dX11_ahead_7 ?_
  refine fz_callS (tX11_inn x rn (by omega)) dX11_ahead_8 kX11_162 trivial (Nat.le_of_ble_eq_true rfl) (Nat.le_of_ble_eq_true rfl) (Nat.le_of_ble_eq_true rfl) (Nat.le_of_ble_eq_true rfl) (Nat.le_of_ble_eq_true rfl) rfl (fun r U hq => ?_)
  obtain ⟨rfl, rfl⟩ := hq
  refine fz_back rfl ?_
  refine fz_wo (V' := wMd f sg ki dr fa sn wh en Rb Od Ta re le) rfl ?_
  rcases ix_cases x (n := rn) (by omega) with h | ⟨q, hq, rfl⟩
  · rw [if_pos h]
    have e : ahF rn (O, T, P, te, B, t, A, wy, lg) x y = -1 := by unfold ahF; rw [if_pos (by rcases h with h | h; exact Or.inl h; exact Or.inr (Or.inl h))]
    rw [e]
    refine fz_if_eq (tgt := 18) dX11_ahead_11 (by decide) (fun c11 => ?_) (fun c11 => ?_)
    · skip
      refine fz_iconst (v := -1) dX11_ahead_18 (by decide) ?_
      refine fz_iret dX11_ahead_19 rfl (Nat.zero_le _) (Nat.zero_le _) ⟨rfl, hV⟩
    · exact absurd rfl c11
  · rw [if_neg (ix_in hq (by omega))]
    refine fz_if_eq (tgt := 18) dX11_ahead_11 (by decide) (fun c11 => ?_) (fun c11 => ?_)
    · exact absurd c11 (by decide)
    · skip
      refine fz_iload_n dX11_ahead_14 rfl ?_
      refine fz_if_ge (tgt := 20) dX11_ahead_15 (by decide) (fun c15 => ?_) (fun c15 => ?_)
      · have e : ahF rn (O, T, P, te, B, t, A, wy, lg) (nI q) y = nI (P q (t + min y.toNatClampNeg 1000)) := by
          unfold ahF
          rw [if_neg, nI_clamp (by omega)]
          rintro (z | z | z)
          · exact ix_in hq (by omega) (Or.inl z)
          · exact ix_in hq (by omega) (Or.inr z)
          · exact absurd z (Int32.not_lt.mpr c15)
        rw [e]
        obtain ⟨q1, q2, q3, q4, q5, q6⟩ := hmt q hq
        have hteq := hte q hq
        have hy0 : (0 : Int) ≤ y.toInt := by have := Int32.le_iff_toInt_le.mp c15; exact this
        have hyn : y = nI y.toNatClampNeg := by
          apply Int32.toInt_inj.mp
          have hlt := Int32.toInt_lt y
          have e0 : y.toNatClampNeg = y.toInt.toNat := rfl
          rw [nI_toInt (by omega), e0]
          omega
        have hyl : y.toNatClampNeg < 2 ^ 31 := by
          have hlt := Int32.toInt_lt y
          have e0 : y.toNatClampNeg = y.toInt.toNat := rfl
          omega
        rcases hyy : y.toNatClampNeg with _ | k
        all_goals (rw [hyy] at hyn hyl; subst hyn)
        · skip
          refine fz_iload_n dX11_ahead_20 rfl ?_
          refine fz_sipush (v := nI 5200) dX11_ahead_21 (by decide) ?_
          refine fz_icmp_le (tgt := 35) dX11_ahead_24 (by decide) (fun c24 => ?_) (fun c24 => ?_)
          · skip
            refine fz_aload_n dX11_ahead_35 rfl ?_
            refine fz_iload_n dX11_ahead_36 rfl ?_
            refine fz_aload_n dX11_ahead_37 rfl ?_
            refine fz_get dX11_ahead_38 fX11_141 rfl (Nat.one_pos) rfl ?_
            rw [m11]
            refine fz_iload_n dX11_ahead_41 rfl ?_
            refine fz_iadd dX11_ahead_42 ?_
            rw [nI_add]
            refine fz_callV (tX11_at f wh en _ rn i3 P te hmt q (t + 0) hq (by omega)) dX11_ahead_43 kX11_166 rfl (Nat.one_pos) ⟨rfl, rfl, rfl, trivial⟩ (Nat.le_of_ble_eq_true rfl) (Nat.le_of_ble_eq_true rfl) (Nat.le_of_ble_eq_true rfl) (Nat.le_of_ble_eq_true rfl) (Nat.le_of_ble_eq_true rfl) rfl (fun r U hq => ?_)
            obtain ⟨rfl, rfl⟩ := hq
            refine fz_back rfl ?_
            refine fz_iret dX11_ahead_46 rfl (Nat.zero_le _) (Nat.zero_le _) ⟨by rw [show min 0 1000 = 0 from rfl], hV⟩
          · exact absurd (show nI 0 ≤ nI 5200 by decide) c24
        · skip
          refine fz_iload_n dX11_ahead_20 rfl ?_
          refine fz_sipush (v := nI 5200) dX11_ahead_21 (by decide) ?_
          have key : P q (t + min (k + 1) 1000) = P q (t + (k + 1)) := by
            rcases Nat.lt_or_ge (k + 1) 1000 with z | z
            · rw [show min (k + 1) 1000 = k + 1 by omega]
            · rw [q5 (t + min (k + 1) 1000) (by omega), q5 (t + (k + 1)) (by omega)]
          refine fz_icmp_le (tgt := 35) dX11_ahead_24 (by decide) (fun c24 => ?_) (fun c24 => ?_)
          · have := (nI_leI (by omega) (by omega)).mp c24
            refine fz_aload_n dX11_ahead_35 rfl ?_
            refine fz_iload_n dX11_ahead_36 rfl ?_
            refine fz_aload_n dX11_ahead_37 rfl ?_
            refine fz_get dX11_ahead_38 fX11_141 rfl (Nat.one_pos) rfl ?_
            rw [m11]
            refine fz_iload_n dX11_ahead_41 rfl ?_
            refine fz_iadd dX11_ahead_42 ?_
            rw [nI_add]
            refine fz_callV (tX11_at f wh en _ rn i3 P te hmt q (t + (k + 1)) hq (by omega)) dX11_ahead_43 kX11_166 rfl (Nat.one_pos) ⟨rfl, rfl, rfl, trivial⟩ (Nat.le_of_ble_eq_true rfl) (Nat.le_of_ble_eq_true rfl) (Nat.le_of_ble_eq_true rfl) (Nat.le_of_ble_eq_true rfl) (Nat.le_of_ble_eq_true rfl) rfl (fun r U hq => ?_)
            obtain ⟨rfl, rfl⟩ := hq
            refine fz_back rfl ?_
            refine fz_iret dX11_ahead_46 rfl (Nat.zero_le _) (Nat.zero_le _) ⟨by rw [key], hV⟩
          · have : 5200 < k + 1 := by rcases Nat.lt_or_ge 5200 (k + 1) with z | z; exact z; exact absurd (nI_le z (by omega)) c24
            refine fz_aload_n dX11_ahead_27 rfl ?_
            refine fz_iload_n dX11_ahead_28 rfl ?_
            refine fz_callV (tX11_endOf f wh en _ rn i3 P te hmt q hq) dX11_ahead_29 kX11_182 rfl (Nat.one_pos) ⟨rfl, rfl, rfl, trivial⟩ (Nat.le_of_ble_eq_true rfl) (Nat.le_of_ble_eq_true rfl) (Nat.le_of_ble_eq_true rfl) (Nat.le_of_ble_eq_true rfl) (Nat.le_of_ble_eq_true rfl) rfl (fun r U hq => ?_)
            obtain ⟨rfl, rfl⟩ := hq
            refine fz_back rfl ?_
            refine fz_goto (tgt := 46) dX11_ahead_32 (by decide) ?_
            refine fz_iret dX11_ahead_46 rfl (Nat.zero_le _) (Nat.zero_le _) ⟨by rw [q5 (t + min (k + 1) 1000) (by omega)], hV⟩
      · have e : ahF rn (O, T, P, te, B, t, A, wy, lg) (nI q) y = -1 := by unfold ahF; rw [if_pos (Or.inr (Or.inr (Int32.not_le.mp c15)))]
        rw [e]
        refine fz_iconst (v := -1) dX11_ahead_18 (by decide) ?_
        refine fz_iret dX11_ahead_19 rfl (Nat.zero_le _) (Nat.zero_le _) ⟨rfl, hV⟩
theorem md_was {G : fz_G} (σ : zS) (V : fz_W) (hI : inZ σ) (hV : mdR σ V) (x y : Int32) : fz_T G mX11_was rX11_was [zR 30 0, zI x, zI y] V (fun r U => r = some (zI (waF σ.2.2.2.2.2.2.2.2.1 σ.2.2.2.2.2.2.2.2.2 x y)) ∧ mdR σ U) := by
  obtain ⟨tx, n, fp, cn, w, kn, on, tn, rn, O, T, P, te, B, t, A, wy, lg⟩ := σ
  obtain ⟨i1, i2, i3, i4, i5, i6, i7, i8, i9⟩ := hI.1
  have hV2 := hV
  obtain ⟨f, sg, ki, dr, fa, sn, wh, en, Rb, Od, Ta, re, le, hm, hn, htq, h80, hki, hfa, hmt, hrb, hod, hta, rfl⟩ := hV2
  obtain ⟨m0, m2, m3, m4, m11, m12, m19, m20, m21, m22, m28⟩ := id hm
  show fz_T _ _ _ _ _ (fun r U => r = some (zI (waF rn (O, T, P, te, B, t, A, wy, lg) x y)) ∧ _)
  refine fz_T.of (by decide) (Nat.le_of_ble_eq_true rfl) (fun E0 => ?_)
  refine fz_iload_n dX11_was_0 rfl ?_
  refine fz_iconst (v := nI 0) dX11_was_1 (by decide) ?_
  refine fz_aload_n dX11_was_2 rfl ?_
  refine fz_get dX11_was_3 fX11_144 rfl (Nat.one_pos) rfl ?_
  rw [m12]
  refine fz_iconst (v := nI 1) dX11_was_6 (by decide) ?_
  refine fz_isub dX11_was_7 ?_
  refine fz_callS (tX11_inn x rn (by omega)) dX11_was_8 kX11_162 trivial (Nat.le_of_ble_eq_true rfl) (Nat.le_of_ble_eq_true rfl) (Nat.le_of_ble_eq_true rfl) (Nat.le_of_ble_eq_true rfl) (Nat.le_of_ble_eq_true rfl) rfl (fun r U hq => ?_)
  obtain ⟨rfl, rfl⟩ := hq
  refine fz_back rfl ?_
  refine fz_wo (V' := wMd f sg ki dr fa sn wh en Rb Od Ta re le) rfl ?_
  rcases ix_cases x (n := rn) (by omega) with h | ⟨q, hq, rfl⟩
  · rw [if_pos h]
    have e : waF rn (O, T, P, te, B, t, A, wy, lg) x y = -1 := by unfold waF; rw [if_pos (Or.inl h)]
    rw [e]
    refine fz_if_eq (tgt := 35) dX11_was_11 (by decide) (fun c11 => ?_) (fun c11 => ?_)
    · skip
      refine fz_iconst (v := -1) dX11_was_35 (by decide) ?_
      refine fz_iret dX11_was_36 rfl (Nat.zero_le _) (Nat.zero_le _) ⟨rfl, hV⟩
    · exact absurd rfl c11
  · rw [if_neg (ix_in hq (by omega))]
    refine fz_if_eq (tgt := 35) dX11_was_11 (by decide) (fun c11 => ?_) (fun c11 => ?_)
    · exact absurd c11 (by decide)
    · skip
      refine fz_iload_n dX11_was_14 rfl ?_
      refine fz_iconst (v := nI 0) dX11_was_15 (by decide) ?_
      refine fz_aload_n dX11_was_16 rfl ?_
      refine fz_get dX11_was_17 fX11_141 rfl (Nat.one_pos) rfl ?_
      have e20 : f 11 = nI (t + 1) - nI 1 := by rw [m11, nI_sub1]
      rw [e20]
      refine fz_callS (tX11_inn y (t + 1) (by omega)) dX11_was_20 kX11_162 trivial (Nat.le_of_ble_eq_true rfl) (Nat.le_of_ble_eq_true rfl) (Nat.le_of_ble_eq_true rfl) (Nat.le_of_ble_eq_true rfl) (Nat.le_of_ble_eq_true rfl) rfl (fun r U hq => ?_)
      obtain ⟨rfl, rfl⟩ := hq
      refine fz_back rfl ?_
      refine fz_wo (V' := wMd f sg ki dr fa sn wh en Rb Od Ta re le) rfl ?_
      rcases ix_cases y (n := t + 1) (by omega) with h | ⟨i, hi', rfl⟩
      · rw [if_pos h]
        have e : waF rn (O, T, P, te, B, t, A, wy, lg) (nI q) y = -1 := by unfold waF; rw [if_pos (Or.inr h)]
        rw [e]
        refine fz_if_eq (tgt := 35) dX11_was_23 (by decide) (fun c23 => ?_) (fun c23 => ?_)
        · skip
          refine fz_iconst (v := -1) dX11_was_35 (by decide) ?_
          refine fz_iret dX11_was_36 rfl (Nat.zero_le _) (Nat.zero_le _) ⟨rfl, hV⟩
        · exact absurd rfl c23
      · rw [if_neg (ix_in hi' (by omega))]
        have e : waF rn (O, T, P, te, B, t, A, wy, lg) (nI q) (nI i) = nI (P q i) := by
          unfold waF
          rw [if_neg, nI_clamp (by omega), nI_clamp (by omega)]
          rintro (z | z)
          · exact ix_in hq (by omega) z
          · exact ix_in hi' (by omega) z
        rw [e]
        refine fz_if_eq (tgt := 35) dX11_was_23 (by decide) (fun c23 => ?_) (fun c23 => ?_)
        · exact absurd c23 (by decide)
        · skip
          refine fz_aload_n dX11_was_26 rfl ?_
          refine fz_iload_n dX11_was_27 rfl ?_
          refine fz_iload_n dX11_was_28 rfl ?_
          refine fz_callV (tX11_at f wh en _ rn i3 P te hmt q i hq (by omega)) dX11_was_29 kX11_166 rfl (Nat.one_pos) ⟨rfl, rfl, rfl, trivial⟩ (Nat.le_of_ble_eq_true rfl) (Nat.le_of_ble_eq_true rfl) (Nat.le_of_ble_eq_true rfl) (Nat.le_of_ble_eq_true rfl) (Nat.le_of_ble_eq_true rfl) rfl (fun r U hq => ?_)
          obtain ⟨rfl, rfl⟩ := hq
          refine fz_back rfl ?_
          refine fz_goto (tgt := 36) dX11_was_32 (by decide) ?_
          refine fz_iret dX11_was_36 rfl (Nat.zero_le _) (Nat.zero_le _) ⟨rfl, hV⟩
theorem md_task {G : fz_G} (σ : zS) (V : fz_W) (hI : inZ σ) (hV : mdR σ V) (x y : Int32) : fz_T G mX11_task rX11_task [zR 30 0, zI x, zI y] V (fun r U => r = some (zI (taF σ.2.2.2.2.2.2.2.1 σ.2.2.2.2.2.2.2.2.2.2.1 x y)) ∧ mdR σ U) := by
  obtain ⟨tx, n, fp, cn, w, kn, on, tn, rn, O, T, P, te, B, t, A, wy, lg⟩ := σ
  obtain ⟨i1, i2, i3, i4, i5, i6, i7, i8, i9⟩ := hI.1
  have hV2 := hV
  obtain ⟨f, sg, ki, dr, fa, sn, wh, en, Rb, Od, Ta, re, le, hm, hn, htq, h80, hki, hfa, hmt, hrb, hod, hta, rfl⟩ := hV2
  obtain ⟨m0, m2, m3, m4, m11, m12, m19, m20, m21, m22, m28⟩ := id hm
  show fz_T _ _ _ _ _ (fun r U => r = some (zI (taF tn T x y)) ∧ _)
  refine fz_T.of (by decide) (Nat.le_of_ble_eq_true rfl) (fun E0 => ?_)
  refine fz_iload_n dX11_task_0 rfl ?_
  refine fz_iconst (v := nI 0) dX11_task_1 (by decide) ?_
  refine fz_aload_n dX11_task_2 rfl ?_
  refine fz_get dX11_task_3 fX11_150 rfl (Nat.one_pos) rfl ?_
  rw [m28]
  refine fz_iconst (v := nI 1) dX11_task_6 (by decide) ?_
  refine fz_isub dX11_task_7 ?_
  refine fz_callS (tX11_inn x tn (by omega)) dX11_task_8 kX11_162 trivial (Nat.le_of_ble_eq_true rfl) (Nat.le_of_ble_eq_true rfl) (Nat.le_of_ble_eq_true rfl) (Nat.le_of_ble_eq_true rfl) (Nat.le_of_ble_eq_true rfl) rfl (fun r U hq => ?_)
  obtain ⟨rfl, rfl⟩ := hq
  refine fz_back rfl ?_
  refine fz_wo (V' := wMd f sg ki dr fa sn wh en Rb Od Ta re le) rfl ?_
  rcases ix_cases x (n := tn) (by omega) with h | ⟨q, hq, rfl⟩
  · rw [if_pos h]
    have e : taF tn T x y = -1 := by unfold taF; rw [if_pos h]
    rw [e]
    refine fz_if_ne (tgt := 16) dX11_task_11 (by decide) (fun c11 => ?_) (fun c11 => ?_)
    · exact absurd rfl c11
    · skip
      refine fz_iconst (v := -1) dX11_task_14 (by decide) ?_
      refine fz_iret dX11_task_15 rfl (Nat.zero_le _) (Nat.zero_le _) ⟨rfl, hV⟩
  · rw [if_neg (ix_in hq (by omega))]
    have e : taF tn T (nI q) y = tkT (T q) y := by unfold taF; rw [if_neg (ix_in hq (by omega)), nI_clamp (by omega)]
    rw [e]
    refine fz_if_ne (tgt := 16) dX11_task_11 (by decide) (fun c11 => ?_) (fun c11 => ?_)
    · skip
      refine fz_iload_n dX11_task_16 rfl ?_
      rcases pk_ix y (n := 9) (by omega) with h | h | ⟨j, hj, rfl⟩
      · refine fz_tableOut (tgt := 136) dX11_task_17 (tw_out (n := 9) (by omega) (Or.inl h)) (by decide) ?_
        refine fz_bipush (v := -2) dX11_task_136 (by decide) ?_
        refine fz_iret dX11_task_138 rfl (Nat.zero_le _) (Nat.zero_le _) ⟨by unfold tkT; rw [if_pos (Or.inl h)], hV⟩
      · refine fz_tableOut (tgt := 136) dX11_task_17 (tw_out (n := 9) (by omega) (Or.inr h)) (by decide) ?_
        refine fz_bipush (v := -2) dX11_task_136 (by decide) ?_
        refine fz_iret dX11_task_138 rfl (Nat.zero_le _) (Nat.zero_le _) ⟨by unfold tkT; rw [if_pos (Or.inr h)], hV⟩
      · have e : tkT (T q) (nI j) = T q j := by unfold tkT; rw [if_neg (ix_in hj (by omega)), nI_clamp (by omega)]
        rw [e]
        rcases (show j = 0 ∨ j = 1 ∨ j = 2 ∨ j = 3 ∨ j = 4 ∨ j = 5 ∨ j = 6 ∨ j = 7 ∨ j = 8 by omega) with rfl | rfl | rfl | rfl | rfl | rfl | rfl | rfl | rfl
        · refine fz_tableIn (off := 51) (tgt := 68) dX11_task_17 (by decide) (by decide) (by decide) (by decide) ?_
          refine fz_aload_n dX11_task_68 rfl ?_
          refine fz_get dX11_task_69 fX11_63 rfl (Nat.one_pos) rfl ?_
          refine fz_iload_n dX11_task_72 rfl ?_
          refine fz_iald dX11_task_73 rfl rfl (Nat.one_pos) (vp_in_nI (by omega) (by omega)) ?_
          rw [nI_clamp (by omega), hta q hq 0 (by omega) (by omega)]
          refine fz_iret dX11_task_74 rfl (Nat.zero_le _) (Nat.zero_le _) ⟨rfl, hV⟩
        · refine fz_tableIn (off := 58) (tgt := 75) dX11_task_17 (by decide) (by decide) (by decide) (by decide) ?_
          refine fz_aload_n dX11_task_75 rfl ?_
          refine fz_get dX11_task_76 fX11_66 rfl (Nat.one_pos) rfl ?_
          refine fz_iload_n dX11_task_79 rfl ?_
          refine fz_iald dX11_task_80 rfl rfl (Nat.one_pos) (vp_in_nI (by omega) (by omega)) ?_
          rw [nI_clamp (by omega), hta q hq 1 (by omega) (by omega)]
          refine fz_iret dX11_task_81 rfl (Nat.zero_le _) (Nat.zero_le _) ⟨rfl, hV⟩
        · refine fz_tableIn (off := 65) (tgt := 82) dX11_task_17 (by decide) (by decide) (by decide) (by decide) ?_
          obtain ⟨t1, t2, o, ho, t3, t4⟩ := i6 q hq
          refine fz_aload_n dX11_task_82 rfl ?_
          refine fz_get dX11_task_83 fX11_48 rfl (Nat.one_pos) rfl ?_
          refine fz_aload_n dX11_task_86 rfl ?_
          refine fz_get dX11_task_87 fX11_63 rfl (Nat.one_pos) rfl ?_
          refine fz_iload_n dX11_task_90 rfl ?_
          refine fz_iald dX11_task_91 rfl rfl (Nat.one_pos) (vp_in_nI (by omega) (by omega)) ?_
          rw [nI_clamp (by omega), hta q hq 0 (by omega) (by omega), t3]
          refine fz_iald dX11_task_92 rfl rfl (Nat.one_pos) (vp_in_nI (by omega) (by omega)) ?_
          rw [nI_clamp (by omega), hod o ho 0 (by omega) (by omega), t4]
          refine fz_iret dX11_task_93 rfl (Nat.zero_le _) (Nat.zero_le _) ⟨rfl, hV⟩
        · refine fz_tableIn (off := 77) (tgt := 94) dX11_task_17 (by decide) (by decide) (by decide) (by decide) ?_
          refine fz_aload_n dX11_task_94 rfl ?_
          refine fz_get dX11_task_95 fX11_69 rfl (Nat.one_pos) rfl ?_
          refine fz_iload_n dX11_task_98 rfl ?_
          refine fz_iald dX11_task_99 rfl rfl (Nat.one_pos) (vp_in_nI (by omega) (by omega)) ?_
          rw [nI_clamp (by omega), hta q hq 3 (by omega) (by omega)]
          refine fz_iret dX11_task_100 rfl (Nat.zero_le _) (Nat.zero_le _) ⟨rfl, hV⟩
        · refine fz_tableIn (off := 84) (tgt := 101) dX11_task_17 (by decide) (by decide) (by decide) (by decide) ?_
          refine fz_aload_n dX11_task_101 rfl ?_
          refine fz_get dX11_task_102 fX11_72 rfl (Nat.one_pos) rfl ?_
          refine fz_iload_n dX11_task_105 rfl ?_
          refine fz_iald dX11_task_106 rfl rfl (Nat.one_pos) (vp_in_nI (by omega) (by omega)) ?_
          rw [nI_clamp (by omega), hta q hq 4 (by omega) (by omega)]
          refine fz_iret dX11_task_107 rfl (Nat.zero_le _) (Nat.zero_le _) ⟨rfl, hV⟩
        · refine fz_tableIn (off := 91) (tgt := 108) dX11_task_17 (by decide) (by decide) (by decide) (by decide) ?_
          refine fz_aload_n dX11_task_108 rfl ?_
          refine fz_get dX11_task_109 fX11_75 rfl (Nat.one_pos) rfl ?_
          refine fz_iload_n dX11_task_112 rfl ?_
          refine fz_iald dX11_task_113 rfl rfl (Nat.one_pos) (vp_in_nI (by omega) (by omega)) ?_
          rw [nI_clamp (by omega), hta q hq 5 (by omega) (by omega)]
          refine fz_iret dX11_task_114 rfl (Nat.zero_le _) (Nat.zero_le _) ⟨rfl, hV⟩
        · refine fz_tableIn (off := 98) (tgt := 115) dX11_task_17 (by decide) (by decide) (by decide) (by decide) ?_
          refine fz_aload_n dX11_task_115 rfl ?_
          refine fz_get dX11_task_116 fX11_78 rfl (Nat.one_pos) rfl ?_
          refine fz_iload_n dX11_task_119 rfl ?_
          refine fz_iald dX11_task_120 rfl rfl (Nat.one_pos) (vp_in_nI (by omega) (by omega)) ?_
          rw [nI_clamp (by omega), hta q hq 6 (by omega) (by omega)]
          refine fz_iret dX11_task_121 rfl (Nat.zero_le _) (Nat.zero_le _) ⟨rfl, hV⟩
        · refine fz_tableIn (off := 105) (tgt := 122) dX11_task_17 (by decide) (by decide) (by decide) (by decide) ?_
          refine fz_aload_n dX11_task_122 rfl ?_
          refine fz_get dX11_task_123 fX11_81 rfl (Nat.one_pos) rfl ?_
          refine fz_iload_n dX11_task_126 rfl ?_
          refine fz_iald dX11_task_127 rfl rfl (Nat.one_pos) (vp_in_nI (by omega) (by omega)) ?_
          rw [nI_clamp (by omega), hta q hq 7 (by omega) (by omega)]
          refine fz_iret dX11_task_128 rfl (Nat.zero_le _) (Nat.zero_le _) ⟨rfl, hV⟩
        · refine fz_tableIn (off := 112) (tgt := 129) dX11_task_17 (by decide) (by decide) (by decide) (by decide) ?_
          refine fz_aload_n dX11_task_129 rfl ?_
          refine fz_get dX11_task_130 fX11_84 rfl (Nat.one_pos) rfl ?_
          refine fz_iload_n dX11_task_133 rfl ?_
          refine fz_iald dX11_task_134 rfl rfl (Nat.one_pos) (vp_in_nI (by omega) (by omega)) ?_
          rw [nI_clamp (by omega), hta q hq 8 (by omega) (by omega)]
          refine fz_iret dX11_task_135 rfl (Nat.zero_le _) (Nat.zero_le _) ⟨rfl, hV⟩
    · exact absurd c11 (by decide)
theorem md_orderOf {G : fz_G} (σ : zS) (V : fz_W) (hI : inZ σ) (hV : mdR σ V) (x y : Int32) : fz_T G mX11_orderOf rX11_orderOf [zR 30 0, zI x, zI y] V (fun r U => r = some (zI (orF σ.2.2.2.2.2.2.1 σ.2.2.2.2.2.2.2.2.2.1 x y)) ∧ mdR σ U) := by
  obtain ⟨tx, n, fp, cn, w, kn, on, tn, rn, O, T, P, te, B, t, A, wy, lg⟩ := σ
  obtain ⟨i1, i2, i3, i4, i5, i6, i7, i8, i9⟩ := hI.1
  have hV2 := hV
  obtain ⟨f, sg, ki, dr, fa, sn, wh, en, Rb, Od, Ta, re, le, hm, hn, htq, h80, hki, hfa, hmt, hrb, hod, hta, rfl⟩ := hV2
  obtain ⟨m0, m2, m3, m4, m11, m12, m19, m20, m21, m22, m28⟩ := id hm
  show fz_T _ _ _ _ _ (fun r U => r = some (zI (orF on O x y)) ∧ _)
  refine fz_T.of (by decide) (Nat.le_of_ble_eq_true rfl) (fun E0 => ?_)
  refine fz_iload_n dX11_orderOf_0 rfl ?_
  refine fz_iconst (v := nI 0) dX11_orderOf_1 (by decide) ?_
  refine fz_aload_n dX11_orderOf_2 rfl ?_
  refine fz_get dX11_orderOf_3 fX11_147 rfl (Nat.one_pos) rfl ?_
  rw [m22]
  refine fz_iconst (v := nI 1) dX11_orderOf_6 (by decide) ?_
  refine fz_isub dX11_orderOf_7 ?_
  refine fz_callS (tX11_inn x on (by omega)) dX11_orderOf_8 kX11_162 trivial (Nat.le_of_ble_eq_true rfl) (Nat.le_of_ble_eq_true rfl) (Nat.le_of_ble_eq_true rfl) (Nat.le_of_ble_eq_true rfl) (Nat.le_of_ble_eq_true rfl) rfl (fun r U hq => ?_)
  obtain ⟨rfl, rfl⟩ := hq
  refine fz_back rfl ?_
  refine fz_wo (V' := wMd f sg ki dr fa sn wh en Rb Od Ta re le) rfl ?_
  rcases ix_cases x (n := on) (by omega) with h | ⟨q, hq, rfl⟩
  · rw [if_pos h]
    have e : orF on O x y = -1 := by unfold orF; rw [if_pos h]
    rw [e]
    refine fz_if_ne (tgt := 16) dX11_orderOf_11 (by decide) (fun c11 => ?_) (fun c11 => ?_)
    · exact absurd rfl c11
    · skip
      refine fz_iconst (v := -1) dX11_orderOf_14 (by decide) ?_
      refine fz_iret dX11_orderOf_15 rfl (Nat.zero_le _) (Nat.zero_le _) ⟨rfl, hV⟩
  · rw [if_neg (ix_in hq (by omega))]
    have e : orF on O (nI q) y = orT (O q) y := by unfold orF; rw [if_neg (ix_in hq (by omega)), nI_clamp (by omega)]
    rw [e]
    refine fz_if_ne (tgt := 16) dX11_orderOf_11 (by decide) (fun c11 => ?_) (fun c11 => ?_)
    · skip
      refine fz_iload_n dX11_orderOf_16 rfl ?_
      rcases pk_ix y (n := 6) (by omega) with h | h | ⟨j, hj, rfl⟩
      · refine fz_tableOut (tgt := 105) dX11_orderOf_17 (tw_out (n := 6) (by omega) (Or.inl h)) (by decide) ?_
        refine fz_bipush (v := -2) dX11_orderOf_105 (by decide) ?_
        refine fz_iret dX11_orderOf_107 rfl (Nat.zero_le _) (Nat.zero_le _) ⟨by unfold orT; rw [if_pos (Or.inl h)], hV⟩
      · refine fz_tableOut (tgt := 105) dX11_orderOf_17 (tw_out (n := 6) (by omega) (Or.inr h)) (by decide) ?_
        refine fz_bipush (v := -2) dX11_orderOf_105 (by decide) ?_
        refine fz_iret dX11_orderOf_107 rfl (Nat.zero_le _) (Nat.zero_le _) ⟨by unfold orT; rw [if_pos (Or.inr h)], hV⟩
      · have e : orT (O q) (nI j) = if j = 3 then (if O q 3 ≤ 0 then 0 else 1) else O q j := by
          unfold orT
          rw [if_neg (ix_in hj (by omega)), nI_clamp (by omega)]
          by_cases h3 : j = 3
          · rw [if_pos h3, if_pos (by rw [h3])]
          · rw [if_neg h3, if_neg (fun z => h3 ((nI_eq (by omega) (by omega)).mp z))]
        rw [e]
        rcases (show j = 0 ∨ j = 1 ∨ j = 2 ∨ j = 3 ∨ j = 4 ∨ j = 5 by omega) with rfl | rfl | rfl | rfl | rfl | rfl
        · refine fz_tableIn (off := 39) (tgt := 56) dX11_orderOf_17 (by decide) (by decide) (by decide) (by decide) ?_
          refine fz_aload_n dX11_orderOf_56 rfl ?_
          refine fz_get dX11_orderOf_57 fX11_48 rfl (Nat.one_pos) rfl ?_
          refine fz_iload_n dX11_orderOf_60 rfl ?_
          refine fz_iald dX11_orderOf_61 rfl rfl (Nat.one_pos) (vp_in_nI (by omega) (by omega)) ?_
          rw [nI_clamp (by omega), hod q hq 0 (by omega) (by omega)]
          refine fz_iret dX11_orderOf_62 rfl (Nat.zero_le _) (Nat.zero_le _) ⟨rfl, hV⟩
        · refine fz_tableIn (off := 46) (tgt := 63) dX11_orderOf_17 (by decide) (by decide) (by decide) (by decide) ?_
          refine fz_aload_n dX11_orderOf_63 rfl ?_
          refine fz_get dX11_orderOf_64 fX11_51 rfl (Nat.one_pos) rfl ?_
          refine fz_iload_n dX11_orderOf_67 rfl ?_
          refine fz_iald dX11_orderOf_68 rfl rfl (Nat.one_pos) (vp_in_nI (by omega) (by omega)) ?_
          rw [nI_clamp (by omega), hod q hq 1 (by omega) (by omega)]
          refine fz_iret dX11_orderOf_69 rfl (Nat.zero_le _) (Nat.zero_le _) ⟨rfl, hV⟩
        · refine fz_tableIn (off := 53) (tgt := 70) dX11_orderOf_17 (by decide) (by decide) (by decide) (by decide) ?_
          refine fz_aload_n dX11_orderOf_70 rfl ?_
          refine fz_get dX11_orderOf_71 fX11_54 rfl (Nat.one_pos) rfl ?_
          refine fz_iload_n dX11_orderOf_74 rfl ?_
          refine fz_iald dX11_orderOf_75 rfl rfl (Nat.one_pos) (vp_in_nI (by omega) (by omega)) ?_
          rw [nI_clamp (by omega), hod q hq 2 (by omega) (by omega)]
          refine fz_iret dX11_orderOf_76 rfl (Nat.zero_le _) (Nat.zero_le _) ⟨rfl, hV⟩
        · refine fz_tableIn (off := 60) (tgt := 77) dX11_orderOf_17 (by decide) (by decide) (by decide) (by decide) ?_
          obtain ⟨a, k, o1, o2, o3, o4, o5, o6, o7, o8⟩ := i7 q hq
          refine fz_aload_n dX11_orderOf_77 rfl ?_
          refine fz_iload_n dX11_orderOf_78 rfl ?_
          refine fz_callV (tX11_isOpen f Od Ta T q a k (by omega) (by omega) (by rw [hod q hq 1 (by omega) (by omega), o1]) (by rw [hod q hq 2 (by omega) (by omega), o2]) (fun z hz => hta (a + z) (by omega) 3 (by omega) (by omega))) dX11_orderOf_79 kX11_176 rfl (Nat.one_pos) ⟨rfl, rfl, rfl, rfl, trivial⟩ (Nat.le_of_ble_eq_true rfl) (Nat.le_of_ble_eq_true rfl) (Nat.le_of_ble_eq_true rfl) (Nat.le_of_ble_eq_true rfl) (Nat.le_of_ble_eq_true rfl) rfl (fun r U hq => ?_)
          obtain ⟨rfl, rfl⟩ := hq
          refine fz_back rfl ?_
          refine fz_wo (V' := wMd f sg ki dr fa sn wh en Rb Od Ta re le) rfl ?_
          rw [if_pos rfl, o7]
          have hcn := cnt_le (fun q => decide (T (a + q) 3 < nI 3)) k
          have hcn : opn T a k ≤ k := hcn
          by_cases hp : 0 < opn T a k
          · rw [decide_eq_true hp, if_neg (fun z => by have := (nI_leI (b := 0) (by omega) (by omega)).mp z; omega)]
            refine fz_if_eq (tgt := 89) dX11_orderOf_82 (by decide) (fun c82 => ?_) (fun c82 => ?_)
            · exact absurd c82 (by decide)
            · skip
              refine fz_iconst (v := nI 1) dX11_orderOf_85 (by decide) ?_
              refine fz_goto (tgt := 90) dX11_orderOf_86 (by decide) ?_
              refine fz_iret dX11_orderOf_90 rfl (Nat.zero_le _) (Nat.zero_le _) ⟨rfl, hV⟩
          · rw [decide_eq_false hp, show opn T a k = 0 by omega, if_pos (by decide)]
            refine fz_if_eq (tgt := 89) dX11_orderOf_82 (by decide) (fun c82 => ?_) (fun c82 => ?_)
            · skip
              refine fz_iconst (v := nI 0) dX11_orderOf_89 (by decide) ?_
              refine fz_iret dX11_orderOf_90 rfl (Nat.zero_le _) (Nat.zero_le _) ⟨rfl, hV⟩
            · exact absurd rfl c82
        · refine fz_tableIn (off := 74) (tgt := 91) dX11_orderOf_17 (by decide) (by decide) (by decide) (by decide) ?_
          refine fz_aload_n dX11_orderOf_91 rfl ?_
          refine fz_get dX11_orderOf_92 fX11_57 rfl (Nat.one_pos) rfl ?_
          refine fz_iload_n dX11_orderOf_95 rfl ?_
          refine fz_iald dX11_orderOf_96 rfl rfl (Nat.one_pos) (vp_in_nI (by omega) (by omega)) ?_
          rw [nI_clamp (by omega), hod q hq 4 (by omega) (by omega)]
          refine fz_iret dX11_orderOf_97 rfl (Nat.zero_le _) (Nat.zero_le _) ⟨rfl, hV⟩
        · refine fz_tableIn (off := 81) (tgt := 98) dX11_orderOf_17 (by decide) (by decide) (by decide) (by decide) ?_
          refine fz_aload_n dX11_orderOf_98 rfl ?_
          refine fz_get dX11_orderOf_99 fX11_60 rfl (Nat.one_pos) rfl ?_
          refine fz_iload_n dX11_orderOf_102 rfl ?_
          refine fz_iald dX11_orderOf_103 rfl rfl (Nat.one_pos) (vp_in_nI (by omega) (by omega)) ?_
          rw [nI_clamp (by omega), hod q hq 5 (by omega) (by omega)]
          refine fz_iret dX11_orderOf_104 rfl (Nat.zero_le _) (Nat.zero_le _) ⟨rfl, hV⟩
    · exact absurd c11 (by decide)
