/-! THE MODEL: its face: order, cancel -/
def adTa (Ta : Nat → Nat → Int32) (i o : Nat) (sh t : Int32) : Nat → Nat → Int32 := fun j => upd (Ta j) i (tkN (nI o) sh 0 t (fun _ => 0) j)
abbrev wAd (f : Nat → Int32) (Ta : Nat → Nat → Int32) : fz_W := [(30, eM f), (69, e90 (Ta 0)), (70, e90 (Ta 1)), (71, e90 (Ta 3)), (72, e90 (Ta 4)), (73, e90 (Ta 5)), (74, e90 (Ta 6)), (75, e90 (Ta 7)), (76, e90 (Ta 8))]
theorem tX11_addTask {G : fz_G} (f : Nat → Int32) (Ta : Nat → Nat → Int32) (on tn t : Nat) (htn : tn < 90) (m11 : f 11 = nI t) (m22 : f 22 = nI on) (m28 : f 28 = nI tn) (x : Int32) : fz_T G mX11_addTask rX11_addTask [zR 30 0, zI x] (wAd f Ta) (fun r U => r = none ∧ U = wAd (upd f 28 (nI (tn + 1))) (adTa Ta tn on x (nI t))) := by
  refine fz_T.of (by decide) (Nat.le_of_ble_eq_true rfl) (fun E0 => ?_)
  refine fz_aload_n dX11_addTask_0 rfl ?_
  refine fz_get dX11_addTask_1 fX11_63 rfl (Nat.one_pos) rfl ?_
  refine fz_aload_n dX11_addTask_4 rfl ?_
  refine fz_get dX11_addTask_5 fX11_150 rfl (Nat.one_pos) rfl ?_
  rw [m28]
  refine fz_aload_n dX11_addTask_8 rfl ?_
  refine fz_get dX11_addTask_9 fX11_147 rfl (Nat.one_pos) rfl ?_
  rw [m22]
  refine fz_iast1 dX11_addTask_12 rfl rfl (vp_in_nI (by omega) (by omega)) ?_
  rw [nI_clamp (by omega)]
  refine fz_aload_n dX11_addTask_13 rfl ?_
  refine fz_get dX11_addTask_14 fX11_66 rfl (Nat.one_pos) rfl ?_
  refine fz_aload_n dX11_addTask_17 rfl ?_
  refine fz_get dX11_addTask_18 fX11_150 rfl (Nat.one_pos) rfl ?_
  rw [m28]
  refine fz_iload_n dX11_addTask_21 rfl ?_
  refine fz_iast1 dX11_addTask_22 rfl rfl (vp_in_nI (by omega) (by omega)) ?_
  rw [nI_clamp (by omega)]
  refine fz_aload_n dX11_addTask_23 rfl ?_
  refine fz_get dX11_addTask_24 fX11_69 rfl (Nat.one_pos) rfl ?_
  refine fz_aload_n dX11_addTask_27 rfl ?_
  refine fz_get dX11_addTask_28 fX11_150 rfl (Nat.one_pos) rfl ?_
  rw [m28]
  refine fz_iconst (v := nI 0) dX11_addTask_31 (by decide) ?_
  refine fz_iast1 dX11_addTask_32 rfl rfl (vp_in_nI (by omega) (by omega)) ?_
  rw [nI_clamp (by omega)]
  refine fz_aload_n dX11_addTask_33 rfl ?_
  refine fz_get dX11_addTask_34 fX11_72 rfl (Nat.one_pos) rfl ?_
  refine fz_aload_n dX11_addTask_37 rfl ?_
  refine fz_get dX11_addTask_38 fX11_150 rfl (Nat.one_pos) rfl ?_
  rw [m28]
  refine fz_iconst (v := -1) dX11_addTask_41 (by decide) ?_
  refine fz_iast1 dX11_addTask_42 rfl rfl (vp_in_nI (by omega) (by omega)) ?_
  rw [nI_clamp (by omega)]
  refine fz_aload_n dX11_addTask_43 rfl ?_
  refine fz_get dX11_addTask_44 fX11_75 rfl (Nat.one_pos) rfl ?_
  refine fz_aload_n dX11_addTask_47 rfl ?_
  refine fz_get dX11_addTask_48 fX11_150 rfl (Nat.one_pos) rfl ?_
  rw [m28]
  refine fz_aload_n dX11_addTask_51 rfl ?_
  refine fz_get dX11_addTask_52 fX11_141 rfl (Nat.one_pos) rfl ?_
  rw [m11]
  refine fz_iast1 dX11_addTask_55 rfl rfl (vp_in_nI (by omega) (by omega)) ?_
  rw [nI_clamp (by omega)]
  refine fz_aload_n dX11_addTask_56 rfl ?_
  refine fz_get dX11_addTask_57 fX11_78 rfl (Nat.one_pos) rfl ?_
  refine fz_aload_n dX11_addTask_60 rfl ?_
  refine fz_get dX11_addTask_61 fX11_150 rfl (Nat.one_pos) rfl ?_
  rw [m28]
  refine fz_iconst (v := -1) dX11_addTask_64 (by decide) ?_
  refine fz_iast1 dX11_addTask_65 rfl rfl (vp_in_nI (by omega) (by omega)) ?_
  rw [nI_clamp (by omega)]
  refine fz_aload_n dX11_addTask_66 rfl ?_
  refine fz_get dX11_addTask_67 fX11_81 rfl (Nat.one_pos) rfl ?_
  refine fz_aload_n dX11_addTask_70 rfl ?_
  refine fz_get dX11_addTask_71 fX11_150 rfl (Nat.one_pos) rfl ?_
  rw [m28]
  refine fz_iconst (v := -1) dX11_addTask_74 (by decide) ?_
  refine fz_iast1 dX11_addTask_75 rfl rfl (vp_in_nI (by omega) (by omega)) ?_
  rw [nI_clamp (by omega)]
  refine fz_aload_n dX11_addTask_76 rfl ?_
  refine fz_get dX11_addTask_77 fX11_84 rfl (Nat.one_pos) rfl ?_
  refine fz_aload_n dX11_addTask_80 rfl ?_
  refine fz_get dX11_addTask_81 fX11_150 rfl (Nat.one_pos) rfl ?_
  rw [m28]
  refine fz_iconst (v := -1) dX11_addTask_84 (by decide) ?_
  refine fz_iast1 dX11_addTask_85 rfl rfl (vp_in_nI (by omega) (by omega)) ?_
  rw [nI_clamp (by omega)]
  refine fz_aload_n dX11_addTask_86 rfl ?_
  refine fz_dup dX11_addTask_87 rfl ?_
  refine fz_get dX11_addTask_88 fX11_150 rfl (Nat.one_pos) rfl ?_
  rw [m28]
  refine fz_iconst (v := nI 1) dX11_addTask_91 (by decide) ?_
  refine fz_iadd dX11_addTask_92 ?_
  rw [nI_add]
  refine fz_putM dX11_addTask_93 fX11_150 (by decide) rfl ⟨rfl, rfl⟩ ?_
  refine fz_vret dX11_addTask_96 rfl (Nat.zero_le _) (Nat.zero_le _) ⟨rfl, rfl⟩
theorem tkN_j {o sh sn sn' t : Int32} {a a' : Nat → Int32} {j : Nat} (hj : j < 9) (h2 : ¬ j = 2) : tkN o sh sn t a j = tkN o sh sn' t a' j := by
  rcases (show j = 0 ∨ j = 1 ∨ j = 3 ∨ j = 4 ∨ j = 5 ∨ j = 6 ∨ j = 7 ∨ j = 8 by omega) with rfl | rfl | rfl | rfl | rfl | rfl | rfl | rfl <;> rfl
theorem orN_j {s n f t : Int32} {a a' : Nat → Int32} {j : Nat} (hj : j < 6) : orN s n f t a j = orN s n f t a' j := by
  rcases (show j = 0 ∨ j = 1 ∨ j = 2 ∨ j = 3 ∨ j = 4 ∨ j = 5 by omega) with rfl | rfl | rfl | rfl | rfl | rfl <;> rfl
theorem taR_add {tn : Nat} {T Ta : Nat → Nat → Int32} {o : Nat} {sh sn t : Int32} (h : taR tn T Ta) : taR (tn + 1) (addT T tn o sh sn t) (adTa Ta tn o sh t) := by
  intro i hi j hj hj2
  show upd (Ta j) tn _ i = _
  by_cases e : i = tn
  · rw [e, pk_us, addT_at]; exact tkN_j hj hj2
  · rw [pk_un e, addT_lt e]; exact h i (by omega) j hj hj2
def adOd (Od : Nat → Nat → Int32) (on : Nat) (s n f t : Int32) : Nat → Nat → Int32 := fun j => upd (Od j) on (orN s n f t (fun _ => 0) j)
theorem odR_add {on : Nat} {O Od : Nat → Nat → Int32} {s n f t : Int32} (h : odR on O Od) : odR (on + 1) (va_up O on (orN s n f t (O on))) (adOd Od on s n f t) := by
  intro i hi j hj hj3
  show upd (Od j) on _ i = _
  by_cases e : i = on
  · rw [e, pk_us, va_up_self]; exact orN_j hj
  · rw [pk_un e, va_up_ne _ _ e]; exact h i (by omega) j hj hj3
theorem md_order {G : fz_G} (σ : zS) (V : fz_W) (hI : inZ σ) (hV : mdR σ V) (x a b c : Int32) : fz_T G mX11_order rX11_order [zR 30 0, zI x, zI a, zI b, zI c] V (fun r U => r = some (zI (ordF σ x a b c).1) ∧ mdR (ordF σ x a b c).2 U) := by
  obtain ⟨tx, n, fp, cn, w, kn, on, tn, rn, O, T, P, te, B, t, A, wy, lg⟩ := σ
  obtain ⟨i1, i2, i3, i4, i5, i6, i7, i8, i9⟩ := hI.1
  have hV2 := hV
  obtain ⟨f, sg, ki, dr, fa, sn, wh, en, Rb, Od, Ta, re, le, hm, hn, htq, h80, hki, hfa, hmt, hrb, hod, hta, rfl⟩ := hV2
  obtain ⟨m0, m2, m3, m4, m11, m12, m19, m20, m21, m22, m28⟩ := id hm
  refine fz_T.of (by decide) (Nat.le_of_ble_eq_true rfl) (fun E0 => ?_)
  refine fz_aload_n dX11_order_0 rfl ?_
  refine fz_get dX11_order_1 fX11_132 rfl (Nat.one_pos) rfl ?_
  rw [m3]
  refine fz_if_ne (tgt := 10) dX11_order_4 (by decide) (fun c4 => ?_) (fun c4 => ?_)
  · have h0 : ¬ cn = 0 := fun z => c4 (by rw [z]; exact nI_0)
    have bad : ¬ (celK cn kn x = nI 3 ∧ shB cn kn a b c = true) → fz_J G mX11_order rX11_order (fz_Z G E0 rX11_order.cells rX11_order.slots (fun r U => r = some (zI (ordF (tx, n, fp, cn, w, kn, on, tn, rn, O, T, P, te, B, t, A, wy, lg) x a b c).1) ∧ mdR (ordF (tx, n, fp, cn, w, kn, on, tn, rn, O, T, P, te, B, t, A, wy, lg) x a b c).2 U)) E0 0 0 71 [(0, zR 30 0), (1, zI x), (2, zI a), (3, zI b), (4, zI c)] [] (wMd f sg ki dr fa sn wh en Rb Od Ta re le) := by
      intro h
      rw [ordF_bad h0 h]
      refine fz_iconst (v := nI 0) dX11_order_71 (by decide) ?_
      refine fz_istore dX11_order_72 (Nat.le_of_ble_eq_true rfl) ?_
      refine fz_iload dX11_order_74 rfl ?_
      refine fz_if_ne (tgt := 82) dX11_order_76 (by decide) (fun c76 => ?_) (fun c76 => ?_)
      · exact absurd nI_0 c76
      · skip
        refine fz_bipush (v := -2) dX11_order_79 (by decide) ?_
        refine fz_iret dX11_order_81 rfl (Nat.zero_le _) (Nat.zero_le _) ⟨rfl, hV⟩
    have good : (celK cn kn x = nI 3 ∧ shB cn kn a b c = true) → fz_J G mX11_order rX11_order (fz_Z G E0 rX11_order.cells rX11_order.slots (fun r U => r = some (zI (ordF (tx, n, fp, cn, w, kn, on, tn, rn, O, T, P, te, B, t, A, wy, lg) x a b c).1) ∧ mdR (ordF (tx, n, fp, cn, w, kn, on, tn, rn, O, T, P, te, B, t, A, wy, lg) x a b c).2 U)) E0 0 0 67 [(0, zR 30 0), (1, zI x), (2, zI a), (3, zI b), (4, zI c)] [] (wMd f sg ki dr fa sn wh en Rb Od Ta re le) := by
      intro h
      have main : fz_J G mX11_order rX11_order (fz_Z G E0 rX11_order.cells rX11_order.slots (fun r U => r = some (zI (ordF (tx, n, fp, cn, w, kn, on, tn, rn, O, T, P, te, B, t, A, wy, lg) x a b c).1) ∧ mdR (ordF (tx, n, fp, cn, w, kn, on, tn, rn, O, T, P, te, B, t, A, wy, lg) x a b c).2 U)) E0 0 0 104 [(6, zI (nI (wanN b c))), (5, zI (nI 1)), (0, zR 30 0), (1, zI x), (2, zI a), (3, zI b), (4, zI c)] [] (wMd f sg ki dr fa sn wh en Rb Od Ta re le) := by
        have hwl : wanN b c ≤ 3 := by unfold wanN; split; omega; split <;> omega
        have full : ¬ (on < 40 ∧ tn + wanN b c ≤ 90) → fz_J G mX11_order rX11_order (fz_Z G E0 rX11_order.cells rX11_order.slots (fun r U => r = some (zI (ordF (tx, n, fp, cn, w, kn, on, tn, rn, O, T, P, te, B, t, A, wy, lg) x a b c).1) ∧ mdR (ordF (tx, n, fp, cn, w, kn, on, tn, rn, O, T, P, te, B, t, A, wy, lg) x a b c).2 U)) E0 0 0 125 [(6, zI (nI (wanN b c))), (5, zI (nI 1)), (0, zR 30 0), (1, zI x), (2, zI a), (3, zI b), (4, zI c)] [] (wMd f sg ki dr fa sn wh en Rb Od Ta re le) := by
          intro h2
          rw [ordF_full h0 h h2]
          refine fz_bipush (v := -3) dX11_order_125 (by decide) ?_
          refine fz_iret dX11_order_127 rfl (Nat.zero_le _) (Nat.zero_le _) ⟨rfl, hV⟩
        refine fz_aload_n dX11_order_104 rfl ?_
        refine fz_get dX11_order_105 fX11_147 rfl (Nat.one_pos) rfl ?_
        refine fz_bipush (v := nI 40) dX11_order_108 (by decide) ?_
        rw [m22]
        refine fz_icmp_eq (tgt := 125) dX11_order_110 (by decide) (fun c110 => ?_) (fun c110 => ?_)
        · have := (nI_eq (by omega) (by omega)).mp c110
          exact full (by omega)
        · have ho40 : on < 40 := by
            rcases Nat.lt_or_ge on 40 with z | z
            · exact z
            · exact absurd (by rw [show on = 40 by omega]) c110
          refine fz_aload_n dX11_order_113 rfl ?_
          refine fz_get dX11_order_114 fX11_150 rfl (Nat.one_pos) rfl ?_
          rw [m28]
          refine fz_iload dX11_order_117 rfl ?_
          refine fz_iadd dX11_order_119 ?_
          rw [nI_add]
          refine fz_bipush (v := nI 90) dX11_order_120 (by decide) ?_
          refine fz_icmp_le (tgt := 128) dX11_order_122 (by decide) (fun c122 => ?_) (fun c122 => ?_)
          · have h2 : on < 40 ∧ tn + wanN b c ≤ 90 := ⟨ho40, (nI_leI (by omega) (by omega)).mp c122⟩
            have h1w : 1 ≤ wanN b c := by unfold wanN; split; omega; split <;> omega
            rw [ordF_ok h0 h h2]
            refine fz_aload_n dX11_order_128 rfl ?_
            refine fz_get dX11_order_129 fX11_48 rfl (Nat.one_pos) rfl ?_
            refine fz_aload_n dX11_order_132 rfl ?_
            refine fz_get dX11_order_133 fX11_147 rfl (Nat.one_pos) rfl ?_
            rw [m22]
            refine fz_iload_n dX11_order_136 rfl ?_
            refine fz_iast1 dX11_order_137 rfl rfl (vp_in_nI (by omega) (by omega)) ?_
            rw [nI_clamp (by omega)]
            refine fz_aload_n dX11_order_138 rfl ?_
            refine fz_get dX11_order_139 fX11_51 rfl (Nat.one_pos) rfl ?_
            refine fz_aload_n dX11_order_142 rfl ?_
            refine fz_get dX11_order_143 fX11_147 rfl (Nat.one_pos) rfl ?_
            rw [m22]
            refine fz_iload dX11_order_146 rfl ?_
            refine fz_iast1 dX11_order_148 rfl rfl (vp_in_nI (by omega) (by omega)) ?_
            rw [nI_clamp (by omega)]
            refine fz_aload_n dX11_order_149 rfl ?_
            refine fz_get dX11_order_150 fX11_54 rfl (Nat.one_pos) rfl ?_
            refine fz_aload_n dX11_order_153 rfl ?_
            refine fz_get dX11_order_154 fX11_147 rfl (Nat.one_pos) rfl ?_
            rw [m22]
            refine fz_aload_n dX11_order_157 rfl ?_
            refine fz_get dX11_order_158 fX11_150 rfl (Nat.one_pos) rfl ?_
            rw [m28]
            refine fz_iast1 dX11_order_161 rfl rfl (vp_in_nI (by omega) (by omega)) ?_
            rw [nI_clamp (by omega)]
            refine fz_aload_n dX11_order_162 rfl ?_
            refine fz_get dX11_order_163 fX11_57 rfl (Nat.one_pos) rfl ?_
            refine fz_aload_n dX11_order_166 rfl ?_
            refine fz_get dX11_order_167 fX11_147 rfl (Nat.one_pos) rfl ?_
            rw [m22]
            refine fz_aload_n dX11_order_170 rfl ?_
            refine fz_get dX11_order_171 fX11_141 rfl (Nat.one_pos) rfl ?_
            rw [m11]
            refine fz_iast1 dX11_order_174 rfl rfl (vp_in_nI (by omega) (by omega)) ?_
            rw [nI_clamp (by omega)]
            refine fz_aload_n dX11_order_175 rfl ?_
            refine fz_get dX11_order_176 fX11_60 rfl (Nat.one_pos) rfl ?_
            refine fz_aload_n dX11_order_179 rfl ?_
            refine fz_get dX11_order_180 fX11_147 rfl (Nat.one_pos) rfl ?_
            rw [m22]
            refine fz_iconst (v := -1) dX11_order_183 (by decide) ?_
            refine fz_iast1 dX11_order_184 rfl rfl (vp_in_nI (by omega) (by omega)) ?_
            rw [nI_clamp (by omega)]
            refine fz_wo (V' := wMd f sg ki dr fa sn wh en Rb (adOd Od on x (nI (wanN b c)) (nI tn) (nI t)) Ta re le) rfl ?_
            have hod' := odR_add (s := x) (n := nI (wanN b c)) (f := nI tn) (t := nI t) hod
            have fin : ∀ (f' : Nat → Int32) (Ta' T' : Nat → Nat → Int32) (tn' : Nat), mfR f' n fp cn w t rn A wy lg on tn' → taR tn' T' Ta' → tn' = tn + wanN b c → T' = addM T tn on a b c x (nI t) → fz_J G mX11_order rX11_order (fz_Z G E0 rX11_order.cells rX11_order.slots (fun r U => r = some (zI (nI on)) ∧ mdR (tx, n, fp, cn, w, kn, on + 1, tn + wanN b c, rn, va_up O on (orN x (nI (wanN b c)) (nI tn) (nI t) (O on)), addM T tn on a b c x (nI t), P, te, B, t, A, wy, lg) U)) E0 0 0 213 [(6, zI (nI (wanN b c))), (5, zI (nI 1)), (0, zR 30 0), (1, zI x), (2, zI a), (3, zI b), (4, zI c)] [] (wMd f' sg ki dr fa sn wh en Rb (adOd Od on x (nI (wanN b c)) (nI tn) (nI t)) Ta' re le) := by
              intro f' Ta' T' tn' hm' hta' e1 e2
              subst e1
              subst e2
              have m22' := hm'.2.2.2.2.2.2.2.2.2.1
              refine fz_aload_n dX11_order_213 rfl ?_
              refine fz_dup dX11_order_214 rfl ?_
              refine fz_get dX11_order_215 fX11_147 rfl (Nat.one_pos) rfl ?_
              rw [m22']
              refine fz_iconst (v := nI 1) dX11_order_218 (by decide) ?_
              refine fz_iadd dX11_order_219 ?_
              rw [nI_add]
              refine fz_putM dX11_order_220 fX11_147 (by decide) rfl ⟨rfl, rfl⟩ ?_
              refine fz_aload_n dX11_order_223 rfl ?_
              refine fz_get dX11_order_224 fX11_147 rfl (Nat.one_pos) rfl ?_
              rw [pk_us]
              refine fz_iconst (v := nI 1) dX11_order_227 (by decide) ?_
              refine fz_isub dX11_order_228 ?_
              rw [nI_sub1]
              refine fz_wo (V' := wMd (upd f' 22 (nI (on + 1))) sg ki dr fa sn wh en Rb (adOd Od on x (nI (wanN b c)) (nI tn) (nI t)) Ta' re le) rfl ?_
              have res : mdR (tx, n, fp, cn, w, kn, on + 1, tn + wanN b c, rn, va_up O on (orN x (nI (wanN b c)) (nI tn) (nI t) (O on)), addM T tn on a b c x (nI t), P, te, B, t, A, wy, lg) (wMd (upd f' 22 (nI (on + 1))) sg ki dr fa sn wh en Rb (adOd Od on x (nI (wanN b c)) (nI tn) (nI t)) Ta' re le) := ⟨_, sg, ki, dr, fa, sn, wh, en, Rb, _, Ta', re, le, mfR_22 hm' _, hn, htq, h80, hki, hfa, hmt, hrb, hod', hta', rfl⟩
              refine fz_iret dX11_order_229 rfl (Nat.zero_le _) (Nat.zero_le _) ⟨rfl, res⟩
            refine fz_aload_n dX11_order_185 rfl ?_
            refine fz_iload_n dX11_order_186 rfl ?_
            refine fz_callV (tX11_addTask f Ta on tn t (by omega) m11 m22 m28 a) dX11_order_187 kX11_173 rfl (Nat.one_pos) ⟨rfl, rfl, rfl, rfl, rfl, rfl, rfl, rfl, rfl, trivial⟩ (Nat.le_of_ble_eq_true rfl) (Nat.le_of_ble_eq_true rfl) (Nat.le_of_ble_eq_true rfl) (Nat.le_of_ble_eq_true rfl) (Nat.le_of_ble_eq_true rfl) rfl (fun r U hq => ?_)
            obtain ⟨rfl, rfl⟩ := hq
            refine fz_back rfl ?_
            refine fz_wo (V' := wMd (upd f 28 (nI (tn + 1))) sg ki dr fa sn wh en Rb (adOd Od on x (nI (wanN b c)) (nI tn) (nI t)) (adTa Ta tn on a (nI t)) re le) rfl ?_
            have hm1 := mfR_28 hm (tn + 1)
            have hta1 := taR_add (o := on) (sh := a) (sn := x) (t := nI t) hta
            refine fz_iload dX11_order_190 rfl ?_
            refine fz_iconst (v := nI 1) dX11_order_192 (by decide) ?_
            by_cases hb : b = -1
            · have ew : wanN b c = 1 := by unfold wanN; rw [if_pos hb]
              rw [ew]
              rw [ew] at fin
              refine fz_icmp_le (tgt := 201) dX11_order_193 (by decide) (fun c193 => ?_) (fun c193 => ?_)
              · skip
                refine fz_iload dX11_order_201 rfl ?_
                refine fz_iconst (v := nI 2) dX11_order_203 (by decide) ?_
                refine fz_icmp_le (tgt := 213) dX11_order_204 (by decide) (fun c204 => ?_) (fun c204 => ?_)
                · exact fin _ _ _ _ hm1 hta1 rfl (by unfold addM; rw [if_pos hb])
                · exact absurd (by decide) c204
              · exact absurd (by decide) c193
            · by_cases hc : c = -1
              · have ew : wanN b c = 2 := by unfold wanN; rw [if_neg hb, if_pos hc]
                rw [ew]
                rw [ew] at fin h2
                refine fz_icmp_le (tgt := 201) dX11_order_193 (by decide) (fun c193 => ?_) (fun c193 => ?_)
                · exact absurd c193 (by decide)
                · skip
                  refine fz_aload_n dX11_order_196 rfl ?_
                  refine fz_iload_n dX11_order_197 rfl ?_
                  refine fz_callV (tX11_addTask (upd f 28 (nI (tn + 1))) (adTa Ta tn on a (nI t)) on (tn + 1) t (by omega) hm1.2.2.2.2.1 hm1.2.2.2.2.2.2.2.2.2.1 hm1.2.2.2.2.2.2.2.2.2.2 b) dX11_order_198 kX11_173 rfl (Nat.one_pos) ⟨rfl, rfl, rfl, rfl, rfl, rfl, rfl, rfl, rfl, trivial⟩ (Nat.le_of_ble_eq_true rfl) (Nat.le_of_ble_eq_true rfl) (Nat.le_of_ble_eq_true rfl) (Nat.le_of_ble_eq_true rfl) (Nat.le_of_ble_eq_true rfl) rfl (fun r U hq => ?_)
                  obtain ⟨rfl, rfl⟩ := hq
                  refine fz_back rfl ?_
                  refine fz_wo (V' := wMd (upd (upd f 28 (nI (tn + 1))) 28 (nI (tn + 1 + 1))) sg ki dr fa sn wh en Rb (adOd Od on x (nI 2) (nI tn) (nI t)) (adTa (adTa Ta tn on a (nI t)) (tn + 1) on b (nI t)) re le) rfl ?_
                  refine fz_iload dX11_order_201 rfl ?_
                  refine fz_iconst (v := nI 2) dX11_order_203 (by decide) ?_
                  refine fz_icmp_le (tgt := 213) dX11_order_204 (by decide) (fun c204 => ?_) (fun c204 => ?_)
                  · exact fin _ _ _ _ (mfR_28 hm1 _) (taR_add (sn := x) hta1) rfl (by unfold addM; rw [if_neg hb, if_pos hc])
                  · exact absurd (by decide) c204
              · have ew : wanN b c = 3 := by unfold wanN; rw [if_neg hb, if_neg hc]
                rw [ew]
                rw [ew] at fin h2
                refine fz_icmp_le (tgt := 201) dX11_order_193 (by decide) (fun c193 => ?_) (fun c193 => ?_)
                · exact absurd c193 (by decide)
                · skip
                  refine fz_aload_n dX11_order_196 rfl ?_
                  refine fz_iload_n dX11_order_197 rfl ?_
                  refine fz_callV (tX11_addTask (upd f 28 (nI (tn + 1))) (adTa Ta tn on a (nI t)) on (tn + 1) t (by omega) hm1.2.2.2.2.1 hm1.2.2.2.2.2.2.2.2.2.1 hm1.2.2.2.2.2.2.2.2.2.2 b) dX11_order_198 kX11_173 rfl (Nat.one_pos) ⟨rfl, rfl, rfl, rfl, rfl, rfl, rfl, rfl, rfl, trivial⟩ (Nat.le_of_ble_eq_true rfl) (Nat.le_of_ble_eq_true rfl) (Nat.le_of_ble_eq_true rfl) (Nat.le_of_ble_eq_true rfl) (Nat.le_of_ble_eq_true rfl) rfl (fun r U hq => ?_)
                  obtain ⟨rfl, rfl⟩ := hq
                  refine fz_back rfl ?_
                  refine fz_wo (V' := wMd (upd (upd f 28 (nI (tn + 1))) 28 (nI (tn + 1 + 1))) sg ki dr fa sn wh en Rb (adOd Od on x (nI 3) (nI tn) (nI t)) (adTa (adTa Ta tn on a (nI t)) (tn + 1) on b (nI t)) re le) rfl ?_
                  have hm2 := mfR_28 hm1 (tn + 1 + 1)
                  refine fz_iload dX11_order_201 rfl ?_
                  refine fz_iconst (v := nI 2) dX11_order_203 (by decide) ?_
                  refine fz_icmp_le (tgt := 213) dX11_order_204 (by decide) (fun c204 => ?_) (fun c204 => ?_)
                  · exact absurd c204 (by decide)
                  · skip
                    refine fz_aload_n dX11_order_207 rfl ?_
                    refine fz_iload dX11_order_208 rfl ?_
                    refine fz_callV (tX11_addTask (upd (upd f 28 (nI (tn + 1))) 28 (nI (tn + 1 + 1))) (adTa (adTa Ta tn on a (nI t)) (tn + 1) on b (nI t)) on (tn + 1 + 1) t (by omega) hm2.2.2.2.2.1 hm2.2.2.2.2.2.2.2.2.2.1 hm2.2.2.2.2.2.2.2.2.2.2 c) dX11_order_210 kX11_173 rfl (Nat.one_pos) ⟨rfl, rfl, rfl, rfl, rfl, rfl, rfl, rfl, rfl, trivial⟩ (Nat.le_of_ble_eq_true rfl) (Nat.le_of_ble_eq_true rfl) (Nat.le_of_ble_eq_true rfl) (Nat.le_of_ble_eq_true rfl) (Nat.le_of_ble_eq_true rfl) rfl (fun r U hq => ?_)
                    obtain ⟨rfl, rfl⟩ := hq
                    refine fz_back rfl ?_
                    refine fz_wo (V' := wMd (upd (upd (upd f 28 (nI (tn + 1))) 28 (nI (tn + 1 + 1))) 28 (nI (tn + 1 + 1 + 1))) sg ki dr fa sn wh en Rb (adOd Od on x (nI 3) (nI tn) (nI t)) (adTa (adTa (adTa Ta tn on a (nI t)) (tn + 1) on b (nI t)) (tn + 1 + 1) on c (nI t)) re le) rfl ?_
                    exact fin _ _ _ _ (mfR_28 hm2 _) (taR_add (sn := x) (taR_add (sn := x) hta1)) rfl (by unfold addM; rw [if_neg hb, if_neg hc])
          · exact full (fun z => c122 (nI_le z.2 (by omega)))
      refine fz_iconst (v := nI 1) dX11_order_67 (by decide) ?_
      refine fz_goto (tgt := 72) dX11_order_68 (by decide) ?_
      refine fz_istore dX11_order_72 (Nat.le_of_ble_eq_true rfl) ?_
      refine fz_iload dX11_order_74 rfl ?_
      refine fz_if_ne (tgt := 82) dX11_order_76 (by decide) (fun c76 => ?_) (fun c76 => ?_)
      · skip
        refine fz_iload_n dX11_order_82 rfl ?_
        refine fz_iconst (v := -1) dX11_order_83 (by decide) ?_
        refine fz_icmp_ne (tgt := 91) dX11_order_84 (by decide) (fun hb => ?_) (fun hb => ?_)
        · skip
          refine fz_iload dX11_order_91 rfl ?_
          refine fz_iconst (v := -1) dX11_order_93 (by decide) ?_
          refine fz_icmp_ne (tgt := 101) dX11_order_94 (by decide) (fun hc => ?_) (fun hc => ?_)
          · skip
            refine fz_iconst (v := nI 3) dX11_order_101 (by decide) ?_
            refine fz_istore dX11_order_102 (Nat.le_of_ble_eq_true rfl) ?_
            refine fz_ls (ls' := [(6, zI (nI (wanN b c))), (5, zI (nI 1)), (0, zR 30 0), (1, zI x), (2, zI a), (3, zI b), (4, zI c)]) (by unfold wanN; rw [if_neg hb, if_neg hc]; rfl) ?_
            exact main
          · skip
            refine fz_iconst (v := nI 2) dX11_order_97 (by decide) ?_
            refine fz_goto (tgt := 102) dX11_order_98 (by decide) ?_
            refine fz_istore dX11_order_102 (Nat.le_of_ble_eq_true rfl) ?_
            refine fz_ls (ls' := [(6, zI (nI (wanN b c))), (5, zI (nI 1)), (0, zR 30 0), (1, zI x), (2, zI a), (3, zI b), (4, zI c)]) (by unfold wanN; rw [if_neg hb, if_pos hc]; rfl) ?_
            exact main
        · skip
          refine fz_iconst (v := nI 1) dX11_order_87 (by decide) ?_
          refine fz_goto (tgt := 102) dX11_order_88 (by decide) ?_
          refine fz_istore dX11_order_102 (Nat.le_of_ble_eq_true rfl) ?_
          refine fz_ls (ls' := [(6, zI (nI (wanN b c))), (5, zI (nI 1)), (0, zR 30 0), (1, zI x), (2, zI a), (3, zI b), (4, zI c)]) (by unfold wanN; rw [if_pos hb]; rfl) ?_
          exact main
      · exact absurd c76 (by decide)
    refine fz_aload_n dX11_order_10 rfl ?_
    refine fz_iload_n dX11_order_11 rfl ?_
    refine fz_iconst (v := nI 3) dX11_order_12 (by decide) ?_
    refine fz_callV (tX11_isKind f ki cn kn h80 m3 hki x 3 (by omega)) dX11_order_13 kX11_169 rfl (Nat.one_pos) ⟨rfl, rfl, trivial⟩ (Nat.le_of_ble_eq_true rfl) (Nat.le_of_ble_eq_true rfl) (Nat.le_of_ble_eq_true rfl) (Nat.le_of_ble_eq_true rfl) (Nat.le_of_ble_eq_true rfl) rfl (fun r U hq => ?_)
    obtain ⟨rfl, rfl⟩ := hq
    refine fz_back rfl ?_
    refine fz_wo (V' := wMd f sg ki dr fa sn wh en Rb Od Ta re le) rfl ?_
    by_cases hx : celK cn kn x = nI 3
    · rw [decide_eq_true hx]
      refine fz_if_eq (tgt := 71) dX11_order_16 (by decide) (fun c16 => ?_) (fun c16 => ?_)
      · exact absurd c16 (by decide)
      · skip
        refine fz_aload_n dX11_order_19 rfl ?_
        refine fz_iload_n dX11_order_20 rfl ?_
        refine fz_iconst (v := nI 2) dX11_order_21 (by decide) ?_
        refine fz_callV (tX11_isKind f ki cn kn h80 m3 hki a 2 (by omega)) dX11_order_22 kX11_169 rfl (Nat.one_pos) ⟨rfl, rfl, trivial⟩ (Nat.le_of_ble_eq_true rfl) (Nat.le_of_ble_eq_true rfl) (Nat.le_of_ble_eq_true rfl) (Nat.le_of_ble_eq_true rfl) (Nat.le_of_ble_eq_true rfl) rfl (fun r U hq => ?_)
        obtain ⟨rfl, rfl⟩ := hq
        refine fz_back rfl ?_
        refine fz_wo (V' := wMd f sg ki dr fa sn wh en Rb Od Ta re le) rfl ?_
        by_cases ha : celK cn kn a = nI 2
        · rw [decide_eq_true ha]
          refine fz_if_eq (tgt := 71) dX11_order_25 (by decide) (fun c25 => ?_) (fun c25 => ?_)
          · exact absurd c25 (by decide)
          · skip
            refine fz_iload_n dX11_order_28 rfl ?_
            refine fz_iconst (v := -1) dX11_order_29 (by decide) ?_
            refine fz_icmp_ne (tgt := 42) dX11_order_30 (by decide) (fun hb => ?_) (fun hb => ?_)
            · skip
              refine fz_aload_n dX11_order_42 rfl ?_
              refine fz_iload_n dX11_order_43 rfl ?_
              refine fz_iconst (v := nI 2) dX11_order_44 (by decide) ?_
              refine fz_callV (tX11_isKind f ki cn kn h80 m3 hki b 2 (by omega)) dX11_order_45 kX11_169 rfl (Nat.one_pos) ⟨rfl, rfl, trivial⟩ (Nat.le_of_ble_eq_true rfl) (Nat.le_of_ble_eq_true rfl) (Nat.le_of_ble_eq_true rfl) (Nat.le_of_ble_eq_true rfl) (Nat.le_of_ble_eq_true rfl) rfl (fun r U hq => ?_)
              obtain ⟨rfl, rfl⟩ := hq
              refine fz_back rfl ?_
              refine fz_wo (V' := wMd f sg ki dr fa sn wh en Rb Od Ta re le) rfl ?_
              by_cases hb2 : celK cn kn b = nI 2
              · rw [decide_eq_true hb2]
                refine fz_if_eq (tgt := 71) dX11_order_48 (by decide) (fun c48 => ?_) (fun c48 => ?_)
                · exact absurd c48 (by decide)
                · skip
                  refine fz_iload dX11_order_51 rfl ?_
                  refine fz_iconst (v := -1) dX11_order_53 (by decide) ?_
                  refine fz_icmp_eq (tgt := 67) dX11_order_54 (by decide) (fun hc => ?_) (fun hc => ?_)
                  · exact good ⟨hx, by unfold shB; rw [if_neg hb, decide_eq_true ha, decide_eq_true hb2, decide_eq_true hc]; rfl⟩
                  · skip
                    refine fz_aload_n dX11_order_57 rfl ?_
                    refine fz_iload dX11_order_58 rfl ?_
                    refine fz_iconst (v := nI 2) dX11_order_60 (by decide) ?_
                    refine fz_callV (tX11_isKind f ki cn kn h80 m3 hki c 2 (by omega)) dX11_order_61 kX11_169 rfl (Nat.one_pos) ⟨rfl, rfl, trivial⟩ (Nat.le_of_ble_eq_true rfl) (Nat.le_of_ble_eq_true rfl) (Nat.le_of_ble_eq_true rfl) (Nat.le_of_ble_eq_true rfl) (Nat.le_of_ble_eq_true rfl) rfl (fun r U hq => ?_)
                    obtain ⟨rfl, rfl⟩ := hq
                    refine fz_back rfl ?_
                    refine fz_wo (V' := wMd f sg ki dr fa sn wh en Rb Od Ta re le) rfl ?_
                    by_cases hc2 : celK cn kn c = nI 2
                    · rw [decide_eq_true hc2]
                      refine fz_if_eq (tgt := 71) dX11_order_64 (by decide) (fun c64 => ?_) (fun c64 => ?_)
                      · exact absurd c64 (by decide)
                      · exact good ⟨hx, by unfold shB; rw [if_neg hb, decide_eq_true ha, decide_eq_true hb2, decide_eq_true hc2, Bool.or_true]; rfl⟩
                    · rw [decide_eq_false hc2]
                      refine fz_if_eq (tgt := 71) dX11_order_64 (by decide) (fun c64 => ?_) (fun c64 => ?_)
                      · exact bad (fun z => by have y := z.2; unfold shB at y; rw [if_neg hb, decide_eq_true ha, decide_eq_true hb2, decide_eq_false hc2, decide_eq_false hc] at y; cases y)
                      · exact absurd rfl c64
              · rw [decide_eq_false hb2]
                refine fz_if_eq (tgt := 71) dX11_order_48 (by decide) (fun c48 => ?_) (fun c48 => ?_)
                · exact bad (fun z => by have y := z.2; unfold shB at y; rw [if_neg hb, decide_eq_true ha, decide_eq_false hb2] at y; cases y)
                · exact absurd rfl c48
            · skip
              refine fz_iload dX11_order_33 rfl ?_
              refine fz_iconst (v := -1) dX11_order_35 (by decide) ?_
              refine fz_icmp_ne (tgt := 71) dX11_order_36 (by decide) (fun hc => ?_) (fun hc => ?_)
              · exact bad (fun z => by have y := z.2; unfold shB at y; rw [if_pos hb, decide_eq_true ha, decide_eq_false hc] at y; cases y)
              · skip
                refine fz_goto (tgt := 67) dX11_order_39 (by decide) ?_
                exact good ⟨hx, by unfold shB; rw [if_pos hb, decide_eq_true ha, decide_eq_true hc]; rfl⟩
        · rw [decide_eq_false ha]
          refine fz_if_eq (tgt := 71) dX11_order_25 (by decide) (fun c25 => ?_) (fun c25 => ?_)
          · exact bad (fun z => by have y := z.2; unfold shB at y; rw [decide_eq_false ha] at y; cases y)
          · exact absurd rfl c25
    · rw [decide_eq_false hx]
      refine fz_if_eq (tgt := 71) dX11_order_16 (by decide) (fun c16 => ?_) (fun c16 => ?_)
      · exact bad (fun z => hx z.1)
      · exact absurd rfl c16
  · have h0 : cn = 0 := (nI_eq (b := 0) (by omega) (by omega)).mp (c4.trans nI_0.symm)
    have e : ordF (tx, n, fp, cn, w, kn, on, tn, rn, O, T, P, te, B, t, A, wy, lg) x a b c = (-4, (tx, n, fp, cn, w, kn, on, tn, rn, O, T, P, te, B, t, A, wy, lg)) := by unfold ordF; simp only [if_pos h0]
    rw [e]
    refine fz_bipush (v := -4) dX11_order_7 (by decide) ?_
    refine fz_iret dX11_order_9 rfl (Nat.zero_le _) (Nat.zero_le _) ⟨rfl, hV⟩
theorem lX11_cancel {G : fz_G} {E0 : Nat → fz_E} {Z : List Frame → Array Value → State → State → Prop} (f sg ki dr fa sn wh en : Nat → Int32) (Rb Od : Nat → Nat → Int32) (re le : Nat → Int32) (T : Nat → Nat → Int32) (tn k a m : Nat) (htn : tn ≤ 90) (hk : k < 40) (hm3 : m ≤ 3) (ha : a + m ≤ tn) (h1 : Od 1 k = nI m) (h2 : Od 2 k = nI a)
    (kk : ∀ Ta, taR tn (cxT T a m) Ta → ∀ v, fz_J G mX11_cancel rX11_cancel Z E0 0 0 68 [(3, v), (2, zI (nI (pdc T a m))), (0, zR 30 0), (1, zI (nI k))] [] (wMd f sg ki dr fa sn wh en Rb Od Ta re le)) :
    ∀ q i, i + q = m → ∀ Ta, taR tn (cxT T a i) Ta → fz_J G mX11_cancel rX11_cancel Z E0 0 0 26 [(3, zI (nI (a + i))), (2, zI (nI (pdc T a i))), (0, zR 30 0), (1, zI (nI k))] [] (wMd f sg ki dr fa sn wh en Rb Od Ta re le) := by
  intro q
  induction q with
  | zero =>
    intro i hi Ta hta
    have e : i = m := by omega
    subst e
    refine fz_iload_n dX11_cancel_26 rfl ?_
    refine fz_aload_n dX11_cancel_27 rfl ?_
    refine fz_get dX11_cancel_28 fX11_54 rfl (Nat.one_pos) rfl ?_
    refine fz_iload_n dX11_cancel_31 rfl ?_
    refine fz_iald dX11_cancel_32 rfl rfl (Nat.one_pos) (vp_in_nI (by omega) (by omega)) ?_
    rw [nI_clamp (by omega), h2]
    refine fz_aload_n dX11_cancel_33 rfl ?_
    refine fz_get dX11_cancel_34 fX11_51 rfl (Nat.one_pos) rfl ?_
    refine fz_iload_n dX11_cancel_37 rfl ?_
    refine fz_iald dX11_cancel_38 rfl rfl (Nat.one_pos) (vp_in_nI (by omega) (by omega)) ?_
    rw [nI_clamp (by omega), h1]
    refine fz_iadd dX11_cancel_39 ?_
    rw [nI_add]
    refine fz_icmp_ge (tgt := 68) dX11_cancel_40 (by decide) (fun c40 => ?_) (fun c40 => ?_)
    · exact kk Ta hta _
    · exact absurd (nI_le (Nat.le_refl _) (by omega)) c40
  | succ q ih =>
    intro i hi Ta hta
    have t3 := hta (a + i) (by omega) 3 (by omega) (by omega)
    have e3 : cxT T a i (a + i) 3 = T (a + i) 3 := by unfold cxT; rw [if_neg (by omega)]
    rw [e3] at t3
    have hps := pdc_s T a i
    refine fz_iload_n dX11_cancel_26 rfl ?_
    refine fz_aload_n dX11_cancel_27 rfl ?_
    refine fz_get dX11_cancel_28 fX11_54 rfl (Nat.one_pos) rfl ?_
    refine fz_iload_n dX11_cancel_31 rfl ?_
    refine fz_iald dX11_cancel_32 rfl rfl (Nat.one_pos) (vp_in_nI (by omega) (by omega)) ?_
    rw [nI_clamp (by omega), h2]
    refine fz_aload_n dX11_cancel_33 rfl ?_
    refine fz_get dX11_cancel_34 fX11_51 rfl (Nat.one_pos) rfl ?_
    refine fz_iload_n dX11_cancel_37 rfl ?_
    refine fz_iald dX11_cancel_38 rfl rfl (Nat.one_pos) (vp_in_nI (by omega) (by omega)) ?_
    rw [nI_clamp (by omega), h1]
    refine fz_iadd dX11_cancel_39 ?_
    rw [nI_add]
    refine fz_icmp_ge (tgt := 68) dX11_cancel_40 (by decide) (fun c40 => ?_) (fun c40 => ?_)
    · exact absurd ((nI_leI (by omega) (by omega)).mp c40) (by omega)
    · skip
      refine fz_aload_n dX11_cancel_43 rfl ?_
      refine fz_get dX11_cancel_44 fX11_69 rfl (Nat.one_pos) rfl ?_
      refine fz_iload_n dX11_cancel_47 rfl ?_
      refine fz_iald dX11_cancel_48 rfl rfl (Nat.one_pos) (vp_in_nI (by omega) (by omega)) ?_
      rw [nI_clamp (by omega), t3]
      refine fz_if_ne (tgt := 62) dX11_cancel_49 (by decide) (fun c49 => ?_) (fun c49 => ?_)
      · have hne : ¬ T (a + i) 3 = nI 0 := fun z => c49 (by rw [z]; exact nI_0)
        rw [if_neg hne] at hps
        have hps : pdc T a (i + 1) = pdc T a i := hps
        rw [← hps]
        refine fz_incN dX11_cancel_62 rfl (Nat.le_of_ble_eq_true rfl) ?_
        refine fz_goto (tgt := 26) dX11_cancel_65 (by decide) ?_
        rw [cxT_s0 hne] at hta
        exact ih (i + 1) (by omega) Ta hta
      · have he : T (a + i) 3 = nI 0 := c49.trans nI_0.symm
        rw [if_pos he] at hps
        refine fz_aload_n dX11_cancel_52 rfl ?_
        refine fz_get dX11_cancel_53 fX11_69 rfl (Nat.one_pos) rfl ?_
        refine fz_iload_n dX11_cancel_56 rfl ?_
        refine fz_iconst (v := nI 4) dX11_cancel_57 (by decide) ?_
        refine fz_iast1 dX11_cancel_58 rfl rfl (vp_in_nI (by omega) (by omega)) ?_
        rw [nI_clamp (by omega)]
        refine fz_wo (V' := wMd f sg ki dr fa sn wh en Rb Od (va_up Ta 3 (upd (Ta 3) (a + i) (nI 4))) re le) rfl ?_
        refine fz_incN dX11_cancel_59 rfl (Nat.le_of_ble_eq_true rfl) ?_
        refine fz_incN dX11_cancel_62 rfl (Nat.le_of_ble_eq_true rfl) ?_
        refine fz_goto (tgt := 26) dX11_cancel_65 (by decide) ?_
        have h' := taR_up hta (a + i) (j := 3) (nI 4)
        rw [cxT_s1 he] at h'
        refine fz_ls (ls' := [(3, zI (nI (a + (i + 1)))), (2, zI (nI (pdc T a (i + 1)))), (0, zR 30 0), (1, zI (nI k))]) (by rw [hps]; rfl) ?_
        exact ih (i + 1) (by omega) _ h'
theorem odR_3 {on : Nat} {O Od : Nat → Nat → Int32} (h : odR on O Od) (k : Nat) (x : Int32) : odR on (va_up O k (upd (O k) 3 x)) Od := by
  intro i hi j hj hj3
  by_cases e : i = k
  · rw [e, va_up_self, upk hj3, ← e]; exact h i hi j hj hj3
  · rw [va_up_ne _ _ e]; exact h i hi j hj hj3
theorem md_cancel {G : fz_G} (σ : zS) (V : fz_W) (hI : inZ σ) (hV : mdR σ V) (x : Int32) : fz_T G mX11_cancel rX11_cancel [zR 30 0, zI x] V (fun r U => r = some (zI (canF σ x).1) ∧ mdR (canF σ x).2 U) := by
  obtain ⟨tx, n, fp, cn, w, kn, on, tn, rn, O, T, P, te, B, t, A, wy, lg⟩ := σ
  obtain ⟨i1, i2, i3, i4, i5, i6, i7, i8, i9⟩ := hI.1
  have hV2 := hV
  obtain ⟨f, sg, ki, dr, fa, sn, wh, en, Rb, Od, Ta, re, le, hm, hn, htq, h80, hki, hfa, hmt, hrb, hod, hta, rfl⟩ := hV2
  obtain ⟨m0, m2, m3, m4, m11, m12, m19, m20, m21, m22, m28⟩ := id hm
  refine fz_T.of (by decide) (Nat.le_of_ble_eq_true rfl) (fun E0 => ?_)
  refine fz_iload_n dX11_cancel_0 rfl ?_
  refine fz_iconst (v := nI 0) dX11_cancel_1 (by decide) ?_
  refine fz_aload_n dX11_cancel_2 rfl ?_
  refine fz_get dX11_cancel_3 fX11_147 rfl (Nat.one_pos) rfl ?_
  rw [m22]
  refine fz_iconst (v := nI 1) dX11_cancel_6 (by decide) ?_
  refine fz_isub dX11_cancel_7 ?_
  refine fz_callS (tX11_inn x on (by omega)) dX11_cancel_8 kX11_162 trivial (Nat.le_of_ble_eq_true rfl) (Nat.le_of_ble_eq_true rfl) (Nat.le_of_ble_eq_true rfl) (Nat.le_of_ble_eq_true rfl) (Nat.le_of_ble_eq_true rfl) rfl (fun r U hq => ?_)
  obtain ⟨rfl, rfl⟩ := hq
  refine fz_back rfl ?_
  refine fz_wo (V' := wMd f sg ki dr fa sn wh en Rb Od Ta re le) rfl ?_
  rcases ix_cases x (n := on) (by omega) with h | ⟨k, hk, rfl⟩
  · rw [if_pos h]
    have e : canF (tx, n, fp, cn, w, kn, on, tn, rn, O, T, P, te, B, t, A, wy, lg) x = (-2, (tx, n, fp, cn, w, kn, on, tn, rn, O, T, P, te, B, t, A, wy, lg)) := by unfold canF; simp only [if_pos h]
    rw [e]
    refine fz_if_ne (tgt := 17) dX11_cancel_11 (by decide) (fun c11 => ?_) (fun c11 => ?_)
    · exact absurd rfl c11
    · skip
      refine fz_bipush (v := -2) dX11_cancel_14 (by decide) ?_
      refine fz_iret dX11_cancel_16 rfl (Nat.zero_le _) (Nat.zero_le _) ⟨rfl, hV⟩
  · rw [if_neg (ix_in hk (by omega))]
    obtain ⟨a, m, d1, d2, d3, d4, d5, d6, d7, d8⟩ := i7 k hk
    have hle : opn T a m ≤ m := cnt_le _ _
    have hin : ∀ q, q < m → T (a + q) 0 = nI k := fun q hq => (d6 (a + q) (by omega)).mpr (by omega)
    have hst : ∀ q, q < m → tst T (a + q) = tst T a := by
      intro q hq
      obtain ⟨-, ⟨b1, b2, b3⟩, o, c1, c2, c3⟩ := i6 a (by omega)
      obtain ⟨-, ⟨e1, e2, e3⟩, o', f1, f2, f3⟩ := i6 (a + q) (by omega)
      have ho : o = k := by
        have := hin 0 (by omega)
        rw [Nat.add_zero] at this
        exact (nI_eq (by omega) (by omega)).mp (c2.symm.trans this)
      have ho' : o' = k := (nI_eq (by omega) (by omega)).mp (f2.symm.trans (hin q hq))
      rw [ho] at c3
      rw [ho'] at f3
      unfold tst
      rw [← f3, ← c3]
    obtain ⟨x1, x2, x3⟩ := cxT_cnt (n := m) d5 hst m (Nat.le_refl _)
    rw [canF_in i1 hk d1 d2 d7 d4 (by omega) (by omega)]
    have o1 := hod k hk 1 (by omega) (by omega)
    have o2 := hod k hk 2 (by omega) (by omega)
    have o5 := hod k hk 5 (by omega) (by omega)
    refine fz_if_ne (tgt := 17) dX11_cancel_11 (by decide) (fun c11 => ?_) (fun c11 => ?_)
    · skip
      refine fz_iconst (v := nI 0) dX11_cancel_17 (by decide) ?_
      refine fz_istore_n dX11_cancel_18 (Nat.le_of_ble_eq_true rfl) ?_
      refine fz_aload_n dX11_cancel_19 rfl ?_
      refine fz_get dX11_cancel_20 fX11_54 rfl (Nat.one_pos) rfl ?_
      refine fz_iload_n dX11_cancel_23 rfl ?_
      refine fz_iald dX11_cancel_24 rfl rfl (Nat.one_pos) (vp_in_nI (by omega) (by omega)) ?_
      rw [nI_clamp (by omega), o2, d2]
      refine fz_istore_n dX11_cancel_25 (Nat.le_of_ble_eq_true rfl) ?_
      refine lX11_cancel f sg ki dr fa sn wh en Rb Od re le T tn k a m i2 (by omega) d4 d5 (by rw [o1, d1]) (by rw [o2, d2]) ?_ m 0 (by omega) Ta (by rw [cxT_0]; exact hta)
      intro Ta' hta' v
      have fin : ∀ Od', odR on (va_up O k (cxO (O k) (opn T a m) (pdc T a m) (nI t))) Od' → mdR (tx, n, fp, cn, w, kn, on, tn, rn, va_up O k (cxO (O k) (opn T a m) (pdc T a m) (nI t)), cxT T a m, P, te, B, t, A, wy, lg) (wMd f sg ki dr fa sn wh en Rb Od' Ta' re le) := fun Od' h' => ⟨f, sg, ki, dr, fa, sn, wh, en, Rb, Od', Ta', re, le, hm, hn, htq, h80, hki, hfa, hmt, hrb, h', hta', rfl⟩
      refine fz_aload_n dX11_cancel_68 rfl ?_
      refine fz_iload_n dX11_cancel_69 rfl ?_
      refine fz_callV (tX11_close f Od Ta' (cxT T a m) k a m t m11 (by omega) (by omega) (by rw [o1, d1]) (by rw [o2, d2]) (fun q hq => hta' (a + q) (by omega) 3 (by omega) (by omega))) dX11_cancel_70 kX11_179 rfl (Nat.one_pos) ⟨rfl, rfl, rfl, rfl, rfl, trivial⟩ (Nat.le_of_ble_eq_true rfl) (Nat.le_of_ble_eq_true rfl) (Nat.le_of_ble_eq_true rfl) (Nat.le_of_ble_eq_true rfl) (Nat.le_of_ble_eq_true rfl) rfl (fun r U hq => ?_)
      obtain ⟨rfl, rfl⟩ := hq
      refine fz_back rfl ?_
      refine fz_wo (V' := wMd f sg ki dr fa sn wh en Rb (if Od 5 k < 0 ∧ opn (cxT T a m) a m = 0 then va_up Od 5 (upd (Od 5) k (nI t)) else Od) Ta' re le) (by split <;> rfl) ?_
      have hod' : odR on (va_up O k (cxO (O k) (opn T a m) (pdc T a m) (nI t))) (if Od 5 k < 0 ∧ opn (cxT T a m) a m = 0 then va_up Od 5 (upd (Od 5) k (nI t)) else Od) := by
        rw [o5]
        unfold cxO
        by_cases p0 : pdc T a m = 0
        · rw [if_pos p0, va_upI, if_neg]
          · exact hod
          · rintro ⟨y1, y2⟩
            rw [if_pos (by omega)] at d8
            exact absurd y1 (Int32.not_lt.mpr d8)
        · rw [if_neg p0]
          by_cases pu : opn T a m = pdc T a m
          · rw [if_neg (by omega)] at d8
            rw [if_pos pu, if_pos ⟨by rw [d8]; decide, by omega⟩]
            have h3 := odR_up (odR_3 hod k (nI 0)) k (j := 5) (nI t)
            rw [va_up_self, va_upU] at h3
            exact h3
          · rw [if_neg pu, if_neg (fun z => pu (by omega))]
            exact odR_3 hod k _
      refine fz_iload_n dX11_cancel_73 rfl ?_
      refine fz_iret dX11_cancel_74 rfl (Nat.zero_le _) (Nat.zero_le _) ⟨rfl, fin _ hod'⟩
    · exact absurd c11 (by decide)
