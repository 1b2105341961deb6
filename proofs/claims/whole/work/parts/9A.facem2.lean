/-! THE MODEL: its face, what only looks -/
theorem fz_T.sup {G : fz_G} {M : fz_M} {R : Room} {as : List fz_V} {V' W' : fz_W} {Q' Q : Option fz_V → fz_W → Prop} (h : fz_T G M R as V' Q') (hs : fz_sub V' W') (hq : ∀ r U, Q' r U → fz_in U W' = true ∧ Q r (fz_mg U W')) : fz_T G M R as W' Q := by
  intro E0 p e ha hc hk s m args below hf h1 h2 h3
  have h2' : fz_Pc G (fz_d W' E0) as V' args s := by
    obtain ⟨a, b, c⟩ := h2
    exact ⟨a, by rw [fz_d_sub hs]; exact b, c⟩
  obtain ⟨k, o, a1, a2, a3, a4⟩ := h (fz_d W' E0) p e ha hc hk s m args below hf h1 h2' h3
  obtain ⟨⟨⟨r, U, b1, b2, b3⟩, b4⟩, b5⟩ := a4
  obtain ⟨g1, g2⟩ := hq r U b2
  exact ⟨k, o, a1, a2, a3, ⟨⟨r, fz_mg U W', b1, g2, by rw [← fz_d_mg g1]; exact b3⟩, b4⟩, b5⟩
theorem md_type {G : fz_G} (σ : zS) (V : fz_W) (hV : mdR σ V) (x : Int64) : fz_T G mX11_type rX11_type [zR 30 0, zL x] V (fun r U => r = some (zI (typF σ x).1) ∧ mdR (typF σ x).2 U) := by
  obtain ⟨tx, n, fp, cn, w, kn, on, tn, rn, O, T, P, te, B, t, A, wy, lg⟩ := σ
  obtain ⟨f, sg, ki, dr, fa, sn, wh, en, Rb, Od, Ta, re, le, hm, hn, htq, h80, hki, hfa, hmt, hrb, hod, hta, rfl⟩ := hV
  obtain ⟨m0, m2, m3, m4, m11, m12, m19, m20, m21, m22, m28⟩ := id hm
  refine fz_T.sup (tX11_type x n hn f m0 sg tx htq) ⟨rfl, rfl, trivial⟩ (fun r U hq => ?_)
  by_cases h : n + nb x ≤ 90
  · have e : typF (tx, n, fp, cn, w, kn, on, tn, rn, O, T, P, te, B, t, A, wy, lg) x = (nI (n + nb x), (apx tx n x, n + nb x, fp, cn, w, kn, on, tn, rn, O, T, P, te, B, t, A, wy, lg)) := by unfold typF; simp only [if_pos h]
    rw [if_pos h] at hq
    obtain ⟨rfl, sg', hsg, rfl⟩ := hq
    rw [e]
    refine ⟨rfl, rfl, upd f 0 (nI (n + nb x)), sg', ki, dr, fa, sn, wh, en, Rb, Od, Ta, re, le, ⟨pk_us, ?_, ?_, ?_, ?_, ?_, ?_, ?_, ?_, ?_, ?_⟩, h, hsg, h80, hki, hfa, hmt, hrb, hod, hta, rfl⟩
    all_goals (rw [upk (by decide)]; assumption)
  · have e : typF (tx, n, fp, cn, w, kn, on, tn, rn, O, T, P, te, B, t, A, wy, lg) x = (-3, (tx, n, fp, cn, w, kn, on, tn, rn, O, T, P, te, B, t, A, wy, lg)) := by unfold typF; simp only [if_neg h]
    rw [if_neg h] at hq
    obtain ⟨rfl, rfl⟩ := hq
    rw [e]
    exact ⟨rfl, rfl, f, sg, ki, dr, fa, sn, wh, en, Rb, Od, Ta, re, le, hm, hn, htq, h80, hki, hfa, hmt, hrb, hod, hta, rfl⟩
theorem md_erase {G : fz_G} (σ : zS) (V : fz_W) (hV : mdR σ V) : fz_T G mX11_erase rX11_erase [zR 30 0] V (fun r U => r = some (zI (eraF σ).1) ∧ mdR (eraF σ).2 U) := by
  obtain ⟨tx, n, fp, cn, w, kn, on, tn, rn, O, T, P, te, B, t, A, wy, lg⟩ := σ
  obtain ⟨f, sg, ki, dr, fa, sn, wh, en, Rb, Od, Ta, re, le, hm, hn, htq, h80, hki, hfa, hmt, hrb, hod, hta, rfl⟩ := hV
  obtain ⟨m0, m2, m3, m4, m11, m12, m19, m20, m21, m22, m28⟩ := id hm
  refine fz_T.sup (tX11_erase f) ⟨rfl, trivial⟩ (fun r U hq => ?_)
  obtain ⟨rfl, rfl⟩ := hq
  refine ⟨rfl, by rw [m0]; rfl, upd f 0 (nI 0), sg, ki, dr, fa, sn, wh, en, Rb, Od, Ta, re, le, ⟨pk_us, ?_, ?_, ?_, ?_, ?_, ?_, ?_, ?_, ?_, ?_⟩, Nat.zero_le _, fun j hj => absurd hj (Nat.not_lt_zero j), h80, hki, hfa, hmt, hrb, hod, hta, rfl⟩
  all_goals (rw [upk (by decide)]; assumption)
theorem md_same {G : fz_G} {M : fz_M} {R : Room} {as : List fz_V} {σ : zS} {V V' : fz_W} {v : Int32} (hV : mdR σ V) (h : fz_T G M R as V' (fun r U => r = some (zI v) ∧ U = V')) (hs : fz_sub V' V) (hi : fz_in V' V = true) (hm : fz_mg V' V = V) : fz_T G M R as V (fun r U => r = some (zI v) ∧ mdR σ U) :=
  fz_T.sup h hs (fun r U hq => by obtain ⟨rfl, rfl⟩ := hq; exact ⟨hi, rfl, by rw [hm]; exact hV⟩)
theorem md_place {G : fz_G} (σ : zS) (V : fz_W) (hV : mdR σ V) : fz_T G mX11_place rX11_place [zR 30 0] V (fun r U => r = some (zI σ.2.2.1) ∧ mdR σ U) := by
  obtain ⟨tx, n, fp, cn, w, kn, on, tn, rn, O, T, P, te, B, t, A, wy, lg⟩ := σ
  have hV2 := hV
  obtain ⟨f, sg, ki, dr, fa, sn, wh, en, Rb, Od, Ta, re, le, hm, hn, htq, h80, hki, hfa, hmt, hrb, hod, hta, rfl⟩ := hV2
  have key := tX11_place (G := G) f
  rw [hm.2.1] at key
  exact md_same hV key ⟨rfl, trivial⟩ rfl rfl
theorem md_cell {G : fz_G} (σ : zS) (V : fz_W) (hV : mdR σ V) (x : Int32) : fz_T G mX11_cell rX11_cell [zR 30 0, zI x] V (fun r U => r = some (zI (celK σ.2.2.2.1 σ.2.2.2.2.2.1 x)) ∧ mdR σ U) := by
  obtain ⟨tx, n, fp, cn, w, kn, on, tn, rn, O, T, P, te, B, t, A, wy, lg⟩ := σ
  have hV2 := hV
  obtain ⟨f, sg, ki, dr, fa, sn, wh, en, Rb, Od, Ta, re, le, hm, hn, htq, h80, hki, hfa, hmt, hrb, hod, hta, rfl⟩ := hV2
  exact md_same hV (tX11_cell f ki cn kn h80 hm.2.2.1 hki x) ⟨rfl, rfl, trivial⟩ rfl rfl
theorem md_distance {G : fz_G} (σ : zS) (V : fz_W) (hV : mdR σ V) (x y : Int32) : fz_T G mX11_distance rX11_distance [zR 30 0, zI x, zI y] V (fun r U => r = some (zI (dstF σ.2.2.2.1 σ.2.2.2.2.1 σ.2.2.2.2.2.1 x y)) ∧ mdR σ U) := by
  obtain ⟨tx, n, fp, cn, w, kn, on, tn, rn, O, T, P, te, B, t, A, wy, lg⟩ := σ
  have hV2 := hV
  obtain ⟨f, sg, ki, dr, fa, sn, wh, en, Rb, Od, Ta, re, le, hm, hn, htq, h80, hki, hfa, hmt, hrb, hod, hta, rfl⟩ := hV2
  exact md_same hV (tX11_distance f fa cn w kn h80 hm.2.2.1 hfa x y) ⟨rfl, rfl, trivial⟩ rfl rfl
theorem lX11_pending {G : fz_G} {E0 : Nat → fz_E} (f : Nat → Int32) (Ta T : Nat → Nat → Int32) (tn : Nat) (htn : tn ≤ 90) (hT : taR tn T Ta) (m28 : f 28 = nI tn) : ∀ q i, i + q = tn → fz_J G mX11_pending rX11_pending (fz_Z G E0 rX11_pending.cells rX11_pending.slots (fun x U => x = some (zI (nI (pnd T tn))) ∧ U = [(30, eM f), (71, e90 (Ta 3))])) E0 0 0 4 [(2, zI (nI i)), (1, zI (nI (pnd T i))), (0, zR 30 0)] [] [(30, eM f), (71, e90 (Ta 3))] := by
  intro q
  induction q with
  | zero =>
    intro i hi
    have e : i = tn := by omega
    subst e
    refine fz_iload_n dX11_pending_4 rfl ?_
    refine fz_aload_n dX11_pending_5 rfl ?_
    refine fz_get dX11_pending_6 fX11_150 rfl (Nat.one_pos) rfl ?_
    rw [m28]
    refine fz_icmp_ge (tgt := 35) dX11_pending_9 (by decide) (fun c9 => ?_) (fun c9 => ?_)
    · skip
      refine fz_iload_n dX11_pending_35 rfl ?_
      refine fz_iret dX11_pending_36 rfl (Nat.zero_le _) (Nat.zero_le _) ⟨rfl, rfl⟩
    · exact absurd (nI_le (Nat.le_refl _) (by omega)) c9
  | succ q ih =>
    intro i hi
    have t3 := hT i (by omega) 3 (by omega) (by omega)
    have hst : pnd T (i + 1) = pnd T i + if decide (T i 3 = nI 0) = true then 1 else 0 := rfl
    refine fz_iload_n dX11_pending_4 rfl ?_
    refine fz_aload_n dX11_pending_5 rfl ?_
    refine fz_get dX11_pending_6 fX11_150 rfl (Nat.one_pos) rfl ?_
    rw [m28]
    refine fz_icmp_ge (tgt := 35) dX11_pending_9 (by decide) (fun c9 => ?_) (fun c9 => ?_)
    · exact absurd ((nI_leI (by omega) (by omega)).mp c9) (by omega)
    · skip
      refine fz_aload_n dX11_pending_12 rfl ?_
      refine fz_get dX11_pending_13 fX11_69 rfl (Nat.one_pos) rfl ?_
      refine fz_iload_n dX11_pending_16 rfl ?_
      refine fz_iald dX11_pending_17 rfl rfl (Nat.one_pos) (vp_in_nI (by omega) (by omega)) ?_
      rw [nI_clamp (by omega), t3]
      refine fz_if_ne (tgt := 27) dX11_pending_18 (by decide) (fun c18 => ?_) (fun c18 => ?_)
      · have hne : ¬ T i 3 = nI 0 := fun z => c18 (by rw [z]; exact nI_0)
        rw [decide_eq_false hne, if_neg Bool.noConfusion] at hst
        have hst : pnd T (i + 1) = pnd T i := hst
        refine fz_iload_n dX11_pending_27 rfl ?_
        rw [← hst]
        refine fz_istore_n dX11_pending_28 (Nat.le_of_ble_eq_true rfl) ?_
        refine fz_incN dX11_pending_29 rfl (Nat.le_of_ble_eq_true rfl) ?_
        refine fz_goto (tgt := 4) dX11_pending_32 (by decide) ?_
        exact ih (i + 1) (by omega)
      · have he : T i 3 = nI 0 := c18.trans nI_0.symm
        rw [decide_eq_true he, if_pos rfl] at hst
        refine fz_iload_n dX11_pending_21 rfl ?_
        refine fz_iconst (v := nI 1) dX11_pending_22 (by decide) ?_
        refine fz_iadd dX11_pending_23 ?_
        rw [nI_add, ← hst]
        refine fz_goto (tgt := 28) dX11_pending_24 (by decide) ?_
        refine fz_istore_n dX11_pending_28 (Nat.le_of_ble_eq_true rfl) ?_
        refine fz_incN dX11_pending_29 rfl (Nat.le_of_ble_eq_true rfl) ?_
        refine fz_goto (tgt := 4) dX11_pending_32 (by decide) ?_
        exact ih (i + 1) (by omega)
theorem tX11_pending {G : fz_G} (f : Nat → Int32) (Ta T : Nat → Nat → Int32) (tn : Nat) (htn : tn ≤ 90) (hT : taR tn T Ta) (m28 : f 28 = nI tn) : fz_T G mX11_pending rX11_pending [zR 30 0] [(30, eM f), (71, e90 (Ta 3))] (fun x U => x = some (zI (nI (pnd T tn))) ∧ U = [(30, eM f), (71, e90 (Ta 3))]) := by
  refine fz_T.of (by decide) (Nat.le_of_ble_eq_true rfl) (fun E0 => ?_)
  refine fz_iconst (v := nI 0) dX11_pending_0 (by decide) ?_
  refine fz_istore_n dX11_pending_1 (Nat.le_of_ble_eq_true rfl) ?_
  refine fz_iconst (v := nI 0) dX11_pending_2 (by decide) ?_
  refine fz_istore_n dX11_pending_3 (Nat.le_of_ble_eq_true rfl) ?_
  exact lX11_pending f Ta T tn htn hT m28 tn 0 (by omega)
theorem lX11_allMoves {G : fz_G} {E0 : Nat → fz_E} (f : Nat → Int32) (Rb B : Nat → Nat → Int32) (rn : Nat) (hrn : rn ≤ 6) (hb : rbR rn B Rb) (m12 : f 12 = nI rn) : ∀ q i, i + q = rn → fz_J G mX11_allMoves rX11_allMoves (fz_Z G E0 rX11_allMoves.cells rX11_allMoves.slots (fun x U => x = some (zI (smI B rn)) ∧ U = [(30, eM f), (56, e6 (Rb 1))])) E0 0 0 4 [(2, zI (nI i)), (1, zI (smI B i)), (0, zR 30 0)] [] [(30, eM f), (56, e6 (Rb 1))] := by
  intro q
  induction q with
  | zero =>
    intro i hi
    have e : i = rn := by omega
    subst e
    refine fz_iload_n dX11_allMoves_4 rfl ?_
    refine fz_aload_n dX11_allMoves_5 rfl ?_
    refine fz_get dX11_allMoves_6 fX11_144 rfl (Nat.one_pos) rfl ?_
    rw [m12]
    refine fz_icmp_ge (tgt := 27) dX11_allMoves_9 (by decide) (fun c9 => ?_) (fun c9 => ?_)
    · skip
      refine fz_iload_n dX11_allMoves_27 rfl ?_
      refine fz_iret dX11_allMoves_28 rfl (Nat.zero_le _) (Nat.zero_le _) ⟨rfl, rfl⟩
    · exact absurd (nI_le (Nat.le_refl _) (by omega)) c9
  | succ q ih =>
    intro i hi
    refine fz_iload_n dX11_allMoves_4 rfl ?_
    refine fz_aload_n dX11_allMoves_5 rfl ?_
    refine fz_get dX11_allMoves_6 fX11_144 rfl (Nat.one_pos) rfl ?_
    rw [m12]
    refine fz_icmp_ge (tgt := 27) dX11_allMoves_9 (by decide) (fun c9 => ?_) (fun c9 => ?_)
    · exact absurd ((nI_leI (by omega) (by omega)).mp c9) (by omega)
    · skip
      refine fz_iload_n dX11_allMoves_12 rfl ?_
      refine fz_aload_n dX11_allMoves_13 rfl ?_
      refine fz_get dX11_allMoves_14 fX11_39 rfl (Nat.one_pos) rfl ?_
      refine fz_iload_n dX11_allMoves_17 rfl ?_
      refine fz_iald dX11_allMoves_18 rfl rfl (Nat.one_pos) (vp_in_nI (by omega) (by omega)) ?_
      rw [nI_clamp (by omega), hb i (by omega) 1 (by omega)]
      refine fz_iadd dX11_allMoves_19 ?_
      refine fz_istore_n dX11_allMoves_20 (Nat.le_of_ble_eq_true rfl) ?_
      refine fz_incN dX11_allMoves_21 rfl (Nat.le_of_ble_eq_true rfl) ?_
      refine fz_goto (tgt := 4) dX11_allMoves_24 (by decide) ?_
      exact ih (i + 1) (by omega)
theorem tX11_allMoves {G : fz_G} (f : Nat → Int32) (Rb B : Nat → Nat → Int32) (rn : Nat) (hrn : rn ≤ 6) (hb : rbR rn B Rb) (m12 : f 12 = nI rn) : fz_T G mX11_allMoves rX11_allMoves [zR 30 0] [(30, eM f), (56, e6 (Rb 1))] (fun x U => x = some (zI (smI B rn)) ∧ U = [(30, eM f), (56, e6 (Rb 1))]) := by
  refine fz_T.of (by decide) (Nat.le_of_ble_eq_true rfl) (fun E0 => ?_)
  refine fz_iconst (v := nI 0) dX11_allMoves_0 (by decide) ?_
  refine fz_istore_n dX11_allMoves_1 (Nat.le_of_ble_eq_true rfl) ?_
  refine fz_iconst (v := nI 0) dX11_allMoves_2 (by decide) ?_
  refine fz_istore_n dX11_allMoves_3 (Nat.le_of_ble_eq_true rfl) ?_
  exact lX11_allMoves f Rb B rn hrn hb m12 rn 0 (by omega)
theorem md_count {G : fz_G} (σ : zS) (V : fz_W) (hI : inZ σ) (hV : mdR σ V) (x : Int32) : fz_T G mX11_count rX11_count [zR 30 0, zI x] V (fun r U => r = some (zI (cnF σ x)) ∧ mdR σ U) := by
  obtain ⟨tx, n, fp, cn, w, kn, on, tn, rn, O, T, P, te, B, t, A, wy, lg⟩ := σ
  obtain ⟨i1, i2, i3, i4, i5, i6, i7, i8, i9⟩ := hI.1
  have hV2 := hV
  obtain ⟨f, sg, ki, dr, fa, sn, wh, en, Rb, Od, Ta, re, le, hm, hn, htq, h80, hki, hfa, hmt, hrb, hod, hta, rfl⟩ := hV2
  obtain ⟨m0, m2, m3, m4, m11, m12, m19, m20, m21, m22, m28⟩ := id hm
  refine fz_T.of (by decide) (Nat.le_of_ble_eq_true rfl) (fun E0 => ?_)
  refine fz_iload_n dX11_count_0 rfl ?_
  rcases pk_ix x (n := 11) (by omega) with h | h | ⟨j, hj, rfl⟩
  · refine fz_tableOut (tgt := 115) dX11_count_1 (tw_out (n := 11) (by omega) (Or.inl h)) (by decide) ?_
    refine fz_bipush (v := -2) dX11_count_115 (by decide) ?_
    refine fz_iret dX11_count_117 rfl (Nat.zero_le _) (Nat.zero_le _) ⟨by unfold cnF; simp only [if_pos (show x < 0 ∨ nI 11 ≤ x from Or.inl h)], hV⟩
  · refine fz_tableOut (tgt := 115) dX11_count_1 (tw_out (n := 11) (by omega) (Or.inr h)) (by decide) ?_
    refine fz_bipush (v := -2) dX11_count_115 (by decide) ?_
    refine fz_iret dX11_count_117 rfl (Nat.zero_le _) (Nat.zero_le _) ⟨by unfold cnF; simp only [if_pos (show x < 0 ∨ nI 11 ≤ x from Or.inr h)], hV⟩
  · have e : cnF (tx, n, fp, cn, w, kn, on, tn, rn, O, T, P, te, B, t, A, wy, lg) (nI j) = if j = 0 then nI cn else if j = 1 then nI rn else if j = 2 then nI on else if j = 3 then nI (opO O on) else if j = 4 then nI tn else if j = 5 then nI (pnd T tn) else if j = 6 then nI t else if j = 7 then nI A else if j = 8 then nI wy else if j = 9 then nI lg else smI B rn := by
      unfold cnF
      have he : ∀ i, i < 11 → (nI j = nI i ↔ j = i) := fun i hi => nI_eq (by omega) (by omega)
      simp only [if_neg (ix_in hj (show 11 < 2 ^ 30 by omega)), he 0 (by omega), he 1 (by omega), he 2 (by omega), he 3 (by omega), he 4 (by omega), he 5 (by omega), he 6 (by omega), he 7 (by omega), he 8 (by omega), he 9 (by omega)]
    rw [e]
    rcases (show j = 0 ∨ j = 1 ∨ j = 2 ∨ j = 3 ∨ j = 4 ∨ j = 5 ∨ j = 6 ∨ j = 7 ∨ j = 8 ∨ j = 9 ∨ j = 10 by omega) with rfl | rfl | rfl | rfl | rfl | rfl | rfl | rfl | rfl | rfl | rfl
    · refine fz_tableIn (off := 59) (tgt := 60) dX11_count_1 (by decide) (by decide) (by decide) (by decide) ?_
      refine fz_aload_n dX11_count_60 rfl ?_
      refine fz_get dX11_count_61 fX11_132 rfl (Nat.one_pos) rfl ?_
      refine fz_iret dX11_count_64 rfl (Nat.zero_le _) (Nat.zero_le _) ⟨by rw [m3]; rfl, hV⟩
    · refine fz_tableIn (off := 64) (tgt := 65) dX11_count_1 (by decide) (by decide) (by decide) (by decide) ?_
      refine fz_aload_n dX11_count_65 rfl ?_
      refine fz_get dX11_count_66 fX11_144 rfl (Nat.one_pos) rfl ?_
      refine fz_iret dX11_count_69 rfl (Nat.zero_le _) (Nat.zero_le _) ⟨by rw [m12]; rfl, hV⟩
    · refine fz_tableIn (off := 69) (tgt := 70) dX11_count_1 (by decide) (by decide) (by decide) (by decide) ?_
      refine fz_aload_n dX11_count_70 rfl ?_
      refine fz_get dX11_count_71 fX11_147 rfl (Nat.one_pos) rfl ?_
      refine fz_iret dX11_count_74 rfl (Nat.zero_le _) (Nat.zero_le _) ⟨by rw [m22]; rfl, hV⟩
    · refine fz_tableIn (off := 74) (tgt := 75) dX11_count_1 (by decide) (by decide) (by decide) (by decide) ?_
      refine fz_aload_n dX11_count_75 rfl ?_
      refine fz_callV (tX11_openOrders f Od Ta on tn i1 i2 O T i7 hod hta m22) dX11_count_76 kX11_240 rfl (Nat.one_pos) ⟨rfl, rfl, rfl, rfl, trivial⟩ (Nat.le_of_ble_eq_true rfl) (Nat.le_of_ble_eq_true rfl) (Nat.le_of_ble_eq_true rfl) (Nat.le_of_ble_eq_true rfl) (Nat.le_of_ble_eq_true rfl) rfl (fun r U hq => ?_)
      obtain ⟨rfl, rfl⟩ := hq
      refine fz_back rfl ?_
      refine fz_iret dX11_count_79 rfl (Nat.zero_le _) (Nat.zero_le _) ⟨rfl, hV⟩
    · refine fz_tableIn (off := 79) (tgt := 80) dX11_count_1 (by decide) (by decide) (by decide) (by decide) ?_
      refine fz_aload_n dX11_count_80 rfl ?_
      refine fz_get dX11_count_81 fX11_150 rfl (Nat.one_pos) rfl ?_
      refine fz_iret dX11_count_84 rfl (Nat.zero_le _) (Nat.zero_le _) ⟨by rw [m28]; rfl, hV⟩
    · refine fz_tableIn (off := 84) (tgt := 85) dX11_count_1 (by decide) (by decide) (by decide) (by decide) ?_
      refine fz_aload_n dX11_count_85 rfl ?_
      refine fz_callV (tX11_pending f Ta T tn i2 hta m28) dX11_count_86 kX11_243 rfl (Nat.one_pos) ⟨rfl, rfl, trivial⟩ (Nat.le_of_ble_eq_true rfl) (Nat.le_of_ble_eq_true rfl) (Nat.le_of_ble_eq_true rfl) (Nat.le_of_ble_eq_true rfl) (Nat.le_of_ble_eq_true rfl) rfl (fun r U hq => ?_)
      obtain ⟨rfl, rfl⟩ := hq
      refine fz_back rfl ?_
      refine fz_iret dX11_count_89 rfl (Nat.zero_le _) (Nat.zero_le _) ⟨rfl, hV⟩
    · refine fz_tableIn (off := 89) (tgt := 90) dX11_count_1 (by decide) (by decide) (by decide) (by decide) ?_
      refine fz_aload_n dX11_count_90 rfl ?_
      refine fz_get dX11_count_91 fX11_141 rfl (Nat.one_pos) rfl ?_
      refine fz_iret dX11_count_94 rfl (Nat.zero_le _) (Nat.zero_le _) ⟨by rw [m11]; rfl, hV⟩
    · refine fz_tableIn (off := 94) (tgt := 95) dX11_count_1 (by decide) (by decide) (by decide) (by decide) ?_
      refine fz_aload_n dX11_count_95 rfl ?_
      refine fz_get dX11_count_96 fX11_153 rfl (Nat.one_pos) rfl ?_
      refine fz_iret dX11_count_99 rfl (Nat.zero_le _) (Nat.zero_le _) ⟨by rw [m19]; rfl, hV⟩
    · refine fz_tableIn (off := 99) (tgt := 100) dX11_count_1 (by decide) (by decide) (by decide) (by decide) ?_
      refine fz_aload_n dX11_count_100 rfl ?_
      refine fz_get dX11_count_101 fX11_156 rfl (Nat.one_pos) rfl ?_
      refine fz_iret dX11_count_104 rfl (Nat.zero_le _) (Nat.zero_le _) ⟨by rw [m20]; rfl, hV⟩
    · refine fz_tableIn (off := 104) (tgt := 105) dX11_count_1 (by decide) (by decide) (by decide) (by decide) ?_
      refine fz_aload_n dX11_count_105 rfl ?_
      refine fz_get dX11_count_106 fX11_159 rfl (Nat.one_pos) rfl ?_
      refine fz_iret dX11_count_109 rfl (Nat.zero_le _) (Nat.zero_le _) ⟨by rw [m21]; rfl, hV⟩
    · refine fz_tableIn (off := 109) (tgt := 110) dX11_count_1 (by decide) (by decide) (by decide) (by decide) ?_
      refine fz_aload_n dX11_count_110 rfl ?_
      refine fz_callV (tX11_allMoves f Rb B rn i3 hrb m12) dX11_count_111 kX11_246 rfl (Nat.one_pos) ⟨rfl, rfl, trivial⟩ (Nat.le_of_ble_eq_true rfl) (Nat.le_of_ble_eq_true rfl) (Nat.le_of_ble_eq_true rfl) (Nat.le_of_ble_eq_true rfl) (Nat.le_of_ble_eq_true rfl) rfl (fun r U hq => ?_)
      obtain ⟨rfl, rfl⟩ := hq
      refine fz_back rfl ?_
      refine fz_iret dX11_count_114 rfl (Nat.zero_le _) (Nat.zero_le _) ⟨rfl, hV⟩
