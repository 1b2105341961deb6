/-! THE MODEL: isOpen, close, settleRobot -/
abbrev wOp (f : Nat → Int32) (Od Ta : Nat → Nat → Int32) : fz_W := [(30, eM f), (64, e40 (Od 1)), (65, e40 (Od 2)), (71, e90 (Ta 3))]
theorem opn_s (T : Nat → Nat → Int32) (a q : Nat) : opn T a (q + 1) = opn T a q + if T (a + q) 3 < nI 3 then 1 else 0 := by
  show cnt _ q + _ = _
  simp only [decide_eq_true_eq]
  rfl
theorem lX11_isOpen {G : fz_G} {E0 : Nat → fz_E} (f : Nat → Int32) (Od Ta : Nat → Nat → Int32) (T : Nat → Nat → Int32) (o a n : Nat) (ho : o < 40) (ha : a + n ≤ 90) (h1 : Od 1 o = nI n) (h2 : Od 2 o = nI a) (hT : ∀ q, q < n → Ta 3 (a + q) = T (a + q) 3) :
    ∀ q i, i + q = n → fz_J G mX11_isOpen rX11_isOpen (fz_Z G E0 rX11_isOpen.cells rX11_isOpen.slots (fun x U => x = some (zI (bI (decide (0 < opn T a n)))) ∧ U = wOp f Od Ta)) E0 0 0 9 [(3, zI (nI (a + i))), (2, zI (bI (decide (0 < opn T a i)))), (0, zR 30 0), (1, zI (nI o))] [] (wOp f Od Ta) := by
  intro q
  induction q with
  | zero =>
    intro i hi
    have e : i = n := by omega
    subst e
    refine fz_iload_n dX11_isOpen_9 rfl ?_
    refine fz_aload_n dX11_isOpen_10 rfl ?_
    refine fz_get dX11_isOpen_11 fX11_54 rfl (Nat.one_pos) rfl ?_
    refine fz_iload_n dX11_isOpen_14 rfl ?_
    refine fz_iald dX11_isOpen_15 rfl rfl (Nat.one_pos) (vp_in_nI (by omega) (by omega)) ?_
    rw [nI_clamp (by omega), h2]
    refine fz_aload_n dX11_isOpen_16 rfl ?_
    refine fz_get dX11_isOpen_17 fX11_51 rfl (Nat.one_pos) rfl ?_
    refine fz_iload_n dX11_isOpen_20 rfl ?_
    refine fz_iald dX11_isOpen_21 rfl rfl (Nat.one_pos) (vp_in_nI (by omega) (by omega)) ?_
    rw [nI_clamp (by omega), h1]
    refine fz_iadd dX11_isOpen_22 ?_
    rw [nI_add]
    refine fz_icmp_ge (tgt := 52) dX11_isOpen_23 (by decide) (fun c23 => ?_) (fun c23 => ?_)
    · skip
      refine fz_iload_n dX11_isOpen_52 rfl ?_
      refine fz_zret dX11_isOpen_53 rfl (by cases decide (0 < opn T a i) <;> decide) (Nat.zero_le _) (Nat.zero_le _) ⟨rfl, rfl⟩
    · exact absurd (nI_le (Nat.le_refl _) (by omega)) c23
  | succ q ih =>
    intro i hi
    have hst := opn_s T a i
    have yes : 0 < opn T a (i + 1) → ∀ y, fz_J G mX11_isOpen rX11_isOpen (fz_Z G E0 rX11_isOpen.cells rX11_isOpen.slots (fun x U => x = some (zI (bI (decide (0 < opn T a n)))) ∧ U = wOp f Od Ta)) E0 0 0 40 [(3, zI (nI (a + i))), (2, zI y), (0, zR 30 0), (1, zI (nI o))] [] (wOp f Od Ta) := by
      intro he y
      refine fz_iconst (v := nI 1) dX11_isOpen_40 (by decide) ?_
      refine fz_goto (tgt := 45) dX11_isOpen_41 (by decide) ?_
      refine fz_istore_n dX11_isOpen_45 (Nat.le_of_ble_eq_true rfl) ?_
      refine fz_incN dX11_isOpen_46 rfl (Nat.le_of_ble_eq_true rfl) ?_
      refine fz_goto (tgt := 9) dX11_isOpen_49 (by decide) ?_
      have := ih (i + 1) (by omega)
      rw [decide_eq_true he] at this
      exact this
    have no : ¬ 0 < opn T a (i + 1) → ∀ y, fz_J G mX11_isOpen rX11_isOpen (fz_Z G E0 rX11_isOpen.cells rX11_isOpen.slots (fun x U => x = some (zI (bI (decide (0 < opn T a n)))) ∧ U = wOp f Od Ta)) E0 0 0 44 [(3, zI (nI (a + i))), (2, zI y), (0, zR 30 0), (1, zI (nI o))] [] (wOp f Od Ta) := by
      intro he y
      refine fz_iconst (v := nI 0) dX11_isOpen_44 (by decide) ?_
      refine fz_istore_n dX11_isOpen_45 (Nat.le_of_ble_eq_true rfl) ?_
      refine fz_incN dX11_isOpen_46 rfl (Nat.le_of_ble_eq_true rfl) ?_
      refine fz_goto (tgt := 9) dX11_isOpen_49 (by decide) ?_
      have := ih (i + 1) (by omega)
      rw [decide_eq_false he] at this
      exact this
    refine fz_iload_n dX11_isOpen_9 rfl ?_
    refine fz_aload_n dX11_isOpen_10 rfl ?_
    refine fz_get dX11_isOpen_11 fX11_54 rfl (Nat.one_pos) rfl ?_
    refine fz_iload_n dX11_isOpen_14 rfl ?_
    refine fz_iald dX11_isOpen_15 rfl rfl (Nat.one_pos) (vp_in_nI (by omega) (by omega)) ?_
    rw [nI_clamp (by omega), h2]
    refine fz_aload_n dX11_isOpen_16 rfl ?_
    refine fz_get dX11_isOpen_17 fX11_51 rfl (Nat.one_pos) rfl ?_
    refine fz_iload_n dX11_isOpen_20 rfl ?_
    refine fz_iald dX11_isOpen_21 rfl rfl (Nat.one_pos) (vp_in_nI (by omega) (by omega)) ?_
    rw [nI_clamp (by omega), h1]
    refine fz_iadd dX11_isOpen_22 ?_
    rw [nI_add]
    refine fz_icmp_ge (tgt := 52) dX11_isOpen_23 (by decide) (fun c23 => ?_) (fun c23 => ?_)
    · exact absurd ((nI_leI (by omega) (by omega)).mp c23) (by omega)
    · skip
      refine fz_iload_n dX11_isOpen_26 rfl ?_
      by_cases hp : 0 < opn T a i
      · rw [decide_eq_true hp]
        refine fz_if_ne (tgt := 40) dX11_isOpen_27 (by decide) (fun c27 => ?_) (fun c27 => ?_)
        · exact yes (by omega) _
        · exact absurd c27 (by decide)
      · rw [decide_eq_false hp]
        refine fz_if_ne (tgt := 40) dX11_isOpen_27 (by decide) (fun c27 => ?_) (fun c27 => ?_)
        · exact absurd rfl c27
        · skip
          refine fz_aload_n dX11_isOpen_30 rfl ?_
          refine fz_get dX11_isOpen_31 fX11_69 rfl (Nat.one_pos) rfl ?_
          refine fz_iload_n dX11_isOpen_34 rfl ?_
          refine fz_iald dX11_isOpen_35 rfl rfl (Nat.one_pos) (vp_in_nI (by omega) (by omega)) ?_
          refine fz_iconst (v := nI 3) dX11_isOpen_36 (by decide) ?_
          rw [nI_clamp (by omega), hT i (by omega)]
          refine fz_icmp_ge (tgt := 44) dX11_isOpen_37 (by decide) (fun c37 => ?_) (fun c37 => ?_)
          · rw [if_neg (Int32.not_lt.mpr c37)] at hst
            exact no (by omega) _
          · rw [if_pos (Int32.not_le.mp c37)] at hst
            exact yes (by omega) _
theorem tX11_isOpen {G : fz_G} (f : Nat → Int32) (Od Ta : Nat → Nat → Int32) (T : Nat → Nat → Int32) (o a n : Nat) (ho : o < 40) (ha : a + n ≤ 90) (h1 : Od 1 o = nI n) (h2 : Od 2 o = nI a) (hT : ∀ q, q < n → Ta 3 (a + q) = T (a + q) 3) :
    fz_T G mX11_isOpen rX11_isOpen [zR 30 0, zI (nI o)] (wOp f Od Ta) (fun x U => x = some (zI (bI (decide (0 < opn T a n)))) ∧ U = wOp f Od Ta) := by
  refine fz_T.of (by decide) (Nat.le_of_ble_eq_true rfl) (fun E0 => ?_)
  refine fz_iconst (v := nI 0) dX11_isOpen_0 (by decide) ?_
  refine fz_istore_n dX11_isOpen_1 (Nat.le_of_ble_eq_true rfl) ?_
  refine fz_aload_n dX11_isOpen_2 rfl ?_
  refine fz_get dX11_isOpen_3 fX11_54 rfl (Nat.one_pos) rfl ?_
  refine fz_iload_n dX11_isOpen_6 rfl ?_
  refine fz_iald dX11_isOpen_7 rfl rfl (Nat.one_pos) (vp_in_nI (by omega) (by omega)) ?_
  rw [nI_clamp (by omega), h2]
  refine fz_istore_n dX11_isOpen_8 (Nat.le_of_ble_eq_true rfl) ?_
  exact lX11_isOpen f Od Ta T o a n ho ha h1 h2 hT n 0 (by omega)
abbrev wCs (f : Nat → Int32) (Od Ta : Nat → Nat → Int32) : fz_W := [(30, eM f), (64, e40 (Od 1)), (65, e40 (Od 2)), (67, e40 (Od 5)), (71, e90 (Ta 3))]
theorem tX11_close {G : fz_G} (f : Nat → Int32) (Od Ta : Nat → Nat → Int32) (T : Nat → Nat → Int32) (o a n t : Nat) (hf11 : f 11 = nI t) (ho : o < 40) (ha : a + n ≤ 90) (h1 : Od 1 o = nI n) (h2 : Od 2 o = nI a) (hT : ∀ q, q < n → Ta 3 (a + q) = T (a + q) 3) :
    fz_T G mX11_close rX11_close [zR 30 0, zI (nI o)] (wCs f Od Ta) (fun x U => x = none ∧ U = wCs f (if Od 5 o < 0 ∧ opn T a n = 0 then va_up Od 5 (upd (Od 5) o (nI t)) else Od) Ta) := by
  refine fz_T.of (by decide) (Nat.le_of_ble_eq_true rfl) (fun E0 => ?_)
  refine fz_aload_n dX11_close_0 rfl ?_
  refine fz_get dX11_close_1 fX11_60 rfl (Nat.one_pos) rfl ?_
  refine fz_iload_n dX11_close_4 rfl ?_
  refine fz_iald dX11_close_5 rfl rfl (Nat.one_pos) (vp_in_nI (by omega) (by omega)) ?_
  rw [nI_clamp (by omega)]
  refine fz_if_ge (tgt := 27) dX11_close_6 (by decide) (fun c6 => ?_) (fun c6 => ?_)
  · skip
    refine fz_vret dX11_close_27 rfl (Nat.zero_le _) (Nat.zero_le _) ⟨rfl, by rw [if_neg (fun z => absurd z.1 (Int32.not_lt.mpr c6))]⟩
  · have hlt : Od 5 o < 0 := Int32.not_le.mp c6
    refine fz_aload_n dX11_close_9 rfl ?_
    refine fz_iload_n dX11_close_10 rfl ?_
    refine fz_callV (tX11_isOpen f Od Ta T o a n ho ha h1 h2 hT) dX11_close_11 kX11_176 rfl (Nat.one_pos) ⟨rfl, rfl, rfl, rfl, trivial⟩ (Nat.le_of_ble_eq_true rfl) (Nat.le_of_ble_eq_true rfl) (Nat.le_of_ble_eq_true rfl) (Nat.le_of_ble_eq_true rfl) (Nat.le_of_ble_eq_true rfl) rfl (fun r U hq => ?_)
    obtain ⟨rfl, rfl⟩ := hq
    refine fz_back rfl ?_
    refine fz_wo (V' := wCs f Od Ta) rfl ?_
    by_cases hp : 0 < opn T a n
    · rw [decide_eq_true hp]
      refine fz_if_ne (tgt := 27) dX11_close_14 (by decide) (fun c14 => ?_) (fun c14 => ?_)
      · skip
        refine fz_vret dX11_close_27 rfl (Nat.zero_le _) (Nat.zero_le _) ⟨rfl, by rw [if_neg (fun z => by omega)]⟩
      · exact absurd c14 (by decide)
    · rw [decide_eq_false hp]
      refine fz_if_ne (tgt := 27) dX11_close_14 (by decide) (fun c14 => ?_) (fun c14 => ?_)
      · exact absurd rfl c14
      · skip
        refine fz_aload_n dX11_close_17 rfl ?_
        refine fz_get dX11_close_18 fX11_60 rfl (Nat.one_pos) rfl ?_
        refine fz_iload_n dX11_close_21 rfl ?_
        refine fz_aload_n dX11_close_22 rfl ?_
        refine fz_get dX11_close_23 fX11_141 rfl (Nat.one_pos) rfl ?_
        rw [hf11]
        refine fz_iast1 dX11_close_26 rfl rfl (vp_in_nI (by omega) (by omega)) ?_
        rw [nI_clamp (by omega)]
        refine fz_vret dX11_close_27 rfl (Nat.zero_le _) (Nat.zero_le _) ⟨rfl, by rw [if_pos ⟨hlt, by omega⟩]; rfl⟩
theorem tX11_settleRobot {G : fz_G} (tx : Nat → Nat) (n : Nat) (fp : Int32) (cn w : Nat) (kn : Nat → Nat) (on tn rn : Nat) (s : fS) (E : Nat → Nat) (V : fz_W) (r : Nat) (hr : r < rn) (hI : inF cn kn on tn rn s) (ht1 : 1 ≤ tmF s) (hEr : E r = max (s.2.2.2.1 r) (tmF s)) (hV : mdE E (tx, n, fp, cn, w, kn, on, tn, rn, s) V) :
    fz_T G mX11_settleRobot rX11_settleRobot [zR 30 0, zI (nI r)] V (fun x U => x = none ∧ mdE E (tx, n, fp, cn, w, kn, on, tn, rn, gOn s r) U) := by
  obtain ⟨O, T, P, te, B, t, A, wy, lg⟩ := s
  have hI2 := inF_mv (r := r) hI
  obtain ⟨i1, i2, i3, i4, i5, i6, i7, i8, i9⟩ := hI
  obtain ⟨f, sg, ki, dr, fa, sn, wh, en, Rb, Od, Ta, re, le, hm, hn, htq, h80, hki, hfa, hmt, hrb, hod, hta, rfl⟩ := hV
  obtain ⟨m0, m2, m3, m4, m11, m12, m19, m20, m21, m22, m28⟩ := id hm
  have ht1 : 1 ≤ t := ht1
  have hEr : E r = max (te r) t := hEr
  obtain ⟨e1, e2, e3, e4, e5, e6'⟩ := hmt r hr
  have p1 := e6' t
  have p2 := e6' (t - 1)
  refine fz_T.of (by decide) (Nat.le_of_ble_eq_true rfl) (fun E0 => ?_)
  refine fz_aload_n dX11_settleRobot_0 rfl ?_
  refine fz_get dX11_settleRobot_1 fX11_36 rfl (Nat.one_pos) rfl ?_
  refine fz_iload_n dX11_settleRobot_4 rfl ?_
  refine fz_iald dX11_settleRobot_5 rfl rfl (Nat.one_pos) (vp_in_nI (by omega) (by omega)) ?_
  rw [nI_clamp (by omega), hrb r hr 0 (by omega)]
  refine fz_istore_n dX11_settleRobot_6 (Nat.le_of_ble_eq_true rfl) ?_
  refine fz_aload_n dX11_settleRobot_7 rfl ?_
  refine fz_get dX11_settleRobot_8 fX11_39 rfl (Nat.one_pos) rfl ?_
  refine fz_iload_n dX11_settleRobot_11 rfl ?_
  refine fz_dup2_11 dX11_settleRobot_12 rfl rfl ?_
  refine fz_iald dX11_settleRobot_13 rfl rfl (Nat.one_pos) (vp_in_nI (by omega) (by omega)) ?_
  rw [nI_clamp (by omega), hrb r hr 1 (by omega)]
  refine fz_aload_n dX11_settleRobot_14 rfl ?_
  refine fz_iload_n dX11_settleRobot_15 rfl ?_
  refine fz_aload_n dX11_settleRobot_16 rfl ?_
  refine fz_get dX11_settleRobot_17 fX11_141 rfl (Nat.one_pos) rfl ?_
  rw [m11]
  refine fz_callV (tX11_at f wh en E rn i3 P te hmt r t hr (by omega)) dX11_settleRobot_20 kX11_166 rfl (Nat.one_pos) ⟨rfl, rfl, rfl, trivial⟩ (Nat.le_of_ble_eq_true rfl) (Nat.le_of_ble_eq_true rfl) (Nat.le_of_ble_eq_true rfl) (Nat.le_of_ble_eq_true rfl) (Nat.le_of_ble_eq_true rfl) rfl (fun r U hq => ?_)
  obtain ⟨rfl, rfl⟩ := hq
  refine fz_back rfl ?_
  refine fz_wo (V' := wMd f sg ki dr fa sn wh en Rb Od Ta re le) rfl ?_
  refine fz_aload_n dX11_settleRobot_23 rfl ?_
  refine fz_iload_n dX11_settleRobot_24 rfl ?_
  refine fz_aload_n dX11_settleRobot_25 rfl ?_
  refine fz_get dX11_settleRobot_26 fX11_141 rfl (Nat.one_pos) rfl ?_
  rw [m11]
  refine fz_iconst (v := nI 1) dX11_settleRobot_29 (by decide) ?_
  refine fz_isub dX11_settleRobot_30 ?_
  rw [show nI t - nI 1 = nI (t - 1) from pk_sub (by omega)]
  refine fz_callV (tX11_at f wh en E rn i3 P te hmt r (t - 1) hr (by omega)) dX11_settleRobot_31 kX11_166 rfl (Nat.one_pos) ⟨rfl, rfl, rfl, trivial⟩ (Nat.le_of_ble_eq_true rfl) (Nat.le_of_ble_eq_true rfl) (Nat.le_of_ble_eq_true rfl) (Nat.le_of_ble_eq_true rfl) (Nat.le_of_ble_eq_true rfl) rfl (fun r U hq => ?_)
  obtain ⟨rfl, rfl⟩ := hq
  refine fz_back rfl ?_
  refine fz_wo (V' := wMd f sg ki dr fa sn wh en Rb Od Ta re le) rfl ?_
  have main : ∀ (v : Int32) B', (B' = if P r t = P r (t - 1) then B else va_up B r (upd (B r) 1 (B r 1 + 1))) → va_up B r (upd (B r) 1 (B r 1 + v)) = B' → fz_J G mX11_settleRobot rX11_settleRobot (fz_Z G E0 rX11_settleRobot.cells rX11_settleRobot.slots (fun x U => x = none ∧ mdE E (tx, n, fp, cn, w, kn, on, tn, rn, gOn (O, T, P, te, B, t, A, wy, lg) r) U)) E0 0 0 42 [(2, zI (B r 0)), (0, zR 30 0), (1, zI (nI r))] [zI v, zI (B r 1), zI (nI r), zR 56 0] (wMd f sg ki dr fa sn wh en Rb Od Ta re le) := by
    intro v B' hB' hBv
    have hmv : mvB (O, T, P, te, B, t, A, wy, lg) r = (O, T, P, te, B', t, A, wy, lg) := by rw [hB']; rfl
    rw [hmv] at hI2
    have hgo : gOn (O, T, P, te, B, t, A, wy, lg) r = wkO (O, T, P, te, B', t, A, wy, lg) r := by unfold gOn; rw [hmv]
    have hrb1 := rbR_up hrb r (j := 1) (B r 1 + v)
    rw [hBv] at hrb1
    have hB0 : B' r 0 = B r 0 := by rw [← hBv, va_up_self, upk (by decide)]
    have hB2 : B' r 2 = B r 2 := by rw [← hBv, va_up_self, upk (by decide)]
    rw [hgo]
    refine fz_iadd dX11_settleRobot_42 ?_
    refine fz_iast1 dX11_settleRobot_43 rfl rfl (vp_in_nI (by omega) (by omega)) ?_
    rw [nI_clamp (by omega)]
    refine fz_wo (V' := wMd f sg ki dr fa sn wh en (va_up Rb 1 (upd (Rb 1) r (B r 1 + v))) Od Ta re le) rfl ?_
    refine fz_iload_n dX11_settleRobot_44 rfl ?_
    rcases hI2.2.2.2.2.2.2.2.2 r hr with hb | ⟨k, hk, hbk⟩
    · have hb2 := hB0.symm.trans hb
      have e : wkO (O, T, P, te, B', t, A, wy, lg) r = (O, T, P, te, B', t, A, wy, lg) := by
        unfold wkO
        simp only [if_pos hb]
      rw [e, hb2]
      refine fz_if_ge (tgt := 49) dX11_settleRobot_45 (by decide) (fun c45 => ?_) (fun c45 => ?_)
      · exact absurd c45 (by decide)
      · skip
        refine fz_vret dX11_settleRobot_48 rfl (Nat.zero_le _) (Nat.zero_le _) ⟨rfl, f, sg, ki, dr, fa, sn, wh, en, _, Od, Ta, re, le, hm, hn, htq, h80, hki, hfa, hmt, hrb1, hod, hta, rfl⟩
    · have hbk2 := hB0.symm.trans hbk
      have hb1 : ¬ B' r 0 = -1 := by rw [hbk]; exact oI_ne (by omega)
      have hbT := bT_of hbk (by omega)
      obtain ⟨⟨a1, a2, a3⟩, ⟨b1, b2, b3⟩, -⟩ := i6 k hk
      have t1 := hta k hk 1 (by omega) (by omega)
      have t3 := hta k hk 3 (by omega) (by omega)
      have hs1 := pkT_sT T k (P r t) t
      have w1 : tWf cn kn on tn O (pkT T k (P r t) t) := tWf_sT hs1 (fun _ => rfl) i6
      have w2 : oWf on tn O (pkT T k (P r t) t) := oWf_sT hs1 (fun i _ => pkT_lt T k (P r t) t i) i7
      rw [hbk2]
      have bring : ∀ Ta1, taR tn (pkT T k (P r t) t) Ta1 → fz_J G mX11_settleRobot rX11_settleRobot (fz_Z G E0 rX11_settleRobot.cells rX11_settleRobot.slots (fun x U => x = none ∧ mdE E (tx, n, fp, cn, w, kn, on, tn, rn, wkO (O, T, P, te, B', t, A, wy, lg) r) U)) E0 0 0 94 [(2, zI (nI k)), (0, zR 30 0), (1, zI (nI r))] [] (wMd f sg ki dr fa sn wh en (va_up Rb 1 (upd (Rb 1) r (B r 1 + v))) Od Ta1 re le) := by
        intro Ta1 hta1
        have nobr : ¬ (pkT T k (P r t) t k 3 = nI 2 ∧ te r ≤ t) → fz_J G mX11_settleRobot rX11_settleRobot (fz_Z G E0 rX11_settleRobot.cells rX11_settleRobot.slots (fun x U => x = none ∧ mdE E (tx, n, fp, cn, w, kn, on, tn, rn, wkO (O, T, P, te, B', t, A, wy, lg) r) U)) E0 0 0 161 [(2, zI (nI k)), (0, zR 30 0), (1, zI (nI r))] [] (wMd f sg ki dr fa sn wh en (va_up Rb 1 (upd (Rb 1) r (B r 1 + v))) Od Ta1 re le) := by
          intro hno
          have e : wkO (O, T, P, te, B', t, A, wy, lg) r = (O, pkT T k (P r t) t, P, te, B', t, A, wy, lg) := by
            unfold wkO
            simp only [if_neg hb1, hbT, if_neg hno]
          rw [e]
          refine fz_vret dX11_settleRobot_161 rfl (Nat.zero_le _) (Nat.zero_le _) ⟨rfl, f, sg, ki, dr, fa, sn, wh, en, _, Od, Ta1, re, le, hm, hn, htq, h80, hki, hfa, hmt, hrb1, hod, hta1, rfl⟩
        have t31 := hta1 k hk 3 (by omega) (by omega)
        have t01 := hta1 k hk 0 (by omega) (by omega)
        refine fz_aload_n dX11_settleRobot_94 rfl ?_
        refine fz_get dX11_settleRobot_95 fX11_69 rfl (Nat.one_pos) rfl ?_
        refine fz_iload_n dX11_settleRobot_98 rfl ?_
        refine fz_iald dX11_settleRobot_99 rfl rfl (Nat.one_pos) (vp_in_nI (by omega) (by omega)) ?_
        refine fz_iconst (v := nI 2) dX11_settleRobot_100 (by decide) ?_
        rw [nI_clamp (by omega), t31]
        refine fz_icmp_ne (tgt := 161) dX11_settleRobot_101 (by decide) (fun c101 => ?_) (fun c101 => ?_)
        · exact nobr (fun z => c101 z.1)
        · skip
          refine fz_aload_n dX11_settleRobot_104 rfl ?_
          refine fz_get dX11_settleRobot_105 fX11_33 rfl (Nat.one_pos) rfl ?_
          refine fz_iload_n dX11_settleRobot_108 rfl ?_
          refine fz_iald dX11_settleRobot_109 rfl rfl (Nat.one_pos) (vp_in_nI (by omega) (by omega)) ?_
          rw [nI_clamp (by omega), e1, hEr]
          refine fz_aload_n dX11_settleRobot_110 rfl ?_
          refine fz_get dX11_settleRobot_111 fX11_141 rfl (Nat.one_pos) rfl ?_
          rw [m11]
          refine fz_icmp_ne (tgt := 161) dX11_settleRobot_114 (by decide) (fun c114 => ?_) (fun c114 => ?_)
          · exact nobr (fun z => c114 (by rw [show max (te r) t = t by omega]))
          · have hte : te r ≤ t := by have := (nI_eq (by omega) (by omega)).mp c114; omega
            obtain ⟨o, u, x1, x2, x3, x4, x5, x6, x7, x8, x9⟩ := oWf_br (b := upd (upd (pkT T k (P r t) t k) 3 (nI 3)) 8 (nI t)) hk i2 i1 i4 (by rw [c101]; decide) (by rw [upk (by decide), pk_us]; decide) (fun j hj => by rw [upk (by omega), upk (by omega)]) w1 w2
            have ex3 : tor T k = o := by rw [← x3]; unfold tor; rw [hs1 k 0 (by omega)]
            have e : wkO (O, T, P, te, B', t, A, wy, lg) r = (va_up O o (fin1 (O o) u (nI t)), va_up (pkT T k (P r t) t) k (upd (upd (pkT T k (P r t) t k) 3 (nI 3)) 8 (nI t)), P, te, va_up B' r (upd (upd (B' r) 0 (-1)) 2 (B' r 2 + 1)), t, A, wy, lg) := by
              unfold wkO
              simp only [if_neg hb1, hbT, if_pos (show pkT T k (P r t) t k 3 = nI 2 ∧ te r ≤ t from ⟨c101, hte⟩), ex3]
              rw [finI_fin1 x4 x5]
            rw [e]
            obtain ⟨a, q, y1, y2, y3, y4, y5, y6, y7, y8⟩ := x6 o x1
            rw [va_up_self] at y1 y2 y7 y8
            rw [fin1_3] at y7
            rw [fin1_k (by decide) (by decide)] at y1 y2
            have hle : opn (va_up (pkT T k (P r t) t) k (upd (upd (pkT T k (P r t) t k) 3 (nI 3)) 8 (nI t))) a q ≤ q := cnt_le _ _
            have hu : u = opn (va_up (pkT T k (P r t) t) k (upd (upd (pkT T k (P r t) t k) 3 (nI 3)) 8 (nI t))) a q := (nI_eq (by omega) (by omega)).mp y7
            have ho5 : O o 5 = -1 := by
              obtain ⟨a', q', z1, z2, z3, z4, z5, z6, z7, z8⟩ := i7 o x1
              have hle' : opn T a' q' ≤ q' := cnt_le _ _
              have : opn T a' q' = u + 1 := (nI_eq (by omega) (by omega)).mp (z7.symm.trans x5)
              rw [if_neg (by omega)] at z8
              exact z8
            have hta2 := taR_up (taR_up hta1 k (j := 3) (nI 3)) k (j := 8) (nI t)
            simp only [va_up_self, va_upU] at hta2
            have hrb2 := rbR_up (rbR_up hrb1 r (j := 2) (B' r 2 + 1)) r (j := 0) (-1)
            simp only [va_up_self, va_upU] at hrb2
            rw [upd_cm (B' r) (B' r 2 + 1) (-1) (show 2 ≠ 0 by decide)] at hrb2
            refine fz_aload_n dX11_settleRobot_117 rfl ?_
            refine fz_get dX11_settleRobot_118 fX11_69 rfl (Nat.one_pos) rfl ?_
            refine fz_iload_n dX11_settleRobot_121 rfl ?_
            refine fz_iconst (v := nI 3) dX11_settleRobot_122 (by decide) ?_
            refine fz_iast1 dX11_settleRobot_123 rfl rfl (vp_in_nI (by omega) (by omega)) ?_
            rw [nI_clamp (by omega)]
            refine fz_aload_n dX11_settleRobot_124 rfl ?_
            refine fz_get dX11_settleRobot_125 fX11_84 rfl (Nat.one_pos) rfl ?_
            refine fz_iload_n dX11_settleRobot_128 rfl ?_
            refine fz_aload_n dX11_settleRobot_129 rfl ?_
            refine fz_get dX11_settleRobot_130 fX11_141 rfl (Nat.one_pos) rfl ?_
            rw [m11]
            refine fz_iast1 dX11_settleRobot_133 rfl rfl (vp_in_nI (by omega) (by omega)) ?_
            rw [nI_clamp (by omega)]
            refine fz_aload_n dX11_settleRobot_134 rfl ?_
            refine fz_get dX11_settleRobot_135 fX11_42 rfl (Nat.one_pos) rfl ?_
            refine fz_iload_n dX11_settleRobot_138 rfl ?_
            refine fz_dup2_11 dX11_settleRobot_139 rfl rfl ?_
            refine fz_iald dX11_settleRobot_140 rfl rfl (Nat.one_pos) (vp_in_nI (by omega) (by omega)) ?_
            rw [nI_clamp (by omega)]
            refine fz_top (y := B' r 2) (by rw [hB2]; exact hrb r hr 2 (by omega)) ?_
            refine fz_iconst (v := nI 1) dX11_settleRobot_141 (by decide) ?_
            refine fz_iadd dX11_settleRobot_142 ?_
            refine fz_iast1 dX11_settleRobot_143 rfl rfl (vp_in_nI (by omega) (by omega)) ?_
            rw [nI_clamp (by omega)]
            refine fz_aload_n dX11_settleRobot_144 rfl ?_
            refine fz_get dX11_settleRobot_145 fX11_36 rfl (Nat.one_pos) rfl ?_
            refine fz_iload_n dX11_settleRobot_148 rfl ?_
            refine fz_iconst (v := -1) dX11_settleRobot_149 (by decide) ?_
            refine fz_iast1 dX11_settleRobot_150 rfl rfl (vp_in_nI (by omega) (by omega)) ?_
            rw [nI_clamp (by omega)]
            refine fz_wo (V' := wMd f sg ki dr fa sn wh en (va_up (va_up (va_up Rb 1 (upd (Rb 1) r (B r 1 + v))) 2 (upd (va_up Rb 1 (upd (Rb 1) r (B r 1 + v)) 2) r (B' r 2 + 1))) 0 (upd (va_up (va_up Rb 1 (upd (Rb 1) r (B r 1 + v))) 2 (upd (va_up Rb 1 (upd (Rb 1) r (B r 1 + v)) 2) r (B' r 2 + 1)) 0) r (-1))) Od (va_up (va_up Ta1 3 (upd (Ta1 3) k (nI 3))) 8 (upd (va_up Ta1 3 (upd (Ta1 3) k (nI 3)) 8) k (nI t))) re le) rfl ?_
            refine fz_aload_n dX11_settleRobot_151 rfl ?_
            refine fz_aload_n dX11_settleRobot_152 rfl ?_
            refine fz_get dX11_settleRobot_153 fX11_63 rfl (Nat.one_pos) rfl ?_
            refine fz_iload_n dX11_settleRobot_156 rfl ?_
            refine fz_iald dX11_settleRobot_157 rfl rfl (Nat.one_pos) (vp_in_nI (by omega) (by omega)) ?_
            rw [nI_clamp (by omega)]
            refine fz_top (y := nI o) (t01.trans x2) ?_
            refine fz_callV (tX11_close f Od (va_up (va_up Ta1 3 (upd (Ta1 3) k (nI 3))) 8 (upd (va_up Ta1 3 (upd (Ta1 3) k (nI 3)) 8) k (nI t))) (va_up (pkT T k (P r t) t) k (upd (upd (pkT T k (P r t) t k) 3 (nI 3)) 8 (nI t))) o a q t m11 (by omega) (by omega) ((hod o x1 1 (by omega) (by omega)).trans y1) ((hod o x1 2 (by omega) (by omega)).trans y2) (fun i hi => hta2 (a + i) (by omega) 3 (by omega) (by omega))) dX11_settleRobot_158 kX11_179 rfl (Nat.one_pos) ⟨rfl, rfl, rfl, rfl, rfl, trivial⟩ (Nat.le_of_ble_eq_true rfl) (Nat.le_of_ble_eq_true rfl) (Nat.le_of_ble_eq_true rfl) (Nat.le_of_ble_eq_true rfl) (Nat.le_of_ble_eq_true rfl) rfl (fun r U hq => ?_)
            obtain ⟨rfl, rfl⟩ := hq
            have hod5 : Od 5 o = -1 := (hod o x1 5 (by omega) (by omega)).trans ho5
            rw [← hu, hod5]
            by_cases hu0 : u = 0
            · rw [if_pos ⟨by decide, hu0⟩]
              refine fz_back rfl ?_
              have hodn : odR on (va_up O o (fin1 (O o) u (nI t))) (va_up Od 5 (upd (Od 5) o (nI t))) := by
                have z := odR_up hod o (j := 5) (nI t)
                intro i hi j hj hj3
                rw [z i hi j hj hj3]
                by_cases ei : i = o
                · rw [ei, va_up_self, va_up_self]
                  unfold fin1
                  rw [if_pos hu0]
                  by_cases e5 : j = 5
                  · rw [e5, pk_us, pk_us]
                  · rw [upk e5, upk e5, upk hj3]
                · rw [va_up_ne _ _ ei, va_up_ne _ _ ei]
              refine fz_vret dX11_settleRobot_161 rfl (Nat.zero_le _) (Nat.zero_le _) ⟨rfl, f, sg, ki, dr, fa, sn, wh, en, _, _, _, re, le, hm, hn, htq, h80, hki, hfa, hmt, hrb2, hodn, hta2, rfl⟩
            · rw [if_neg (fun z => hu0 z.2)]
              refine fz_back rfl ?_
              have hodn : odR on (va_up O o (fin1 (O o) u (nI t))) Od := by
                intro i hi j hj hj3
                by_cases ei : i = o
                · rw [ei, va_up_self]
                  unfold fin1
                  rw [if_neg hu0, upk hj3, ← ei]
                  exact hod i hi j hj hj3
                · rw [va_up_ne _ _ ei]
                  exact hod i hi j hj hj3
              refine fz_vret dX11_settleRobot_161 rfl (Nat.zero_le _) (Nat.zero_le _) ⟨rfl, f, sg, ki, dr, fa, sn, wh, en, _, _, _, re, le, hm, hn, htq, h80, hki, hfa, hmt, hrb2, hodn, hta2, rfl⟩
      have nopk : ¬ (T k 3 = nI 1 ∧ nI (P r t) = T k 1) → fz_J G mX11_settleRobot rX11_settleRobot (fz_Z G E0 rX11_settleRobot.cells rX11_settleRobot.slots (fun x U => x = none ∧ mdE E (tx, n, fp, cn, w, kn, on, tn, rn, wkO (O, T, P, te, B', t, A, wy, lg) r) U)) E0 0 0 94 [(2, zI (nI k)), (0, zR 30 0), (1, zI (nI r))] [] (wMd f sg ki dr fa sn wh en (va_up Rb 1 (upd (Rb 1) r (B r 1 + v))) Od Ta re le) := by
        intro hno
        have e : pkT T k (P r t) t = T := by unfold pkT; rw [if_neg hno]
        exact bring Ta (by rw [e]; exact hta)
      refine fz_if_ge (tgt := 49) dX11_settleRobot_45 (by decide) (fun c45 => ?_) (fun c45 => ?_)
      · skip
        refine fz_aload_n dX11_settleRobot_49 rfl ?_
        refine fz_get dX11_settleRobot_50 fX11_69 rfl (Nat.one_pos) rfl ?_
        refine fz_iload_n dX11_settleRobot_53 rfl ?_
        refine fz_iald dX11_settleRobot_54 rfl rfl (Nat.one_pos) (vp_in_nI (by omega) (by omega)) ?_
        refine fz_iconst (v := nI 1) dX11_settleRobot_55 (by decide) ?_
        rw [nI_clamp (by omega), t3]
        refine fz_icmp_ne (tgt := 94) dX11_settleRobot_56 (by decide) (fun c56 => ?_) (fun c56 => ?_)
        · exact nopk (fun z => c56 z.1)
        · skip
          refine fz_aload_n dX11_settleRobot_59 rfl ?_
          refine fz_iload_n dX11_settleRobot_60 rfl ?_
          refine fz_aload_n dX11_settleRobot_61 rfl ?_
          refine fz_get dX11_settleRobot_62 fX11_141 rfl (Nat.one_pos) rfl ?_
          rw [m11]
          refine fz_callV (tX11_at f wh en E rn i3 P te hmt r t hr (by omega)) dX11_settleRobot_65 kX11_166 rfl (Nat.one_pos) ⟨rfl, rfl, rfl, trivial⟩ (Nat.le_of_ble_eq_true rfl) (Nat.le_of_ble_eq_true rfl) (Nat.le_of_ble_eq_true rfl) (Nat.le_of_ble_eq_true rfl) (Nat.le_of_ble_eq_true rfl) rfl (fun r U hq => ?_)
          obtain ⟨rfl, rfl⟩ := hq
          refine fz_back rfl ?_
          refine fz_wo (V' := wMd f sg ki dr fa sn wh en (va_up Rb 1 (upd (Rb 1) r (B r 1 + v))) Od Ta re le) rfl ?_
          refine fz_aload_n dX11_settleRobot_68 rfl ?_
          refine fz_get dX11_settleRobot_69 fX11_66 rfl (Nat.one_pos) rfl ?_
          refine fz_iload_n dX11_settleRobot_72 rfl ?_
          refine fz_iald dX11_settleRobot_73 rfl rfl (Nat.one_pos) (vp_in_nI (by omega) (by omega)) ?_
          rw [nI_clamp (by omega), t1]
          refine fz_icmp_ne (tgt := 94) dX11_settleRobot_74 (by decide) (fun c74 => ?_) (fun c74 => ?_)
          · exact nopk (fun z => c74 z.2)
          · have ep : pkT T k (P r t) t = va_up T k (upd (upd (T k) 3 (nI 2)) 7 (nI t)) := by unfold pkT; rw [if_pos ⟨c56, c74⟩]
            have hta1 := taR_up (taR_up hta k (j := 3) (nI 2)) k (j := 7) (nI t)
            simp only [va_up_self, va_upU] at hta1
            refine fz_aload_n dX11_settleRobot_77 rfl ?_
            refine fz_get dX11_settleRobot_78 fX11_69 rfl (Nat.one_pos) rfl ?_
            refine fz_iload_n dX11_settleRobot_81 rfl ?_
            refine fz_iconst (v := nI 2) dX11_settleRobot_82 (by decide) ?_
            refine fz_iast1 dX11_settleRobot_83 rfl rfl (vp_in_nI (by omega) (by omega)) ?_
            rw [nI_clamp (by omega)]
            refine fz_aload_n dX11_settleRobot_84 rfl ?_
            refine fz_get dX11_settleRobot_85 fX11_81 rfl (Nat.one_pos) rfl ?_
            refine fz_iload_n dX11_settleRobot_88 rfl ?_
            refine fz_aload_n dX11_settleRobot_89 rfl ?_
            refine fz_get dX11_settleRobot_90 fX11_141 rfl (Nat.one_pos) rfl ?_
            rw [m11]
            refine fz_iast1 dX11_settleRobot_93 rfl rfl (vp_in_nI (by omega) (by omega)) ?_
            rw [nI_clamp (by omega)]
            exact bring (va_up (va_up Ta 3 (upd (Ta 3) k (nI 2))) 7 (upd (va_up Ta 3 (upd (Ta 3) k (nI 2)) 7) k (nI t))) (by rw [ep]; exact hta1)
      · exact absurd (Int32.not_lt.mp (nI_pos (by omega))) c45
  refine fz_icmp_eq (tgt := 41) dX11_settleRobot_34 (by decide) (fun c34 => ?_) (fun c34 => ?_)
  · have e : P r t = P r (t - 1) := (nI_eq (by omega) (by omega)).mp c34
    refine fz_iconst (v := nI 0) dX11_settleRobot_41 (by decide) ?_
    refine main _ B (by rw [if_pos e]) ?_
    rw [show B r 1 + nI 0 = B r 1 from Int32.add_zero _, upd_id rfl, va_upI]
  · have e : ¬ P r t = P r (t - 1) := fun z => c34 (by rw [z])
    refine fz_iconst (v := nI 1) dX11_settleRobot_37 (by decide) ?_
    refine fz_goto (tgt := 42) dX11_settleRobot_38 (by decide) ?_
    exact main _ _ (by rw [if_neg e]; rfl) rfl
