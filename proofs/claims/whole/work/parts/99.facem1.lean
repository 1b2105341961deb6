/-! THE MODEL: its face, the ticks -/
theorem ref_in (x : Int32) : (if nI 1 ≤ x ∧ x ≤ nI 200 then (1 : Int32) else 0) = if x < nI 1 ∨ nI 200 < x then 0 else 1 := by
  by_cases h : x < nI 1 ∨ nI 200 < x
  · rw [if_pos h, if_neg]
    rintro ⟨z1, z2⟩
    rcases h with h | h
    · exact absurd z1 (Int32.not_le.mpr h)
    · exact absurd z2 (Int32.not_le.mpr h)
  · rw [if_neg h, if_pos]
    exact ⟨Int32.not_lt.mp (fun z => h (Or.inl z)), Int32.not_lt.mp (fun z => h (Or.inr z))⟩
theorem tX11_refusal {G : fz_G} (f : Nat → Int32) (rn t : Nat) (hrn : rn ≤ 6) (ht : t ≤ 4000) (m11 : f 11 = nI t) (m12 : f 12 = nI rn) (x : Int32) : fz_T G mX11_refusal rX11_refusal [zR 30 0, zI x] [(30, eM f)] (fun r U => r = some (zI (refF rn t x)) ∧ U = [(30, eM f)]) := by
  refine fz_T.of (by decide) (Nat.le_of_ble_eq_true rfl) (fun E0 => ?_)
  unfold refF
  refine fz_aload_n dX11_refusal_0 rfl ?_
  refine fz_get dX11_refusal_1 fX11_144 rfl (Nat.one_pos) rfl ?_
  rw [m12]
  refine fz_if_ne (tgt := 12) dX11_refusal_4 (by decide) (fun c4 => ?_) (fun c4 => ?_)
  · have h0 : ¬ rn = 0 := fun z => c4 (by rw [z]; exact nI_0)
    rw [if_neg h0]
    refine fz_iload_n dX11_refusal_12 rfl ?_
    refine fz_iconst (v := nI 1) dX11_refusal_13 (by decide) ?_
    refine fz_sipush (v := nI 200) dX11_refusal_14 (by decide) ?_
    refine fz_callS (tX11_in x (nI 1) (nI 200)) dX11_refusal_17 kX11_162 trivial (Nat.le_of_ble_eq_true rfl) (Nat.le_of_ble_eq_true rfl) (Nat.le_of_ble_eq_true rfl) (Nat.le_of_ble_eq_true rfl) (Nat.le_of_ble_eq_true rfl) rfl (fun r U hq => ?_)
    obtain ⟨rfl, rfl⟩ := hq
    refine fz_back rfl ?_
    refine fz_wo (V' := [(30, eM f)]) rfl ?_
    rw [ref_in x]
    rcases ref_cases x with h | ⟨k, hk1, hk2, rfl⟩
    · rw [if_pos h, if_pos h]
      refine fz_if_ne (tgt := 28) dX11_refusal_20 (by decide) (fun c20 => ?_) (fun c20 => ?_)
      · exact absurd rfl c20
      · skip
        refine fz_bipush (v := -2) dX11_refusal_23 (by decide) ?_
        refine fz_goto (tgt := 46) dX11_refusal_25 (by decide) ?_
        refine fz_iret dX11_refusal_46 rfl (Nat.zero_le _) (Nat.zero_le _) ⟨rfl, rfl⟩
    · have hn : ¬ (nI k < nI 1 ∨ nI 200 < nI k) := by
        rintro (z | z)
        · have := (nI_ltI (by omega) (by omega)).mp z; omega
        · have := (nI_ltI (by omega) (by omega)).mp z; omega
      rw [if_neg hn, if_neg hn, nI_clamp (by omega)]
      refine fz_if_ne (tgt := 28) dX11_refusal_20 (by decide) (fun c20 => ?_) (fun c20 => ?_)
      · skip
        refine fz_aload_n dX11_refusal_28 rfl ?_
        refine fz_get dX11_refusal_29 fX11_141 rfl (Nat.one_pos) rfl ?_
        rw [m11]
        refine fz_iload_n dX11_refusal_32 rfl ?_
        refine fz_iadd dX11_refusal_33 ?_
        rw [nI_add]
        refine fz_sipush (v := nI 4000) dX11_refusal_34 (by decide) ?_
        refine fz_icmp_le (tgt := 45) dX11_refusal_37 (by decide) (fun c37 => ?_) (fun c37 => ?_)
        · have hle := (nI_leI (by omega) (by omega)).mp c37
          rw [if_neg (by omega)]
          refine fz_iconst (v := nI 0) dX11_refusal_45 (by decide) ?_
          refine fz_iret dX11_refusal_46 rfl (Nat.zero_le _) (Nat.zero_le _) ⟨rfl, rfl⟩
        · have hgt : 4000 < t + k := by
            rcases Nat.lt_or_ge 4000 (t + k) with z | z
            · exact z
            · exact absurd (nI_le z (by omega)) c37
          rw [if_pos hgt]
          refine fz_bipush (v := -3) dX11_refusal_40 (by decide) ?_
          refine fz_goto (tgt := 46) dX11_refusal_42 (by decide) ?_
          refine fz_iret dX11_refusal_46 rfl (Nat.zero_le _) (Nat.zero_le _) ⟨rfl, rfl⟩
      · exact absurd c20 (by decide)
  · have h0 : rn = 0 := (nI_eq (by omega) (by omega)).mp (c4.trans nI_0.symm)
    rw [if_pos h0]
    refine fz_bipush (v := -4) dX11_refusal_7 (by decide) ?_
    refine fz_goto (tgt := 46) dX11_refusal_9 (by decide) ?_
    refine fz_iret dX11_refusal_46 rfl (Nat.zero_le _) (Nat.zero_le _) ⟨rfl, rfl⟩
theorem ref_neg {rn t : Nat} {x : Int32} (h : ¬ refF rn t x = 0) : refF rn t x < 0 := by
  unfold refF at h ⊢
  by_cases h0 : rn = 0
  · rw [if_pos h0]; decide
  · rw [if_neg h0] at h ⊢
    by_cases h1 : x < nI 1 ∨ nI 200 < x
    · rw [if_pos h1]; decide
    · rw [if_neg h1] at h ⊢
      by_cases h2 : 4000 < t + x.toNatClampNeg
      · rw [if_pos h2]; decide
      · rw [if_neg h2] at h
        exact absurd rfl h
theorem lX11_tick {G : fz_G} {E0 : Nat → fz_E} {Z : List Frame → Array Value → State → State → Prop} (tx : Nat → Nat) (n : Nat) (fp : Int32) (cn w : Nat) (kn : Nat → Nat) (on tn rn : Nat) (s : fS) (h0 : 0 < w) (hw : w ≤ 10) (hh : ∃ h, cn = w * h) (hI : inF cn kn on tn rn s) (k : Nat) (hk2 : k ≤ 200) (hk : tmF s + k ≤ 4000) (hX : ∀ i, i < k → okX cn w kn tn rn (itS cn w kn tn rn s i))
    (kk : ∀ V, mdR (tx, n, fp, cn, w, kn, on, tn, rn, itS cn w kn tn rn s k) V → fz_J G mX11_tick rX11_tick Z E0 0 0 29 [(3, zI (nI k)), (2, zI 0), (0, zR 30 0), (1, zI (nI k))] [] V) :
    ∀ q i, i + q = k → ∀ V, mdR (tx, n, fp, cn, w, kn, on, tn, rn, itS cn w kn tn rn s i) V → fz_J G mX11_tick rX11_tick Z E0 0 0 14 [(3, zI (nI i)), (2, zI 0), (0, zR 30 0), (1, zI (nI k))] [] V := by
  intro q
  induction q with
  | zero =>
    intro i hi V hV
    have e : i = k := by omega
    subst e
    refine fz_iload_n dX11_tick_14 rfl ?_
    refine fz_iload_n dX11_tick_15 rfl ?_
    refine fz_icmp_ge (tgt := 29) dX11_tick_16 (by decide) (fun c16 => ?_) (fun c16 => ?_)
    · exact kk V hV
    · exact absurd (nI_le (Nat.le_refl _) (by omega)) c16
  | succ q ih =>
    intro i hi V hV
    refine fz_iload_n dX11_tick_14 rfl ?_
    refine fz_iload_n dX11_tick_15 rfl ?_
    refine fz_icmp_ge (tgt := 29) dX11_tick_16 (by decide) (fun c16 => ?_) (fun c16 => ?_)
    · exact absurd ((nI_leI (by omega) (by omega)).mp c16) (by omega)
    · have hV2 := hV
      unfold mdR mdE at hV2
      obtain ⟨f, sg, ki, dr, fa, sn, wh, en, Rb, Od, Ta, re, le, hm, hn, htq, h80, hki, hfa, hmt, hrb, hod, hta, rfl⟩ := hV2
      refine fz_aload_n dX11_tick_19 rfl ?_
      refine fz_callV (tX11_tickOnce tx n fp cn w kn on tn rn (itS cn w kn tn rn s i) _ h0 hw hh (inF_itS h0 hh hI i (by omega)) (by rw [itS_t]; omega) (hX i (by omega)) hV) dX11_tick_20 kX11_237 rfl (Nat.one_pos) ⟨rfl, rfl, rfl, rfl, rfl, rfl, rfl, rfl, rfl, rfl, rfl, rfl, rfl, rfl, rfl, rfl, rfl, rfl, rfl, rfl, rfl, rfl, rfl, rfl, rfl, rfl, rfl, trivial⟩ (Nat.le_of_ble_eq_true rfl) (Nat.le_of_ble_eq_true rfl) (Nat.le_of_ble_eq_true rfl) (Nat.le_of_ble_eq_true rfl) (Nat.le_of_ble_eq_true rfl) rfl (fun r U hq => ?_)
      obtain ⟨rfl, hst3⟩ := hq
      have hst4 := hst3
      unfold mdR mdE at hst4
      obtain ⟨f', sg', ki', dr', fa', sn', wh'', en'', Rb', Od', Ta', re', le', y1, y2, y3, y4, y5, y6, y7, y8, y9, y10, rfl⟩ := hst4
      refine fz_back rfl ?_
      refine fz_incN dX11_tick_23 rfl (Nat.le_of_ble_eq_true rfl) ?_
      refine fz_goto (tgt := 14) dX11_tick_26 (by decide) ?_
      exact ih (i + 1) (by omega) _ hst3
/-- where ticks are asked for, a way always exists -/
def allX (σ : zS) : Prop := match σ with
  | (tx, n, fp, cn, w, kn, on, tn, rn, s) => ∀ i, tmF s + i < 4000 → okX cn w kn tn rn (itS cn w kn tn rn s i)
theorem tX11_tick {G : fz_G} (σ : zS) (V : fz_W) (hI : inZ σ) (hX : allX σ) (hw10 : 0 < σ.2.2.2.1 → σ.2.2.2.2.1 ≤ 10) (hV : mdR σ V) (x : Int32) : fz_T G mX11_tick rX11_tick [zR 30 0, zI x] V (fun r U => r = some (zI (ticF σ x).1) ∧ mdR (ticF σ x).2 U) := by
  obtain ⟨tx, n, fp, cn, w, kn, on, tn, rn, s⟩ := σ
  obtain ⟨j1, j2, j3⟩ := hI
  have hrn : rn ≤ 6 := j1.2.2.1
  have ht4 : tmF s ≤ 4000 := j1.2.2.2.1
  have hV2 := hV
  unfold mdR mdE at hV2
  obtain ⟨f, sg, ki, dr, fa, sn, wh, en, Rb, Od, Ta, re, le, hm, hn, htq, h80, hki, hfa, hmt, hrb, hod, hta, rfl⟩ := hV2
  obtain ⟨m0, m2, m3, m4, m11, m12, m19, m20, m21, m22, m28⟩ := id hm
  refine fz_T.of (by decide) (Nat.le_of_ble_eq_true rfl) (fun E0 => ?_)
  unfold ticF
  refine fz_aload_n dX11_tick_0 rfl ?_
  refine fz_iload_n dX11_tick_1 rfl ?_
  refine fz_callV (tX11_refusal f rn (tmF s) hrn ht4 m11 m12 x) dX11_tick_2 kX11_234 rfl (Nat.one_pos) ⟨rfl, trivial⟩ (Nat.le_of_ble_eq_true rfl) (Nat.le_of_ble_eq_true rfl) (Nat.le_of_ble_eq_true rfl) (Nat.le_of_ble_eq_true rfl) (Nat.le_of_ble_eq_true rfl) rfl (fun r U hq => ?_)
  obtain ⟨rfl, rfl⟩ := hq
  refine fz_back rfl ?_
  refine fz_wo (V' := wMd f sg ki dr fa sn wh en Rb Od Ta re le) rfl ?_
  refine fz_istore_n dX11_tick_5 (Nat.le_of_ble_eq_true rfl) ?_
  refine fz_iload_n dX11_tick_6 rfl ?_
  by_cases hr0 : refF rn (tmF s) x = 0
  · simp only [if_pos hr0]
    obtain ⟨hrp, k, hk1, hk2, rfl, hk3⟩ := ref_0 hr0
    have hcn : 0 < cn := by
      rcases Nat.eq_zero_or_pos cn with z | z
      · have := (j2 z).2.2; omega
      · exact z
    obtain ⟨h0, hh⟩ := j3 hcn
    rw [hr0, nI_clamp (by omega)]
    refine fz_if_ge (tgt := 12) dX11_tick_7 (by decide) (fun c7 => ?_) (fun c7 => ?_)
    · skip
      refine fz_iconst (v := nI 0) dX11_tick_12 (by decide) ?_
      refine fz_istore_n dX11_tick_13 (Nat.le_of_ble_eq_true rfl) ?_
      refine lX11_tick tx n fp cn w kn on tn rn s h0 (hw10 hcn) hh j1 k hk2 hk3 (fun i hi => hX i (by omega)) (fun V' hV' => ?_) k 0 (by omega) _ hV
      have hV3 := hV'
      unfold mdR mdE at hV3
      obtain ⟨f', sg', ki', dr', fa', sn', wh'', en'', Rb', Od', Ta', re', le', y1, y2, y3, y4, y5, y6, y7, y8, y9, y10, rfl⟩ := hV3
      have y11 : f' 11 = nI (tmF (itS cn w kn tn rn s k)) := y1.2.2.2.2.1
      refine fz_aload_n dX11_tick_29 rfl ?_
      refine fz_get dX11_tick_30 fX11_141 rfl (Nat.one_pos) rfl ?_
      rw [y11, itS_t]
      refine fz_iret dX11_tick_33 rfl (Nat.zero_le _) (Nat.zero_le _) ⟨rfl, hV'⟩
    · exact absurd (by decide) c7
  · simp only [if_neg hr0]
    refine fz_if_ge (tgt := 12) dX11_tick_7 (by decide) (fun c7 => ?_) (fun c7 => ?_)
    · exact absurd c7 (neg_nlt (ref_neg hr0))
    · skip
      refine fz_iload_n dX11_tick_10 rfl ?_
      refine fz_iret dX11_tick_11 rfl (Nat.zero_le _) (Nat.zero_le _) ⟨rfl, hV⟩
abbrev wOo (f : Nat → Int32) (Od Ta : Nat → Nat → Int32) : fz_W := [(30, eM f), (64, e40 (Od 1)), (65, e40 (Od 2)), (71, e90 (Ta 3))]
theorem lX11_openOrders {G : fz_G} {E0 : Nat → fz_E} (f : Nat → Int32) (Od Ta : Nat → Nat → Int32) (on tn : Nat) (hon : on ≤ 40) (htn : tn ≤ 90) (O T : Nat → Nat → Int32) (ho : oWf on tn O T) (hO : odR on O Od) (hT : taR tn T Ta) (m22 : f 22 = nI on) :
    ∀ q i, i + q = on → fz_J G mX11_openOrders rX11_openOrders (fz_Z G E0 rX11_openOrders.cells rX11_openOrders.slots (fun x U => x = some (zI (nI (opO O on))) ∧ U = wOo f Od Ta)) E0 0 0 4 [(2, zI (nI i)), (1, zI (nI (opO O i))), (0, zR 30 0)] [] (wOo f Od Ta) := by
  intro q
  induction q with
  | zero =>
    intro i hi
    have e : i = on := by omega
    subst e
    refine fz_iload_n dX11_openOrders_4 rfl ?_
    refine fz_aload_n dX11_openOrders_5 rfl ?_
    refine fz_get dX11_openOrders_6 fX11_147 rfl (Nat.one_pos) rfl ?_
    rw [m22]
    refine fz_icmp_ge (tgt := 34) dX11_openOrders_9 (by decide) (fun c9 => ?_) (fun c9 => ?_)
    · skip
      refine fz_iload_n dX11_openOrders_34 rfl ?_
      refine fz_iret dX11_openOrders_35 rfl (Nat.zero_le _) (Nat.zero_le _) ⟨rfl, rfl⟩
    · exact absurd (nI_le (Nat.le_refl _) (by omega)) c9
  | succ q ih =>
    intro i hi
    obtain ⟨a, n, d1, d2, d3, d4, d5, d6, d7, d8⟩ := ho i (by omega)
    have hle : opn T a n ≤ n := cnt_le _ _
    have hst : opO O (i + 1) = opO O i + if decide (¬ O i 3 = nI 0) = true then 1 else 0 := rfl
    refine fz_iload_n dX11_openOrders_4 rfl ?_
    refine fz_aload_n dX11_openOrders_5 rfl ?_
    refine fz_get dX11_openOrders_6 fX11_147 rfl (Nat.one_pos) rfl ?_
    rw [m22]
    refine fz_icmp_ge (tgt := 34) dX11_openOrders_9 (by decide) (fun c9 => ?_) (fun c9 => ?_)
    · exact absurd ((nI_leI (by omega) (by omega)).mp c9) (by omega)
    · skip
      refine fz_aload_n dX11_openOrders_12 rfl ?_
      refine fz_iload_n dX11_openOrders_13 rfl ?_
      refine fz_callV (tX11_isOpen f Od Ta T i a n (by omega) (by omega) ((hO i (by omega) 1 (by omega) (by omega)).trans d1) ((hO i (by omega) 2 (by omega) (by omega)).trans d2) (fun q hq => hT (a + q) (by omega) 3 (by omega) (by omega))) dX11_openOrders_14 kX11_176 rfl (Nat.one_pos) ⟨rfl, rfl, rfl, rfl, trivial⟩ (Nat.le_of_ble_eq_true rfl) (Nat.le_of_ble_eq_true rfl) (Nat.le_of_ble_eq_true rfl) (Nat.le_of_ble_eq_true rfl) (Nat.le_of_ble_eq_true rfl) rfl (fun r U hq => ?_)
      obtain ⟨rfl, rfl⟩ := hq
      refine fz_back rfl ?_
      refine fz_wo (V' := wOo f Od Ta) rfl ?_
      by_cases hp : 0 < opn T a n
      · have hne : ¬ O i 3 = nI 0 := by rw [d7]; exact fun z => by have := (nI_eq (by omega) (by omega)).mp z; omega
        rw [decide_eq_true hne, if_pos rfl] at hst
        rw [decide_eq_true hp]
        refine fz_if_eq (tgt := 26) dX11_openOrders_17 (by decide) (fun c17 => ?_) (fun c17 => ?_)
        · exact absurd c17 (by decide)
        · skip
          refine fz_iload_n dX11_openOrders_20 rfl ?_
          refine fz_iconst (v := nI 1) dX11_openOrders_21 (by decide) ?_
          refine fz_iadd dX11_openOrders_22 ?_
          rw [nI_add, ← hst]
          refine fz_goto (tgt := 27) dX11_openOrders_23 (by decide) ?_
          refine fz_istore_n dX11_openOrders_27 (Nat.le_of_ble_eq_true rfl) ?_
          refine fz_incN dX11_openOrders_28 rfl (Nat.le_of_ble_eq_true rfl) ?_
          refine fz_goto (tgt := 4) dX11_openOrders_31 (by decide) ?_
          exact ih (i + 1) (by omega)
      · have hne : O i 3 = nI 0 := by rw [d7]; congr 1; omega
        rw [decide_eq_false (fun z => z hne), if_neg Bool.noConfusion] at hst
        have hst : opO O (i + 1) = opO O i := hst
        rw [decide_eq_false hp]
        refine fz_if_eq (tgt := 26) dX11_openOrders_17 (by decide) (fun c17 => ?_) (fun c17 => ?_)
        · skip
          refine fz_iload_n dX11_openOrders_26 rfl ?_
          rw [← hst]
          refine fz_istore_n dX11_openOrders_27 (Nat.le_of_ble_eq_true rfl) ?_
          refine fz_incN dX11_openOrders_28 rfl (Nat.le_of_ble_eq_true rfl) ?_
          refine fz_goto (tgt := 4) dX11_openOrders_31 (by decide) ?_
          exact ih (i + 1) (by omega)
        · exact absurd rfl c17
theorem tX11_openOrders {G : fz_G} (f : Nat → Int32) (Od Ta : Nat → Nat → Int32) (on tn : Nat) (hon : on ≤ 40) (htn : tn ≤ 90) (O T : Nat → Nat → Int32) (ho : oWf on tn O T) (hO : odR on O Od) (hT : taR tn T Ta) (m22 : f 22 = nI on) :
    fz_T G mX11_openOrders rX11_openOrders [zR 30 0] (wOo f Od Ta) (fun x U => x = some (zI (nI (opO O on))) ∧ U = wOo f Od Ta) := by
  refine fz_T.of (by decide) (Nat.le_of_ble_eq_true rfl) (fun E0 => ?_)
  refine fz_iconst (v := nI 0) dX11_openOrders_0 (by decide) ?_
  refine fz_istore_n dX11_openOrders_1 (Nat.le_of_ble_eq_true rfl) ?_
  refine fz_iconst (v := nI 0) dX11_openOrders_2 (by decide) ?_
  refine fz_istore_n dX11_openOrders_3 (Nat.le_of_ble_eq_true rfl) ?_
  exact lX11_openOrders f Od Ta on tn hon htn O T ho hO hT m22 on 0 (by omega)
theorem lX11_settle {G : fz_G} {E0 : Nat → fz_E} (tx : Nat → Nat) (n : Nat) (fp : Int32) (cn w : Nat) (kn : Nat → Nat) (on tn rn : Nat) (h0 : 0 < w) (hw : w ≤ 10) (hh : ∃ h, cn = w * h) (k : Nat) (hk2 : k ≤ 200) (v : Nat) (S : fS) :
    ∀ q i, i + q = k → ∀ s V, inF cn kn on tn rn s → tmF s + q ≤ 4000 → (∀ i, i < q → okX cn w kn tn rn (itS cn w kn tn rn s i)) → mdR (tx, n, fp, cn, w, kn, on, tn, rn, s) V → i + (stl cn w kn on tn rn q s).1 = v → (stl cn w kn on tn rn q s).2 = S → fz_J G mX11_settle rX11_settle (fz_Z G E0 rX11_settle.cells rX11_settle.slots (fun r U => r = some (zI (nI v)) ∧ mdR (tx, n, fp, cn, w, kn, on, tn, rn, S) U)) E0 0 0 14 [(3, zI (nI i)), (2, zI 0), (0, zR 30 0), (1, zI (nI k))] [] V := by
  intro q
  induction q with
  | zero =>
    intro i hi s V hIs ht hX hV hv hS
    have e : i = k := by omega
    subst e
    have hv : i = v := hv
    have hS : s = S := hS
    subst hv hS
    refine fz_iload_n dX11_settle_14 rfl ?_
    refine fz_iload_n dX11_settle_15 rfl ?_
    refine fz_icmp_ge (tgt := 36) dX11_settle_16 (by decide) (fun c16 => ?_) (fun c16 => ?_)
    · skip
      refine fz_iload_n dX11_settle_36 rfl ?_
      refine fz_iret dX11_settle_37 rfl (Nat.zero_le _) (Nat.zero_le _) ⟨rfl, hV⟩
    · exact absurd (nI_le (Nat.le_refl _) (by omega)) c16
  | succ q ih =>
    intro i hi s V hIs ht hX hV hv hS
    have hon : on ≤ 40 := hIs.1
    have htn : tn ≤ 90 := hIs.2.1
    have hV2 := hV
    unfold mdR mdE at hV2
    obtain ⟨f, sg, ki, dr, fa, sn, wh, en, Rb, Od, Ta, re, le, hm, hn, htq, h80, hki, hfa, hmt, hrb, hod, hta, rfl⟩ := hV2
    obtain ⟨m0, m2, m3, m4, m11, m12, m19, m20, m21, m22, m28⟩ := id hm
    have hncl : opO s.1 on ≤ on := cnt_le _ _
    unfold stl at hv hS
    refine fz_iload_n dX11_settle_14 rfl ?_
    refine fz_iload_n dX11_settle_15 rfl ?_
    refine fz_icmp_ge (tgt := 36) dX11_settle_16 (by decide) (fun c16 => ?_) (fun c16 => ?_)
    · exact absurd ((nI_leI (by omega) (by omega)).mp c16) (by omega)
    · skip
      refine fz_aload_n dX11_settle_19 rfl ?_
      refine fz_callV (tX11_openOrders f Od Ta on tn hon htn s.1 s.2.1 hIs.2.2.2.2.2.2.1 hod hta m22) dX11_settle_20 kX11_240 rfl (Nat.one_pos) ⟨rfl, rfl, rfl, rfl, trivial⟩ (Nat.le_of_ble_eq_true rfl) (Nat.le_of_ble_eq_true rfl) (Nat.le_of_ble_eq_true rfl) (Nat.le_of_ble_eq_true rfl) (Nat.le_of_ble_eq_true rfl) rfl (fun r U hq => ?_)
      obtain ⟨rfl, rfl⟩ := hq
      refine fz_back rfl ?_
      refine fz_wo (V' := wMd f sg ki dr fa sn wh en Rb Od Ta re le) rfl ?_
      refine fz_if_le (tgt := 36) dX11_settle_23 (by decide) (fun c23 => ?_) (fun c23 => ?_)
      · have h00 : opO s.1 on = 0 := by
          rcases Nat.eq_zero_or_pos (opO s.1 on) with z | z
          · exact z
          · exact absurd c23 (nI_nle z (by omega))
        rw [if_pos h00] at hv hS
        have hv : i = v := hv
        have hS : s = S := hS
        subst hv hS
        refine fz_iload_n dX11_settle_36 rfl ?_
        refine fz_iret dX11_settle_37 rfl (Nat.zero_le _) (Nat.zero_le _) ⟨rfl, hV⟩
      · have h00 : ¬ opO s.1 on = 0 := fun z => c23 (by rw [z]; decide)
        rw [if_neg h00] at hv hS
        refine fz_aload_n dX11_settle_26 rfl ?_
        refine fz_callV (tX11_tickOnce tx n fp cn w kn on tn rn s _ h0 hw hh hIs (by omega) (hX 0 (by omega)) hV) dX11_settle_27 kX11_237 rfl (Nat.one_pos) ⟨rfl, rfl, rfl, rfl, rfl, rfl, rfl, rfl, rfl, rfl, rfl, rfl, rfl, rfl, rfl, rfl, rfl, rfl, rfl, rfl, rfl, rfl, rfl, rfl, rfl, rfl, rfl, trivial⟩ (Nat.le_of_ble_eq_true rfl) (Nat.le_of_ble_eq_true rfl) (Nat.le_of_ble_eq_true rfl) (Nat.le_of_ble_eq_true rfl) (Nat.le_of_ble_eq_true rfl) rfl (fun r U hq => ?_)
        obtain ⟨rfl, hst3⟩ := hq
        have hst4 := hst3
        unfold mdR mdE at hst4
        obtain ⟨f', sg', ki', dr', fa', sn', wh'', en'', Rb', Od', Ta', re', le', y1, y2, y3, y4, y5, y6, y7, y8, y9, y10, rfl⟩ := hst4
        refine fz_back rfl ?_
        refine fz_incN dX11_settle_30 rfl (Nat.le_of_ble_eq_true rfl) ?_
        refine fz_goto (tgt := 14) dX11_settle_33 (by decide) ?_
        refine ih (i + 1) (by omega) (stp cn w kn tn rn s) _ (inF_stp h0 hh hIs (by omega)) (by rw [stp_t]; omega) (fun j hj => ?_) hst3 ?_ hS
        · have e : ∀ j, itS cn w kn tn rn (stp cn w kn tn rn s) j = itS cn w kn tn rn s (j + 1) := by
            intro j
            induction j with
            | zero => rfl
            | succ j ihj =>
              show stp cn w kn tn rn (itS cn w kn tn rn (stp cn w kn tn rn s) j) = stp cn w kn tn rn (itS cn w kn tn rn s (j + 1))
              rw [ihj]
          rw [e j]
          exact hX (j + 1) (by omega)
        · have hv : i + ((stl cn w kn on tn rn q (stp cn w kn tn rn s)).1 + 1) = v := hv
          omega
theorem tX11_settle {G : fz_G} (σ : zS) (V : fz_W) (hI : inZ σ) (hX : allX σ) (hw10 : 0 < σ.2.2.2.1 → σ.2.2.2.2.1 ≤ 10) (hV : mdR σ V) (x : Int32) : fz_T G mX11_settle rX11_settle [zR 30 0, zI x] V (fun r U => r = some (zI (setF σ x).1) ∧ mdR (setF σ x).2 U) := by
  obtain ⟨tx, n, fp, cn, w, kn, on, tn, rn, s⟩ := σ
  obtain ⟨j1, j2, j3⟩ := hI
  have hrn : rn ≤ 6 := j1.2.2.1
  have ht4 : tmF s ≤ 4000 := j1.2.2.2.1
  have hV2 := hV
  unfold mdR mdE at hV2
  obtain ⟨f, sg, ki, dr, fa, sn, wh, en, Rb, Od, Ta, re, le, hm, hn, htq, h80, hki, hfa, hmt, hrb, hod, hta, rfl⟩ := hV2
  obtain ⟨m0, m2, m3, m4, m11, m12, m19, m20, m21, m22, m28⟩ := id hm
  refine fz_T.of (by decide) (Nat.le_of_ble_eq_true rfl) (fun E0 => ?_)
  unfold setF
  refine fz_aload_n dX11_settle_0 rfl ?_
  refine fz_iload_n dX11_settle_1 rfl ?_
  refine fz_callV (tX11_refusal f rn (tmF s) hrn ht4 m11 m12 x) dX11_settle_2 kX11_234 rfl (Nat.one_pos) ⟨rfl, trivial⟩ (Nat.le_of_ble_eq_true rfl) (Nat.le_of_ble_eq_true rfl) (Nat.le_of_ble_eq_true rfl) (Nat.le_of_ble_eq_true rfl) (Nat.le_of_ble_eq_true rfl) rfl (fun r U hq => ?_)
  obtain ⟨rfl, rfl⟩ := hq
  refine fz_back rfl ?_
  refine fz_wo (V' := wMd f sg ki dr fa sn wh en Rb Od Ta re le) rfl ?_
  refine fz_istore_n dX11_settle_5 (Nat.le_of_ble_eq_true rfl) ?_
  refine fz_iload_n dX11_settle_6 rfl ?_
  by_cases hr0 : refF rn (tmF s) x = 0
  · simp only [if_pos hr0]
    obtain ⟨hrp, k, hk1, hk2, rfl, hk3⟩ := ref_0 hr0
    have hcn : 0 < cn := by
      rcases Nat.eq_zero_or_pos cn with z | z
      · have := (j2 z).2.2; omega
      · exact z
    obtain ⟨h0, hh⟩ := j3 hcn
    rw [hr0, nI_clamp (by omega)]
    refine fz_if_ge (tgt := 12) dX11_settle_7 (by decide) (fun c7 => ?_) (fun c7 => ?_)
    · skip
      refine fz_iconst (v := nI 0) dX11_settle_12 (by decide) ?_
      refine fz_istore_n dX11_settle_13 (Nat.le_of_ble_eq_true rfl) ?_
      exact lX11_settle tx n fp cn w kn on tn rn h0 (hw10 hcn) hh k hk2 _ _ k 0 (by omega) s _ j1 hk3 (fun i hi => hX i (by omega)) hV (Nat.zero_add _) rfl
    · exact absurd (by decide) c7
  · simp only [if_neg hr0]
    refine fz_if_ge (tgt := 12) dX11_settle_7 (by decide) (fun c7 => ?_) (fun c7 => ?_)
    · exact absurd c7 (neg_nlt (ref_neg hr0))
    · skip
      refine fz_iload_n dX11_settle_10 rfl ?_
      refine fz_iret dX11_settle_11 rfl (Nat.zero_le _) (Nat.zero_le _) ⟨rfl, hV⟩
