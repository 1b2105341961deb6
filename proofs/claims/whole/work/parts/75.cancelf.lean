/-! FleetController: cancel -/
theorem cxT_sT (T : Nat → Nat → Int32) (a q : Nat) : sT T (cxT T a q) := by
  intro i j hj
  unfold cxT
  rw [if_neg (by omega)]
theorem cxT_cnt {T : Nat → Nat → Int32} {a n tn s : Nat} (ha : a + n ≤ tn) (hs : ∀ q, q < n → tst T (a + q) = s) : ∀ q, q ≤ n → pnd T tn = pnd (cxT T a q) tn + pdc T a q ∧ (∀ c, pnf T c tn = pnf (cxT T a q) c tn + if c = s then pdc T a q else 0) ∧ opn T a n = opn (cxT T a q) a n + pdc T a q
  | 0, _ => by
    rw [cxT_0]
    exact ⟨rfl, fun c => by split <;> rfl, rfl⟩
  | q + 1, hq => by
    obtain ⟨i1, i2, i3⟩ := cxT_cnt ha hs q (by omega)
    have hps := pdc_s T a q
    have hsT := cxT_sT T a q
    have e3 : cxT T a q (a + q) 3 = T (a + q) 3 := by unfold cxT; rw [if_neg (by omega)]
    by_cases h0 : T (a + q) 3 = nI 0
    · rw [if_pos h0] at hps
      rw [← cxT_s1 h0, hps]
      have hb : ¬ upd (cxT T a q (a + q)) 3 (nI 4) 3 = nI 0 := by rw [pk_us]; decide
      have hk : a + q < tn := by omega
      have z0 : cxT T a q (a + q) 3 = nI 0 := by rw [e3]; exact h0
      refine ⟨by rw [i1, pnd_dn hk z0 hb]; omega, fun c => ?_, ?_⟩
      · rw [i2 c, pnf_dn hk z0 hb (upk (by decide)) c, sT_st hsT, hs q (by omega)]
        split <;> omega
      · rw [i3]
        have e : opn (cxT T a q) a n = opn (va_up (cxT T a q) (a + q) (upd (cxT T a q (a + q)) 3 (nI 4))) a n + 1 := by
          refine cnt_one (a := q) (by omega) ?_ ?_ (fun d hd hdq => ?_)
          · rw [z0]; decide
          · rw [va_up_self, pk_us]; decide
          · rw [va_up_ne _ _ (by omega)]
        omega
    · rw [if_neg h0] at hps
      rw [← cxT_s0 h0, hps, Nat.add_zero]
      exact ⟨i1, i2, i3⟩
def canF (σ : zS) (x : Int32) : Int32 × zS := match σ with
  | (tx, n, fp, cn, w, kn, on, tn, rn, O, T, P, te, B, t, A, wy, lg) => if x < 0 ∨ nI on ≤ x then (-2, σ) else (nI (pdc T (O x.toNatClampNeg 2).toNatClampNeg (O x.toNatClampNeg 1).toNatClampNeg), (tx, n, fp, cn, w, kn, on, tn, rn, va_up O x.toNatClampNeg (cxO (O x.toNatClampNeg) (O x.toNatClampNeg 3).toNatClampNeg (pdc T (O x.toNatClampNeg 2).toNatClampNeg (O x.toNatClampNeg 1).toNatClampNeg) (nI t)), cxT T (O x.toNatClampNeg 2).toNatClampNeg (O x.toNatClampNeg 1).toNatClampNeg, P, te, B, t, A, wy, lg))
/-- all that a cancel changes, by numbers -/
theorem can_pure {cn : Nat} {kn : Nat → Nat} {on tn : Nat} {O T : Nat → Nat → Int32} {k t : Nat} (hon : on ≤ 40) (htn : tn ≤ 90) (ht : t ≤ 4000) (hk : k < on) (hw : tWf cn kn on tn O T) (ho : oWf on tn O T) : ∃ a n u s, O k 1 = nI n ∧ O k 2 = nI a ∧ O k 3 = nI u ∧ n ≤ 3 ∧ a + n ≤ tn ∧ s < cn ∧ (∀ q, q < n → T (a + q) 2 = nI s) ∧ pdc T a n ≤ u ∧ u ≤ 3 ∧ pdc T a n ≤ pnd T tn ∧ pdc T a n ≤ pnf T s tn ∧ (0 < u → 0 < opO O on) ∧ pnd (cxT T a n) tn = pnd T tn - pdc T a n ∧ (∀ c, pnf (cxT T a n) c tn = if c = s then pnf T s tn - pdc T a n else pnf T c tn) ∧ opO (va_up O k (cxO (O k) u (pdc T a n) (nI t))) on = (if 0 < pdc T a n ∧ u = pdc T a n then opO O on - 1 else opO O on) ∧ tWf cn kn on tn (va_up O k (cxO (O k) u (pdc T a n) (nI t))) (cxT T a n) ∧ oWf on tn (va_up O k (cxO (O k) u (pdc T a n) (nI t))) (cxT T a n) := by
  obtain ⟨a, n, d1, d2, d3, d4, d5, d6, d7, d8⟩ := ho k hk
  have hin : ∀ q, q < n → T (a + q) 0 = nI k := fun q hq => (d6 (a + q) (by omega)).mpr (by omega)
  obtain ⟨-, ⟨b1, b2, b3⟩, o, c1, c2, c3⟩ := hw a (by omega)
  have hok : o = k := by
    have := hin 0 (by omega)
    rw [Nat.add_zero] at this
    exact (nI_eq (by omega) (by omega)).mp (c2.symm.trans this)
  subst hok
  have hO0 : O o 0 = nI (tst T a) := c3.trans b1
  have hst : ∀ q, q < n → T (a + q) 2 = nI (tst T a) ∧ tst T (a + q) = tst T a := by
    intro q hq
    obtain ⟨-, ⟨e1, e2, e3⟩, o', f1, f2, f3⟩ := hw (a + q) (by omega)
    have e : o' = o := (nI_eq (by omega) (by omega)).mp (f2.symm.trans (hin q hq))
    rw [e, hO0] at f3
    refine ⟨f3.symm, ?_⟩
    unfold tst
    rw [← f3, ← b1]
  obtain ⟨x1, x2, x3⟩ := cxT_cnt (n := n) d5 (fun q hq => (hst q hq).2) n (Nat.le_refl _)
  have hle : opn T a n ≤ n := cnt_le _ _
  have x2s := x2 (tst T a)
  rw [if_pos rfl] at x2s
  have hsT := cxT_sT T a n
  refine ⟨a, n, opn T a n, tst T a, d1, d2, d7, d4, d5, b2, fun q hq => (hst q hq).1, by omega, by omega, by omega, by omega, fun hu => ?_, by omega, fun c => ?_, ?_, ?_, ?_⟩
  · refine cnt_pos (p := fun o => decide (¬ O o 3 = nI 0)) hk ?_
    rw [d7]
    exact decide_eq_true (fun z => by have := (nI_eq (by omega) (by omega)).mp z; omega)
  · have := x2 c
    by_cases e : c = tst T a
    · rw [if_pos e, e]; omega
    · rw [if_neg e] at this ⊢; omega
  · by_cases h : 0 < pdc T a n ∧ opn T a n = pdc T a n
    · rw [if_pos h]
      have e1 : opO O on = opO (va_up O o (cxO (O o) (opn T a n) (pdc T a n) (nI t))) on + 1 := by
        refine cnt_one hk ?_ ?_ (fun d hd hdo => ?_)
        · rw [d7]
          exact decide_eq_true (fun z => by have := (nI_eq (by omega) (by omega)).mp z; omega)
        · rw [va_up_self]
          unfold cxO
          rw [if_neg (by omega), if_pos h.2, upk (by decide), pk_us]
          simp
        · rw [va_up_ne _ _ hdo]
      omega
    · rw [if_neg h]
      refine cnt_congr (fun d hd => ?_)
      by_cases e : d = o
      · rw [e, va_up_self]
        by_cases z : pdc T a n = 0
        · unfold cxO
          rw [if_pos z]
        · rw [cxO_3 _ _ _ _ (by omega) d7, d7]
          simp only [decide_eq_decide]
          constructor
          · intro _ y
            have := (nI_eq (by omega) (by omega)).mp y; omega
          · intro _ y
            have := (nI_eq (by omega) (by omega)).mp y; omega
      · rw [va_up_ne _ _ e]
  · refine tWf_sT hsT (fun o' => ?_) hw
    by_cases e : o' = o
    · rw [e, va_up_self, cxO_k _ _ _ _ (by decide) (by decide)]
    · rw [va_up_ne _ _ e]
  · intro o' ho'
    by_cases e : o' = o
    · subst e
      rw [va_up_self]
      refine ⟨a, n, by rw [cxO_k _ _ _ _ (by decide) (by decide)]; exact d1, by rw [cxO_k _ _ _ _ (by decide) (by decide)]; exact d2, d3, d4, d5, fun i hi => by rw [hsT i 0 (by omega)]; exact d6 i hi, ?_, ?_⟩
      · by_cases z : pdc T a n = 0
        · unfold cxO
          rw [if_pos z, d7]
          congr 1; omega
        · by_cases y : opn T a n = pdc T a n
          · unfold cxO
            rw [if_neg z, if_pos y, upk (by decide), pk_us]
            congr 1; omega
          · rw [cxO_3 _ _ _ _ (by omega) d7]
            congr 1; omega
      · unfold cxO
        by_cases z : pdc T a n = 0
        · rw [if_pos z]
          rw [show opn (cxT T a n) a n = opn T a n by omega]; exact d8
        · rw [if_neg z]
          by_cases y : opn T a n = pdc T a n
          · rw [if_pos y, pk_us, if_pos (by omega), Int32.le_iff_toInt_le, nI_toInt (by omega)]
            simp
          · rw [if_neg y, upk (by decide), if_neg (by omega)]
            rw [if_neg (by omega)] at d8; exact d8
    · rw [va_up_ne _ _ e]
      obtain ⟨a', n', e1, e2, e3, e4, e5, e6, e7, e8⟩ := ho o' ho'
      have hno : ∀ i, a' ≤ i → i < a' + n' → ¬ (a ≤ i ∧ i < a + n) := by
        intro i h1 h2 h3
        have y1 := (e6 i (by omega)).mpr ⟨h1, h2⟩
        have y2 := (d6 i (by omega)).mpr h3
        exact e ((nI_eq (by omega) (by omega)).mp (y1.symm.trans y2))
      have e9 : opn (cxT T a n) a' n' = opn T a' n' := opn_c (fun q hq => by
        unfold cxT
        rw [if_neg (fun z => hno (a' + q) (by omega) (by omega) ⟨z.2.1, z.2.2.1⟩)])
      exact ⟨a', n', e1, e2, e3, e4, e5, fun i hi => by rw [hsT i 0 (by omega)]; exact e6 i hi, by rw [e9]; exact e7, by rw [e9]; exact e8⟩
theorem canF_in {tx : Nat → Nat} {n : Nat} {fp : Int32} {cn w : Nat} {kn : Nat → Nat} {on tn rn : Nat} {O T : Nat → Nat → Int32} {P : Nat → Nat → Nat} {te : Nat → Nat} {B : Nat → Nat → Int32} {t A wy lg k a m u : Nat} (hon : on ≤ 40) (hk : k < on) (h1 : O k 1 = nI m) (h2 : O k 2 = nI a) (h3 : O k 3 = nI u) (hm : m ≤ 3) (ha : a ≤ 90) (hu : u ≤ 3) : canF (tx, n, fp, cn, w, kn, on, tn, rn, O, T, P, te, B, t, A, wy, lg) (nI k) = (nI (pdc T a m), (tx, n, fp, cn, w, kn, on, tn, rn, va_up O k (cxO (O k) u (pdc T a m) (nI t)), cxT T a m, P, te, B, t, A, wy, lg)) := by
  unfold canF
  simp only [if_neg (ix_in hk (show on < 2 ^ 30 by omega)), nI_clamp (show k < 2 ^ 31 by omega), h1, h2, h3, nI_clamp (show m < 2 ^ 31 by omega), nI_clamp (show a < 2 ^ 31 by omega), nI_clamp (show u < 2 ^ 31 by omega)]
theorem tX10_cancel {G : fz_G} (σ : zS) (V : fz_W) (hI : inZ σ) (hV : clR σ V) (x : Int32) : fz_T G mX10_cancel rX10_cancel [zR 1 0, zI x] V (fun r U => r = some (zI (canF σ x).1) ∧ clR (canF σ x).2 U) := by
  obtain ⟨tx, n, fp, cn, w, kn, on, tn, rn, O, T, P, te, B, t, A, wy, lg⟩ := σ
  obtain ⟨i1, i2, i3, i4, i5, i6, i7, i8, i9⟩ := hI.1
  have hV2 := hV
  obtain ⟨g, tw, ln, co, tf, sg, sz, wd, st, op, ki, fa, qu, F, Q, nc, pn, pf, rows, en, et, ow, lo, hi, rb, ts, sh, go, re, al, hg, hn, htw, htq, hM, hoc, htt, rfl⟩ := hV2
  obtain ⟨m1, m2, m3⟩ := id hM
  refine fz_T.of (by decide) (Nat.le_of_ble_eq_true rfl) (fun E0 => ?_)
  refine fz_aload_n dX10_cancel_0 rfl ?_
  refine fz_get dX10_cancel_1 fX10_29 rfl (Nat.one_pos) rfl ?_
  refine fz_iload_n dX10_cancel_4 rfl ?_
  refine fz_aload_n dX10_cancel_5 rfl ?_
  refine fz_get dX10_cancel_6 fX10_38 rfl (Nat.one_pos) rfl ?_
  refine fz_callV (tX0_now g (nI rn) (nI t) (nI wy) (nI lg)) dX10_cancel_9 kX10_82 rfl (Nat.one_pos) ⟨rfl, trivial⟩ (Nat.le_of_ble_eq_true rfl) (Nat.le_of_ble_eq_true rfl) (Nat.le_of_ble_eq_true rfl) (Nat.le_of_ble_eq_true rfl) (Nat.le_of_ble_eq_true rfl) rfl (fun r U hq => ?_)
  obtain ⟨rfl, rfl⟩ := hq
  refine fz_back rfl ?_
  refine fz_wo (V' := wAl g fp n tw ln co tf sg (wSt g sz wd st op ki fa qu F Q on tn nc pn pf O T rn t wy lg B rows en et ow A lo hi rb ts sh go re al)) rfl ?_
  rcases ix_cases x (n := on) (by omega) with h | ⟨k, hk, rfl⟩
  · have e : canF (tx, n, fp, cn, w, kn, on, tn, rn, O, T, P, te, B, t, A, wy, lg) x = (-2, (tx, n, fp, cn, w, kn, on, tn, rn, O, T, P, te, B, t, A, wy, lg)) := by
      unfold canF
      simp only [if_pos h]
    rw [e]
    refine fz_callV (tX5_cancelPending_out (nI on) (nI tn) (nI nc) (nI pn) x (nI t) h) dX10_cancel_12 kX10_103 rfl (Nat.one_pos) ⟨rfl, trivial⟩ (Nat.le_of_ble_eq_true rfl) (Nat.le_of_ble_eq_true rfl) (Nat.le_of_ble_eq_true rfl) (Nat.le_of_ble_eq_true rfl) (Nat.le_of_ble_eq_true rfl) rfl (fun r U hq => ?_)
    obtain ⟨rfl, rfl⟩ := hq
    refine fz_back rfl ?_
    refine fz_iret dX10_cancel_15 rfl (Nat.zero_le _) (Nat.zero_le _) ⟨rfl, hV⟩
  · obtain ⟨a, m, u, s, d1, d2, d3, d4, d5, d6, d7, d8, d9, e1, e2, e3, e4, e5, e6, e7, e8⟩ := can_pure i1 i2 i4 hk i6 i7
    rw [canF_in i1 hk d1 d2 d3 d4 (by omega) d9]
    refine fz_callV (tX5_cancelPending_in (nI tn) on nc u pn (pnf T s tn) s k a m i1 hk d4 (by omega) (by omega) pf O T (nI t) d1 d2 d3 d7 d8 (by omega) (by rw [hoc.1]; exact e1) e2 (hoc.2.1 s (by omega)) (by rw [hoc.2.2]; exact e3)) dX10_cancel_12 kX10_103 rfl (Nat.one_pos) ⟨rfl, rfl, rfl, rfl, rfl, rfl, trivial⟩ (Nat.le_of_ble_eq_true rfl) (Nat.le_of_ble_eq_true rfl) (Nat.le_of_ble_eq_true rfl) (Nat.le_of_ble_eq_true rfl) (Nat.le_of_ble_eq_true rfl) rfl (fun r U hq => ?_)
    obtain ⟨rfl, rfl⟩ := hq
    refine fz_back rfl ?_
    refine fz_iret dX10_cancel_15 rfl (Nat.zero_le _) (Nat.zero_le _) ⟨rfl, g, tw, ln, co, tf, sg, sz, wd, st, op, ki, fa, qu, F, Q, (if 0 < pdc T a m ∧ u = pdc T a m then nc - 1 else nc), pn - pdc T a m, upd pf s (nI (pnf T s tn - pdc T a m)), rows, en, et, ow, lo, hi, rb, ts, sh, go, re, al, hg, hn, htw, htq, hM, ⟨?_, fun c hc => ?_, ?_⟩, htt, rfl⟩
    · rw [e4, hoc.1]
    · rw [e5]
      by_cases z : c = s
      · rw [if_pos z, z, pk_us]
      · rw [if_neg z, pk_un z]; exact hoc.2.1 c hc
    · rw [e6, hoc.2.2]
