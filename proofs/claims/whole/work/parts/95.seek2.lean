/-! THE MODEL: its world and state; seek -/
def rbR (rn : Nat) (B Rb : Nat → Nat → Int32) : Prop := ∀ q, q < rn → ∀ j, j < 4 → Rb j q = B q j
def mfR (f : Nat → Int32) (n : Nat) (fp : Int32) (cn w t rn A wy lg on tn : Nat) : Prop := f 0 = nI n ∧ f 2 = fp ∧ f 3 = nI cn ∧ f 4 = nI w ∧ f 11 = nI t ∧ f 12 = nI rn ∧ f 19 = nI A ∧ f 20 = nI wy ∧ f 21 = nI lg ∧ f 22 = nI on ∧ f 28 = nI tn
abbrev wMd (f sg ki dr fa sn wh en : Nat → Int32) (Rb Od Ta : Nat → Nat → Int32) (re le : Nat → Int32) : fz_W := [(30, eM f), (41, eSg sg), (45, eKi ki), (46, eDr dr), (49, eFa fa), (50, eSn sn), (53, eWh wh), (54, e6 en), (55, e6 (Rb 0)), (56, e6 (Rb 1)), (57, e6 (Rb 2)), (58, e6 (Rb 3)), (63, e40 (Od 0)), (64, e40 (Od 1)), (65, e40 (Od 2)), (66, e40 (Od 4)), (67, e40 (Od 5)), (69, e90 (Ta 0)), (70, e90 (Ta 1)), (71, e90 (Ta 3)), (72, e90 (Ta 4)), (73, e90 (Ta 5)), (74, e90 (Ta 6)), (75, e90 (Ta 7)), (76, e90 (Ta 8)), (77, eRe2 re), (78, eRe2 le)]
/-- the world is the model's of this state; robot q's row is written up to E q -/
def mdE (E : Nat → Nat) (σ : zS) (V : fz_W) : Prop := match σ with
  | (tx, n, fp, cn, w, kn, on, tn, rn, O, T, P, te, B, t, A, wy, lg) => ∃ (f sg ki dr fa sn wh en : Nat → Int32) (Rb Od Ta : Nat → Nat → Int32) (re le : Nat → Int32), mfR f n fp cn w t rn A wy lg on tn ∧ n ≤ 90 ∧ tq sg tx n ∧ cn ≤ 80 ∧ kiR cn kn ki ∧ faR cn w kn fa ∧ mtR E rn P te wh en ∧ rbR rn B Rb ∧ odR on O Od ∧ taR tn T Ta ∧ V = wMd f sg ki dr fa sn wh en Rb Od Ta re le
theorem va_comm {Ta : Nat → Nat → Int32} {i j : Nat} {a b : Nat → Int32} (h : i ≠ j) : va_up (va_up Ta i a) j b i = a := by rw [va_up_ne _ _ h, va_up_self]
theorem taR_up {tn : Nat} {T Ta : Nat → Nat → Int32} (h : taR tn T Ta) (k : Nat) {j : Nat} (x : Int32) : taR tn (va_up T k (upd (T k) j x)) (va_up Ta j (upd (Ta j) k x)) := by
  intro i hi j' hj' hj2
  by_cases e : j' = j
  · subst e
    rw [va_up_self]
    by_cases e2 : i = k
    · rw [e2, pk_us, va_up_self, pk_us]
    · rw [pk_un e2, va_up_ne _ _ e2]; exact h i hi j' hj' hj2
  · rw [va_up_ne _ _ e]
    by_cases e2 : i = k
    · rw [e2, va_up_self, upk e, ← e2]; exact h i hi j' hj' hj2
    · rw [va_up_ne _ _ e2]; exact h i hi j' hj' hj2
theorem rbR_up {rn : Nat} {B Rb : Nat → Nat → Int32} (h : rbR rn B Rb) (k : Nat) {j : Nat} (x : Int32) : rbR rn (va_up B k (upd (B k) j x)) (va_up Rb j (upd (Rb j) k x)) := by
  intro i hi j' hj'
  by_cases e : j' = j
  · subst e
    rw [va_up_self]
    by_cases e2 : i = k
    · rw [e2, pk_us, va_up_self, pk_us]
    · rw [pk_un e2, va_up_ne _ _ e2]; exact h i hi j' hj'
  · rw [va_up_ne _ _ e]
    by_cases e2 : i = k
    · rw [e2, va_up_self, upk e, ← e2]; exact h i hi j' hj'
    · rw [va_up_ne _ _ e2]; exact h i hi j' hj'
theorem odR_up {on : Nat} {O Od : Nat → Nat → Int32} (h : odR on O Od) (k : Nat) {j : Nat} (x : Int32) : odR on (va_up O k (upd (O k) j x)) (va_up Od j (upd (Od j) k x)) := by
  intro i hi j' hj' hj2
  by_cases e : j' = j
  · subst e
    rw [va_up_self]
    by_cases e2 : i = k
    · rw [e2, pk_us, va_up_self, pk_us]
    · rw [pk_un e2, va_up_ne _ _ e2]; exact h i hi j' hj' hj2
  · rw [va_up_ne _ _ e]
    by_cases e2 : i = k
    · rw [e2, va_up_self, upk e, ← e2]; exact h i hi j' hj' hj2
    · rw [va_up_ne _ _ e2]; exact h i hi j' hj' hj2
theorem mtR_E {E E' : Nat → Nat} {rn : Nat} {P : Nat → Nat → Nat} {te : Nat → Nat} {wh en : Nat → Int32} (he : ∀ q, q < rn → E' q = E q) (h : mtR E rn P te wh en) : mtR E' rn P te wh en := by
  intro q hq
  rw [he q hq]
  exact h q hq
/-- the model's rows behind a search -/
theorem mtR_way {cn w : Nat} {kn : Nat → Nat} {E : Nat → Nat} {rn : Nat} {P : Nat → Nat → Nat} {te : Nat → Nat} {wh wh' en : Nat → Int32} {r t : Nat} {sho : Option Nat} {goal L : Nat} {p : Nat → Nat} (hrn : rn ≤ 6) (h : mtR E rn P te wh en) (hr : r < rn) (hEr : E r = t) (ht : t ≤ 4000) (hter : te r ≤ t) (h0 : 0 < w) (h80 : cn ≤ 80) (hh : ∃ h, cn = w * h) (hc : P r t < cn) (hk : ¬ kn (P r t) = 0) (hW : isWy cn w kn P te rn r t sho goal L p) (hrw : whQ wh r t L p wh') : mtR (exE E r (t + L)) rn (nwP P r t L p) (nwE te r t L) wh' (upd en r (nI (t + L))) := by
  obtain ⟨w1, w2, w3, sp, w4⟩ := hW
  have hs0 := s0f_lt sho (P r t)
  have p0 : p 0 = P r t := w4.1
  have hlt : ∀ j, j ≤ L → p j < 80 := fun j hj => by have := (isW_in h0 hh hc hk hs0 w2.2 w4 hj).1; omega
  intro q hq
  obtain ⟨h1, h2, h3, h4, h5, h6⟩ := h q hq
  unfold exE nwE
  by_cases e : q = r
  · subst e
    rw [if_pos rfl, if_pos rfl]
    have hv : ∀ τ, t + L ≤ τ → nwP P q t L p q τ = p L := by
      intro τ hτ
      unfold nwP
      by_cases z : t < τ
      · rw [if_pos ⟨rfl, z⟩, show min (τ - t) L = L by omega]
      · have e1 : L = 0 := by omega
        have e2 : τ = t := by omega
        rw [if_neg (fun y => z y.2), e2, e1, p0]
    refine ⟨pk_us, Nat.le_refl _, by omega, fun τ hτ => ?_, fun τ hτ => by rw [hv τ hτ, hv _ (Nat.le_refl _)], fun τ => ?_⟩
    · rw [hrw q τ (by omega) (by omega)]
      unfold nwP
      by_cases z : t < τ
      · rw [if_pos ⟨rfl, z, hτ⟩, if_pos ⟨rfl, z⟩, show min (τ - t) L = τ - t by omega]
      · rw [if_neg (fun y => z y.2.1), if_neg (fun y => z y.2)]
        exact h4 τ (by omega)
    · unfold nwP
      split
      · exact hlt _ (Nat.min_le_right _ _)
      · exact h6 τ
  · have other : ∀ τ, nwP P r t L p q τ = P q τ := fun τ => by unfold nwP; rw [if_neg (fun z => e z.1)]
    rw [if_neg e, if_neg e]
    refine ⟨by rw [pk_un e]; exact h1, h2, h3, fun τ hτ => ?_, fun τ hτ => by rw [other, other]; exact h5 τ hτ, fun τ => by rw [other]; exact h6 τ⟩
    rw [other, hrw q τ (by omega) (by omega), if_neg (fun z => e z.1)]
    exact h4 τ hτ
theorem mfR_w {f : Nat → Int32} {n : Nat} {fp : Int32} {cn w t rn A wy lg on tn : Nat} (h : mfR f n fp cn w t rn A wy lg on tn) (wy' lg' : Nat) : mfR (upd (upd f 20 (nI wy')) 21 (nI lg')) n fp cn w t rn A wy' lg' on tn := by
  obtain ⟨m0, m2, m3, m4, m11, m12, m19, m20, m21, m22, m28⟩ := h
  refine ⟨?_, ?_, ?_, ?_, ?_, ?_, ?_, ?_, pk_us, ?_, ?_⟩
  · rw [upk (by decide), upk (by decide)]; exact m0
  · rw [upk (by decide), upk (by decide)]; exact m2
  · rw [upk (by decide), upk (by decide)]; exact m3
  · rw [upk (by decide), upk (by decide)]; exact m4
  · rw [upk (by decide), upk (by decide)]; exact m11
  · rw [upk (by decide), upk (by decide)]; exact m12
  · rw [upk (by decide), upk (by decide)]; exact m19
  · rw [upk (by decide), pk_us]
  · rw [upk (by decide), upk (by decide)]; exact m22
  · rw [upk (by decide), upk (by decide)]; exact m28
/-- a way exists wherever one is looked for -/
def wyX (cn w : Nat) (kn : Nat → Nat) (tn rn : Nat) (s : fS) (r : Nat) : Prop := match s with
  | (O, T, P, te, B, t, A, wy, lg) => (∀ k, bst (ftB T (fun c => eoB P te r c rn)) (fun i => dsF cn w kn (P r t) (tsh T i)) tn = some k → ∃ L, L < 1000 ∧ okL cn w kn P te rn r t (some (tsh T k)) (s0f (some (tsh T k)) (P r t)) (P r t) (tst T k) L) ∧ (∀ d, bst (rfB kn (fun c => wnB T c tn) (fun c => eoB P te r c rn)) (fun d => dsF cn w kn (P r t) d) cn = some d → ∃ L, L < 1000 ∧ okL cn w kn P te rn r t none (s0f none (P r t)) (P r t) d L)
theorem tX11_seek {G : fz_G} (tx : Nat → Nat) (n : Nat) (fp : Int32) (cn w : Nat) (kn : Nat → Nat) (on tn rn : Nat) (s : fS) (E : Nat → Nat) (V : fz_W) (r : Nat) (hr : r < rn) (hI : inF cn kn on tn rn s) (h0 : 0 < w) (hw : w ≤ 10) (hh : ∃ h, cn = w * h) (hter : s.2.2.2.1 r ≤ tmF s) (hEr : E r = tmF s) (hX : wyX cn w kn tn rn s r) (hV : mdE E (tx, n, fp, cn, w, kn, on, tn, rn, s) V) :
    fz_T G mX11_seek rX11_seek [zR 30 0, zI (nI r)] V (fun x U => x = none ∧ ∃ E', (∀ q, q < rn → ¬ q = r → E' q = E q) ∧ E' r = max ((lfw cn w kn tn rn s r).2.2.2.1 r) (tmF s) ∧ mdE E' (tx, n, fp, cn, w, kn, on, tn, rn, lfw cn w kn tn rn s r) U) := by
  obtain ⟨O, T, P, te, B, t, A, wy, lg⟩ := s
  obtain ⟨i1, i2, i3, i4, i5, i6, i7, i8, i9⟩ := hI
  obtain ⟨f, sg, ki, dr, fa, sn, wh, en, Rb, Od, Ta, re, le, hm, hn, htq, h80, hki, hfa, hmt, hrb, hod, hta, rfl⟩ := hV
  obtain ⟨m0, m2, m3, m4, m11, m12, m19, m20, m21, m22, m28⟩ := id hm
  have hter : te r ≤ t := hter
  have hEr : E r = t := hEr
  obtain ⟨pc, pk⟩ := i8 r hr t
  obtain ⟨hX1, hX2⟩ := hX
  have idle : lfw cn w kn tn rn (O, T, P, te, B, t, A, wy, lg) r = (O, T, P, te, B, t, A, wy, lg) → ∃ E', (∀ q, q < rn → ¬ q = r → E' q = E q) ∧ E' r = max ((lfw cn w kn tn rn (O, T, P, te, B, t, A, wy, lg) r).2.2.2.1 r) t ∧ mdE E' (tx, n, fp, cn, w, kn, on, tn, rn, lfw cn w kn tn rn (O, T, P, te, B, t, A, wy, lg) r) (wMd f sg ki dr fa sn wh en Rb Od Ta re le) := by
    intro e
    rw [e]
    exact ⟨E, fun q _ _ => rfl, by show E r = max (te r) t; omega, f, sg, ki, dr, fa, sn, wh, en, Rb, Od, Ta, re, le, hm, hn, htq, h80, hki, hfa, hmt, hrb, hod, hta, rfl⟩
  refine fz_T.of (by decide) (Nat.le_of_ble_eq_true rfl) (fun E0 => ?_)
  refine fz_aload_n dX11_seek_0 rfl ?_
  refine fz_iload_n dX11_seek_1 rfl ?_
  refine fz_callV (tX11_fitTask f fa wh en Od Ta E cn w rn kn h80 hfa i3 m12 P te hmt on tn i1 i2 O T i6 hod hta m28 r t hr m11 i4 pc) dX11_seek_2 kX11_213 rfl (Nat.one_pos) ⟨rfl, rfl, rfl, rfl, rfl, rfl, rfl, rfl, trivial⟩ (Nat.le_of_ble_eq_true rfl) (Nat.le_of_ble_eq_true rfl) (Nat.le_of_ble_eq_true rfl) (Nat.le_of_ble_eq_true rfl) (Nat.le_of_ble_eq_true rfl) rfl (fun r U hq => ?_)
  obtain ⟨rfl, rfl⟩ := hq
  refine fz_back rfl ?_
  refine fz_wo (V' := wMd f sg ki dr fa sn wh en Rb Od Ta re le) rfl ?_
  refine fz_istore_n dX11_seek_5 (Nat.le_of_ble_eq_true rfl) ?_
  refine fz_aload_n dX11_seek_6 rfl ?_
  refine fz_iload_n dX11_seek_7 rfl ?_
  refine fz_aload_n dX11_seek_8 rfl ?_
  refine fz_get dX11_seek_9 fX11_141 rfl (Nat.one_pos) rfl ?_
  rw [m11]
  refine fz_callV (tX11_at f wh en E rn i3 P te hmt r t hr (by omega)) dX11_seek_12 kX11_166 rfl (Nat.one_pos) ⟨rfl, rfl, rfl, trivial⟩ (Nat.le_of_ble_eq_true rfl) (Nat.le_of_ble_eq_true rfl) (Nat.le_of_ble_eq_true rfl) (Nat.le_of_ble_eq_true rfl) (Nat.le_of_ble_eq_true rfl) rfl (fun r U hq => ?_)
  obtain ⟨rfl, rfl⟩ := hq
  refine fz_back rfl ?_
  refine fz_wo (V' := wMd f sg ki dr fa sn wh en Rb Od Ta re le) rfl ?_
  refine fz_istore_n dX11_seek_15 (Nat.le_of_ble_eq_true rfl) ?_
  refine fz_iload_n dX11_seek_16 rfl ?_
  cases hb : bst (ftB T (fun c => eoB P te r c rn)) (fun i => dsF cn w kn (P r t) (tsh T i)) tn with
  | some k =>
    obtain ⟨hk, hft⟩ := bst_lt hb
    obtain ⟨⟨a1, a2, a3⟩, ⟨b1, b2, b3⟩, o, c1, c2, c3⟩ := i6 k hk
    have t0 := hta k hk 0 (by omega) (by omega)
    have t1 := hta k hk 1 (by omega) (by omega)
    have o0 := hod o c1 0 (by omega) (by omega)
    unfold ftB at hft
    simp only [Bool.and_eq_true, decide_eq_true_eq, Bool.not_eq_true'] at hft
    obtain ⟨f1, f2, f3⟩ := hft
    refine fz_if_lt (tgt := 103) dX11_seek_17 (by decide) (fun c17 => ?_) (fun c17 => ?_)
    · exact absurd c17 (nI_pos (by omega))
    · skip
      refine fz_aload_n dX11_seek_20 rfl ?_
      refine fz_get dX11_seek_21 fX11_69 rfl (Nat.one_pos) rfl ?_
      refine fz_iload_n dX11_seek_24 rfl ?_
      refine fz_top (y := nI k) rfl ?_
      refine fz_iconst (v := nI 1) dX11_seek_25 (by decide) ?_
      refine fz_iast1 dX11_seek_26 rfl rfl (vp_in_nI (by omega) (by omega)) ?_
      rw [nI_clamp (by omega)]
      refine fz_aload_n dX11_seek_27 rfl ?_
      refine fz_get dX11_seek_28 fX11_72 rfl (Nat.one_pos) rfl ?_
      refine fz_iload_n dX11_seek_31 rfl ?_
      refine fz_top (y := nI k) rfl ?_
      refine fz_iload_n dX11_seek_32 rfl ?_
      refine fz_iast1 dX11_seek_33 rfl rfl (vp_in_nI (by omega) (by omega)) ?_
      rw [nI_clamp (by omega)]
      refine fz_aload_n dX11_seek_34 rfl ?_
      refine fz_get dX11_seek_35 fX11_78 rfl (Nat.one_pos) rfl ?_
      refine fz_iload_n dX11_seek_38 rfl ?_
      refine fz_top (y := nI k) rfl ?_
      refine fz_aload_n dX11_seek_39 rfl ?_
      refine fz_get dX11_seek_40 fX11_141 rfl (Nat.one_pos) rfl ?_
      rw [m11]
      refine fz_iast1 dX11_seek_43 rfl rfl (vp_in_nI (by omega) (by omega)) ?_
      rw [nI_clamp (by omega)]
      refine fz_aload_n dX11_seek_44 rfl ?_
      refine fz_get dX11_seek_45 fX11_36 rfl (Nat.one_pos) rfl ?_
      refine fz_iload_n dX11_seek_48 rfl ?_
      refine fz_iload_n dX11_seek_49 rfl ?_
      refine fz_top (y := nI k) rfl ?_
      refine fz_iast1 dX11_seek_50 rfl rfl (vp_in_nI (by omega) (by omega)) ?_
      rw [nI_clamp (by omega)]
      refine fz_wo (V' := wMd f sg ki dr fa sn wh en (va_up Rb 0 (upd (Rb 0) r (nI k))) Od (va_up (va_up (va_up Ta 3 (upd (Ta 3) k (nI 1))) 4 (upd (Ta 4) k (nI r))) 6 (upd (Ta 6) k (nI t))) re le) rfl ?_
      refine fz_aload_n dX11_seek_51 rfl ?_
      refine fz_iload_n dX11_seek_52 rfl ?_
      refine fz_aload_n dX11_seek_53 rfl ?_
      refine fz_get dX11_seek_54 fX11_66 rfl (Nat.one_pos) rfl ?_
      refine fz_iload_n dX11_seek_57 rfl ?_
      refine fz_top (y := nI k) rfl ?_
      refine fz_iald dX11_seek_58 rfl rfl (Nat.one_pos) (vp_in_nI (by omega) (by omega)) ?_
      rw [nI_clamp (by omega)]
      refine fz_top (y := nI (tsh T k)) (t1.trans a1) ?_
      refine fz_aload_n dX11_seek_59 rfl ?_
      refine fz_get dX11_seek_60 fX11_48 rfl (Nat.one_pos) rfl ?_
      refine fz_aload_n dX11_seek_63 rfl ?_
      refine fz_get dX11_seek_64 fX11_63 rfl (Nat.one_pos) rfl ?_
      refine fz_iload_n dX11_seek_67 rfl ?_
      refine fz_top (y := nI k) rfl ?_
      refine fz_iald dX11_seek_68 rfl rfl (Nat.one_pos) (vp_in_nI (by omega) (by omega)) ?_
      rw [nI_clamp (by omega)]
      refine fz_top (y := nI o) (t0.trans c2) ?_
      refine fz_iald dX11_seek_69 rfl rfl (Nat.one_pos) (vp_in_nI (by omega) (by omega)) ?_
      rw [nI_clamp (by omega), o0, c3, b1]
      refine fz_callV (tX11_findWay f ki wh en re le E cn w rn kn h0 hw h80 hh hki i3 m3 m4 m12 P te hmt r t hr (by omega) m11 i4 (some (tsh T k)) (fun x hx => by cases hx; omega) (tst T k) wy lg i5 m20 m21 (by omega) pc pk f3 (hX1 k hb)) dX11_seek_70 kX11_216 rfl (Nat.one_pos) ⟨rfl, rfl, rfl, rfl, rfl, rfl, trivial⟩ (Nat.le_of_ble_eq_true rfl) (Nat.le_of_ble_eq_true rfl) (Nat.le_of_ble_eq_true rfl) (Nat.le_of_ble_eq_true rfl) (Nat.le_of_ble_eq_true rfl) rfl (fun r U hq => ?_)
      obtain ⟨rfl, f', wh', en', re', le', ⟨L, p, hwy, hwq, rfl, rfl⟩, rfl⟩ := hq
      obtain ⟨p', hF, hpp⟩ := wyF_some hwy
      have hs' : lfw cn w kn tn rn (O, T, P, te, B, t, A, wy, lg) r = (O, va_up T k (tkU (T k) r t (P r t)), nwP P r t L p, nwE te r t L, va_up B r (upd (B r) 0 (nI k)), t, A, wy + 1, max lg L) := by
        unfold lfw
        simp only [hb, hF]
        rw [nwP_one hpp]
      rw [hs']
      have hmt2 := mtR_way i3 hmt hr hEr i4 hter h0 h80 hh pc pk hwy hwq
      have hE2 : exE E r (t + L) r = max (nwE te r t L r) t := by unfold exE nwE; rw [if_pos rfl, if_pos rfl]; omega
      have hta1 := taR_up (taR_up (taR_up hta k (j := 3) (nI 1)) k (j := 4) (nI r)) k (j := 6) (nI t)
      simp only [va_up_self, va_upU] at hta1
      have m11' : upd (upd f 20 (nI (wy + 1))) 21 (nI (max lg L)) 11 = nI t := by rw [upk (by decide), upk (by decide)]; exact m11
      refine fz_back rfl ?_
      refine fz_wo (V' := wMd (upd (upd f 20 (nI (wy + 1))) 21 (nI (max lg L))) sg ki dr fa sn wh' (upd en r (nI (t + L))) (va_up Rb 0 (upd (Rb 0) r (nI k))) Od (va_up (va_up (va_up Ta 3 (upd (Ta 3) k (nI 1))) 4 (upd (Ta 4) k (nI r))) 6 (upd (Ta 6) k (nI t))) re' le') rfl ?_
      refine fz_iload_n dX11_seek_73 rfl ?_
      refine fz_aload_n dX11_seek_74 rfl ?_
      refine fz_get dX11_seek_75 fX11_66 rfl (Nat.one_pos) rfl ?_
      refine fz_iload_n dX11_seek_78 rfl ?_
      refine fz_top (y := nI k) rfl ?_
      refine fz_iald dX11_seek_79 rfl rfl (Nat.one_pos) (vp_in_nI (by omega) (by omega)) ?_
      rw [nI_clamp (by omega)]
      refine fz_top (y := T k 1) t1 ?_
      refine fz_icmp_ne (tgt := 141) dX11_seek_80 (by decide) (fun c80 => ?_) (fun c80 => ?_)
      · have eU : tkU (T k) r t (P r t) = upd (upd (upd (T k) 3 (nI 1)) 4 (nI r)) 6 (nI t) := by unfold tkU; rw [if_neg (fun z => c80 z.symm)]
        rw [eU]
        refine fz_vret dX11_seek_141 rfl (Nat.zero_le _) (Nat.zero_le _) ⟨rfl, exE E r (t + L), fun q _ hq => (by unfold exE; rw [if_neg hq]), hE2, _, sg, ki, dr, fa, sn, wh', _, _, Od, _, re', le', mfR_w hm _ _, hn, htq, h80, hki, hfa, hmt2, rbR_up hrb r (nI k), hod, hta1, rfl⟩
      · have eU : tkU (T k) r t (P r t) = upd (upd (upd (upd (upd (T k) 3 (nI 1)) 4 (nI r)) 6 (nI t)) 3 (nI 2)) 7 (nI t) := by unfold tkU; rw [if_pos c80.symm]
        rw [eU]
        have hta2 := taR_up (taR_up hta1 k (j := 3) (nI 2)) k (j := 7) (nI t)
        simp only [va_up_self, va_upU] at hta2
        refine fz_aload_n dX11_seek_83 rfl ?_
        refine fz_get dX11_seek_84 fX11_69 rfl (Nat.one_pos) rfl ?_
        refine fz_iload_n dX11_seek_87 rfl ?_
        refine fz_top (y := nI k) rfl ?_
        refine fz_iconst (v := nI 2) dX11_seek_88 (by decide) ?_
        refine fz_iast1 dX11_seek_89 rfl rfl (vp_in_nI (by omega) (by omega)) ?_
        rw [nI_clamp (by omega)]
        refine fz_aload_n dX11_seek_90 rfl ?_
        refine fz_get dX11_seek_91 fX11_81 rfl (Nat.one_pos) rfl ?_
        refine fz_iload_n dX11_seek_94 rfl ?_
        refine fz_top (y := nI k) rfl ?_
        refine fz_aload_n dX11_seek_95 rfl ?_
        refine fz_get dX11_seek_96 fX11_141 rfl (Nat.one_pos) rfl ?_
        rw [m11']
        refine fz_iast1 dX11_seek_99 rfl rfl (vp_in_nI (by omega) (by omega)) ?_
        rw [nI_clamp (by omega)]
        refine fz_goto (tgt := 141) dX11_seek_100 (by decide) ?_
        refine fz_vret dX11_seek_141 rfl (Nat.zero_le _) (Nat.zero_le _) ⟨rfl, exE E r (t + L), fun q _ hq => (by unfold exE; rw [if_neg hq]), hE2, _, sg, ki, dr, fa, sn, wh', _, _, Od, _, re', le', mfR_w hm _ _, hn, htq, h80, hki, hfa, hmt2, rbR_up hrb r (nI k), hod, hta2, rfl⟩
  | none =>
    refine fz_if_lt (tgt := 103) dX11_seek_17 (by decide) (fun c17 => ?_) (fun c17 => ?_)
    · skip
      refine fz_aload_n dX11_seek_103 rfl ?_
      refine fz_iload_n dX11_seek_104 rfl ?_
      refine fz_callV (tX11_isWanted f Od Ta cn h80 kn on tn i1 i2 O T i6 hod hta m28 (P r t) (by omega)) dX11_seek_105 kX11_210 rfl (Nat.one_pos) ⟨rfl, rfl, rfl, rfl, trivial⟩ (Nat.le_of_ble_eq_true rfl) (Nat.le_of_ble_eq_true rfl) (Nat.le_of_ble_eq_true rfl) (Nat.le_of_ble_eq_true rfl) (Nat.le_of_ble_eq_true rfl) rfl (fun r U hq => ?_)
      obtain ⟨rfl, rfl⟩ := hq
      refine fz_back rfl ?_
      refine fz_wo (V' := wMd f sg ki dr fa sn wh en Rb Od Ta re le) rfl ?_
      cases hv : wnB T (P r t) tn with
      | false =>
        refine fz_if_eq (tgt := 141) dX11_seek_108 (by decide) (fun c108 => ?_) (fun c108 => ?_)
        · refine fz_vret dX11_seek_141 rfl (Nat.zero_le _) (Nat.zero_le _) ⟨rfl, idle ?_⟩
          unfold lfw
          simp only [hb, hv]
          rfl
        · exact absurd rfl c108
      | true =>
        refine fz_if_eq (tgt := 141) dX11_seek_108 (by decide) (fun c108 => ?_) (fun c108 => ?_)
        · exact absurd c108 (by decide)
        · skip
          refine fz_aload_n dX11_seek_111 rfl ?_
          refine fz_iload_n dX11_seek_112 rfl ?_
          refine fz_callV (tX11_aside f ki fa wh en Od Ta E cn w rn kn h80 hki m3 hfa i3 m12 P te hmt on tn i1 i2 O T i6 hod hta m28 r t hr m11 i4 pc) dX11_seek_113 kX11_219 rfl (Nat.one_pos) ⟨rfl, rfl, rfl, rfl, rfl, rfl, rfl, rfl, trivial⟩ (Nat.le_of_ble_eq_true rfl) (Nat.le_of_ble_eq_true rfl) (Nat.le_of_ble_eq_true rfl) (Nat.le_of_ble_eq_true rfl) (Nat.le_of_ble_eq_true rfl) rfl (fun r U hq => ?_)
          obtain ⟨rfl, rfl⟩ := hq
          refine fz_back rfl ?_
          refine fz_wo (V' := wMd f sg ki dr fa sn wh en Rb Od Ta re le) rfl ?_
          refine fz_istore dX11_seek_116 (Nat.le_of_ble_eq_true rfl) ?_
          refine fz_iload dX11_seek_118 rfl ?_
          cases hb2 : bst (rfB kn (fun c => wnB T c tn) (fun c => eoB P te r c rn)) (fun d => dsF cn w kn (P r t) d) cn with
          | none =>
            refine fz_if_lt (tgt := 141) dX11_seek_120 (by decide) (fun c120 => ?_) (fun c120 => ?_)
            · refine fz_vret dX11_seek_141 rfl (Nat.zero_le _) (Nat.zero_le _) ⟨rfl, idle ?_⟩
              unfold lfw
              simp only [hb, hv, hb2]
              rfl
            · exact absurd (by decide) c120
          | some d =>
            obtain ⟨hd, hrf⟩ := bst_lt hb2
            unfold rfB at hrf
            simp only [Bool.and_eq_true, decide_eq_true_eq, Bool.not_eq_true'] at hrf
            obtain ⟨f1, f2, f3⟩ := hrf
            refine fz_if_lt (tgt := 141) dX11_seek_120 (by decide) (fun c120 => ?_) (fun c120 => ?_)
            · exact absurd c120 (nI_pos (by omega))
            · skip
              refine fz_aload_n dX11_seek_123 rfl ?_
              refine fz_iload_n dX11_seek_124 rfl ?_
              refine fz_iconst (v := -1) dX11_seek_125 (by decide) ?_
              refine fz_iload dX11_seek_126 rfl ?_
              refine fz_top (y := nI d) rfl ?_
              refine fz_callV (tX11_findWay f ki wh en re le E cn w rn kn h0 hw h80 hh hki i3 m3 m4 m12 P te hmt r t hr (by omega) m11 i4 none (fun x hx => by cases hx) d wy lg i5 m20 m21 (by omega) pc pk f3 (hX2 d hb2)) dX11_seek_128 kX11_216 rfl (Nat.one_pos) ⟨rfl, rfl, rfl, rfl, rfl, rfl, trivial⟩ (Nat.le_of_ble_eq_true rfl) (Nat.le_of_ble_eq_true rfl) (Nat.le_of_ble_eq_true rfl) (Nat.le_of_ble_eq_true rfl) (Nat.le_of_ble_eq_true rfl) rfl (fun r U hq => ?_)
              obtain ⟨rfl, f', wh', en', re', le', ⟨L, p, hwy, hwq, rfl, rfl⟩, rfl⟩ := hq
              obtain ⟨p', hF, hpp⟩ := wyF_some hwy
              have hs' : lfw cn w kn tn rn (O, T, P, te, B, t, A, wy, lg) r = (O, T, nwP P r t L p, nwE te r t L, va_up B r (upd (B r) 3 (B r 3 + 1)), t, A, wy + 1, max lg L) := by
                unfold lfw
                simp only [hb, hv, hb2, hF]
                rw [nwP_one hpp]
                rfl
              rw [hs']
              have hmt2 := mtR_way i3 hmt hr hEr i4 hter h0 h80 hh pc pk hwy hwq
              have hE2 : exE E r (t + L) r = max (nwE te r t L r) t := by unfold exE nwE; rw [if_pos rfl, if_pos rfl]; omega
              refine fz_back rfl ?_
              refine fz_wo (V' := wMd (upd (upd f 20 (nI (wy + 1))) 21 (nI (max lg L))) sg ki dr fa sn wh' (upd en r (nI (t + L))) Rb Od Ta re' le') rfl ?_
              refine fz_aload_n dX11_seek_131 rfl ?_
              refine fz_get dX11_seek_132 fX11_45 rfl (Nat.one_pos) rfl ?_
              refine fz_iload_n dX11_seek_135 rfl ?_
              refine fz_dup2_11 dX11_seek_136 rfl rfl ?_
              refine fz_iald dX11_seek_137 rfl rfl (Nat.one_pos) (vp_in_nI (by omega) (by omega)) ?_
              rw [nI_clamp (by omega), hrb r hr 3 (by omega)]
              refine fz_iconst (v := nI 1) dX11_seek_138 (by decide) ?_
              refine fz_iadd dX11_seek_139 ?_
              refine fz_iast1 dX11_seek_140 rfl rfl (vp_in_nI (by omega) (by omega)) ?_
              rw [nI_clamp (by omega)]
              refine fz_vret dX11_seek_141 rfl (Nat.zero_le _) (Nat.zero_le _) ⟨rfl, exE E r (t + L), fun q _ hq => (by unfold exE; rw [if_neg hq]), hE2, _, sg, ki, dr, fa, sn, wh', _, _, Od, Ta, re', le', mfR_w hm _ _, hn, htq, h80, hki, hfa, hmt2, rbR_up hrb r (j := 3) (B r 3 + 1), hod, hta, rfl⟩
    · exact absurd (by decide) c17
