/-! Fleet: lookForWork -/
/-- orders, tasks, paths, end times, robots, time, alarms, ways, the longest -/
abbrev fS : Type := (Nat → Nat → Int32) × (Nat → Nat → Int32) × (Nat → Nat → Nat) × (Nat → Nat) × (Nat → Nat → Int32) × Nat × Nat × Nat × Nat
noncomputable def wyF (cn w : Nat) (kn : Nat → Nat) (P : Nat → Nat → Nat) (te : Nat → Nat) (rn r t : Nat) (sho : Option Nat) (goal : Nat) : Option (Nat × (Nat → Nat)) := @dite _ (∃ x : Nat × (Nat → Nat), isWy cn w kn P te rn r t sho goal x.1 x.2) (Classical.propDecidable _) (fun h => some (Classical.choose h)) (fun _ => none)
theorem wyF_some {cn w : Nat} {kn : Nat → Nat} {P : Nat → Nat → Nat} {te : Nat → Nat} {rn r t : Nat} {sho : Option Nat} {goal L : Nat} {p : Nat → Nat} (h : isWy cn w kn P te rn r t sho goal L p) : ∃ p', wyF cn w kn P te rn r t sho goal = some (L, p') ∧ ∀ j, j ≤ L → p j = p' j := by
  have hx : ∃ x : Nat × (Nat → Nat), isWy cn w kn P te rn r t sho goal x.1 x.2 := ⟨(L, p), h⟩
  have hs := Classical.choose_spec hx
  obtain ⟨e1, e2⟩ := isWy_one h hs
  refine ⟨(Classical.choose hx).2, ?_, e2⟩
  unfold wyF
  rw [dif_pos hx]
  congr 1
  rw [e1]
theorem wyF_is {cn w : Nat} {kn : Nat → Nat} {P : Nat → Nat → Nat} {te : Nat → Nat} {rn r t : Nat} {sho : Option Nat} {goal : Nat} {x : Nat × (Nat → Nat)} (h : wyF cn w kn P te rn r t sho goal = some x) : isWy cn w kn P te rn r t sho goal x.1 x.2 := by
  unfold wyF at h
  split at h
  · rename_i hx
    cases h
    exact Classical.choose_spec hx
  · cases h
theorem wyF_none {cn w : Nat} {kn : Nat → Nat} {P : Nat → Nat → Nat} {te : Nat → Nat} {rn r t : Nat} {sho : Option Nat} {goal : Nat} (h : ∀ L, L < 1000 → ¬ okL cn w kn P te rn r t sho (s0f sho (P r t)) (P r t) goal L) : wyF cn w kn P te rn r t sho goal = none := by
  unfold wyF
  rw [dif_neg]
  rintro ⟨x, h1, h2, -⟩
  exact h _ h1 h2
noncomputable abbrev dsF (cn w : Nat) (kn : Nat → Nat) (c d : Nat) : Int32 := oI (dsw cn w kn (exT true kn c) c d)
/-- a free robot looks for work -/
noncomputable def lfw (cn w : Nat) (kn : Nat → Nat) (tn rn : Nat) (s : fS) (r : Nat) : fS := match s with
  | (O, T, P, te, B, t, A, wy, lg) => match bst (ftB T (fun c => eoB P te r c rn)) (fun i => dsF cn w kn (P r t) (tsh T i)) tn with
    | some k => (match wyF cn w kn P te rn r t (some (tsh T k)) (tst T k) with
      | some x => (O, va_up T k (tkU (T k) r t (P r t)), nwP P r t x.1 x.2, nwE te r t x.1, va_up B r (upd (B r) 0 (nI k)), t, A, wy + 1, max lg x.1)
      | none => (O, T, P, te, B, t, A, wy, lg))
    | none => if wnB T (P r t) tn = true then (match bst (rfB kn (fun c => wnB T c tn) (fun c => eoB P te r c rn)) (fun d => dsF cn w kn (P r t) d) cn with
      | some d => (match wyF cn w kn P te rn r t none d with
        | some x => (O, T, nwP P r t x.1 x.2, nwE te r t x.1, va_up B r (upd (B r) 3 (B r 3 + 1)), t, A, wy + 1, max lg x.1)
        | none => (O, T, P, te, B, t, A, wy, lg))
      | none => (O, T, P, te, B, t, A, wy, lg)) else (O, T, P, te, B, t, A, wy, lg)
/-- what always holds of the state -/
def inF (cn : Nat) (kn : Nat → Nat) (on tn rn : Nat) (s : fS) : Prop := match s with
  | (O, T, P, te, B, t, A, wy, lg) => on ≤ 40 ∧ tn ≤ 90 ∧ rn ≤ 6 ∧ t ≤ 4000 ∧ lg < 1000 ∧ tWf cn kn on tn O T ∧ oWf on tn O T ∧ (∀ r, r < rn → ∀ τ, P r τ < cn ∧ ¬ kn (P r τ) = 0) ∧ ∀ r, r < rn → B r 0 = -1 ∨ ∃ k, k < tn ∧ B r 0 = nI k
abbrev wSt (g : Nat) (sz wd : Nat → Int32) (st : Nat → Nat → Int32) (op : Nat → Nat → Int64) (ki fa qu : Nat → Nat → Int32) (F Q : Nat → Int32) (on tn nc pn : Nat) (pf : Nat → Int32) (O T : Nat → Nat → Int32) (rn t wy lg : Nat) (B : Nat → Nat → Int32) (rows : Nat → Int64) (en et ow : Nat → Int32) (A : Nat) (lo hi : Int64) (rb ts sh go : Int32) (re al : Nat → Int64) : fz_W := [(2, eGr sz wd), (3, e5 st), (4, eL op), (5, e8 ki), (6, e8 (va_up fa g F)), (7, e8 (va_up qu g Q)), (10, eOs (nI on) (nI tn) (nI nc) (nI pn)), (11, eA11), (12, eA12), (13, e80 pf), (14, eOr O), (15, eTa T), (16, eFl g (nI rn) (nI t) (nI wy) (nI lg)), (17, eA17), (18, eRo B), (19, eTT (nI rn)), (20, eRw rows), (21, e6 en), (22, e6 et), (23, e80 ow), (24, eMo (nI A)), (25, eWS g lo hi rb ts sh go), (26, eRe re), (27, eAl al)]
/-- the world is the class's of this state -/
def stR (cn w : Nat) (kn : Nat → Nat) (on tn rn g : Nat) (kt : Nat → Nat) (s : fS) (V : fz_W) : Prop := match s with
  | (O, T, P, te, B, t, A, wy, lg) => ∃ (sz wd : Nat → Int32) (st : Nat → Nat → Int32) (op : Nat → Nat → Int64) (ki fa qu : Nat → Nat → Int32) (F Q : Nat → Int32) (nc pn : Nat) (pf : Nat → Int32) (rows : Nat → Int64) (en et ow : Nat → Int32) (lo hi : Int64) (rb ts sh go : Int32) (re al : Nat → Int64), gK cn w kn (sz g) (wd g) (ki g) ∧ gS w (st g) ∧ gO cn w kn (op g) ∧ oCt on tn O T nc pn pf ∧ ttR kt rn P te rows en et ow ∧ V = wSt g sz wd st op ki fa qu F Q on tn nc pn pf O T rn t wy lg B rows en et ow A lo hi rb ts sh go re al
theorem tX0_lookForWork {G : fz_G} (cn w : Nat) (kn : Nat → Nat) (on tn rn g : Nat) (hg : g < 2) (s : fS) (V : fz_W) (r : Nat) (hr : r < rn) (kt : Nat → Nat) (hkt : kt r = s.2.2.2.2.2.1) (hI : inF cn kn on tn rn s) (hter : s.2.2.2.1 r ≤ s.2.2.2.2.2.1) (hV : stR cn w kn on tn rn g kt s V) : fz_T G mX0_lookForWork rX0_lookForWork [zR 16 0, zI (nI r)] V (fun x U => x = none ∧ stR cn w kn on tn rn g kt (lfw cn w kn tn rn s r) U) := by
  obtain ⟨O, T, P, te, B, t, A, wy, lg⟩ := s
  obtain ⟨i1, i2, i3, i4, i5, i6, i7, i8, i9⟩ := hI
  obtain ⟨sz, wd, st, op, ki, fa, qu, F, Q, nc, pn, pf, rows, en, et, ow, lo, hi, rb, ts, sh, go, re, al, hK, hS, hO, hoc, htt, rfl⟩ := hV
  obtain ⟨h0, hw, h80, hh, hsz, hwd, hki⟩ := id hK
  have hP := ttR_at htt
  have hE := ttR_ow i3 htt hr
  have hWn := pfW_of i2 hoc.2.1
  have hter : te r ≤ t := hter
  have hkt : kt r = t := hkt
  obtain ⟨q1, q2, q3, q4, q5, q6⟩ := htt.1 r hr
  obtain ⟨pc, pk⟩ := i8 r hr t
  have hlfw : ∀ s', s' = lfw cn w kn tn rn (O, T, P, te, B, t, A, wy, lg) r → ∀ U, stR cn w kn on tn rn g kt s' U → stR cn w kn on tn rn g kt (lfw cn w kn tn rn (O, T, P, te, B, t, A, wy, lg) r) U := fun s' h U hU => h ▸ hU
  have hWy : ∀ (sho : Option Nat) (goal : Nat), (∀ h, sho = some h → h < 80) → goal < 80 → wyC cn w kn P te rn r t sho (s0f sho (P r t)) (P r t) goal (st g) (op g) rows en et := fun sho goal h1 h2 => ⟨h0, hw, h80, hh, hS, hO, i3, hr, i4, hP, fun q τ hq => (htt.1 q hq).2.2.2.2.2 τ, pc, pk, s0f_lt _ _, h1, h2, fun q hq => (htt.1 q hq).2.1, fun q hq => (htt.1 q hq).1⟩
  refine fz_T.of (by decide) (Nat.le_of_ble_eq_true rfl) (fun E0 => ?_)
  refine fz_aload_n dX0_lookForWork_0 rfl ?_
  refine fz_get dX0_lookForWork_1 fX0_20 rfl (Nat.one_pos) rfl ?_
  refine fz_iload_n dX0_lookForWork_4 rfl ?_
  refine fz_aload_n dX0_lookForWork_5 rfl ?_
  refine fz_get dX0_lookForWork_6 fX0_53 rfl (Nat.one_pos) rfl ?_
  refine fz_callV (tX8_cellAt (nI rn) rows en et r t (by omega) (by omega)) dX0_lookForWork_9 kX0_105 rfl (Nat.one_pos) ⟨rfl, rfl, rfl, rfl, trivial⟩ (Nat.le_of_ble_eq_true rfl) (Nat.le_of_ble_eq_true rfl) (Nat.le_of_ble_eq_true rfl) (Nat.le_of_ble_eq_true rfl) (Nat.le_of_ble_eq_true rfl) rfl (fun r U hq => ?_)
  obtain ⟨rfl, rfl⟩ := hq
  refine fz_back rfl ?_
  rw [hP r t hr (by omega)]
  refine fz_wo (V' := wSt g sz wd st op ki fa qu F Q on tn nc pn pf O T rn t wy lg B rows en et ow A lo hi rb ts sh go re al) rfl ?_
  refine fz_istore_n dX0_lookForWork_12 (Nat.le_of_ble_eq_true rfl) ?_
  refine fz_aload_n dX0_lookForWork_13 rfl ?_
  refine fz_iload_n dX0_lookForWork_14 rfl ?_
  refine fz_iload_n dX0_lookForWork_15 rfl ?_
  refine fz_callV (tX0_nearestFit g hg sz wd st op ki fa qu cn w kn hK hS hO (nI on) (nI nc) (nI pn) tn i2 T (nI rn) (nI t) (nI wy) (nI lg) (nI rn) ow _ r (P r t) hE pc (fun i hi => ⟨(i6 i hi).1.1, (i6 i hi).1.2.1⟩) (fun i hi => ⟨(i6 i hi).2.1.1, (i6 i hi).2.1.2.1⟩) F Q) dX0_lookForWork_16 kX0_109 rfl (Nat.one_pos) ⟨rfl, rfl, rfl, rfl, rfl, rfl, rfl, rfl, rfl, rfl, rfl, rfl, trivial⟩ (Nat.le_of_ble_eq_true rfl) (Nat.le_of_ble_eq_true rfl) (Nat.le_of_ble_eq_true rfl) (Nat.le_of_ble_eq_true rfl) (Nat.le_of_ble_eq_true rfl) rfl (fun r U hq => ?_)
  obtain ⟨rfl, F2, Q2, rfl⟩ := hq
  refine fz_back rfl ?_
  refine fz_wo (V' := wSt g sz wd st op ki fa qu F2 Q2 on tn nc pn pf O T rn t wy lg B rows en et ow A lo hi rb ts sh go re al) rfl ?_
  refine fz_istore_n dX0_lookForWork_19 (Nat.le_of_ble_eq_true rfl) ?_
  refine fz_iload_n dX0_lookForWork_20 rfl ?_
  refine fz_iconst (v := -1) dX0_lookForWork_21 (by decide) ?_
  cases hb : bst (ftB T (fun c => eoB P te r c rn)) (fun i => dsF cn w kn (P r t) (tsh T i)) tn with
  | some k =>
    obtain ⟨hk, hft⟩ := bst_lt hb
    obtain ⟨⟨a1, a2, a3⟩, ⟨b1, b2, b3⟩, o, c1, c2, c3⟩ := i6 k hk
    have hft2 := hft
    unfold ftB at hft2
    simp only [Bool.and_eq_true, decide_eq_true_eq, Bool.not_eq_true'] at hft2
    obtain ⟨f1, f2, f3⟩ := hft2
    refine fz_icmp_eq (tgt := 74) dX0_lookForWork_22 (by decide) (fun c22 => ?_) (fun c22 => ?_)
    · exact absurd c22 (oI_ne (by omega))
    · skip
      refine fz_aload_n dX0_lookForWork_25 rfl ?_
      refine fz_get dX0_lookForWork_26 fX0_35 rfl (Nat.one_pos) rfl ?_
      refine fz_iload_n dX0_lookForWork_29 rfl ?_
      refine fz_top (y := nI k) rfl ?_
      refine fz_callV (tX5_taskAt (nI on) (nI tn) (nI nc) (nI pn) k (by omega)) dX0_lookForWork_30 kX0_112 rfl (Nat.one_pos) ⟨rfl, rfl, trivial⟩ (Nat.le_of_ble_eq_true rfl) (Nat.le_of_ble_eq_true rfl) (Nat.le_of_ble_eq_true rfl) (Nat.le_of_ble_eq_true rfl) (Nat.le_of_ble_eq_true rfl) rfl (fun r U hq => ?_)
      obtain ⟨rfl, rfl⟩ := hq
      refine fz_back rfl ?_
      refine fz_wo (V' := wSt g sz wd st op ki fa qu F2 Q2 on tn nc pn pf O T rn t wy lg B rows en et ow A lo hi rb ts sh go re al) rfl ?_
      refine fz_astore dX0_lookForWork_33 (Nat.le_of_ble_eq_true rfl) ?_
      refine fz_aload_n dX0_lookForWork_35 rfl ?_
      refine fz_aload_n dX0_lookForWork_36 rfl ?_
      refine fz_get dX0_lookForWork_37 fX0_44 rfl (Nat.one_pos) rfl ?_
      refine fz_iload_n dX0_lookForWork_40 rfl ?_
      refine fz_aload_n dX0_lookForWork_41 rfl ?_
      refine fz_get dX0_lookForWork_42 fX0_53 rfl (Nat.one_pos) rfl ?_
      refine fz_aload dX0_lookForWork_45 rfl ?_
      refine fz_get dX0_lookForWork_47 fX0_116 rfl ((by omega : k < 90)) rfl ?_
      refine fz_aload dX0_lookForWork_50 rfl ?_
      refine fz_get dX0_lookForWork_52 fX0_121 rfl ((by omega : k < 90)) rfl ?_
      rw [a1, b1]
      refine fz_callV (tX9_find g hg sz wd st op rn rows en et ow r t cn w kn P te (some (tsh T k)) (P r t) (tst T k) (hWy _ _ (fun h hh => by cases hh; omega) (by omega)) hter (P r (te r)) q3 (q6 _) rfl lo hi rb ts sh go re al) dX0_lookForWork_55 kX0_124 rfl (Nat.one_pos) ⟨rfl, rfl, rfl, rfl, rfl, rfl, rfl, rfl, rfl, rfl, rfl, trivial⟩ (Nat.le_of_ble_eq_true rfl) (Nat.le_of_ble_eq_true rfl) (Nat.le_of_ble_eq_true rfl) (Nat.le_of_ble_eq_true rfl) (Nat.le_of_ble_eq_true rfl) rfl (fun r U hq => ?_)
      obtain ⟨lo3, hi3, re3, al3, rows3, en3, et3, ow3, hfd, rfl⟩ := hq
      rcases hfd with ⟨L, p, sp, hL1, rfl, hok, hmin, hisw, hrw, rfl, rfl, rfl⟩ | ⟨rfl, hno, rfl, rfl, rfl, rfl⟩
      · refine fz_back rfl ?_
        refine fz_wo (V' := wSt g sz wd st op ki fa qu F2 Q2 on tn nc pn pf O T rn t wy lg B rows3 (upd en r (nI (tst T k))) (upd et r (nI (t + L))) (upd (upd ow (P r (te r)) (-1)) (tst T k) (nI r)) A lo3 hi3 (nI r) (nI t) (nI (tsh T k)) (nI (tst T k)) re3 al3) rfl ?_
        refine fz_callV (tX0_countWay g (nI rn) (nI t) wy lg L (by omega) hL1) dX0_lookForWork_58 kX0_128 rfl (Nat.one_pos) ⟨rfl, trivial⟩ (Nat.le_of_ble_eq_true rfl) (Nat.le_of_ble_eq_true rfl) (Nat.le_of_ble_eq_true rfl) (Nat.le_of_ble_eq_true rfl) (Nat.le_of_ble_eq_true rfl) rfl (fun r U hq => ?_)
        obtain ⟨rfl, rfl⟩ := hq
        refine fz_back rfl ?_
        refine fz_if_eq (tgt := 71) dX0_lookForWork_61 (by decide) (fun c61 => ?_) (fun c61 => ?_)
        · exact absurd c61 (by decide)
        · have hwy : isWy cn w kn P te rn r t (some (tsh T k)) (tst T k) L p := ⟨hL1, hok, hmin, sp, hisw⟩
          obtain ⟨p', hF, hpp⟩ := wyF_some hwy
          have htkn : ¬ tkU (T k) r t (P r t) 3 = nI 0 := by
            rcases tkU_3 (T k) r t (P r t) with z | z <;> rw [z] <;> decide
          obtain ⟨pq, m, rfl, hpf, hoc2⟩ := oCt_take (b := tkU (T k) r t (P r t)) hk f1 htkn (tkU_k _ _ _ _ (by decide) (by decide) (by decide) (by decide)) (by omega) hoc
          refine fz_wo (V' := wSt g sz wd st op ki fa qu F2 Q2 on tn nc (pq + 1) pf O T rn t (wy + 1) (max lg L) B rows3 (upd en r (nI (tst T k))) (upd et r (nI (t + L))) (upd (upd ow (P r (te r)) (-1)) (tst T k) (nI r)) A lo3 hi3 (nI r) (nI t) (nI (tsh T k)) (nI (tst T k)) re3 al3) rfl ?_
          refine fz_aload_n dX0_lookForWork_64 rfl ?_
          refine fz_iload_n dX0_lookForWork_65 rfl ?_
          refine fz_iload_n dX0_lookForWork_66 rfl ?_
          refine fz_iload_n dX0_lookForWork_67 rfl ?_
          refine fz_top (y := nI k) rfl ?_
          refine fz_callV (tX0_take g (nI rn) (nI (wy + 1)) (nI (max lg L)) (nI on) (nI tn) (nI nc) pq m (tst T k) k r t (P r t) (by omega) (by omega) (by omega) pf hpf T B b1) dX0_lookForWork_68 kX0_132 rfl (Nat.one_pos) ⟨rfl, rfl, rfl, rfl, rfl, rfl, rfl, trivial⟩ (Nat.le_of_ble_eq_true rfl) (Nat.le_of_ble_eq_true rfl) (Nat.le_of_ble_eq_true rfl) (Nat.le_of_ble_eq_true rfl) (Nat.le_of_ble_eq_true rfl) rfl (fun r U hq => ?_)
          obtain ⟨rfl, rfl⟩ := hq
          refine fz_back rfl ?_
          refine fz_wo (V' := wSt g sz wd st op ki fa qu F2 Q2 on tn nc pq (upd pf (tst T k) (nI m)) O (va_up T k (tkU (T k) r t (P r t))) rn t (wy + 1) (max lg L) (va_up B r (upd (B r) 0 (nI k))) rows3 (upd en r (nI (tst T k))) (upd et r (nI (t + L))) (upd (upd ow (P r (te r)) (-1)) (tst T k) (nI r)) A lo3 hi3 (nI r) (nI t) (nI (tsh T k)) (nI (tst T k)) re3 al3) rfl ?_
          refine fz_goto (tgt := 136) dX0_lookForWork_71 (by decide) ?_
          have hs' : (O, va_up T k (tkU (T k) r t (P r t)), nwP P r t L p, nwE te r t L, va_up B r (upd (B r) 0 (nI k)), t, A, wy + 1, max lg L) = lfw cn w kn tn rn (O, T, P, te, B, t, A, wy, lg) r := by
            unfold lfw
            simp only [hb, hF]
            rw [nwP_one hpp]
          refine fz_vret dX0_lookForWork_136 rfl (Nat.zero_le _) (Nat.zero_le _) ⟨rfl, hlfw _ hs' _ ⟨sz, wd, st, op, ki, fa, qu, F2, Q2, nc, pq, _, rows3, _, _, _, lo3, hi3, _, _, _, _, re3, al3, hK, hS, hO, hoc2, ttR_way i3 htt hr hkt i4 hter h0 h80 hh pc pk (by omega) f3 hwy hrw, rfl⟩⟩
      · refine fz_back rfl ?_
        refine fz_wo (V' := wSt g sz wd st op ki fa qu F2 Q2 on tn nc pn pf O T rn t wy lg B rows3 en3 et3 ow3 A lo3 hi3 (nI r) (nI t) (nI (tsh T k)) (nI (tst T k)) re3 al3) rfl ?_
        refine fz_callV (tX0_countWay_no g (nI rn) (nI t) (nI wy) (nI lg)) dX0_lookForWork_58 kX0_128 rfl (Nat.one_pos) ⟨rfl, trivial⟩ (Nat.le_of_ble_eq_true rfl) (Nat.le_of_ble_eq_true rfl) (Nat.le_of_ble_eq_true rfl) (Nat.le_of_ble_eq_true rfl) (Nat.le_of_ble_eq_true rfl) rfl (fun r U hq => ?_)
        obtain ⟨rfl, rfl⟩ := hq
        refine fz_back rfl ?_
        refine fz_wo (V' := wSt g sz wd st op ki fa qu F2 Q2 on tn nc pn pf O T rn t wy lg B rows3 en3 et3 ow3 A lo3 hi3 (nI r) (nI t) (nI (tsh T k)) (nI (tst T k)) re3 al3) rfl ?_
        refine fz_if_eq (tgt := 71) dX0_lookForWork_61 (by decide) (fun c61 => ?_) (fun c61 => ?_)
        · skip
          refine fz_goto (tgt := 136) dX0_lookForWork_71 (by decide) ?_
          have hs' : (O, T, P, te, B, t, A, wy, lg) = lfw cn w kn tn rn (O, T, P, te, B, t, A, wy, lg) r := by
            unfold lfw
            simp only [hb, wyF_none hno]
          refine fz_vret dX0_lookForWork_136 rfl (Nat.zero_le _) (Nat.zero_le _) ⟨rfl, hlfw _ hs' _ ⟨sz, wd, st, op, ki, fa, qu, F2, Q2, nc, pn, pf, rows3, en3, et3, ow3, lo3, hi3, _, _, _, _, re3, al3, hK, hS, hO, hoc, htt, rfl⟩⟩
        · exact absurd rfl c61
  | none =>
    refine fz_icmp_eq (tgt := 74) dX0_lookForWork_22 (by decide) (fun c22 => ?_) (fun c22 => ?_)
    · skip
      refine fz_aload_n dX0_lookForWork_74 rfl ?_
      refine fz_get dX0_lookForWork_75 fX0_35 rfl (Nat.one_pos) rfl ?_
      refine fz_iload_n dX0_lookForWork_78 rfl ?_
      refine fz_callV (tX5_arePendingFor (nI on) (nI tn) (nI nc) (nI pn) pf (P r t) (by omega)) dX0_lookForWork_79 kX0_136 rfl (Nat.one_pos) ⟨rfl, rfl, trivial⟩ (Nat.le_of_ble_eq_true rfl) (Nat.le_of_ble_eq_true rfl) (Nat.le_of_ble_eq_true rfl) (Nat.le_of_ble_eq_true rfl) (Nat.le_of_ble_eq_true rfl) rfl (fun r U hq => ?_)
      obtain ⟨rfl, rfl⟩ := hq
      refine fz_back rfl ?_
      refine fz_wo (V' := wSt g sz wd st op ki fa qu F2 Q2 on tn nc pn pf O T rn t wy lg B rows en et ow A lo hi rb ts sh go re al) rfl ?_
      rw [hWn _ (by omega)]
      cases hv : wnB T (P r t) tn with
      | false =>
        refine fz_if_eq (tgt := 136) dX0_lookForWork_82 (by decide) (fun c82 => ?_) (fun c82 => ?_)
        · have hs' : (O, T, P, te, B, t, A, wy, lg) = lfw cn w kn tn rn (O, T, P, te, B, t, A, wy, lg) r := by
            unfold lfw
            simp only [hb, hv]
            rfl
          refine fz_vret dX0_lookForWork_136 rfl (Nat.zero_le _) (Nat.zero_le _) ⟨rfl, hlfw _ hs' _ ⟨sz, wd, st, op, ki, fa, qu, F2, Q2, nc, pn, pf, rows, en, et, ow, lo, hi, _, _, _, _, re, al, hK, hS, hO, hoc, htt, rfl⟩⟩
        · exact absurd (by show bI (wnB T (P r t) tn) = 0; rw [hv]; rfl) c82
      | true =>
        refine fz_if_eq (tgt := 136) dX0_lookForWork_82 (by decide) (fun c82 => ?_) (fun c82 => ?_)
        · exact absurd c82 (by show ¬ bI (wnB T (P r t) tn) = 0; rw [hv]; decide)
        · skip
          refine fz_aload_n dX0_lookForWork_85 rfl ?_
          refine fz_iload_n dX0_lookForWork_86 rfl ?_
          refine fz_iload_n dX0_lookForWork_87 rfl ?_
          refine fz_callV (tX0_nearestRefuge g hg sz wd st op ki fa qu cn w kn hK hS hO (nI on) (nI tn) (nI nc) (nI pn) pf (nI rn) (nI t) (nI wy) (nI lg) (nI rn) ow _ _ r (P r t) hE hWn pc F2 Q2) dX0_lookForWork_88 kX0_139 rfl (Nat.one_pos) ⟨rfl, rfl, rfl, rfl, rfl, rfl, rfl, rfl, rfl, rfl, rfl, trivial⟩ (Nat.le_of_ble_eq_true rfl) (Nat.le_of_ble_eq_true rfl) (Nat.le_of_ble_eq_true rfl) (Nat.le_of_ble_eq_true rfl) (Nat.le_of_ble_eq_true rfl) rfl (fun r U hq => ?_)
          obtain ⟨rfl, F4, Q4, rfl⟩ := hq
          refine fz_back rfl ?_
          refine fz_wo (V' := wSt g sz wd st op ki fa qu F4 Q4 on tn nc pn pf O T rn t wy lg B rows en et ow A lo hi rb ts sh go re al) rfl ?_
          refine fz_istore dX0_lookForWork_91 (Nat.le_of_ble_eq_true rfl) ?_
          refine fz_iload dX0_lookForWork_93 rfl ?_
          refine fz_iconst (v := -1) dX0_lookForWork_95 (by decide) ?_
          cases hb2 : bst (rfB kn (fun c => wnB T c tn) (fun c => eoB P te r c rn)) (fun d => dsF cn w kn (P r t) d) cn with
          | none =>
            refine fz_icmp_eq (tgt := 136) dX0_lookForWork_96 (by decide) (fun c96 => ?_) (fun c96 => ?_)
            · have hs' : (O, T, P, te, B, t, A, wy, lg) = lfw cn w kn tn rn (O, T, P, te, B, t, A, wy, lg) r := by
                unfold lfw
                simp only [hb, hv, hb2]
                rfl
              refine fz_vret dX0_lookForWork_136 rfl (Nat.zero_le _) (Nat.zero_le _) ⟨rfl, hlfw _ hs' _ ⟨sz, wd, st, op, ki, fa, qu, F4, Q4, nc, pn, pf, rows, en, et, ow, lo, hi, _, _, _, _, re, al, hK, hS, hO, hoc, htt, rfl⟩⟩
            · exact absurd rfl c96
          | some d =>
            obtain ⟨hd, hrf⟩ := bst_lt hb2
            have hrf2 := hrf
            unfold rfB at hrf2
            simp only [Bool.and_eq_true, decide_eq_true_eq, Bool.not_eq_true'] at hrf2
            obtain ⟨f1, f2, f3⟩ := hrf2
            refine fz_icmp_eq (tgt := 136) dX0_lookForWork_96 (by decide) (fun c96 => ?_) (fun c96 => ?_)
            · exact absurd c96 (oI_ne (by omega))
            · skip
              refine fz_aload_n dX0_lookForWork_99 rfl ?_
              refine fz_aload_n dX0_lookForWork_100 rfl ?_
              refine fz_get dX0_lookForWork_101 fX0_44 rfl (Nat.one_pos) rfl ?_
              refine fz_iload_n dX0_lookForWork_104 rfl ?_
              refine fz_aload_n dX0_lookForWork_105 rfl ?_
              refine fz_get dX0_lookForWork_106 fX0_53 rfl (Nat.one_pos) rfl ?_
              refine fz_iconst (v := -1) dX0_lookForWork_109 (by decide) ?_
              refine fz_iload dX0_lookForWork_110 rfl ?_
              refine fz_top (y := nI d) rfl ?_
              refine fz_callV (tX9_find g hg sz wd st op rn rows en et ow r t cn w kn P te none (P r t) d (hWy _ _ (fun h hh => by cases hh) (by omega)) hter (P r (te r)) q3 (q6 _) rfl lo hi rb ts sh go re al) dX0_lookForWork_112 kX0_124 rfl (Nat.one_pos) ⟨rfl, rfl, rfl, rfl, rfl, rfl, rfl, rfl, rfl, rfl, rfl, trivial⟩ (Nat.le_of_ble_eq_true rfl) (Nat.le_of_ble_eq_true rfl) (Nat.le_of_ble_eq_true rfl) (Nat.le_of_ble_eq_true rfl) (Nat.le_of_ble_eq_true rfl) rfl (fun r U hq => ?_)
              obtain ⟨lo3, hi3, re3, al3, rows3, en3, et3, ow3, hfd, rfl⟩ := hq
              rcases hfd with ⟨L, p, sp, hL1, rfl, hok, hmin, hisw, hrw, rfl, rfl, rfl⟩ | ⟨rfl, hno, rfl, rfl, rfl, rfl⟩
              · refine fz_back rfl ?_
                refine fz_wo (V' := wSt g sz wd st op ki fa qu F4 Q4 on tn nc pn pf O T rn t wy lg B rows3 (upd en r (nI d)) (upd et r (nI (t + L))) (upd (upd ow (P r (te r)) (-1)) d (nI r)) A lo3 hi3 (nI r) (nI t) (-1) (nI d) re3 al3) rfl ?_
                refine fz_callV (tX0_countWay g (nI rn) (nI t) wy lg L (by omega) hL1) dX0_lookForWork_115 kX0_128 rfl (Nat.one_pos) ⟨rfl, trivial⟩ (Nat.le_of_ble_eq_true rfl) (Nat.le_of_ble_eq_true rfl) (Nat.le_of_ble_eq_true rfl) (Nat.le_of_ble_eq_true rfl) (Nat.le_of_ble_eq_true rfl) rfl (fun r U hq => ?_)
                obtain ⟨rfl, rfl⟩ := hq
                refine fz_back rfl ?_
                refine fz_if_eq (tgt := 136) dX0_lookForWork_118 (by decide) (fun c118 => ?_) (fun c118 => ?_)
                · exact absurd c118 (by decide)
                · have hwy : isWy cn w kn P te rn r t none d L p := ⟨hL1, hok, hmin, sp, hisw⟩
                  obtain ⟨p', hF, hpp⟩ := wyF_some hwy
                  refine fz_wo (V' := wSt g sz wd st op ki fa qu F4 Q4 on tn nc pn pf O T rn t (wy + 1) (max lg L) (va_up B r (B r)) rows3 (upd en r (nI d)) (upd et r (nI (t + L))) (upd (upd ow (P r (te r)) (-1)) d (nI r)) A lo3 hi3 (nI r) (nI t) (-1) (nI d) re3 al3) (by rw [va_upI]; rfl) ?_
                  refine fz_aload_n dX0_lookForWork_121 rfl ?_
                  refine fz_get dX0_lookForWork_122 fX0_11 rfl (Nat.one_pos) rfl ?_
                  refine fz_iload_n dX0_lookForWork_125 rfl ?_
                  refine fz_aald dX0_lookForWork_126 rfl rfl Nat.one_pos (vp_in_nI (by omega) (by omega)) (arr (by omega)) ?_
                  refine fz_dup dX0_lookForWork_127 rfl ?_
                  refine fz_get dX0_lookForWork_128 fX0_142 rfl ((by omega : r < 6)) rfl ?_
                  refine fz_iconst (v := nI 1) dX0_lookForWork_131 (by decide) ?_
                  refine fz_iadd dX0_lookForWork_132 ?_
                  refine fz_putRo dX0_lookForWork_133 fX0_142 (by decide) rfl ((by omega : r < 6)) ⟨rfl, rfl⟩ ?_
                  rw [va_up_self]
                  have hs' : (O, T, nwP P r t L p, nwE te r t L, va_up B r (upd (B r) 3 (B r 3 + 1)), t, A, wy + 1, max lg L) = lfw cn w kn tn rn (O, T, P, te, B, t, A, wy, lg) r := by
                    unfold lfw
                    simp only [hb, hv, hb2, hF]
                    rw [nwP_one hpp]
                    rfl
                  refine fz_vret dX0_lookForWork_136 rfl (Nat.zero_le _) (Nat.zero_le _) ⟨rfl, hlfw _ hs' _ ⟨sz, wd, st, op, ki, fa, qu, F4, Q4, nc, pn, pf, rows3, _, _, _, lo3, hi3, _, _, _, _, re3, al3, hK, hS, hO, hoc, ttR_way i3 htt hr hkt i4 hter h0 h80 hh pc pk (by omega) f3 hwy hrw, rfl⟩⟩
              · refine fz_back rfl ?_
                refine fz_wo (V' := wSt g sz wd st op ki fa qu F4 Q4 on tn nc pn pf O T rn t wy lg B rows3 en3 et3 ow3 A lo3 hi3 (nI r) (nI t) (-1) (nI d) re3 al3) rfl ?_
                refine fz_callV (tX0_countWay_no g (nI rn) (nI t) (nI wy) (nI lg)) dX0_lookForWork_115 kX0_128 rfl (Nat.one_pos) ⟨rfl, trivial⟩ (Nat.le_of_ble_eq_true rfl) (Nat.le_of_ble_eq_true rfl) (Nat.le_of_ble_eq_true rfl) (Nat.le_of_ble_eq_true rfl) (Nat.le_of_ble_eq_true rfl) rfl (fun r U hq => ?_)
                obtain ⟨rfl, rfl⟩ := hq
                refine fz_back rfl ?_
                refine fz_wo (V' := wSt g sz wd st op ki fa qu F4 Q4 on tn nc pn pf O T rn t wy lg B rows3 en3 et3 ow3 A lo3 hi3 (nI r) (nI t) (-1) (nI d) re3 al3) rfl ?_
                refine fz_if_eq (tgt := 136) dX0_lookForWork_118 (by decide) (fun c118 => ?_) (fun c118 => ?_)
                · have hs' : (O, T, P, te, B, t, A, wy, lg) = lfw cn w kn tn rn (O, T, P, te, B, t, A, wy, lg) r := by
                    unfold lfw
                    simp only [hb, hv, hb2, wyF_none hno]
                    rfl
                  refine fz_vret dX0_lookForWork_136 rfl (Nat.zero_le _) (Nat.zero_le _) ⟨rfl, hlfw _ hs' _ ⟨sz, wd, st, op, ki, fa, qu, F4, Q4, nc, pn, pf, rows3, en3, et3, ow3, lo3, hi3, _, _, _, _, re3, al3, hK, hS, hO, hoc, htt, rfl⟩⟩
                · exact absurd rfl c118
    · exact absurd rfl c22
