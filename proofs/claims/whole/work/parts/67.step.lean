/-! Fleet: workOn, goOn -/
theorem ttR_keep {kt : Nat → Nat} {rn : Nat} {P : Nat → Nat → Nat} {te : Nat → Nat} {rows : Nat → Int64} {en et ow : Nat → Int32} {r t : Nat} (hrn : rn ≤ 6) (hr : r < rn) (h : ttR kt rn P te rows en et ow) (hk : t ≤ kt r + 1) : ttR (fun q => if q = r then t else kt q) rn P te (vp_updL rows t (wby (rows t) r (P r t))) en et ow := by
  refine ⟨fun q hq => ?_, h.2.1, h.2.2⟩
  obtain ⟨h1, h2, h3, h4, h5, h6⟩ := h.1 q hq
  refine ⟨h1, h2, h3, h4, fun τ hτ => ?_, h6⟩
  have h6r := (h.1 r hr).2.2.2.2.2 t
  by_cases e : τ = t
  · rw [e, pk_uLs, wby_bt _ (by omega) (by omega) (by omega)]
    by_cases e2 : q = r
    · rw [if_pos e2, e2]
    · rw [if_neg e2]
      refine h5 t ?_
      rw [e] at hτ
      simp only [if_neg e2] at hτ
      exact hτ
  · rw [pk_uLn e]
    refine h5 τ ?_
    by_cases e2 : q = r
    · simp only [if_pos e2] at hτ
      rcases hτ with z | z
      · left; rw [e2]; omega
      · exact Or.inr z
    · simp only [if_neg e2] at hτ
      exact hτ
theorem tX0_workOn {G : fz_G} (cn w : Nat) (kn : Nat → Nat) (on tn rn g : Nat) (s : fS) (V : fz_W) (r k : Nat) (hr : r < rn) (kt : Nat → Nat) (hI : inF cn kn on tn rn s) (hk : k < tn) (hB : s.2.2.2.2.1 r 0 = nI k) (hV : stR cn w kn on tn rn g kt s V) : fz_T G mX0_workOn rX0_workOn [zR 16 0, zI (nI r), zI (nI (s.2.2.1 r s.2.2.2.2.2.1)), zR 15 k] V (fun x U => x = none ∧ stR cn w kn on tn rn g kt (wkO s r) U) := by
  obtain ⟨O, T, P, te, B, t, A, wy, lg⟩ := s
  obtain ⟨i1, i2, i3, i4, i5, i6, i7, i8, i9⟩ := hI
  obtain ⟨sz, wd, st, op, ki, fa, qu, F, Q, nc, pn, pf, rows, en, et, ow, lo, hi, rb, ts, sh, go, re, al, hK, hS, hO, hoc, htt, rfl⟩ := hV
  have hB : B r 0 = nI k := hB
  have hb1 : ¬ B r 0 = -1 := by rw [hB]; exact oI_ne (by omega)
  have hbT := bT_of hB (by omega)
  obtain ⟨q1, q2, q3, q4, q5, q6⟩ := htt.1 r hr
  have hs1 := pkT_sT T k (P r t) t
  have w1 : tWf cn kn on tn O (pkT T k (P r t) t) := tWf_sT hs1 (fun _ => rfl) i6
  have w2 : oWf on tn O (pkT T k (P r t) t) := oWf_sT hs1 (fun i _ => pkT_lt T k (P r t) t i) i7
  have hoc1 : oCt on tn O (pkT T k (P r t) t) nc pn pf := oCt_same hs1 (fun i _ => pkT_0 T k (P r t) t i) hoc.2.2 hoc
  refine fz_T.of (by decide) (Nat.le_of_ble_eq_true rfl) (fun E0 => ?_)
  have main : fz_J G mX0_workOn rX0_workOn (fz_Z G E0 rX0_workOn.cells rX0_workOn.slots (fun x U => x = none ∧ stR cn w kn on tn rn g kt (wkO (O, T, P, te, B, t, A, wy, lg) r) U)) E0 0 0 28 [(0, zR 16 0), (1, zI (nI r)), (2, zI (nI (P r t))), (3, zR 15 k)] [] (wSt g sz wd st op ki fa qu F Q on tn nc pn pf O (pkT T k (P r t) t) rn t wy lg B rows en et ow A lo hi rb ts sh go re al) := by
    have nobr : ¬ (pkT T k (P r t) t k 3 = nI 2 ∧ te r ≤ t) → fz_J G mX0_workOn rX0_workOn (fz_Z G E0 rX0_workOn.cells rX0_workOn.slots (fun x U => x = none ∧ stR cn w kn on tn rn g kt (wkO (O, T, P, te, B, t, A, wy, lg) r) U)) E0 0 0 88 [(0, zR 16 0), (1, zI (nI r)), (2, zI (nI (P r t))), (3, zR 15 k)] [] (wSt g sz wd st op ki fa qu F Q on tn nc pn pf O (pkT T k (P r t) t) rn t wy lg B rows en et ow A lo hi rb ts sh go re al) := by
      intro hn
      have e : wkO (O, T, P, te, B, t, A, wy, lg) r = (O, pkT T k (P r t) t, P, te, B, t, A, wy, lg) := by
        unfold wkO
        simp only [if_neg hb1, hbT, if_neg hn]
      rw [e]
      refine fz_vret dX0_workOn_88 rfl (Nat.zero_le _) (Nat.zero_le _) ⟨rfl, sz, wd, st, op, ki, fa, qu, F, Q, nc, pn, pf, rows, en, et, ow, lo, hi, rb, ts, sh, go, re, al, hK, hS, hO, hoc1, htt, rfl⟩
    refine fz_aload_n dX0_workOn_28 rfl ?_
    refine fz_get dX0_workOn_29 fX0_161 rfl ((by omega : k < 90)) rfl ?_
    refine fz_iconst (v := nI 2) dX0_workOn_32 (by decide) ?_
    refine fz_icmp_ne (tgt := 88) dX0_workOn_33 (by decide) (fun c33 => ?_) (fun c33 => ?_)
    · exact nobr (fun z => c33 z.1)
    · skip
      refine fz_aload_n dX0_workOn_36 rfl ?_
      refine fz_get dX0_workOn_37 fX0_20 rfl (Nat.one_pos) rfl ?_
      refine fz_iload_n dX0_workOn_40 rfl ?_
      refine fz_callV (tX8_endTimeOf (nI rn) et r (by omega)) dX0_workOn_41 kX0_92 rfl (Nat.one_pos) ⟨rfl, rfl, trivial⟩ (Nat.le_of_ble_eq_true rfl) (Nat.le_of_ble_eq_true rfl) (Nat.le_of_ble_eq_true rfl) (Nat.le_of_ble_eq_true rfl) (Nat.le_of_ble_eq_true rfl) rfl (fun r U hq => ?_)
      obtain ⟨rfl, rfl⟩ := hq
      refine fz_back rfl ?_
      refine fz_wo (V' := wSt g sz wd st op ki fa qu F Q on tn nc pn pf O (pkT T k (P r t) t) rn t wy lg B rows en et ow A lo hi rb ts sh go re al) rfl ?_
      rw [q1]
      refine fz_aload_n dX0_workOn_44 rfl ?_
      refine fz_get dX0_workOn_45 fX0_53 rfl (Nat.one_pos) rfl ?_
      refine fz_icmp_gt (tgt := 88) dX0_workOn_48 (by decide) (fun c48 => ?_) (fun c48 => ?_)
      · exact nobr (fun z => by have := (nI_ltI (by omega) (by omega)).mp c48; have := z.2; omega)
      · have hte : te r ≤ t := by
          rcases Nat.lt_or_ge t (te r) with z | z
          · exact absurd ((nI_ltI (by omega) (by omega)).mpr z) c48
          · exact z
        obtain ⟨o, u, x1, x2, x3, x4, x5, x6, x7, x8, x9⟩ := oWf_br (b := upd (upd (pkT T k (P r t) t k) 3 (nI 3)) 8 (nI t)) hk i2 i1 i4 (by rw [c33]; decide) (by rw [upk (by decide), pk_us]; decide) (fun j hj => by rw [upk (by omega), upk (by omega)]) w1 w2
        have e3 : tor T k = o := by rw [← x3]; unfold tor; rw [hs1 k 0 (by omega)]
        have e : wkO (O, T, P, te, B, t, A, wy, lg) r = (va_up O o (fin1 (O o) u (nI t)), va_up (pkT T k (P r t) t) k (upd (upd (pkT T k (P r t) t k) 3 (nI 3)) 8 (nI t)), P, te, va_up B r (upd (upd (B r) 0 (-1)) 2 (B r 2 + 1)), t, A, wy, lg) := by
          unfold wkO
          simp only [if_neg hb1, hbT, if_pos (show pkT T k (P r t) t k 3 = nI 2 ∧ te r ≤ t from ⟨c33, hte⟩), e3]
          rw [finI_fin1 x4 x5]
        rw [e]
        obtain ⟨c, hc⟩ : ∃ c, nc = c + 1 := ⟨nc - 1, by have := hoc.2.2; omega⟩
        subst hc
        have x9' : (if u = 0 then c else c + 1) = opO (va_up O o (fin1 (O o) u (nI t))) on := by
          rw [← x9, ← hoc.2.2]; rfl
        have hoc2 : oCt on tn (va_up O o (fin1 (O o) u (nI t))) (va_up (pkT T k (P r t) t) k (upd (upd (pkT T k (P r t) t k) 3 (nI 3)) 8 (nI t))) (if u = 0 then c else c + 1) pn pf := by
          refine oCt_same (up_sT (fun j hj => by rw [upk (by omega), upk (by omega)])) (fun i _ => ?_) x9' hoc1
          by_cases e : i = k
          · rw [e, va_up_self, upk (by decide), pk_us, c33]; decide
          · rw [va_up_ne _ _ e]
        refine fz_aload_n dX0_workOn_51 rfl ?_
        refine fz_get dX0_workOn_52 fX0_35 rfl (Nat.one_pos) rfl ?_
        refine fz_aload_n dX0_workOn_55 rfl ?_
        refine fz_aload_n dX0_workOn_56 rfl ?_
        refine fz_get dX0_workOn_57 fX0_53 rfl (Nat.one_pos) rfl ?_
        refine fz_callV (tX5_bring (nI on) (nI tn) (nI pn) k o c u (by omega) (by omega) x4 (pkT T k (P r t) t) O x2 x5 (nI t)) dX0_workOn_60 kX0_196 rfl (Nat.one_pos) ⟨rfl, rfl, rfl, rfl, trivial⟩ (Nat.le_of_ble_eq_true rfl) (Nat.le_of_ble_eq_true rfl) (Nat.le_of_ble_eq_true rfl) (Nat.le_of_ble_eq_true rfl) (Nat.le_of_ble_eq_true rfl) rfl (fun r U hq => ?_)
        obtain ⟨rfl, rfl⟩ := hq
        refine fz_back rfl ?_
        refine fz_wo (V' := wSt g sz wd st op ki fa qu F Q on tn (if u = 0 then c else c + 1) pn pf (va_up O o (fin1 (O o) u (nI t))) (va_up (pkT T k (P r t) t) k (upd (upd (pkT T k (P r t) t k) 3 (nI 3)) 8 (nI t))) rn t wy lg (va_up B r (B r)) rows en et ow A lo hi rb ts sh go re al) (by rw [va_upI]; rfl) ?_
        refine fz_aload_n dX0_workOn_63 rfl ?_
        refine fz_get dX0_workOn_64 fX0_11 rfl (Nat.one_pos) rfl ?_
        refine fz_iload_n dX0_workOn_67 rfl ?_
        refine fz_aald dX0_workOn_68 rfl rfl Nat.one_pos (vp_in_nI (by omega) (by omega)) (arr (by omega)) ?_
        refine fz_iconst (v := -1) dX0_workOn_69 (by decide) ?_
        refine fz_putRo dX0_workOn_70 fX0_178 (by decide) rfl ((by omega : r < 6)) ⟨rfl, rfl⟩ ?_
        refine fz_aload_n dX0_workOn_73 rfl ?_
        refine fz_get dX0_workOn_74 fX0_11 rfl (Nat.one_pos) rfl ?_
        refine fz_iload_n dX0_workOn_77 rfl ?_
        refine fz_aald dX0_workOn_78 rfl rfl Nat.one_pos (vp_in_nI (by omega) (by omega)) (arr (by omega)) ?_
        refine fz_dup dX0_workOn_79 rfl ?_
        refine fz_get dX0_workOn_80 fX0_199 rfl ((by omega : r < 6)) rfl ?_
        rw [va_up_self, upk (by decide)]
        refine fz_iconst (v := nI 1) dX0_workOn_83 (by decide) ?_
        refine fz_iadd dX0_workOn_84 ?_
        refine fz_putRo dX0_workOn_85 fX0_199 (by decide) rfl ((by omega : r < 6)) ⟨rfl, rfl⟩ ?_
        refine fz_vret dX0_workOn_88 rfl (Nat.zero_le _) (Nat.zero_le _) ⟨rfl, sz, wd, st, op, ki, fa, qu, F, Q, _, pn, pf, rows, en, et, ow, lo, hi, rb, ts, sh, go, re, al, hK, hS, hO, hoc2, htt, rfl⟩
  refine fz_aload_n dX0_workOn_0 rfl ?_
  refine fz_get dX0_workOn_1 fX0_161 rfl ((by omega : k < 90)) rfl ?_
  refine fz_iconst (v := nI 1) dX0_workOn_4 (by decide) ?_
  have nopk : ¬ (T k 3 = nI 1 ∧ nI (P r t) = T k 1) → fz_J G mX0_workOn rX0_workOn (fz_Z G E0 rX0_workOn.cells rX0_workOn.slots (fun x U => x = none ∧ stR cn w kn on tn rn g kt (wkO (O, T, P, te, B, t, A, wy, lg) r) U)) E0 0 0 28 [(0, zR 16 0), (1, zI (nI r)), (2, zI (nI (P r t))), (3, zR 15 k)] [] (wSt g sz wd st op ki fa qu F Q on tn nc pn pf O T rn t wy lg B rows en et ow A lo hi rb ts sh go re al) := by
    intro hn
    have e : pkT T k (P r t) t = T := by unfold pkT; rw [if_neg hn]
    rw [e] at main
    exact main
  refine fz_icmp_ne (tgt := 28) dX0_workOn_5 (by decide) (fun c5 => ?_) (fun c5 => ?_)
  · exact nopk (fun z => c5 z.1)
  · skip
    refine fz_iload_n dX0_workOn_8 rfl ?_
    refine fz_aload_n dX0_workOn_9 rfl ?_
    refine fz_get dX0_workOn_10 fX0_116 rfl ((by omega : k < 90)) rfl ?_
    refine fz_icmp_ne (tgt := 28) dX0_workOn_13 (by decide) (fun c13 => ?_) (fun c13 => ?_)
    · exact nopk (fun z => c13 z.2)
    · skip
      refine fz_aload_n dX0_workOn_16 rfl ?_
      refine fz_get dX0_workOn_17 fX0_35 rfl (Nat.one_pos) rfl ?_
      refine fz_aload_n dX0_workOn_20 rfl ?_
      refine fz_aload_n dX0_workOn_21 rfl ?_
      refine fz_get dX0_workOn_22 fX0_53 rfl (Nat.one_pos) rfl ?_
      refine fz_wo (V' := wSt g sz wd st op ki fa qu F Q on tn nc pn pf O T rn t wy lg B rows en et ow A lo hi rb ts sh go re al) rfl ?_
      refine fz_callV (tX5_pick (nI on) (nI tn) (nI nc) (nI pn) k (by omega) T (nI t)) dX0_workOn_25 kX0_184 rfl (Nat.one_pos) ⟨rfl, rfl, trivial⟩ (Nat.le_of_ble_eq_true rfl) (Nat.le_of_ble_eq_true rfl) (Nat.le_of_ble_eq_true rfl) (Nat.le_of_ble_eq_true rfl) (Nat.le_of_ble_eq_true rfl) rfl (fun r U hq => ?_)
      obtain ⟨rfl, rfl⟩ := hq
      refine fz_back rfl ?_
      have e : va_up T k (upd (upd (T k) 3 (nI 2)) 7 (nI t)) = pkT T k (P r t) t := by unfold pkT; rw [if_pos ⟨c5, c13⟩]
      rw [e]
      exact main
theorem tX0_goOn {G : fz_G} (cn w : Nat) (kn : Nat → Nat) (on tn rn g : Nat) (s : fS) (V : fz_W) (r : Nat) (hr : r < rn) (kt : Nat → Nat) (hI : inF cn kn on tn rn s) (ht1 : 1 ≤ s.2.2.2.2.2.1) (hkt : s.2.2.2.2.2.1 ≤ kt r + 1) (hV : stR cn w kn on tn rn g kt s V) : fz_T G mX0_goOn rX0_goOn [zR 16 0, zI (nI r)] V (fun x U => x = none ∧ stR cn w kn on tn rn g (fun q => if q = r then s.2.2.2.2.2.1 else kt q) (gOn s r) U) := by
  obtain ⟨O, T, P, te, B, t, A, wy, lg⟩ := s
  have hI2 := inF_mv (r := r) hI
  obtain ⟨i1, i2, i3, i4, i5, i6, i7, i8, i9⟩ := id hI
  obtain ⟨sz, wd, st, op, ki, fa, qu, F, Q, nc, pn, pf, rows, en, et, ow, lo, hi, rb, ts, sh, go, re, al, hK, hS, hO, hoc, htt, rfl⟩ := hV
  have ht1 : 1 ≤ t := ht1
  have hkt : t ≤ kt r + 1 := hkt
  have hP := ttR_at htt
  have h6 := fun τ => (htt.1 r hr).2.2.2.2.2 τ
  have htt2 := ttR_keep i3 hr htt hkt
  refine fz_T.of (by decide) (Nat.le_of_ble_eq_true rfl) (fun E0 => ?_)
  refine fz_aload_n dX0_goOn_0 rfl ?_
  refine fz_get dX0_goOn_1 fX0_20 rfl (Nat.one_pos) rfl ?_
  refine fz_iload_n dX0_goOn_4 rfl ?_
  refine fz_aload_n dX0_goOn_5 rfl ?_
  refine fz_get dX0_goOn_6 fX0_53 rfl (Nat.one_pos) rfl ?_
  refine fz_iconst (v := nI 1) dX0_goOn_9 (by decide) ?_
  refine fz_isub dX0_goOn_10 ?_
  rw [show nI t - nI 1 = nI (t - 1) from pk_sub (by omega)]
  refine fz_callV (tX8_cellAt (nI rn) rows en et r (t - 1) (by omega) (by omega)) dX0_goOn_11 kX0_105 rfl (Nat.one_pos) ⟨rfl, rfl, rfl, rfl, trivial⟩ (Nat.le_of_ble_eq_true rfl) (Nat.le_of_ble_eq_true rfl) (Nat.le_of_ble_eq_true rfl) (Nat.le_of_ble_eq_true rfl) (Nat.le_of_ble_eq_true rfl) rfl (fun r U hq => ?_)
  obtain ⟨rfl, rfl⟩ := hq
  refine fz_back rfl ?_
  rw [hP r (t - 1) hr (by omega)]
  refine fz_wo (V' := wSt g sz wd st op ki fa qu F Q on tn nc pn pf O T rn t wy lg B rows en et ow A lo hi rb ts sh go re al) rfl ?_
  refine fz_istore_n dX0_goOn_14 (Nat.le_of_ble_eq_true rfl) ?_
  refine fz_aload_n dX0_goOn_15 rfl ?_
  refine fz_get dX0_goOn_16 fX0_20 rfl (Nat.one_pos) rfl ?_
  refine fz_iload_n dX0_goOn_19 rfl ?_
  refine fz_aload_n dX0_goOn_20 rfl ?_
  refine fz_get dX0_goOn_21 fX0_53 rfl (Nat.one_pos) rfl ?_
  refine fz_callV (tX8_cellAt (nI rn) rows en et r t (by omega) (by omega)) dX0_goOn_24 kX0_105 rfl (Nat.one_pos) ⟨rfl, rfl, rfl, rfl, trivial⟩ (Nat.le_of_ble_eq_true rfl) (Nat.le_of_ble_eq_true rfl) (Nat.le_of_ble_eq_true rfl) (Nat.le_of_ble_eq_true rfl) (Nat.le_of_ble_eq_true rfl) rfl (fun r U hq => ?_)
  obtain ⟨rfl, rfl⟩ := hq
  refine fz_back rfl ?_
  rw [hP r t hr (by omega)]
  refine fz_wo (V' := wSt g sz wd st op ki fa qu F Q on tn nc pn pf O T rn t wy lg B rows en et ow A lo hi rb ts sh go re al) rfl ?_
  refine fz_istore_n dX0_goOn_27 (Nat.le_of_ble_eq_true rfl) ?_
  refine fz_aload_n dX0_goOn_28 rfl ?_
  refine fz_get dX0_goOn_29 fX0_20 rfl (Nat.one_pos) rfl ?_
  refine fz_iload_n dX0_goOn_32 rfl ?_
  refine fz_aload_n dX0_goOn_33 rfl ?_
  refine fz_get dX0_goOn_34 fX0_53 rfl (Nat.one_pos) rfl ?_
  refine fz_callV (tX8_keep (nI rn) rows en et r t (P r t) (by omega) (by omega) (hP r t hr (by omega))) dX0_goOn_37 kX0_188 rfl (Nat.one_pos) ⟨rfl, rfl, rfl, rfl, trivial⟩ (Nat.le_of_ble_eq_true rfl) (Nat.le_of_ble_eq_true rfl) (Nat.le_of_ble_eq_true rfl) (Nat.le_of_ble_eq_true rfl) (Nat.le_of_ble_eq_true rfl) rfl (fun r U hq => ?_)
  obtain ⟨rfl, rfl⟩ := hq
  refine fz_back rfl ?_
  refine fz_wo (V' := wSt g sz wd st op ki fa qu F Q on tn nc pn pf O T rn t wy lg B (vp_updL rows t (wby (rows t) r (P r t))) en et ow A lo hi rb ts sh go re al) rfl ?_
  refine fz_iload_n dX0_goOn_40 rfl ?_
  refine fz_iload_n dX0_goOn_41 rfl ?_
  have main : ∀ B', B' = (if P r t = P r (t - 1) then B else va_up B r (upd (B r) 1 (B r 1 + 1))) → fz_J G mX0_goOn rX0_goOn (fz_Z G E0 rX0_goOn.cells rX0_goOn.slots (fun x U => x = none ∧ stR cn w kn on tn rn g (fun q => if q = r then t else kt q) (gOn (O, T, P, te, B, t, A, wy, lg) r) U)) E0 0 0 60 [(3, zI (nI (P r t))), (2, zI (nI (P r (t - 1)))), (0, zR 16 0), (1, zI (nI r))] [] (wSt g sz wd st op ki fa qu F Q on tn nc pn pf O T rn t wy lg B' (vp_updL rows t (wby (rows t) r (P r t))) en et ow A lo hi rb ts sh go re al) := by
    intro B' hB'
    have hmv : mvB (O, T, P, te, B, t, A, wy, lg) r = (O, T, P, te, B', t, A, wy, lg) := by rw [hB']; rfl
    rw [hmv] at hI2
    have hst : stR cn w kn on tn rn g (fun q => if q = r then t else kt q) (O, T, P, te, B', t, A, wy, lg) (wSt g sz wd st op ki fa qu F Q on tn nc pn pf O T rn t wy lg B' (vp_updL rows t (wby (rows t) r (P r t))) en et ow A lo hi rb ts sh go re al) := ⟨sz, wd, st, op, ki, fa, qu, F, Q, nc, pn, pf, _, en, et, ow, lo, hi, rb, ts, sh, go, re, al, hK, hS, hO, hoc, htt2, rfl⟩
    have hgo : gOn (O, T, P, te, B, t, A, wy, lg) r = wkO (O, T, P, te, B', t, A, wy, lg) r := by unfold gOn; rw [hmv]
    rw [hgo]
    refine fz_aload_n dX0_goOn_60 rfl ?_
    refine fz_get dX0_goOn_61 fX0_11 rfl (Nat.one_pos) rfl ?_
    refine fz_iload_n dX0_goOn_64 rfl ?_
    refine fz_aald dX0_goOn_65 rfl rfl Nat.one_pos (vp_in_nI (by omega) (by omega)) (arr (by omega)) ?_
    refine fz_get dX0_goOn_66 fX0_178 rfl ((by omega : r < 6)) rfl ?_
    refine fz_iconst (v := -1) dX0_goOn_69 (by decide) ?_
    refine fz_icmp_eq (tgt := 95) dX0_goOn_70 (by decide) (fun c70 => ?_) (fun c70 => ?_)
    · have e : wkO (O, T, P, te, B', t, A, wy, lg) r = (O, T, P, te, B', t, A, wy, lg) := by
        unfold wkO
        simp only [if_pos c70]
      rw [e]
      refine fz_vret dX0_goOn_95 rfl (Nat.zero_le _) (Nat.zero_le _) ⟨rfl, hst⟩
    · obtain ⟨k, hk, hbk⟩ : ∃ k, k < tn ∧ B' r 0 = nI k := (hI2.2.2.2.2.2.2.2.2 r hr).resolve_left c70
      refine fz_aload_n dX0_goOn_73 rfl ?_
      refine fz_iload_n dX0_goOn_74 rfl ?_
      refine fz_iload_n dX0_goOn_75 rfl ?_
      refine fz_aload_n dX0_goOn_76 rfl ?_
      refine fz_get dX0_goOn_77 fX0_35 rfl (Nat.one_pos) rfl ?_
      refine fz_aload_n dX0_goOn_80 rfl ?_
      refine fz_get dX0_goOn_81 fX0_11 rfl (Nat.one_pos) rfl ?_
      refine fz_iload_n dX0_goOn_84 rfl ?_
      refine fz_aald dX0_goOn_85 rfl rfl Nat.one_pos (vp_in_nI (by omega) (by omega)) (arr (by omega)) ?_
      refine fz_get dX0_goOn_86 fX0_178 rfl ((by omega : r < 6)) rfl ?_
      rw [hbk]
      refine fz_callV (tX5_taskAt (nI on) (nI tn) (nI nc) (nI pn) k (by omega)) dX0_goOn_89 kX0_112 rfl (Nat.one_pos) ⟨rfl, rfl, trivial⟩ (Nat.le_of_ble_eq_true rfl) (Nat.le_of_ble_eq_true rfl) (Nat.le_of_ble_eq_true rfl) (Nat.le_of_ble_eq_true rfl) (Nat.le_of_ble_eq_true rfl) rfl (fun r U hq => ?_)
      obtain ⟨rfl, rfl⟩ := hq
      refine fz_back rfl ?_
      refine fz_wo (V' := wSt g sz wd st op ki fa qu F Q on tn nc pn pf O T rn t wy lg B' (vp_updL rows t (wby (rows t) r (P r t))) en et ow A lo hi rb ts sh go re al) rfl ?_
      refine fz_callV (tX0_workOn cn w kn on tn rn g (O, T, P, te, B', t, A, wy, lg) _ r k hr _ hI2 hk hbk hst) dX0_goOn_92 kX0_192 rfl (Nat.one_pos) ⟨rfl, rfl, rfl, rfl, rfl, rfl, rfl, rfl, rfl, rfl, rfl, rfl, rfl, rfl, rfl, rfl, rfl, rfl, rfl, rfl, rfl, rfl, rfl, rfl, trivial⟩ (Nat.le_of_ble_eq_true rfl) (Nat.le_of_ble_eq_true rfl) (Nat.le_of_ble_eq_true rfl) (Nat.le_of_ble_eq_true rfl) (Nat.le_of_ble_eq_true rfl) rfl (fun r U hq => ?_)
      obtain ⟨rfl, hst3⟩ := hq
      have hst4 := hst3
      unfold stR at hst4
      obtain ⟨sz', wd', st', op', ki', fa', qu', F', Q', nc', pn', pf', rows', en', et', ow', lo', hi', rb', ts', sh', go', re', al', z1, z2, z3, z4, z5, rfl⟩ := hst4
      refine fz_back rfl ?_
      refine fz_vret dX0_goOn_95 rfl (Nat.zero_le _) (Nat.zero_le _) ⟨rfl, ?_⟩
      exact hst3
  refine fz_icmp_eq (tgt := 60) dX0_goOn_42 (by decide) (fun c42 => ?_) (fun c42 => ?_)
  · have e : P r t = P r (t - 1) := (nI_eq (by have := h6 t; omega) (by have := h6 (t - 1); omega)).mp c42
    exact main B (by rw [if_pos e])
  · have e : ¬ P r t = P r (t - 1) := fun z => c42 (by rw [z])
    refine fz_wo (V' := wSt g sz wd st op ki fa qu F Q on tn nc pn pf O T rn t wy lg (va_up B r (B r)) (vp_updL rows t (wby (rows t) r (P r t))) en et ow A lo hi rb ts sh go re al) (by rw [va_upI]) ?_
    refine fz_aload_n dX0_goOn_45 rfl ?_
    refine fz_get dX0_goOn_46 fX0_11 rfl (Nat.one_pos) rfl ?_
    refine fz_iload_n dX0_goOn_49 rfl ?_
    refine fz_aald dX0_goOn_50 rfl rfl Nat.one_pos (vp_in_nI (by omega) (by omega)) (arr (by omega)) ?_
    refine fz_dup dX0_goOn_51 rfl ?_
    refine fz_get dX0_goOn_52 fX0_66 rfl ((by omega : r < 6)) rfl ?_
    rw [va_up_self]
    refine fz_iconst (v := nI 1) dX0_goOn_55 (by decide) ?_
    refine fz_iadd dX0_goOn_56 ?_
    refine fz_putRo dX0_goOn_57 fX0_66 (by decide) rfl ((by omega : r < 6)) ⟨rfl, rfl⟩ ?_
    exact main _ (by rw [if_neg e]; rfl)
