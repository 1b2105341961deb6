/-! FleetController: order -/
def shB (cn : Nat) (kn : Nat → Nat) (a b c : Int32) : Bool := decide (celK cn kn a = nI 2) && (if b = -1 then decide (c = -1) else (decide (celK cn kn b = nI 2) && (decide (c = -1) || decide (celK cn kn c = nI 2))))
theorem tX10_areShelves {G : fz_G} (g : Nat) (hg : g < 2) (fp : Int32) (sz wd : Nat → Int32) (ki : Nat → Nat → Int32) (cn w : Nat) (kn : Nat → Nat) (st : Nat → Int32) (op : Nat → Int64) (hM : gM cn w kn (sz g) (wd g) st op (ki g)) (a b c : Int32) : fz_T G mX10_areShelves rX10_areShelves [zR 1 0, zI a, zI b, zI c] [(1, eFC g fp), (2, eGr sz wd), (5, e8 ki)] (fun r U => r = some (zI (bI (shB cn kn a b c))) ∧ U = [(1, eFC g fp), (2, eGr sz wd), (5, e8 ki)]) := by
  refine fz_T.of (by decide) (Nat.le_of_ble_eq_true rfl) (fun E0 => ?_)
  unfold shB
  refine fz_aload_n dX10_areShelves_0 rfl ?_
  refine fz_get dX10_areShelves_1 fX10_12 rfl (Nat.one_pos) rfl ?_
  refine fz_iload_n dX10_areShelves_4 rfl ?_
  refine fz_callV (tX1_kindAt g hg sz wd ki cn w kn _ _ hM a) dX10_areShelves_5 kX10_67 rfl (hg) ⟨rfl, rfl, trivial⟩ (Nat.le_of_ble_eq_true rfl) (Nat.le_of_ble_eq_true rfl) (Nat.le_of_ble_eq_true rfl) (Nat.le_of_ble_eq_true rfl) (Nat.le_of_ble_eq_true rfl) rfl (fun r U hq => ?_)
  obtain ⟨rfl, rfl⟩ := hq
  refine fz_back rfl ?_
  refine fz_wo (V' := [(1, eFC g fp), (2, eGr sz wd), (5, e8 ki)]) rfl ?_
  refine fz_iconst (v := nI 2) dX10_areShelves_8 (by decide) ?_
  refine fz_icmp_eq (tgt := 14) dX10_areShelves_9 (by decide) (fun c9 => ?_) (fun c9 => ?_)
  · rw [decide_eq_true c9, Bool.true_and]
    refine fz_iload_n dX10_areShelves_14 rfl ?_
    refine fz_iconst (v := -1) dX10_areShelves_15 (by decide) ?_
    refine fz_icmp_ne (tgt := 30) dX10_areShelves_16 (by decide) (fun c16 => ?_) (fun c16 => ?_)
    · rw [if_neg c16]
      refine fz_aload_n dX10_areShelves_30 rfl ?_
      refine fz_get dX10_areShelves_31 fX10_12 rfl (Nat.one_pos) rfl ?_
      refine fz_iload_n dX10_areShelves_34 rfl ?_
      refine fz_callV (tX1_kindAt g hg sz wd ki cn w kn _ _ hM b) dX10_areShelves_35 kX10_67 rfl (hg) ⟨rfl, rfl, trivial⟩ (Nat.le_of_ble_eq_true rfl) (Nat.le_of_ble_eq_true rfl) (Nat.le_of_ble_eq_true rfl) (Nat.le_of_ble_eq_true rfl) (Nat.le_of_ble_eq_true rfl) rfl (fun r U hq => ?_)
      obtain ⟨rfl, rfl⟩ := hq
      refine fz_back rfl ?_
      refine fz_wo (V' := [(1, eFC g fp), (2, eGr sz wd), (5, e8 ki)]) rfl ?_
      refine fz_iconst (v := nI 2) dX10_areShelves_38 (by decide) ?_
      refine fz_icmp_ne (tgt := 63) dX10_areShelves_39 (by decide) (fun c39 => ?_) (fun c39 => ?_)
      · rw [decide_eq_false c39]
        refine fz_iconst (v := nI 0) dX10_areShelves_63 (by decide) ?_
        refine fz_zret dX10_areShelves_64 rfl (by decide) (Nat.zero_le _) (Nat.zero_le _) ⟨rfl, rfl⟩
      · rw [decide_eq_true c39, Bool.true_and]
        refine fz_iload_n dX10_areShelves_42 rfl ?_
        refine fz_iconst (v := -1) dX10_areShelves_43 (by decide) ?_
        refine fz_icmp_eq (tgt := 59) dX10_areShelves_44 (by decide) (fun c44 => ?_) (fun c44 => ?_)
        · rw [decide_eq_true c44]
          refine fz_iconst (v := nI 1) dX10_areShelves_59 (by decide) ?_
          refine fz_goto (tgt := 64) dX10_areShelves_60 (by decide) ?_
          refine fz_zret dX10_areShelves_64 rfl (by decide) (Nat.zero_le _) (Nat.zero_le _) ⟨rfl, rfl⟩
        · rw [decide_eq_false c44, Bool.false_or]
          refine fz_aload_n dX10_areShelves_47 rfl ?_
          refine fz_get dX10_areShelves_48 fX10_12 rfl (Nat.one_pos) rfl ?_
          refine fz_iload_n dX10_areShelves_51 rfl ?_
          refine fz_callV (tX1_kindAt g hg sz wd ki cn w kn _ _ hM c) dX10_areShelves_52 kX10_67 rfl (hg) ⟨rfl, rfl, trivial⟩ (Nat.le_of_ble_eq_true rfl) (Nat.le_of_ble_eq_true rfl) (Nat.le_of_ble_eq_true rfl) (Nat.le_of_ble_eq_true rfl) (Nat.le_of_ble_eq_true rfl) rfl (fun r U hq => ?_)
          obtain ⟨rfl, rfl⟩ := hq
          refine fz_back rfl ?_
          refine fz_wo (V' := [(1, eFC g fp), (2, eGr sz wd), (5, e8 ki)]) rfl ?_
          refine fz_iconst (v := nI 2) dX10_areShelves_55 (by decide) ?_
          refine fz_icmp_ne (tgt := 63) dX10_areShelves_56 (by decide) (fun c56 => ?_) (fun c56 => ?_)
          · rw [decide_eq_false c56]
            refine fz_iconst (v := nI 0) dX10_areShelves_63 (by decide) ?_
            refine fz_zret dX10_areShelves_64 rfl (by decide) (Nat.zero_le _) (Nat.zero_le _) ⟨rfl, rfl⟩
          · rw [decide_eq_true c56]
            refine fz_iconst (v := nI 1) dX10_areShelves_59 (by decide) ?_
            refine fz_goto (tgt := 64) dX10_areShelves_60 (by decide) ?_
            refine fz_zret dX10_areShelves_64 rfl (by decide) (Nat.zero_le _) (Nat.zero_le _) ⟨rfl, rfl⟩
    · rw [if_pos c16]
      refine fz_iload_n dX10_areShelves_19 rfl ?_
      refine fz_iconst (v := -1) dX10_areShelves_20 (by decide) ?_
      refine fz_icmp_ne (tgt := 28) dX10_areShelves_21 (by decide) (fun c21 => ?_) (fun c21 => ?_)
      · rw [decide_eq_false c21]
        refine fz_iconst (v := nI 0) dX10_areShelves_28 (by decide) ?_
        refine fz_zret dX10_areShelves_29 rfl (by decide) (Nat.zero_le _) (Nat.zero_le _) ⟨rfl, rfl⟩
      · rw [decide_eq_true c21]
        refine fz_iconst (v := nI 1) dX10_areShelves_24 (by decide) ?_
        refine fz_goto (tgt := 29) dX10_areShelves_25 (by decide) ?_
        refine fz_zret dX10_areShelves_29 rfl (by decide) (Nat.zero_le _) (Nat.zero_le _) ⟨rfl, rfl⟩
  · rw [decide_eq_false c9]
    refine fz_iconst (v := nI 0) dX10_areShelves_12 (by decide) ?_
    refine fz_zret dX10_areShelves_13 rfl (by decide) (Nat.zero_le _) (Nat.zero_le _) ⟨rfl, rfl⟩
def wanN (b c : Int32) : Nat := if b = -1 then 1 else if c = -1 then 2 else 3
/-- a task more -/
def addT (T : Nat → Nat → Int32) (i o : Nat) (sh sn t : Int32) : Nat → Nat → Int32 := va_up T i (tkN (nI o) sh sn t (T i))
def addM (T : Nat → Nat → Int32) (tn o : Nat) (a b c sn t : Int32) : Nat → Nat → Int32 := if b = -1 then addT T tn o a sn t else if c = -1 then addT (addT T tn o a sn t) (tn + 1) o b sn t else addT (addT (addT T tn o a sn t) (tn + 1) o b sn t) (tn + 2) o c sn t
def ordF (σ : zS) (x a b c : Int32) : Int32 × zS := match σ with
  | (tx, n, fp, cn, w, kn, on, tn, rn, O, T, P, te, B, t, A, wy, lg) => if cn = 0 then (-4, σ) else if ¬ (celK cn kn x = nI 3 ∧ shB cn kn a b c = true) then (-2, σ) else if ¬ (on < 40 ∧ tn + wanN b c ≤ 90) then (-3, σ) else (nI on, (tx, n, fp, cn, w, kn, on + 1, tn + wanN b c, rn, va_up O on (orN x (nI (wanN b c)) (nI tn) (nI t) (O on)), addM T tn on a b c x (nI t), P, te, B, t, A, wy, lg))
theorem tkN_0 (o sh sn t : Int32) (a : Nat → Int32) : tkN o sh sn t a 0 = o := by
  unfold tkN
  rw [upk (by decide), upk (by decide), upk (by decide), upk (by decide), upk (by decide), upk (by decide), upk (by decide), upk (by decide), pk_us]
theorem tkN_1 (o sh sn t : Int32) (a : Nat → Int32) : tkN o sh sn t a 1 = sh := by
  unfold tkN
  rw [upk (by decide), upk (by decide), upk (by decide), upk (by decide), upk (by decide), upk (by decide), upk (by decide), pk_us]
theorem tkN_2 (o sh sn t : Int32) (a : Nat → Int32) : tkN o sh sn t a 2 = sn := by
  unfold tkN
  rw [upk (by decide), upk (by decide), upk (by decide), upk (by decide), upk (by decide), upk (by decide), pk_us]
theorem tkN_3 (o sh sn t : Int32) (a : Nat → Int32) : tkN o sh sn t a 3 = nI 0 := by
  unfold tkN
  rw [upk (by decide), upk (by decide), upk (by decide), upk (by decide), upk (by decide), pk_us]
theorem addT_lt {T : Nat → Nat → Int32} {i o : Nat} {sh sn t : Int32} {j : Nat} (h : j ≠ i) : addT T i o sh sn t j = T j := va_up_ne _ _ h
theorem addT_at {T : Nat → Nat → Int32} {i o : Nat} {sh sn t : Int32} : addT T i o sh sn t i = tkN (nI o) sh sn t (T i) := va_up_self _ _ _
theorem oCt_add {on tn : Nat} {O T : Nat → Nat → Int32} {nc pn : Nat} {pf : Nat → Int32} {o s : Nat} {sh t : Int32} (hs : s < 80) (h : oCt on tn O T nc pn pf) : pf s = nI (pnf T s tn) ∧ oCt on (tn + 1) O (addT T tn o sh (nI s) t) nc (pn + 1) (upd pf s (nI (pnf T s tn + 1))) := by
  obtain ⟨h1, h2, h3⟩ := h
  have e3 : addT T tn o sh (nI s) t tn 3 = nI 0 := by rw [addT_at, tkN_3]
  have e2 : tst (addT T tn o sh (nI s) t) tn = s := by unfold tst; rw [addT_at, tkN_2, nI_clamp (by omega)]
  refine ⟨h2 s hs, ?_, fun c hc => ?_, h3⟩
  · show pn + 1 = cnt _ tn + (if decide (addT T tn o sh (nI s) t tn 3 = nI 0) = true then 1 else 0)
    rw [e3, if_pos (by simp), h1]
    congr 1
    exact cnt_congr (fun i hi => by rw [addT_lt (by omega)])
  · have e : pnf (addT T tn o sh (nI s) t) c (tn + 1) = pnf T c tn + if c = s then 1 else 0 := by
      show cnt _ tn + (if (decide (addT T tn o sh (nI s) t tn 3 = nI 0) && decide (tst (addT T tn o sh (nI s) t) tn = c)) = true then 1 else 0) = _
      rw [e3, e2]
      congr 1
      · exact cnt_congr (fun i hi => by unfold tst; rw [addT_lt (by omega)])
      · by_cases z : c = s
        · rw [if_pos z, z]; simp
        · rw [if_neg z]
          have : ¬ s = c := fun y => z y.symm
          simp [this]
    rw [e]
    by_cases z : c = s
    · rw [if_pos z, z, pk_us]
    · rw [if_neg z, pk_un z, Nat.add_zero]; exact h2 c hc
theorem ordF_bad {tx : Nat → Nat} {n : Nat} {fp : Int32} {cn w : Nat} {kn : Nat → Nat} {on tn rn : Nat} {O T : Nat → Nat → Int32} {P : Nat → Nat → Nat} {te : Nat → Nat} {B : Nat → Nat → Int32} {t A wy lg : Nat} {x a b c : Int32} (h0 : ¬ cn = 0) (h : ¬ (celK cn kn x = nI 3 ∧ shB cn kn a b c = true)) : ordF (tx, n, fp, cn, w, kn, on, tn, rn, O, T, P, te, B, t, A, wy, lg) x a b c = (-2, (tx, n, fp, cn, w, kn, on, tn, rn, O, T, P, te, B, t, A, wy, lg)) := by
  unfold ordF
  simp only [if_neg h0, if_pos h]
theorem ordF_full {tx : Nat → Nat} {n : Nat} {fp : Int32} {cn w : Nat} {kn : Nat → Nat} {on tn rn : Nat} {O T : Nat → Nat → Int32} {P : Nat → Nat → Nat} {te : Nat → Nat} {B : Nat → Nat → Int32} {t A wy lg : Nat} {x a b c : Int32} (h0 : ¬ cn = 0) (h : celK cn kn x = nI 3 ∧ shB cn kn a b c = true) (h2 : ¬ (on < 40 ∧ tn + wanN b c ≤ 90)) : ordF (tx, n, fp, cn, w, kn, on, tn, rn, O, T, P, te, B, t, A, wy, lg) x a b c = (-3, (tx, n, fp, cn, w, kn, on, tn, rn, O, T, P, te, B, t, A, wy, lg)) := by
  unfold ordF
  simp only [if_neg h0, if_neg (show ¬ ¬ (celK cn kn x = nI 3 ∧ shB cn kn a b c = true) from fun z => z h), if_pos h2]
theorem ordF_ok {tx : Nat → Nat} {n : Nat} {fp : Int32} {cn w : Nat} {kn : Nat → Nat} {on tn rn : Nat} {O T : Nat → Nat → Int32} {P : Nat → Nat → Nat} {te : Nat → Nat} {B : Nat → Nat → Int32} {t A wy lg : Nat} {x a b c : Int32} (h0 : ¬ cn = 0) (h : celK cn kn x = nI 3 ∧ shB cn kn a b c = true) (h2 : on < 40 ∧ tn + wanN b c ≤ 90) : ordF (tx, n, fp, cn, w, kn, on, tn, rn, O, T, P, te, B, t, A, wy, lg) x a b c = (nI on, (tx, n, fp, cn, w, kn, on + 1, tn + wanN b c, rn, va_up O on (orN x (nI (wanN b c)) (nI tn) (nI t) (O on)), addM T tn on a b c x (nI t), P, te, B, t, A, wy, lg)) := by
  unfold ordF
  simp only [if_neg h0, if_neg (show ¬ ¬ (celK cn kn x = nI 3 ∧ shB cn kn a b c = true) from fun z => z h), if_neg (show ¬ ¬ (on < 40 ∧ tn + wanN b c ≤ 90) from fun z => z h2)]
theorem tX10_order {G : fz_G} (σ : zS) (V : fz_W) (hI : inZ σ) (hV : clR σ V) (x a b c : Int32) : fz_T G mX10_order rX10_order [zR 1 0, zI x, zI a, zI b, zI c] V (fun r U => r = some (zI (ordF σ x a b c).1) ∧ clR (ordF σ x a b c).2 U) := by
  obtain ⟨tx, n, fp, cn, w, kn, on, tn, rn, O, T, P, te, B, t, A, wy, lg⟩ := σ
  have hon : on ≤ 40 := hI.1.1
  have htn : tn ≤ 90 := hI.1.2.1
  have hV2 := hV
  obtain ⟨g, tw, ln, co, tf, sg, sz, wd, st, op, ki, fa, qu, F, Q, nc, pn, pf, rows, en, et, ow, lo, hi, rb, ts, sh, go, re, al, hg, hn, htw, htq, hM, hoc, htt, rfl⟩ := hV2
  obtain ⟨m1, m2, m3⟩ := id hM
  refine fz_T.of (by decide) (Nat.le_of_ble_eq_true rfl) (fun E0 => ?_)
  refine fz_aload_n dX10_order_0 rfl ?_
  refine fz_get dX10_order_1 fX10_12 rfl (Nat.one_pos) rfl ?_
  refine fz_callV (tX1_size g hg sz wd) dX10_order_4 kX10_64 rfl (hg) ⟨rfl, trivial⟩ (Nat.le_of_ble_eq_true rfl) (Nat.le_of_ble_eq_true rfl) (Nat.le_of_ble_eq_true rfl) (Nat.le_of_ble_eq_true rfl) (Nat.le_of_ble_eq_true rfl) rfl (fun r U hq => ?_)
  obtain ⟨rfl, rfl⟩ := hq
  refine fz_back rfl ?_
  refine fz_wo (V' := wAl g fp n tw ln co tf sg (wSt g sz wd st op ki fa qu F Q on tn nc pn pf O T rn t wy lg B rows en et ow A lo hi rb ts sh go re al)) rfl ?_
  rw [m1]
  refine fz_if_ne (tgt := 13) dX10_order_7 (by decide) (fun c7 => ?_) (fun c7 => ?_)
  · have h0 : ¬ cn = 0 := fun z => c7 (by rw [z]; exact nI_0)
    refine fz_aload_n dX10_order_13 rfl ?_
    refine fz_get dX10_order_14 fX10_12 rfl (Nat.one_pos) rfl ?_
    refine fz_iload_n dX10_order_17 rfl ?_
    refine fz_callV (tX1_kindAt g hg sz wd ki cn w kn _ _ hM x) dX10_order_18 kX10_67 rfl (hg) ⟨rfl, rfl, trivial⟩ (Nat.le_of_ble_eq_true rfl) (Nat.le_of_ble_eq_true rfl) (Nat.le_of_ble_eq_true rfl) (Nat.le_of_ble_eq_true rfl) (Nat.le_of_ble_eq_true rfl) rfl (fun r U hq => ?_)
    obtain ⟨rfl, rfl⟩ := hq
    refine fz_back rfl ?_
    refine fz_wo (V' := wAl g fp n tw ln co tf sg (wSt g sz wd st op ki fa qu F Q on tn nc pn pf O T rn t wy lg B rows en et ow A lo hi rb ts sh go re al)) rfl ?_
    refine fz_iconst (v := nI 3) dX10_order_21 (by decide) ?_
    refine fz_icmp_ne (tgt := 36) dX10_order_22 (by decide) (fun c22 => ?_) (fun c22 => ?_)
    · rw [ordF_bad h0 (fun z => c22 z.1)]
      refine fz_bipush (v := -2) dX10_order_36 (by decide) ?_
      refine fz_iret dX10_order_38 rfl (Nat.zero_le _) (Nat.zero_le _) ⟨rfl, hV⟩
    · skip
      refine fz_aload_n dX10_order_25 rfl ?_
      refine fz_iload_n dX10_order_26 rfl ?_
      refine fz_iload_n dX10_order_27 rfl ?_
      refine fz_iload dX10_order_28 rfl ?_
      refine fz_callV (tX10_areShelves g hg fp sz wd ki cn w kn _ _ hM a b c) dX10_order_30 kX10_88 rfl (Nat.one_pos) ⟨rfl, rfl, rfl, trivial⟩ (Nat.le_of_ble_eq_true rfl) (Nat.le_of_ble_eq_true rfl) (Nat.le_of_ble_eq_true rfl) (Nat.le_of_ble_eq_true rfl) (Nat.le_of_ble_eq_true rfl) rfl (fun r U hq => ?_)
      obtain ⟨rfl, rfl⟩ := hq
      refine fz_back rfl ?_
      refine fz_wo (V' := wAl g fp n tw ln co tf sg (wSt g sz wd st op ki fa qu F Q on tn nc pn pf O T rn t wy lg B rows en et ow A lo hi rb ts sh go re al)) rfl ?_
      cases hsb : shB cn kn a b c with
      | false =>
        refine fz_if_ne (tgt := 39) dX10_order_33 (by decide) (fun c33 => ?_) (fun c33 => ?_)
        · exact absurd rfl c33
        · rw [ordF_bad h0 (fun z => by rw [hsb] at z; exact Bool.noConfusion z.2)]
          refine fz_bipush (v := -2) dX10_order_36 (by decide) ?_
          refine fz_iret dX10_order_38 rfl (Nat.zero_le _) (Nat.zero_le _) ⟨rfl, hV⟩
      | true =>
        refine fz_if_ne (tgt := 39) dX10_order_33 (by decide) (fun c33 => ?_) (fun c33 => ?_)
        · obtain ⟨s, hs, rfl⟩ : ∃ s, s < cn ∧ x = nI s := by
            rcases ix_cases x (n := cn) (by omega) with h | h
            · unfold celK at c22
              rw [if_pos h] at c22
              exact absurd c22.symm (oI_ne (by omega))
            · exact h
          have main : ∀ m, m = wanN b c → m ≤ 3 → 1 ≤ m → fz_J G mX10_order rX10_order (fz_Z G E0 rX10_order.cells rX10_order.slots (fun r U => r = some (zI (ordF (tx, n, fp, cn, w, kn, on, tn, rn, O, T, P, te, B, t, A, wy, lg) (nI s) a b c).1) ∧ clR (ordF (tx, n, fp, cn, w, kn, on, tn, rn, O, T, P, te, B, t, A, wy, lg) (nI s) a b c).2 U)) E0 0 0 61 [(5, zI (nI m)), (0, zR 1 0), (1, zI (nI s)), (2, zI a), (3, zI b), (4, zI c)] [] (wAl g fp n tw ln co tf sg (wSt g sz wd st op ki fa qu F Q on tn nc pn pf O T rn t wy lg B rows en et ow A lo hi rb ts sh go re al)) := by
            intro m hm hm3 hm1
            refine fz_aload_n dX10_order_61 rfl ?_
            refine fz_get dX10_order_62 fX10_29 rfl (Nat.one_pos) rfl ?_
            refine fz_iload dX10_order_65 rfl ?_
            refine fz_callV (tX5_haveRoomFor on tn hon htn (nI nc) (nI pn) m hm3) dX10_order_67 kX10_92 rfl (Nat.one_pos) ⟨rfl, trivial⟩ (Nat.le_of_ble_eq_true rfl) (Nat.le_of_ble_eq_true rfl) (Nat.le_of_ble_eq_true rfl) (Nat.le_of_ble_eq_true rfl) (Nat.le_of_ble_eq_true rfl) rfl (fun r U hq => ?_)
            obtain ⟨rfl, rfl⟩ := hq
            refine fz_back rfl ?_
            refine fz_wo (V' := wAl g fp n tw ln co tf sg (wSt g sz wd st op ki fa qu F Q on tn nc pn pf O T rn t wy lg B rows en et ow A lo hi rb ts sh go re al)) rfl ?_
            by_cases hroom : on < 40 ∧ tn + m ≤ 90
            · rw [if_pos hroom, ordF_ok h0 ⟨c22, hsb⟩ (by rw [← hm]; exact hroom), ← hm]
              refine fz_if_ne (tgt := 76) dX10_order_70 (by decide) (fun c70 => ?_) (fun c70 => ?_)
              · skip
                refine fz_aload_n dX10_order_76 rfl ?_
                refine fz_get dX10_order_77 fX10_29 rfl (Nat.one_pos) rfl ?_
                refine fz_iload_n dX10_order_80 rfl ?_
                refine fz_iload dX10_order_81 rfl ?_
                refine fz_aload_n dX10_order_83 rfl ?_
                refine fz_get dX10_order_84 fX10_38 rfl (Nat.one_pos) rfl ?_
                refine fz_callV (tX0_now g (nI rn) (nI t) (nI wy) (nI lg)) dX10_order_87 kX10_82 rfl (Nat.one_pos) ⟨rfl, trivial⟩ (Nat.le_of_ble_eq_true rfl) (Nat.le_of_ble_eq_true rfl) (Nat.le_of_ble_eq_true rfl) (Nat.le_of_ble_eq_true rfl) (Nat.le_of_ble_eq_true rfl) rfl (fun r U hq => ?_)
                obtain ⟨rfl, rfl⟩ := hq
                refine fz_back rfl ?_
                refine fz_wo (V' := wAl g fp n tw ln co tf sg (wSt g sz wd st op ki fa qu F Q on tn nc pn pf O T rn t wy lg B rows en et ow A lo hi rb ts sh go re al)) rfl ?_
                refine fz_callV (tX5_add on hroom.1 (nI tn) (nI pn) nc O (nI s) (nI m) (nI t)) dX10_order_90 kX10_95 rfl (Nat.one_pos) ⟨rfl, rfl, rfl, trivial⟩ (Nat.le_of_ble_eq_true rfl) (Nat.le_of_ble_eq_true rfl) (Nat.le_of_ble_eq_true rfl) (Nat.le_of_ble_eq_true rfl) (Nat.le_of_ble_eq_true rfl) rfl (fun r U hq => ?_)
                obtain ⟨rfl, rfl⟩ := hq
                refine fz_back rfl ?_
                have hO0 : va_up O on (orN (nI s) (nI m) (nI tn) (nI t) (O on)) on 0 = nI s := by
                  rw [va_up_self]
                  unfold orN
                  rw [upk (by decide), upk (by decide), upk (by decide), upk (by decide), upk (by decide), pk_us]
                have hO4 : va_up O on (orN (nI s) (nI m) (nI tn) (nI t) (O on)) on 4 = nI t := by
                  rw [va_up_self]
                  unfold orN
                  rw [upk (by decide), pk_us]
                have hO3 : va_up O on (orN (nI s) (nI m) (nI tn) (nI t) (O on)) on 3 = nI m := by
                  rw [va_up_self]
                  unfold orN
                  rw [upk (by decide), upk (by decide), pk_us]
                have hoc0 : oCt (on + 1) tn (va_up O on (orN (nI s) (nI m) (nI tn) (nI t) (O on))) T (nc + 1) pn pf := by
                  refine ⟨hoc.1, hoc.2.1, ?_⟩
                  show nc + 1 = cnt _ on + (if decide (¬ va_up O on (orN (nI s) (nI m) (nI tn) (nI t) (O on)) on 3 = nI 0) = true then 1 else 0)
                  rw [hO3, if_pos (by simp only [decide_eq_true_eq]; intro z; have := (nI_eq (by omega) (by omega)).mp z; omega), hoc.2.2]
                  congr 1
                  exact cnt_congr (fun i hi => by rw [va_up_ne _ _ (by omega)])
                obtain ⟨p1, hoc1⟩ := oCt_add (o := on) (s := s) (sh := a) (t := nI t) (by omega) hoc0
                refine fz_wo (V' := wAl g fp n tw ln co tf sg (wSt g sz wd st op ki fa qu F Q (on + 1) tn (nc + 1) pn pf (va_up O on (orN (nI s) (nI m) (nI tn) (nI t) (O on))) T rn t wy lg B rows en et ow A lo hi rb ts sh go re al)) rfl ?_
                refine fz_istore dX10_order_93 (Nat.le_of_ble_eq_true rfl) ?_
                refine fz_aload_n dX10_order_95 rfl ?_
                refine fz_get dX10_order_96 fX10_29 rfl (Nat.one_pos) rfl ?_
                refine fz_iload dX10_order_99 rfl ?_
                refine fz_iload_n dX10_order_101 rfl ?_
                refine fz_callV (tX5_addTask (on + 1) tn on s (by omega) (by omega) (by omega) (nI (on + 1)) (nI (nc + 1)) pn _ T pf a hO0 _ p1) dX10_order_102 kX10_99 rfl (Nat.one_pos) ⟨rfl, rfl, rfl, rfl, rfl, rfl, trivial⟩ (Nat.le_of_ble_eq_true rfl) (Nat.le_of_ble_eq_true rfl) (Nat.le_of_ble_eq_true rfl) (Nat.le_of_ble_eq_true rfl) (Nat.le_of_ble_eq_true rfl) rfl (fun r U hq => ?_)
                obtain ⟨rfl, rfl⟩ := hq
                refine fz_back rfl ?_
                rw [hO4]
                refine fz_wo (V' := wAl g fp n tw ln co tf sg (wSt g sz wd st op ki fa qu F Q (on + 1) (tn + 1) (nc + 1) (pn + 1) (upd pf s (nI (pnf T s tn + 1))) (va_up O on (orN (nI s) (nI m) (nI tn) (nI t) (O on))) (addT T tn on a (nI s) (nI t)) rn t wy lg B rows en et ow A lo hi rb ts sh go re al)) rfl ?_
                refine fz_iload dX10_order_105 rfl ?_
                refine fz_iconst (v := nI 1) dX10_order_107 (by decide) ?_
                rcases (show m = 1 ∨ m = 2 ∨ m = 3 by omega) with rfl | rfl | rfl
                · skip
                  refine fz_icmp_le (tgt := 121) dX10_order_108 (by decide) (fun c108 => ?_) (fun c108 => ?_)
                  · skip
                    refine fz_iload dX10_order_121 rfl ?_
                    refine fz_iconst (v := nI 2) dX10_order_123 (by decide) ?_
                    refine fz_icmp_le (tgt := 138) dX10_order_124 (by decide) (fun c124 => ?_) (fun c124 => ?_)
                    · have hb : b = -1 := by
                        unfold wanN at hm
                        by_cases z : b = -1
                        · exact z
                        · rw [if_neg z] at hm
                          split at hm <;> omega
                      have eT : addM T tn on a b c (nI s) (nI t) = addT T tn on a (nI s) (nI t) := by unfold addM; rw [if_pos hb]
                      rw [eT]
                      refine fz_iload dX10_order_138 rfl ?_
                      refine fz_iret dX10_order_140 rfl (Nat.zero_le _) (Nat.zero_le _) ⟨rfl, g, tw, ln, co, tf, sg, sz, wd, st, op, ki, fa, qu, F, Q, _, _, _, rows, en, et, ow, lo, hi, rb, ts, sh, go, re, al, hg, hn, htw, htq, hM, hoc1, htt, rfl⟩
                    · exact absurd (by decide) c124
                  · exact absurd (by decide) c108
                · skip
                  refine fz_icmp_le (tgt := 121) dX10_order_108 (by decide) (fun c108 => ?_) (fun c108 => ?_)
                  · exact absurd c108 (by decide)
                  · have hb : ¬ b = -1 := by
                      intro z
                      unfold wanN at hm
                      rw [if_pos z] at hm; omega
                    have hc : c = -1 := by
                      unfold wanN at hm
                      by_cases z : c = -1
                      · exact z
                      · rw [if_neg hb, if_neg z] at hm; omega
                    obtain ⟨p2, hoc2⟩ := oCt_add (o := on) (s := s) (sh := b) (t := nI t) (by omega) hoc1
                    refine fz_aload_n dX10_order_111 rfl ?_
                    refine fz_get dX10_order_112 fX10_29 rfl (Nat.one_pos) rfl ?_
                    refine fz_iload dX10_order_115 rfl ?_
                    refine fz_iload_n dX10_order_117 rfl ?_
                    refine fz_callV (tX5_addTask (on + 1) (tn + 1) on s (by omega) (by omega) (by omega) (nI (on + 1)) (nI (nc + 1)) (pn + 1) _ _ _ b hO0 _ p2) dX10_order_118 kX10_99 rfl (Nat.one_pos) ⟨rfl, rfl, rfl, rfl, rfl, rfl, trivial⟩ (Nat.le_of_ble_eq_true rfl) (Nat.le_of_ble_eq_true rfl) (Nat.le_of_ble_eq_true rfl) (Nat.le_of_ble_eq_true rfl) (Nat.le_of_ble_eq_true rfl) rfl (fun r U hq => ?_)
                    obtain ⟨rfl, rfl⟩ := hq
                    refine fz_back rfl ?_
                    rw [hO4]
                    refine fz_iload dX10_order_121 rfl ?_
                    refine fz_iconst (v := nI 2) dX10_order_123 (by decide) ?_
                    refine fz_icmp_le (tgt := 138) dX10_order_124 (by decide) (fun c124 => ?_) (fun c124 => ?_)
                    · have eT : addM T tn on a b c (nI s) (nI t) = addT (addT T tn on a (nI s) (nI t)) (tn + 1) on b (nI s) (nI t) := by unfold addM; rw [if_neg hb, if_pos hc]
                      rw [eT]
                      refine fz_iload dX10_order_138 rfl ?_
                      refine fz_iret dX10_order_140 rfl (Nat.zero_le _) (Nat.zero_le _) ⟨rfl, g, tw, ln, co, tf, sg, sz, wd, st, op, ki, fa, qu, F, Q, _, _, _, rows, en, et, ow, lo, hi, rb, ts, sh, go, re, al, hg, hn, htw, htq, hM, hoc2, htt, rfl⟩
                    · exact absurd (by decide) c124
                · skip
                  refine fz_icmp_le (tgt := 121) dX10_order_108 (by decide) (fun c108 => ?_) (fun c108 => ?_)
                  · exact absurd c108 (by decide)
                  · have hb : ¬ b = -1 := by
                      intro z
                      unfold wanN at hm
                      rw [if_pos z] at hm; omega
                    have hc : ¬ c = -1 := by
                      intro z
                      unfold wanN at hm
                      rw [if_neg hb, if_pos z] at hm; omega
                    obtain ⟨p2, hoc2⟩ := oCt_add (o := on) (s := s) (sh := b) (t := nI t) (by omega) hoc1
                    refine fz_aload_n dX10_order_111 rfl ?_
                    refine fz_get dX10_order_112 fX10_29 rfl (Nat.one_pos) rfl ?_
                    refine fz_iload dX10_order_115 rfl ?_
                    refine fz_iload_n dX10_order_117 rfl ?_
                    refine fz_callV (tX5_addTask (on + 1) (tn + 1) on s (by omega) (by omega) (by omega) (nI (on + 1)) (nI (nc + 1)) (pn + 1) _ _ _ b hO0 _ p2) dX10_order_118 kX10_99 rfl (Nat.one_pos) ⟨rfl, rfl, rfl, rfl, rfl, rfl, trivial⟩ (Nat.le_of_ble_eq_true rfl) (Nat.le_of_ble_eq_true rfl) (Nat.le_of_ble_eq_true rfl) (Nat.le_of_ble_eq_true rfl) (Nat.le_of_ble_eq_true rfl) rfl (fun r U hq => ?_)
                    obtain ⟨rfl, rfl⟩ := hq
                    refine fz_back rfl ?_
                    rw [hO4]
                    obtain ⟨p3, hoc3⟩ := oCt_add (o := on) (s := s) (sh := c) (t := nI t) (by omega) hoc2
                    refine fz_iload dX10_order_121 rfl ?_
                    refine fz_iconst (v := nI 2) dX10_order_123 (by decide) ?_
                    refine fz_icmp_le (tgt := 138) dX10_order_124 (by decide) (fun c124 => ?_) (fun c124 => ?_)
                    · exact absurd c124 (by decide)
                    · skip
                      refine fz_aload_n dX10_order_127 rfl ?_
                      refine fz_get dX10_order_128 fX10_29 rfl (Nat.one_pos) rfl ?_
                      refine fz_iload dX10_order_131 rfl ?_
                      refine fz_iload dX10_order_133 rfl ?_
                      refine fz_callV (tX5_addTask (on + 1) (tn + 2) on s (by omega) (by omega) (by omega) (nI (on + 1)) (nI (nc + 1)) (pn + 2) _ _ _ c hO0 _ p3) dX10_order_135 kX10_99 rfl (Nat.one_pos) ⟨rfl, rfl, rfl, rfl, rfl, rfl, trivial⟩ (Nat.le_of_ble_eq_true rfl) (Nat.le_of_ble_eq_true rfl) (Nat.le_of_ble_eq_true rfl) (Nat.le_of_ble_eq_true rfl) (Nat.le_of_ble_eq_true rfl) rfl (fun r U hq => ?_)
                      obtain ⟨rfl, rfl⟩ := hq
                      refine fz_back rfl ?_
                      rw [hO4]
                      have eT : addM T tn on a b c (nI s) (nI t) = addT (addT (addT T tn on a (nI s) (nI t)) (tn + 1) on b (nI s) (nI t)) (tn + 2) on c (nI s) (nI t) := by unfold addM; rw [if_neg hb, if_neg hc]
                      rw [eT]
                      refine fz_iload dX10_order_138 rfl ?_
                      refine fz_iret dX10_order_140 rfl (Nat.zero_le _) (Nat.zero_le _) ⟨rfl, g, tw, ln, co, tf, sg, sz, wd, st, op, ki, fa, qu, F, Q, _, _, _, rows, en, et, ow, lo, hi, rb, ts, sh, go, re, al, hg, hn, htw, htq, hM, hoc3, htt, rfl⟩
              · exact absurd c70 (by decide)
            · rw [if_neg hroom, ordF_full h0 ⟨c22, hsb⟩ (by rw [← hm]; exact hroom)]
              refine fz_if_ne (tgt := 76) dX10_order_70 (by decide) (fun c70 => ?_) (fun c70 => ?_)
              · exact absurd rfl c70
              · skip
                refine fz_bipush (v := -3) dX10_order_73 (by decide) ?_
                refine fz_iret dX10_order_75 rfl (Nat.zero_le _) (Nat.zero_le _) ⟨rfl, hV⟩
          refine fz_iload_n dX10_order_39 rfl ?_
          refine fz_iconst (v := -1) dX10_order_40 (by decide) ?_
          refine fz_icmp_ne (tgt := 48) dX10_order_41 (by decide) (fun c41 => ?_) (fun c41 => ?_)
          · skip
            refine fz_iload dX10_order_48 rfl ?_
            refine fz_iconst (v := -1) dX10_order_50 (by decide) ?_
            refine fz_icmp_ne (tgt := 58) dX10_order_51 (by decide) (fun c51 => ?_) (fun c51 => ?_)
            · skip
              refine fz_iconst (v := nI 3) dX10_order_58 (by decide) ?_
              refine fz_istore dX10_order_59 (Nat.le_of_ble_eq_true rfl) ?_
              exact main 3 (by unfold wanN; rw [if_neg c41, if_neg c51]) (by omega) (by omega)
            · skip
              refine fz_iconst (v := nI 2) dX10_order_54 (by decide) ?_
              refine fz_goto (tgt := 59) dX10_order_55 (by decide) ?_
              refine fz_istore dX10_order_59 (Nat.le_of_ble_eq_true rfl) ?_
              exact main 2 (by unfold wanN; rw [if_neg c41, if_pos c51]) (by omega) (by omega)
          · skip
            refine fz_iconst (v := nI 1) dX10_order_44 (by decide) ?_
            refine fz_goto (tgt := 59) dX10_order_45 (by decide) ?_
            refine fz_istore dX10_order_59 (Nat.le_of_ble_eq_true rfl) ?_
            exact main 1 (by unfold wanN; rw [if_pos c41]) (by omega) (by omega)
        · exact absurd c33 (by decide)
  · have h0 : cn = 0 := (nI_eq (by omega) (by omega)).mp (c7.trans nI_0.symm)
    have e : ordF (tx, n, fp, cn, w, kn, on, tn, rn, O, T, P, te, B, t, A, wy, lg) x a b c = (-4, (tx, n, fp, cn, w, kn, on, tn, rn, O, T, P, te, B, t, A, wy, lg)) := by
      unfold ordF
      simp only [if_pos h0]
    rw [e]
    refine fz_bipush (v := -4) dX10_order_10 (by decide) ?_
    refine fz_iret dX10_order_12 rfl (Nat.zero_le _) (Nat.zero_le _) ⟨rfl, hV⟩
