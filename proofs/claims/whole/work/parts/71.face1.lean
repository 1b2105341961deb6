/-! FleetController: its face, what only looks -/
/-- text and its length, the fault's place, the map, counts of orders, tasks, robots, the rest -/
abbrev zS : Type := (Nat → Nat) × Nat × Int32 × Nat × Nat × (Nat → Nat) × Nat × Nat × Nat × fS
abbrev eFC (g : Nat) (fp : Int32) : fz_E := zo 10 1 (fun _ => [zR 2 g, zR 2 (1 - g), zR 8 0, zR 10 0, zR 16 0, zI fp])
def gM (cn w : Nat) (kn : Nat → Nat) (sz wd : Int32) (st : Nat → Int32) (op : Nat → Int64) (ki : Nat → Int32) : Prop := sz = nI cn ∧ cn ≤ 80 ∧ (0 < cn → gK cn w kn sz wd ki ∧ gS w st ∧ gO cn w kn op)
abbrev wAl (g : Nat) (fp : Int32) (n tw : Nat) (ln co tf : Int32) (sg : Nat → Int32) (V : fz_W) : fz_W := (1, eFC g fp) :: (8, eTx (nI n) (nI tw) ln co tf) :: (9, eSg sg) :: V
/-- the world is the class's of this state -/
def clR (σ : zS) (V : fz_W) : Prop := match σ with
  | (tx, n, fp, cn, w, kn, on, tn, rn, O, T, P, te, B, t, A, wy, lg) => ∃ (g tw : Nat) (ln co tf : Int32) (sg : Nat → Int32) (sz wd : Nat → Int32) (st : Nat → Nat → Int32) (op : Nat → Nat → Int64) (ki fa qu : Nat → Nat → Int32) (F Q : Nat → Int32) (nc pn : Nat) (pf : Nat → Int32) (rows : Nat → Int64) (en et ow : Nat → Int32) (lo hi : Int64) (rb ts sh go : Int32) (re al : Nat → Int64), g < 2 ∧ n ≤ 90 ∧ tw ≤ 10 ∧ tq sg tx n ∧ gM cn w kn (sz g) (wd g) (st g) (op g) (ki g) ∧ oCt on tn O T nc pn pf ∧ (0 < cn → ttR (fun _ => t) rn P te rows en et ow) ∧ V = wAl g fp n tw ln co tf sg (wSt g sz wd st op ki fa qu F Q on tn nc pn pf O T rn t wy lg B rows en et ow A lo hi rb ts sh go re al)
/-- what always holds of it -/
def inZ (σ : zS) : Prop := match σ with
  | (tx, n, fp, cn, w, kn, on, tn, rn, s) => inF cn kn on tn rn s ∧ (cn = 0 → on = 0 ∧ tn = 0 ∧ rn = 0) ∧ (0 < cn → 0 < w ∧ ∃ h, cn = w * h)
theorem ix_cases (x : Int32) {n : Nat} (hn : n < 2 ^ 30) : (x < 0 ∨ nI n ≤ x) ∨ ∃ j, j < n ∧ x = nI j := by
  rcases pk_ix x (n := n) (by omega) with h | h | ⟨j, hj, rfl⟩
  · exact Or.inl (Or.inl h)
  · exact Or.inl (Or.inr h)
  · exact Or.inr ⟨j, hj, rfl⟩
theorem ix_in {j n : Nat} (hj : j < n) (hn : n < 2 ^ 30) : ¬ (nI j < 0 ∨ nI n ≤ nI j) := by
  rintro (z | z)
  · exact nI_pos (by omega) z
  · have := (nI_leI (by omega) (by omega)).mp z
    omega
theorem cn_pos {cn on tn rn j : Nat} (j2 : cn = 0 → on = 0 ∧ tn = 0 ∧ rn = 0) (hj : j < rn) : 0 < cn := by
  rcases Nat.eq_zero_or_pos cn with z | z
  · have := (j2 z).2.2; omega
  · exact z
def typF (σ : zS) (x : Int64) : Int32 × zS := match σ with
  | (tx, n, r) => if n + nb x ≤ 90 then (nI (n + nb x), (apx tx n x, n + nb x, r)) else (-3, (tx, n, r))
theorem tX10_type {G : fz_G} (σ : zS) (V : fz_W) (hV : clR σ V) (x : Int64) : fz_T G mX10_type rX10_type [zR 1 0, zL x] V (fun r U => r = some (zI (typF σ x).1) ∧ clR (typF σ x).2 U) := by
  obtain ⟨tx, n, fp, cn, w, kn, on, tn, rn, O, T, P, te, B, t, A, wy, lg⟩ := σ
  obtain ⟨g, tw, ln, co, tf, sg, sz, wd, st, op, ki, fa, qu, F, Q, nc, pn, pf, rows, en, et, ow, lo, hi, rb, ts, sh, go, re, al, hg, hn, htw, htq, hM, hoc, htt, rfl⟩ := hV
  refine fz_T.of (by decide) (Nat.le_of_ble_eq_true rfl) (fun E0 => ?_)
  refine fz_aload_n dX10_type_0 rfl ?_
  refine fz_get dX10_type_1 fX10_22 rfl (Nat.one_pos) rfl ?_
  refine fz_lload_n dX10_type_4 rfl ?_
  refine fz_callV (tX2_append x n hn (nI tw) ln co tf sg tx htq) dX10_type_5 kX10_46 rfl (Nat.one_pos) ⟨rfl, rfl, trivial⟩ (Nat.le_of_ble_eq_true rfl) (Nat.le_of_ble_eq_true rfl) (Nat.le_of_ble_eq_true rfl) (Nat.le_of_ble_eq_true rfl) (Nat.le_of_ble_eq_true rfl) rfl (fun r U hq => ?_)
  unfold typF
  by_cases h : n + nb x ≤ 90
  · rw [if_pos h] at hq
    obtain ⟨rfl, sg', hsg, rfl⟩ := hq
    refine fz_back rfl ?_
    simp only [if_pos h]
    refine fz_iret dX10_type_8 rfl (Nat.zero_le _) (Nat.zero_le _) ⟨rfl, g, tw, ln, co, tf, sg', sz, wd, st, op, ki, fa, qu, F, Q, nc, pn, pf, rows, en, et, ow, lo, hi, rb, ts, sh, go, re, al, hg, h, htw, hsg, hM, hoc, htt, rfl⟩
  · rw [if_neg h] at hq
    obtain ⟨rfl, rfl⟩ := hq
    refine fz_back rfl ?_
    simp only [if_neg h]
    refine fz_iret dX10_type_8 rfl (Nat.zero_le _) (Nat.zero_le _) ⟨rfl, g, tw, ln, co, tf, sg, sz, wd, st, op, ki, fa, qu, F, Q, nc, pn, pf, rows, en, et, ow, lo, hi, rb, ts, sh, go, re, al, hg, hn, htw, htq, hM, hoc, htt, rfl⟩
def eraF (σ : zS) : Int32 × zS := match σ with
  | (tx, n, r) => (nI n, (tx, 0, r))
theorem tX10_erase {G : fz_G} (σ : zS) (V : fz_W) (hV : clR σ V) : fz_T G mX10_erase rX10_erase [zR 1 0] V (fun r U => r = some (zI (eraF σ).1) ∧ clR (eraF σ).2 U) := by
  obtain ⟨tx, n, fp, cn, w, kn, on, tn, rn, O, T, P, te, B, t, A, wy, lg⟩ := σ
  obtain ⟨g, tw, ln, co, tf, sg, sz, wd, st, op, ki, fa, qu, F, Q, nc, pn, pf, rows, en, et, ow, lo, hi, rb, ts, sh, go, re, al, hg, hn, htw, htq, hM, hoc, htt, rfl⟩ := hV
  refine fz_T.of (by decide) (Nat.le_of_ble_eq_true rfl) (fun E0 => ?_)
  refine fz_aload_n dX10_erase_0 rfl ?_
  refine fz_get dX10_erase_1 fX10_22 rfl (Nat.one_pos) rfl ?_
  refine fz_callV (tX2_wipe (nI n) (nI tw) ln co tf) dX10_erase_4 kX10_50 rfl (Nat.one_pos) ⟨rfl, trivial⟩ (Nat.le_of_ble_eq_true rfl) (Nat.le_of_ble_eq_true rfl) (Nat.le_of_ble_eq_true rfl) (Nat.le_of_ble_eq_true rfl) (Nat.le_of_ble_eq_true rfl) rfl (fun r U hq => ?_)
  obtain ⟨rfl, rfl⟩ := hq
  refine fz_back rfl ?_
  refine fz_iret dX10_erase_7 rfl (Nat.zero_le _) (Nat.zero_le _) ⟨rfl, g, tw, ln, co, tf, sg, sz, wd, st, op, ki, fa, qu, F, Q, nc, pn, pf, rows, en, et, ow, lo, hi, rb, ts, sh, go, re, al, hg, Nat.zero_le _, htw, fun j hj => absurd hj (Nat.not_lt_zero j), hM, hoc, htt, rfl⟩
theorem tX10_place {G : fz_G} (σ : zS) (V : fz_W) (hV : clR σ V) : fz_T G mX10_place rX10_place [zR 1 0] V (fun r U => r = some (zI σ.2.2.1) ∧ clR σ U) := by
  obtain ⟨tx, n, fp, cn, w, kn, on, tn, rn, O, T, P, te, B, t, A, wy, lg⟩ := σ
  obtain ⟨g, tw, ln, co, tf, sg, sz, wd, st, op, ki, fa, qu, F, Q, nc, pn, pf, rows, en, et, ow, lo, hi, rb, ts, sh, go, re, al, hg, hn, htw, htq, hM, hoc, htt, rfl⟩ := hV
  refine fz_T.of (by decide) (Nat.le_of_ble_eq_true rfl) (fun E0 => ?_)
  refine fz_aload_n dX10_place_0 rfl ?_
  refine fz_get dX10_place_1 fX10_42 rfl (Nat.one_pos) rfl ?_
  refine fz_iret dX10_place_4 rfl (Nat.zero_le _) (Nat.zero_le _) ⟨rfl, g, tw, ln, co, tf, sg, sz, wd, st, op, ki, fa, qu, F, Q, nc, pn, pf, rows, en, et, ow, lo, hi, rb, ts, sh, go, re, al, hg, hn, htw, htq, hM, hoc, htt, rfl⟩
/-- the kind of a cell, or NONE -/
def celK (cn : Nat) (kn : Nat → Nat) (x : Int32) : Int32 := if x < 0 ∨ nI cn ≤ x then -1 else nI (kn x.toNatClampNeg)
theorem celK_in {cn : Nat} {kn : Nat → Nat} {j : Nat} (hj : j < cn) (hn : cn ≤ 80) : celK cn kn (nI j) = nI (kn j) := by
  unfold celK
  rw [if_neg (ix_in hj (by omega)), nI_clamp (by omega)]
/-- kindAt, in and out -/
theorem tX1_kindAt {G : fz_G} (g : Nat) (hg : g < 2) (sz wd : Nat → Int32) (ki : Nat → Nat → Int32) (cn w : Nat) (kn : Nat → Nat) (st : Nat → Int32) (op : Nat → Int64) (hM : gM cn w kn (sz g) (wd g) st op (ki g)) (x : Int32) : fz_T G mX1_kindAt rX1_kindAt [zR 2 g, zI x] [(2, eGr sz wd), (5, e8 ki)] (fun r U => r = some (zI (celK cn kn x)) ∧ U = [(2, eGr sz wd), (5, e8 ki)]) := by
  obtain ⟨m1, m2, m3⟩ := hM
  rcases ix_cases x (n := cn) (by omega) with h | ⟨j, hj, rfl⟩
  · have e : celK cn kn x = -1 := by unfold celK; rw [if_pos h]
    rw [e]
    exact tX1_kindAt_out g hg sz wd ki x (by rw [m1]; exact h)
  · rw [celK_in hj m2, ← ((m3 (by omega)).1.2.2.2.2.2.2 j hj).1]
    exact tX1_kindAt_in g hg sz wd ki cn m1 m2 j hj
theorem tX10_cell {G : fz_G} (σ : zS) (V : fz_W) (hV : clR σ V) (x : Int32) : fz_T G mX10_cell rX10_cell [zR 1 0, zI x] V (fun r U => r = some (zI (celK σ.2.2.2.1 σ.2.2.2.2.2.1 x)) ∧ clR σ U) := by
  obtain ⟨tx, n, fp, cn, w, kn, on, tn, rn, O, T, P, te, B, t, A, wy, lg⟩ := σ
  obtain ⟨g, tw, ln, co, tf, sg, sz, wd, st, op, ki, fa, qu, F, Q, nc, pn, pf, rows, en, et, ow, lo, hi, rb, ts, sh, go, re, al, hg, hn, htw, htq, hM, hoc, htt, rfl⟩ := hV
  refine fz_T.of (by decide) (Nat.le_of_ble_eq_true rfl) (fun E0 => ?_)
  refine fz_aload_n dX10_cell_0 rfl ?_
  refine fz_get dX10_cell_1 fX10_12 rfl (Nat.one_pos) rfl ?_
  refine fz_iload_n dX10_cell_4 rfl ?_
  refine fz_callV (tX1_kindAt g hg sz wd ki cn w kn _ _ hM x) dX10_cell_5 kX10_67 rfl (hg) ⟨rfl, rfl, trivial⟩ (Nat.le_of_ble_eq_true rfl) (Nat.le_of_ble_eq_true rfl) (Nat.le_of_ble_eq_true rfl) (Nat.le_of_ble_eq_true rfl) (Nat.le_of_ble_eq_true rfl) rfl (fun r U hq => ?_)
  obtain ⟨rfl, rfl⟩ := hq
  refine fz_back rfl ?_
  refine fz_iret dX10_cell_8 rfl (Nat.zero_le _) (Nat.zero_le _) ⟨rfl, g, tw, ln, co, tf, sg, sz, wd, st, op, ki, fa, qu, F, Q, nc, pn, pf, rows, en, et, ow, lo, hi, rb, ts, sh, go, re, al, hg, hn, htw, htq, hM, hoc, htt, rfl⟩
noncomputable def dstF (cn w : Nat) (kn : Nat → Nat) (a b : Int32) : Int32 := if (a < 0 ∨ nI cn ≤ a) ∨ (b < 0 ∨ nI cn ≤ b) then -2 else dsF cn w kn a.toNatClampNeg b.toNatClampNeg
theorem tX10_distance {G : fz_G} (σ : zS) (V : fz_W) (hV : clR σ V) (a b : Int32) : fz_T G mX10_distance rX10_distance [zR 1 0, zI a, zI b] V (fun r U => r = some (zI (dstF σ.2.2.2.1 σ.2.2.2.2.1 σ.2.2.2.2.2.1 a b)) ∧ clR σ U) := by
  obtain ⟨tx, n, fp, cn, w, kn, on, tn, rn, O, T, P, te, B, t, A, wy, lg⟩ := σ
  obtain ⟨g, tw, ln, co, tf, sg, sz, wd, st, op, ki, fa, qu, F, Q, nc, pn, pf, rows, en, et, ow, lo, hi, rb, ts, sh, go, re, al, hg, hn, htw, htq, hM, hoc, htt, rfl⟩ := hV
  obtain ⟨m1, m2, m3⟩ := id hM
  show fz_T _ _ _ _ _ (fun r U => r = some (zI (dstF cn w kn a b)) ∧ _)
  refine fz_T.of (by decide) (Nat.le_of_ble_eq_true rfl) (fun E0 => ?_)
  refine fz_aload_n dX10_distance_0 rfl ?_
  refine fz_get dX10_distance_1 fX10_12 rfl (Nat.one_pos) rfl ?_
  refine fz_iload_n dX10_distance_4 rfl ?_
  rcases ix_cases a (n := cn) (by omega) with h | ⟨i, hi', rfl⟩
  · have e : dstF cn w kn a b = -2 := by unfold dstF; rw [if_pos (Or.inl h)]
    rw [e]
    refine fz_callV (tX1_has_out g hg sz wd a (by rw [m1]; exact h)) dX10_distance_5 kX10_71 rfl (hg) ⟨rfl, trivial⟩ (Nat.le_of_ble_eq_true rfl) (Nat.le_of_ble_eq_true rfl) (Nat.le_of_ble_eq_true rfl) (Nat.le_of_ble_eq_true rfl) (Nat.le_of_ble_eq_true rfl) rfl (fun r U hq => ?_)
    obtain ⟨rfl, rfl⟩ := hq
    refine fz_back rfl ?_
    refine fz_if_eq (tgt := 22) dX10_distance_8 (by decide) (fun c8 => ?_) (fun c8 => ?_)
    · skip
      refine fz_bipush (v := -2) dX10_distance_22 (by decide) ?_
      refine fz_iret dX10_distance_24 rfl (Nat.zero_le _) (Nat.zero_le _) ⟨rfl, g, tw, ln, co, tf, sg, sz, wd, st, op, ki, fa, qu, F, Q, nc, pn, pf, rows, en, et, ow, lo, hi, rb, ts, sh, go, re, al, hg, hn, htw, htq, hM, hoc, htt, rfl⟩
    · exact absurd rfl c8
  · skip
    refine fz_callV (tX1_has_in g hg sz wd cn m1 m2 i hi') dX10_distance_5 kX10_71 rfl (hg) ⟨rfl, trivial⟩ (Nat.le_of_ble_eq_true rfl) (Nat.le_of_ble_eq_true rfl) (Nat.le_of_ble_eq_true rfl) (Nat.le_of_ble_eq_true rfl) (Nat.le_of_ble_eq_true rfl) rfl (fun r U hq => ?_)
    obtain ⟨rfl, rfl⟩ := hq
    refine fz_back rfl ?_
    refine fz_wo (V' := wAl g fp n tw ln co tf sg (wSt g sz wd st op ki fa qu F Q on tn nc pn pf O T rn t wy lg B rows en et ow A lo hi rb ts sh go re al)) rfl ?_
    refine fz_if_eq (tgt := 22) dX10_distance_8 (by decide) (fun c8 => ?_) (fun c8 => ?_)
    · exact absurd c8 (by decide)
    · skip
      refine fz_aload_n dX10_distance_11 rfl ?_
      refine fz_get dX10_distance_12 fX10_12 rfl (Nat.one_pos) rfl ?_
      refine fz_iload_n dX10_distance_15 rfl ?_
      rcases ix_cases b (n := cn) (by omega) with h | ⟨j, hj, rfl⟩
      · have e : dstF cn w kn (nI i) b = -2 := by unfold dstF; rw [if_pos (Or.inr h)]
        rw [e]
        refine fz_callV (tX1_has_out g hg sz wd b (by rw [m1]; exact h)) dX10_distance_16 kX10_71 rfl (hg) ⟨rfl, trivial⟩ (Nat.le_of_ble_eq_true rfl) (Nat.le_of_ble_eq_true rfl) (Nat.le_of_ble_eq_true rfl) (Nat.le_of_ble_eq_true rfl) (Nat.le_of_ble_eq_true rfl) rfl (fun r U hq => ?_)
        obtain ⟨rfl, rfl⟩ := hq
        refine fz_back rfl ?_
        refine fz_if_ne (tgt := 25) dX10_distance_19 (by decide) (fun c19 => ?_) (fun c19 => ?_)
        · exact absurd rfl c19
        · skip
          refine fz_bipush (v := -2) dX10_distance_22 (by decide) ?_
          refine fz_iret dX10_distance_24 rfl (Nat.zero_le _) (Nat.zero_le _) ⟨rfl, g, tw, ln, co, tf, sg, sz, wd, st, op, ki, fa, qu, F, Q, nc, pn, pf, rows, en, et, ow, lo, hi, rb, ts, sh, go, re, al, hg, hn, htw, htq, hM, hoc, htt, rfl⟩
      · obtain ⟨hK, hS, hO⟩ := m3 (by omega)
        have e : dstF cn w kn (nI i) (nI j) = dsF cn w kn i j := by
          unfold dstF
          rw [if_neg, nI_clamp (by omega), nI_clamp (by omega)]
          rintro (z | z)
          · exact ix_in hi' (by omega) z
          · exact ix_in hj (by omega) z
        rw [e]
        refine fz_callV (tX1_has_in g hg sz wd cn m1 m2 j hj) dX10_distance_16 kX10_71 rfl (hg) ⟨rfl, trivial⟩ (Nat.le_of_ble_eq_true rfl) (Nat.le_of_ble_eq_true rfl) (Nat.le_of_ble_eq_true rfl) (Nat.le_of_ble_eq_true rfl) (Nat.le_of_ble_eq_true rfl) rfl (fun r U hq => ?_)
        obtain ⟨rfl, rfl⟩ := hq
        refine fz_back rfl ?_
        refine fz_wo (V' := wAl g fp n tw ln co tf sg (wSt g sz wd st op ki fa qu F Q on tn nc pn pf O T rn t wy lg B rows en et ow A lo hi rb ts sh go re al)) rfl ?_
        refine fz_if_ne (tgt := 25) dX10_distance_19 (by decide) (fun c19 => ?_) (fun c19 => ?_)
        · skip
          refine fz_aload_n dX10_distance_25 rfl ?_
          refine fz_get dX10_distance_26 fX10_12 rfl (Nat.one_pos) rfl ?_
          refine fz_iload_n dX10_distance_29 rfl ?_
          refine fz_iconst (v := nI 1) dX10_distance_30 (by decide) ?_
          refine fz_callV (tX1_measureFrom g hg sz wd st op ki fa qu F Q cn w kn true i hK hS hO hi') dX10_distance_31 kX10_75 rfl (hg) ⟨rfl, rfl, rfl, rfl, rfl, rfl, trivial⟩ (Nat.le_of_ble_eq_true rfl) (Nat.le_of_ble_eq_true rfl) (Nat.le_of_ble_eq_true rfl) (Nat.le_of_ble_eq_true rfl) (Nat.le_of_ble_eq_true rfl) rfl (fun r U hq => ?_)
          obtain ⟨rfl, F2, Q2, hF2, rfl⟩ := hq
          refine fz_back rfl ?_
          refine fz_wo (V' := wAl g fp n tw ln co tf sg (wSt g sz wd st op ki fa qu F2 Q2 on tn nc pn pf O T rn t wy lg B rows en et ow A lo hi rb ts sh go re al)) rfl ?_
          refine fz_aload_n dX10_distance_34 rfl ?_
          refine fz_get dX10_distance_35 fX10_12 rfl (Nat.one_pos) rfl ?_
          refine fz_iload_n dX10_distance_38 rfl ?_
          refine fz_callV (tX1_measured g hg sz wd (va_up fa g F2) j (by omega)) dX10_distance_39 kX10_79 rfl (hg) ⟨rfl, rfl, trivial⟩ (Nat.le_of_ble_eq_true rfl) (Nat.le_of_ble_eq_true rfl) (Nat.le_of_ble_eq_true rfl) (Nat.le_of_ble_eq_true rfl) (Nat.le_of_ble_eq_true rfl) rfl (fun r U hq => ?_)
          obtain ⟨rfl, rfl⟩ := hq
          refine fz_back rfl ?_
          rw [va_up_self, (hF2 j hj).1]
          refine fz_iret dX10_distance_42 rfl (Nat.zero_le _) (Nat.zero_le _) ⟨rfl, g, tw, ln, co, tf, sg, sz, wd, st, op, ki, fa, qu, F2, Q2, nc, pn, pf, rows, en, et, ow, lo, hi, rb, ts, sh, go, re, al, hg, hn, htw, htq, hM, hoc, htt, rfl⟩
        · exact absurd c19 (by decide)
/-- robotOf -/
def rbF (rn : Nat) (s : fS) (x y : Int32) : Int32 := if x < 0 ∨ nI rn ≤ x then -1 else rbA s x.toNatClampNeg y
theorem stR_of {tx : Nat → Nat} {n : Nat} {fp : Int32} {cn w : Nat} {kn : Nat → Nat} {on tn rn : Nat} {s : fS} {V : fz_W} (hc : 0 < cn) (hV : clR (tx, n, fp, cn, w, kn, on, tn, rn, s) V) : ∃ (g tw : Nat) (ln co tf : Int32) (sg : Nat → Int32) (V' : fz_W), g < 2 ∧ n ≤ 90 ∧ tw ≤ 10 ∧ tq sg tx n ∧ stR cn w kn on tn rn g (fun _ => tmF s) s V' ∧ V = wAl g fp n tw ln co tf sg V' := by
  obtain ⟨O, T, P, te, B, t, A, wy, lg⟩ := s
  obtain ⟨g, tw, ln, co, tf, sg, sz, wd, st, op, ki, fa, qu, F, Q, nc, pn, pf, rows, en, et, ow, lo, hi, rb, ts, sh, go, re, al, hg, hn, htw, htq, hM, hoc, htt, rfl⟩ := hV
  obtain ⟨m1, m2, m3⟩ := hM
  obtain ⟨hK, hS, hO⟩ := m3 hc
  exact ⟨g, tw, ln, co, tf, sg, _, hg, hn, htw, htq, ⟨sz, wd, st, op, ki, fa, qu, F, Q, nc, pn, pf, rows, en, et, ow, lo, hi, rb, ts, sh, go, re, al, hK, hS, hO, hoc, htt hc, rfl⟩, rfl⟩
theorem clR_of {tx : Nat → Nat} {n : Nat} {fp : Int32} {cn w : Nat} {kn : Nat → Nat} {on tn rn : Nat} {s : fS} {V' : fz_W} {g tw : Nat} {ln co tf : Int32} {sg : Nat → Int32} (hg : g < 2) (hn : n ≤ 90) (htw : tw ≤ 10) (htq : tq sg tx n) (h : stR cn w kn on tn rn g (fun _ => tmF s) s V') : clR (tx, n, fp, cn, w, kn, on, tn, rn, s) (wAl g fp n tw ln co tf sg V') := by
  obtain ⟨O, T, P, te, B, t, A, wy, lg⟩ := s
  obtain ⟨sz, wd, st, op, ki, fa, qu, F, Q, nc, pn, pf, rows, en, et, ow, lo, hi, rb, ts, sh, go, re, al, hK, hS, hO, hoc, htt, rfl⟩ := h
  exact ⟨g, tw, ln, co, tf, sg, sz, wd, st, op, ki, fa, qu, F, Q, nc, pn, pf, rows, en, et, ow, lo, hi, rb, ts, sh, go, re, al, hg, hn, htw, htq, ⟨hK.2.2.2.2.1, hK.2.2.1, fun _ => ⟨hK, hS, hO⟩⟩, hoc, fun _ => htt, rfl⟩
theorem tX10_robotOf {G : fz_G} (σ : zS) (V : fz_W) (hI : inZ σ) (hV : clR σ V) (x y : Int32) : fz_T G mX10_robotOf rX10_robotOf [zR 1 0, zI x, zI y] V (fun r U => r = some (zI (rbF σ.2.2.2.2.2.2.2.2.1 σ.2.2.2.2.2.2.2.2.2 x y)) ∧ clR σ U) := by
  obtain ⟨tx, n, fp, cn, w, kn, on, tn, rn, s⟩ := σ
  show fz_T _ _ _ _ _ (fun r U => r = some (zI (rbF rn s x y)) ∧ _)
  obtain ⟨j1, j2, j3⟩ := hI
  have hrn : rn ≤ 6 := j1.2.2.1
  have hV2 := hV
  obtain ⟨O, T, P, te, B, t, A, wy, lg⟩ := s
  obtain ⟨g, tw, ln, co, tf, sg, sz, wd, st, op, ki, fa, qu, F, Q, nc, pn, pf, rows, en, et, ow, lo, hi, rb, ts, sh, go, re, al, hg, hn, htw, htq, hM, hoc, htt, rfl⟩ := hV2
  refine fz_T.of (by decide) (Nat.le_of_ble_eq_true rfl) (fun E0 => ?_)
  refine fz_aload_n dX10_robotOf_0 rfl ?_
  refine fz_get dX10_robotOf_1 fX10_38 rfl (Nat.one_pos) rfl ?_
  refine fz_iload_n dX10_robotOf_4 rfl ?_
  refine fz_iload_n dX10_robotOf_5 rfl ?_
  rcases ix_cases x (n := rn) (by omega) with h | ⟨j, hj, rfl⟩
  · have e : rbF rn (O, T, P, te, B, t, A, wy, lg) x y = -1 := by unfold rbF; rw [if_pos h]
    rw [e]
    refine fz_callV (tX0_tellRobot_out g rn (nI t) (nI wy) (nI lg) x y h) dX10_robotOf_6 kX10_116 rfl (Nat.one_pos) ⟨rfl, trivial⟩ (Nat.le_of_ble_eq_true rfl) (Nat.le_of_ble_eq_true rfl) (Nat.le_of_ble_eq_true rfl) (Nat.le_of_ble_eq_true rfl) (Nat.le_of_ble_eq_true rfl) rfl (fun r U hq => ?_)
    obtain ⟨rfl, rfl⟩ := hq
    refine fz_back rfl ?_
    refine fz_iret dX10_robotOf_9 rfl (Nat.zero_le _) (Nat.zero_le _) ⟨rfl, hV⟩
  · have e : rbF rn (O, T, P, te, B, t, A, wy, lg) (nI j) y = rbA (O, T, P, te, B, t, A, wy, lg) j y := by unfold rbF; rw [if_neg (ix_in hj (by omega)), nI_clamp (by omega)]
    rw [e]
    have hcn : 0 < cn := by
      rcases Nat.eq_zero_or_pos cn with z | z
      · have := (j2 z).2.2; omega
      · exact z
    obtain ⟨hK, hS, hO⟩ := hM.2.2 hcn
    refine fz_callV (tX0_tellRobot cn w kn on tn rn g (O, T, P, te, B, t, A, wy, lg) _ j hj (fun _ => t) y j1 ⟨sz, wd, st, op, ki, fa, qu, F, Q, nc, pn, pf, rows, en, et, ow, lo, hi, rb, ts, sh, go, re, al, hK, hS, hO, hoc, htt hcn, rfl⟩) dX10_robotOf_6 kX10_116 rfl (Nat.one_pos) ⟨rfl, rfl, rfl, rfl, rfl, rfl, rfl, rfl, rfl, rfl, rfl, rfl, rfl, rfl, rfl, rfl, rfl, rfl, rfl, rfl, rfl, rfl, rfl, rfl, trivial⟩ (Nat.le_of_ble_eq_true rfl) (Nat.le_of_ble_eq_true rfl) (Nat.le_of_ble_eq_true rfl) (Nat.le_of_ble_eq_true rfl) (Nat.le_of_ble_eq_true rfl) rfl (fun r U hq => ?_)
    obtain ⟨rfl, rfl⟩ := hq
    refine fz_back rfl ?_
    refine fz_iret dX10_robotOf_9 rfl (Nat.zero_le _) (Nat.zero_le _) ⟨rfl, hV⟩
def ahF (rn : Nat) (s : fS) (x y : Int32) : Int32 := if x < 0 ∨ nI rn ≤ x ∨ y < 0 then -1 else nI (s.2.2.1 x.toNatClampNeg (tmF s + min y.toNatClampNeg 1000))
theorem tX10_ahead {G : fz_G} (σ : zS) (V : fz_W) (hI : inZ σ) (hV : clR σ V) (x y : Int32) : fz_T G mX10_ahead rX10_ahead [zR 1 0, zI x, zI y] V (fun r U => r = some (zI (ahF σ.2.2.2.2.2.2.2.2.1 σ.2.2.2.2.2.2.2.2.2 x y)) ∧ clR σ U) := by
  obtain ⟨tx, n, fp, cn, w, kn, on, tn, rn, s⟩ := σ
  show fz_T _ _ _ _ _ (fun r U => r = some (zI (ahF rn s x y)) ∧ _)
  obtain ⟨j1, j2, j3⟩ := hI
  have hrn : rn ≤ 6 := j1.2.2.1
  have hV2 := hV
  obtain ⟨O, T, P, te, B, t, A, wy, lg⟩ := s
  have ht4 : t ≤ 4000 := j1.2.2.2.1
  obtain ⟨g, tw, ln, co, tf, sg, sz, wd, st, op, ki, fa, qu, F, Q, nc, pn, pf, rows, en, et, ow, lo, hi, rb, ts, sh, go, re, al, hg, hn, htw, htq, hM, hoc, htt, rfl⟩ := hV2
  refine fz_T.of (by decide) (Nat.le_of_ble_eq_true rfl) (fun E0 => ?_)
  refine fz_aload_n dX10_ahead_0 rfl ?_
  refine fz_get dX10_ahead_1 fX10_38 rfl (Nat.one_pos) rfl ?_
  refine fz_iload_n dX10_ahead_4 rfl ?_
  refine fz_iload_n dX10_ahead_5 rfl ?_
  have out : (x < 0 ∨ nI rn ≤ x ∨ y < 0) → fz_J G mX10_ahead rX10_ahead (fz_Z G E0 rX10_ahead.cells rX10_ahead.slots (fun r U => r = some (zI (ahF rn (O, T, P, te, B, t, A, wy, lg) x y)) ∧ clR (tx, n, fp, cn, w, kn, on, tn, rn, O, T, P, te, B, t, A, wy, lg) U)) E0 0 0 6 [(0, zR 1 0), (1, zI x), (2, zI y)] [zI y, zI x, zR 16 0] (wAl g fp n tw ln co tf sg (wSt g sz wd st op ki fa qu F Q on tn nc pn pf O T rn t wy lg B rows en et ow A lo hi rb ts sh go re al)) := by
    intro h
    have e : ahF rn (O, T, P, te, B, t, A, wy, lg) x y = -1 := by unfold ahF; rw [if_pos h]
    rw [e]
    refine fz_callV (tX0_cellIn_out g rn (nI t) (nI wy) (nI lg) x y h) dX10_ahead_6 kX10_119 rfl (Nat.one_pos) ⟨rfl, trivial⟩ (Nat.le_of_ble_eq_true rfl) (Nat.le_of_ble_eq_true rfl) (Nat.le_of_ble_eq_true rfl) (Nat.le_of_ble_eq_true rfl) (Nat.le_of_ble_eq_true rfl) rfl (fun r U hq => ?_)
    obtain ⟨rfl, rfl⟩ := hq
    refine fz_back rfl ?_
    refine fz_iret dX10_ahead_9 rfl (Nat.zero_le _) (Nat.zero_le _) ⟨rfl, hV⟩
  rcases ix_cases x (n := rn) (by omega) with h | ⟨j, hj, rfl⟩
  · exact out (by rcases h with h | h; exact Or.inl h; exact Or.inr (Or.inl h))
  · by_cases hy : y < 0
    · exact out (Or.inr (Or.inr hy))
    · have e : ahF rn (O, T, P, te, B, t, A, wy, lg) (nI j) y = nI (P j (t + min y.toNatClampNeg 1000)) := by
        unfold ahF
        rw [if_neg, nI_clamp (by omega)]
        rintro (z | z | z)
        · exact ix_in hj (by omega) (Or.inl z)
        · exact ix_in hj (by omega) (Or.inr z)
        · exact hy z
      rw [e]
      refine fz_callV (tX0_cellIn g rn hrn (nI wy) (nI lg) t ht4 rows en et P (ttR_at (htt (cn_pos j2 hj))) j hj y hy) dX10_ahead_6 kX10_119 rfl (Nat.one_pos) ⟨rfl, rfl, rfl, rfl, rfl, trivial⟩ (Nat.le_of_ble_eq_true rfl) (Nat.le_of_ble_eq_true rfl) (Nat.le_of_ble_eq_true rfl) (Nat.le_of_ble_eq_true rfl) (Nat.le_of_ble_eq_true rfl) rfl (fun r U hq => ?_)
      obtain ⟨rfl, rfl⟩ := hq
      refine fz_back rfl ?_
      refine fz_iret dX10_ahead_9 rfl (Nat.zero_le _) (Nat.zero_le _) ⟨rfl, hV⟩
def waF (rn : Nat) (s : fS) (x y : Int32) : Int32 := if (x < 0 ∨ nI rn ≤ x) ∨ (y < 0 ∨ nI (tmF s + 1) ≤ y) then -1 else nI (s.2.2.1 x.toNatClampNeg y.toNatClampNeg)
theorem tX10_was {G : fz_G} (σ : zS) (V : fz_W) (hI : inZ σ) (hV : clR σ V) (x y : Int32) : fz_T G mX10_was rX10_was [zR 1 0, zI x, zI y] V (fun r U => r = some (zI (waF σ.2.2.2.2.2.2.2.2.1 σ.2.2.2.2.2.2.2.2.2 x y)) ∧ clR σ U) := by
  obtain ⟨tx, n, fp, cn, w, kn, on, tn, rn, s⟩ := σ
  show fz_T _ _ _ _ _ (fun r U => r = some (zI (waF rn s x y)) ∧ _)
  obtain ⟨j1, j2, j3⟩ := hI
  have hrn : rn ≤ 6 := j1.2.2.1
  have hV2 := hV
  obtain ⟨O, T, P, te, B, t, A, wy, lg⟩ := s
  have ht4 : t ≤ 4000 := j1.2.2.2.1
  obtain ⟨g, tw, ln, co, tf, sg, sz, wd, st, op, ki, fa, qu, F, Q, nc, pn, pf, rows, en, et, ow, lo, hi, rb, ts, sh, go, re, al, hg, hn, htw, htq, hM, hoc, htt, rfl⟩ := hV2
  refine fz_T.of (by decide) (Nat.le_of_ble_eq_true rfl) (fun E0 => ?_)
  refine fz_aload_n dX10_was_0 rfl ?_
  refine fz_get dX10_was_1 fX10_38 rfl (Nat.one_pos) rfl ?_
  refine fz_iload_n dX10_was_4 rfl ?_
  refine fz_iload_n dX10_was_5 rfl ?_
  have out : ((x < 0 ∨ nI rn ≤ x) ∨ (y < 0 ∨ nI (t + 1) ≤ y)) → fz_J G mX10_was rX10_was (fz_Z G E0 rX10_was.cells rX10_was.slots (fun r U => r = some (zI (waF rn (O, T, P, te, B, t, A, wy, lg) x y)) ∧ clR (tx, n, fp, cn, w, kn, on, tn, rn, O, T, P, te, B, t, A, wy, lg) U)) E0 0 0 6 [(0, zR 1 0), (1, zI x), (2, zI y)] [zI y, zI x, zR 16 0] (wAl g fp n tw ln co tf sg (wSt g sz wd st op ki fa qu F Q on tn nc pn pf O T rn t wy lg B rows en et ow A lo hi rb ts sh go re al)) := by
    intro h
    have e : waF rn (O, T, P, te, B, t, A, wy, lg) x y = -1 := by unfold waF; rw [if_pos h]
    rw [e]
    have h2 : x < 0 ∨ nI rn ≤ x ∨ y < 0 ∨ nI t < y := by
      rcases h with (h | h) | (h | h)
      · exact Or.inl h
      · exact Or.inr (Or.inl h)
      · exact Or.inr (Or.inr (Or.inl h))
      · refine Or.inr (Or.inr (Or.inr ?_))
        rw [Int32.le_iff_toInt_le, nI_toInt (by omega)] at h
        rw [Int32.lt_iff_toInt_lt, nI_toInt (by omega)]
        omega
    refine fz_callV (tX0_cellAt_out g rn (nI t) (nI wy) (nI lg) x y h2) dX10_was_6 kX10_122 rfl (Nat.one_pos) ⟨rfl, trivial⟩ (Nat.le_of_ble_eq_true rfl) (Nat.le_of_ble_eq_true rfl) (Nat.le_of_ble_eq_true rfl) (Nat.le_of_ble_eq_true rfl) (Nat.le_of_ble_eq_true rfl) rfl (fun r U hq => ?_)
    obtain ⟨rfl, rfl⟩ := hq
    refine fz_back rfl ?_
    refine fz_iret dX10_was_9 rfl (Nat.zero_le _) (Nat.zero_le _) ⟨rfl, hV⟩
  rcases ix_cases x (n := rn) (by omega) with h | ⟨j, hj, rfl⟩
  · exact out (Or.inl h)
  · rcases ix_cases y (n := t + 1) (by omega) with h | ⟨i, hi', rfl⟩
    · exact out (Or.inr h)
    · have e : waF rn (O, T, P, te, B, t, A, wy, lg) (nI j) (nI i) = nI (P j i) := by
        unfold waF
        rw [if_neg, nI_clamp (by omega), nI_clamp (by omega)]
        rintro (z | z)
        · exact ix_in hj (by omega) z
        · exact ix_in hi' (by omega) z
      rw [e]
      refine fz_callV (tX0_cellAt g rn hrn (nI wy) (nI lg) t ht4 rows en et P (ttR_at (htt (cn_pos j2 hj))) j hj i (by omega)) dX10_was_6 kX10_122 rfl (Nat.one_pos) ⟨rfl, rfl, rfl, rfl, rfl, trivial⟩ (Nat.le_of_ble_eq_true rfl) (Nat.le_of_ble_eq_true rfl) (Nat.le_of_ble_eq_true rfl) (Nat.le_of_ble_eq_true rfl) (Nat.le_of_ble_eq_true rfl) rfl (fun r U hq => ?_)
      obtain ⟨rfl, rfl⟩ := hq
      refine fz_back rfl ?_
      refine fz_iret dX10_was_9 rfl (Nat.zero_le _) (Nat.zero_le _) ⟨rfl, hV⟩
def taF (tn : Nat) (T : Nat → Nat → Int32) (x y : Int32) : Int32 := if x < 0 ∨ nI tn ≤ x then -1 else tkT (T x.toNatClampNeg) y
theorem tX10_task {G : fz_G} (σ : zS) (V : fz_W) (hI : inZ σ) (hV : clR σ V) (x y : Int32) : fz_T G mX10_task rX10_task [zR 1 0, zI x, zI y] V (fun r U => r = some (zI (taF σ.2.2.2.2.2.2.2.1 σ.2.2.2.2.2.2.2.2.2.2.1 x y)) ∧ clR σ U) := by
  obtain ⟨tx, n, fp, cn, w, kn, on, tn, rn, s⟩ := σ
  obtain ⟨j1, j2, j3⟩ := hI
  have hV2 := hV
  obtain ⟨O, T, P, te, B, t, A, wy, lg⟩ := s
  show fz_T _ _ _ _ _ (fun r U => r = some (zI (taF tn T x y)) ∧ _)
  have htn : tn ≤ 90 := j1.2.1
  obtain ⟨g, tw, ln, co, tf, sg, sz, wd, st, op, ki, fa, qu, F, Q, nc, pn, pf, rows, en, et, ow, lo, hi, rb, ts, sh, go, re, al, hg, hn, htw, htq, hM, hoc, htt, rfl⟩ := hV2
  refine fz_T.of (by decide) (Nat.le_of_ble_eq_true rfl) (fun E0 => ?_)
  refine fz_aload_n dX10_task_0 rfl ?_
  refine fz_get dX10_task_1 fX10_29 rfl (Nat.one_pos) rfl ?_
  refine fz_iload_n dX10_task_4 rfl ?_
  refine fz_iload_n dX10_task_5 rfl ?_
  rcases ix_cases x (n := tn) (by omega) with h | ⟨j, hj, rfl⟩
  · have e : taF tn T x y = -1 := by unfold taF; rw [if_pos h]
    rw [e]
    refine fz_callV (tX5_tellTask_out (nI on) (nI tn) (nI nc) (nI pn) T x y h) dX10_task_6 kX10_125 rfl (Nat.one_pos) ⟨rfl, rfl, rfl, trivial⟩ (Nat.le_of_ble_eq_true rfl) (Nat.le_of_ble_eq_true rfl) (Nat.le_of_ble_eq_true rfl) (Nat.le_of_ble_eq_true rfl) (Nat.le_of_ble_eq_true rfl) rfl (fun r U hq => ?_)
    obtain ⟨rfl, rfl⟩ := hq
    refine fz_back rfl ?_
    refine fz_iret dX10_task_9 rfl (Nat.zero_le _) (Nat.zero_le _) ⟨rfl, hV⟩
  · have e : taF tn T (nI j) y = tkT (T j) y := by unfold taF; rw [if_neg (ix_in hj (by omega)), nI_clamp (by omega)]
    rw [e]
    refine fz_callV (tX5_tellTask_in (nI on) (nI nc) (nI pn) tn j htn hj T y) dX10_task_6 kX10_125 rfl (Nat.one_pos) ⟨rfl, rfl, rfl, trivial⟩ (Nat.le_of_ble_eq_true rfl) (Nat.le_of_ble_eq_true rfl) (Nat.le_of_ble_eq_true rfl) (Nat.le_of_ble_eq_true rfl) (Nat.le_of_ble_eq_true rfl) rfl (fun r U hq => ?_)
    obtain ⟨rfl, rfl⟩ := hq
    refine fz_back rfl ?_
    refine fz_iret dX10_task_9 rfl (Nat.zero_le _) (Nat.zero_le _) ⟨rfl, hV⟩
def orF (on : Nat) (O : Nat → Nat → Int32) (x y : Int32) : Int32 := if x < 0 ∨ nI on ≤ x then -1 else orT (O x.toNatClampNeg) y
theorem tX10_orderOf {G : fz_G} (σ : zS) (V : fz_W) (hI : inZ σ) (hV : clR σ V) (x y : Int32) : fz_T G mX10_orderOf rX10_orderOf [zR 1 0, zI x, zI y] V (fun r U => r = some (zI (orF σ.2.2.2.2.2.2.1 σ.2.2.2.2.2.2.2.2.2.1 x y)) ∧ clR σ U) := by
  obtain ⟨tx, n, fp, cn, w, kn, on, tn, rn, s⟩ := σ
  obtain ⟨j1, j2, j3⟩ := hI
  have hV2 := hV
  obtain ⟨O, T, P, te, B, t, A, wy, lg⟩ := s
  show fz_T _ _ _ _ _ (fun r U => r = some (zI (orF on O x y)) ∧ _)
  have hon : on ≤ 40 := j1.1
  obtain ⟨g, tw, ln, co, tf, sg, sz, wd, st, op, ki, fa, qu, F, Q, nc, pn, pf, rows, en, et, ow, lo, hi, rb, ts, sh, go, re, al, hg, hn, htw, htq, hM, hoc, htt, rfl⟩ := hV2
  refine fz_T.of (by decide) (Nat.le_of_ble_eq_true rfl) (fun E0 => ?_)
  refine fz_aload_n dX10_orderOf_0 rfl ?_
  refine fz_get dX10_orderOf_1 fX10_29 rfl (Nat.one_pos) rfl ?_
  refine fz_iload_n dX10_orderOf_4 rfl ?_
  refine fz_iload_n dX10_orderOf_5 rfl ?_
  rcases ix_cases x (n := on) (by omega) with h | ⟨j, hj, rfl⟩
  · have e : orF on O x y = -1 := by unfold orF; rw [if_pos h]
    rw [e]
    refine fz_callV (tX5_tellOrder_out (nI on) (nI tn) (nI nc) (nI pn) O x y h) dX10_orderOf_6 kX10_128 rfl (Nat.one_pos) ⟨rfl, rfl, rfl, trivial⟩ (Nat.le_of_ble_eq_true rfl) (Nat.le_of_ble_eq_true rfl) (Nat.le_of_ble_eq_true rfl) (Nat.le_of_ble_eq_true rfl) (Nat.le_of_ble_eq_true rfl) rfl (fun r U hq => ?_)
    obtain ⟨rfl, rfl⟩ := hq
    refine fz_back rfl ?_
    refine fz_iret dX10_orderOf_9 rfl (Nat.zero_le _) (Nat.zero_le _) ⟨rfl, hV⟩
  · have e : orF on O (nI j) y = orT (O j) y := by unfold orF; rw [if_neg (ix_in hj (by omega)), nI_clamp (by omega)]
    rw [e]
    refine fz_callV (tX5_tellOrder_in (nI tn) (nI nc) (nI pn) on j hon hj O y) dX10_orderOf_6 kX10_128 rfl (Nat.one_pos) ⟨rfl, rfl, rfl, trivial⟩ (Nat.le_of_ble_eq_true rfl) (Nat.le_of_ble_eq_true rfl) (Nat.le_of_ble_eq_true rfl) (Nat.le_of_ble_eq_true rfl) (Nat.le_of_ble_eq_true rfl) rfl (fun r U hq => ?_)
    obtain ⟨rfl, rfl⟩ := hq
    refine fz_back rfl ?_
    refine fz_iret dX10_orderOf_9 rfl (Nat.zero_le _) (Nat.zero_le _) ⟨rfl, hV⟩
