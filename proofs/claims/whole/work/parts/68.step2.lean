/-! Fleet: step -/
noncomputable def lfA (cn w : Nat) (kn : Nat → Nat) (tn rn : Nat) (s : fS) : Nat → fS
  | 0 => s
  | n + 1 => if (lfA cn w kn tn rn s n).2.2.2.1 n ≤ (lfA cn w kn tn rn s n).2.2.2.2.2.1 then lfw cn w kn tn rn (lfA cn w kn tn rn s n) n else lfA cn w kn tn rn s n
def goA (s : fS) : Nat → fS
  | 0 => s
  | n + 1 => gOn (goA s n) n
def tkT1 (s : fS) : fS := match s with
  | (O, T, P, te, B, t, A, wy, lg) => (O, T, P, te, B, t + 1, A, wy, lg)
def wtS (cn w : Nat) (kn : Nat → Nat) (rn : Nat) (s : fS) : fS := match s with
  | (O, T, P, te, B, t, A, wy, lg) => (O, T, P, te, B, t, A + wct cn w kn P t rn, wy, lg)
/-- one tick -/
noncomputable def stp (cn w : Nat) (kn : Nat → Nat) (tn rn : Nat) (s : fS) : fS := wtS cn w kn rn (goA (tkT1 (lfA cn w kn tn rn s rn)) rn)
abbrev tmF (s : fS) : Nat := s.2.2.2.2.2.1
theorem lfw_cases {cn w : Nat} {kn : Nat → Nat} {tn rn : Nat} (O T : Nat → Nat → Int32) (P : Nat → Nat → Nat) (te : Nat → Nat) (B : Nat → Nat → Int32) (t A wy lg r : Nat) : (lfw cn w kn tn rn (O, T, P, te, B, t, A, wy, lg) r = (O, T, P, te, B, t, A, wy, lg)) ∨ (∃ k x, bst (ftB T (fun c => eoB P te r c rn)) (fun i => dsF cn w kn (P r t) (tsh T i)) tn = some k ∧ wyF cn w kn P te rn r t (some (tsh T k)) (tst T k) = some x ∧ lfw cn w kn tn rn (O, T, P, te, B, t, A, wy, lg) r = (O, va_up T k (tkU (T k) r t (P r t)), nwP P r t x.1 x.2, nwE te r t x.1, va_up B r (upd (B r) 0 (nI k)), t, A, wy + 1, max lg x.1)) ∨ (∃ d x, wnB T (P r t) tn = true ∧ bst (rfB kn (fun c => wnB T c tn) (fun c => eoB P te r c rn)) (fun d => dsF cn w kn (P r t) d) cn = some d ∧ wyF cn w kn P te rn r t none d = some x ∧ lfw cn w kn tn rn (O, T, P, te, B, t, A, wy, lg) r = (O, T, nwP P r t x.1 x.2, nwE te r t x.1, va_up B r (upd (B r) 3 (B r 3 + 1)), t, A, wy + 1, max lg x.1)) := by
  cases hb : bst (ftB T (fun c => eoB P te r c rn)) (fun i => dsF cn w kn (P r t) (tsh T i)) tn with
  | some k =>
    cases hx : wyF cn w kn P te rn r t (some (tsh T k)) (tst T k) with
    | none =>
      left
      unfold lfw
      simp only [hb, hx]
    | some x =>
      right; left
      refine ⟨k, x, rfl, hx, ?_⟩
      unfold lfw
      simp only [hb, hx]
  | none =>
    cases hv : wnB T (P r t) tn with
    | false =>
      left
      unfold lfw
      simp only [hb, hv]
      rfl
    | true =>
      cases hb2 : bst (rfB kn (fun c => wnB T c tn) (fun c => eoB P te r c rn)) (fun d => dsF cn w kn (P r t) d) cn with
      | none =>
        left
        unfold lfw
        simp only [hb, hv, hb2]
        rfl
      | some d =>
        cases hx : wyF cn w kn P te rn r t none d with
        | none =>
          left
          unfold lfw
          simp only [hb, hv, hb2, hx]
          rfl
        | some x =>
          right; right
          refine ⟨d, x, rfl, rfl, hx, ?_⟩
          unfold lfw
          simp only [hb, hv, hb2, hx]
          rfl
theorem lfw_t {cn w : Nat} {kn : Nat → Nat} {tn rn : Nat} (s : fS) (r : Nat) : tmF (lfw cn w kn tn rn s r) = tmF s := by
  obtain ⟨O, T, P, te, B, t, A, wy, lg⟩ := s
  rcases lfw_cases (cn := cn) (w := w) (kn := kn) (tn := tn) (rn := rn) O T P te B t A wy lg r with h | ⟨k, x, -, -, h⟩ | ⟨d, x, -, -, -, h⟩ <;> rw [h]
theorem lfw_idle {cn w : Nat} {kn : Nat → Nat} {tn rn : Nat} (s : fS) (r : Nat) (h : pnd s.2.1 tn = 0) : lfw cn w kn tn rn s r = s := by
  obtain ⟨O, T, P, te, B, t, A, wy, lg⟩ := s
  have h : pnd T tn = 0 := h
  rcases lfw_cases (cn := cn) (w := w) (kn := kn) (tn := tn) (rn := rn) O T P te B t A wy lg r with e | ⟨k, x, hb, -, e⟩ | ⟨d, x, hw, -, -, e⟩
  · exact e
  · have := bst_pnd hb; omega
  · have := wnB_pnd hw; omega
theorem lfA_t {cn w : Nat} {kn : Nat → Nat} {tn rn : Nat} (s : fS) : ∀ n, tmF (lfA cn w kn tn rn s n) = tmF s
  | 0 => rfl
  | n + 1 => by
    unfold lfA
    split
    · rw [lfw_t, lfA_t s n]
    · exact lfA_t s n
theorem inF_lfA {cn w : Nat} {kn : Nat → Nat} {on tn rn : Nat} {s : fS} (h0 : 0 < w) (hh : ∃ h, cn = w * h) (h : inF cn kn on tn rn s) : ∀ n, n ≤ rn → inF cn kn on tn rn (lfA cn w kn tn rn s n)
  | 0, _ => h
  | n + 1, hn => by
    unfold lfA
    split
    · exact inF_lfw h0 hh (by omega) (inF_lfA h0 hh h n (by omega))
    · exact inF_lfA h0 hh h n (by omega)
theorem wkO_t (s : fS) (r : Nat) : tmF (wkO s r) = tmF s := by
  obtain ⟨O, T, P, te, B, t, A, wy, lg⟩ := s
  unfold wkO
  simp only
  split
  · rfl
  · split <;> rfl
theorem gOn_t (s : fS) (r : Nat) : tmF (gOn s r) = tmF s := by
  unfold gOn
  rw [wkO_t]
  obtain ⟨O, T, P, te, B, t, A, wy, lg⟩ := s
  rfl
theorem goA_t (s : fS) : ∀ n, tmF (goA s n) = tmF s
  | 0 => rfl
  | n + 1 => by
    unfold goA
    rw [gOn_t, goA_t s n]
theorem inF_goA {cn : Nat} {kn : Nat → Nat} {on tn rn : Nat} {s : fS} (h : inF cn kn on tn rn s) : ∀ n, n ≤ rn → inF cn kn on tn rn (goA s n)
  | 0, _ => h
  | n + 1, hn => inF_gOn (by omega) (inF_goA h n (by omega))
theorem inF_tk {cn : Nat} {kn : Nat → Nat} {on tn rn : Nat} {s : fS} (h : inF cn kn on tn rn s) (ht : tmF s < 4000) : inF cn kn on tn rn (tkT1 s) := by
  obtain ⟨O, T, P, te, B, t, A, wy, lg⟩ := s
  obtain ⟨i1, i2, i3, i4, i5, i6, i7, i8, i9⟩ := h
  exact ⟨i1, i2, i3, ht, i5, i6, i7, i8, i9⟩
theorem inF_wt {cn w : Nat} {kn : Nat → Nat} {on tn rn : Nat} {s : fS} (h : inF cn kn on tn rn s) : inF cn kn on tn rn (wtS cn w kn rn s) := by
  obtain ⟨O, T, P, te, B, t, A, wy, lg⟩ := s
  exact h
theorem tmF_tk (s : fS) : tmF (tkT1 s) = tmF s + 1 := by
  obtain ⟨O, T, P, te, B, t, A, wy, lg⟩ := s
  rfl
theorem tmF_wt {cn w : Nat} {kn : Nat → Nat} {rn : Nat} (s : fS) : tmF (wtS cn w kn rn s) = tmF s := by
  obtain ⟨O, T, P, te, B, t, A, wy, lg⟩ := s
  rfl
theorem stp_t {cn w : Nat} {kn : Nat → Nat} {tn rn : Nat} (s : fS) : tmF (stp cn w kn tn rn s) = tmF s + 1 := by
  unfold stp
  rw [tmF_wt, goA_t, tmF_tk, lfA_t]
theorem inF_stp {cn w : Nat} {kn : Nat → Nat} {on tn rn : Nat} {s : fS} (h0 : 0 < w) (hh : ∃ h, cn = w * h) (h : inF cn kn on tn rn s) (ht : tmF s < 4000) : inF cn kn on tn rn (stp cn w kn tn rn s) :=
  inF_wt (inF_goA (inF_tk (inF_lfA h0 hh h rn (Nat.le_refl _)) (by rw [lfA_t]; exact ht)) rn (Nat.le_refl _))
theorem ttR_kt {kt kt' : Nat → Nat} {rn : Nat} {P : Nat → Nat → Nat} {te : Nat → Nat} {rows : Nat → Int64} {en et ow : Nat → Int32} (h : ∀ q, q < rn → kt' q ≤ kt q) (ht : ttR kt rn P te rows en et ow) : ttR kt' rn P te rows en et ow := by
  refine ⟨fun q hq => ?_, ht.2.1, ht.2.2⟩
  obtain ⟨h1, h2, h3, h4, h5, h6⟩ := ht.1 q hq
  exact ⟨h1, h2, h3, h4, fun τ hτ => h5 τ (hτ.imp (fun z => Nat.le_trans z (h q hq)) id), h6⟩
theorem stR_kt {cn w : Nat} {kn : Nat → Nat} {on tn rn g : Nat} {kt kt' : Nat → Nat} {s : fS} {V : fz_W} (h : ∀ q, q < rn → kt' q ≤ kt q) (hV : stR cn w kn on tn rn g kt s V) : stR cn w kn on tn rn g kt' s V := by
  obtain ⟨O, T, P, te, B, t, A, wy, lg⟩ := s
  obtain ⟨sz, wd, st, op, ki, fa, qu, F, Q, nc, pn, pf, rows, en, et, ow, lo, hi, rb, ts, sh, go, re, al, z1, z2, z3, z4, z5, z6⟩ := hV
  exact ⟨sz, wd, st, op, ki, fa, qu, F, Q, nc, pn, pf, rows, en, et, ow, lo, hi, rb, ts, sh, go, re, al, z1, z2, z3, z4, ttR_kt h z5, z6⟩
theorem lX0_step2 {G : fz_G} {E0 : Nat → fz_E} {Z : List Frame → Array Value → State → State → Prop} (cn w : Nat) (kn : Nat → Nat) (on tn rn g : Nat) (hg : g < 2) (s : fS) (h0 : 0 < w) (hh : ∃ h, cn = w * h) (hI : inF cn kn on tn rn s)
    (kk : ∀ V, stR cn w kn on tn rn g (fun _ => tmF s) (lfA cn w kn tn rn s rn) V → fz_J G mX0_step rX0_step Z E0 0 0 46 [(1, zI (nI rn)), (0, zR 16 0)] [] V) :
    ∀ q i, i + q = rn → ∀ V, stR cn w kn on tn rn g (fun _ => tmF s) (lfA cn w kn tn rn s i) V → fz_J G mX0_step rX0_step Z E0 0 0 2 [(1, zI (nI i)), (0, zR 16 0)] [] V := by
  intro q
  induction q with
  | zero =>
    intro i hi V hV
    have e : i = rn := by omega
    subst e
    have hi3 := hI.2.2.1
    have hV2 := hV
    unfold stR at hV2
    obtain ⟨sz, wd, st, op, ki, fa, qu, F, Q, nc, pn, pf, rows, en, et, ow, lo, hi, rb, ts, sh, go, re, al, z1, z2, z3, z4, z5, rfl⟩ := hV2
    refine fz_iload_n dX0_step_2 rfl ?_
    refine fz_aload_n dX0_step_3 rfl ?_
    refine fz_get dX0_step_4 fX0_49 rfl (Nat.one_pos) rfl ?_
    refine fz_icmp_ge (tgt := 46) dX0_step_7 (by decide) (fun c7 => ?_) (fun c7 => ?_)
    · exact kk _ hV
    · exact absurd (nI_le (Nat.le_refl _) (by omega)) c7
  | succ q ih =>
    intro i hi V hV
    have hi3 := hI.2.2.1
    have hIi := inF_lfA (n := i) h0 hh hI (by omega)
    have hti := lfA_t (cn := cn) (w := w) (kn := kn) (tn := tn) (rn := rn) s i
    have hstep : lfA cn w kn tn rn s (i + 1) = if (lfA cn w kn tn rn s i).2.2.2.1 i ≤ (lfA cn w kn tn rn s i).2.2.2.2.2.1 then lfw cn w kn tn rn (lfA cn w kn tn rn s i) i else lfA cn w kn tn rn s i := rfl
    rcases hs' : lfA cn w kn tn rn s i with ⟨O, T, P, te, B, t, A, wy, lg⟩
    rw [hs'] at hV hIi hti hstep
    have hti : t = tmF s := hti
    have next : ∀ V, stR cn w kn on tn rn g (fun _ => tmF s) (lfA cn w kn tn rn s (i + 1)) V → fz_J G mX0_step rX0_step Z E0 0 0 40 [(1, zI (nI i)), (0, zR 16 0)] [] V := by
      intro V hV
      refine fz_incN dX0_step_40 rfl (Nat.le_of_ble_eq_true rfl) ?_
      refine fz_goto (tgt := 2) dX0_step_43 (by decide) ?_
      exact ih (i + 1) (by omega) V hV
    have hV2 := hV
    obtain ⟨sz, wd, st, op, ki, fa, qu, F, Q, nc, pn, pf, rows, en, et, ow, lo, hi, rb, ts, sh, go, re, al, z1, z2, z3, z4, z5, rfl⟩ := hV2
    have hpn : pn ≤ tn := by rw [z4.1]; exact cnt_le _ _
    have htn := hIi.2.1
    have hti4 := hIi.2.2.2.1
    obtain ⟨q1, q2, q3, q4, q5, q6⟩ := z5.1 i (by omega)
    refine fz_iload_n dX0_step_2 rfl ?_
    refine fz_aload_n dX0_step_3 rfl ?_
    refine fz_get dX0_step_4 fX0_49 rfl (Nat.one_pos) rfl ?_
    refine fz_icmp_ge (tgt := 46) dX0_step_7 (by decide) (fun c7 => ?_) (fun c7 => ?_)
    · exact absurd ((nI_leI (by omega) (by omega)).mp c7) (by omega)
    · skip
      refine fz_aload_n dX0_step_10 rfl ?_
      refine fz_get dX0_step_11 fX0_35 rfl (Nat.one_pos) rfl ?_
      refine fz_callV (tX5_pending (nI on) (nI tn) (nI nc) (nI pn)) dX0_step_14 kX0_87 rfl (Nat.one_pos) ⟨rfl, trivial⟩ (Nat.le_of_ble_eq_true rfl) (Nat.le_of_ble_eq_true rfl) (Nat.le_of_ble_eq_true rfl) (Nat.le_of_ble_eq_true rfl) (Nat.le_of_ble_eq_true rfl) rfl (fun r U hq => ?_)
      obtain ⟨rfl, rfl⟩ := hq
      refine fz_back rfl ?_
      refine fz_wo (V' := wSt g sz wd st op ki fa qu F Q on tn nc pn pf O T rn t wy lg B rows en et ow A lo hi rb ts sh go re al) rfl ?_
      refine fz_if_le (tgt := 40) dX0_step_17 (by decide) (fun c17 => ?_) (fun c17 => ?_)
      · have e0 : pnd T tn = 0 := by
          rw [← z4.1]
          rcases Nat.eq_zero_or_pos pn with z | z
          · exact z
          · exact absurd c17 (nI_nle z (by omega))
        refine next _ ?_
        rw [hstep]
        split
        · rw [lfw_idle _ _ e0]; exact hV
        · exact hV
      · skip
        refine fz_aload_n dX0_step_20 rfl ?_
        refine fz_get dX0_step_21 fX0_20 rfl (Nat.one_pos) rfl ?_
        refine fz_iload_n dX0_step_24 rfl ?_
        refine fz_callV (tX8_endTimeOf (nI rn) et i (by omega)) dX0_step_25 kX0_92 rfl (Nat.one_pos) ⟨rfl, rfl, trivial⟩ (Nat.le_of_ble_eq_true rfl) (Nat.le_of_ble_eq_true rfl) (Nat.le_of_ble_eq_true rfl) (Nat.le_of_ble_eq_true rfl) (Nat.le_of_ble_eq_true rfl) rfl (fun r U hq => ?_)
        obtain ⟨rfl, rfl⟩ := hq
        refine fz_back rfl ?_
        refine fz_wo (V' := wSt g sz wd st op ki fa qu F Q on tn nc pn pf O T rn t wy lg B rows en et ow A lo hi rb ts sh go re al) rfl ?_
        rw [q1]
        refine fz_aload_n dX0_step_28 rfl ?_
        refine fz_get dX0_step_29 fX0_53 rfl (Nat.one_pos) rfl ?_
        refine fz_icmp_gt (tgt := 40) dX0_step_32 (by decide) (fun c32 => ?_) (fun c32 => ?_)
        · refine next _ ?_
          rw [hstep, if_neg (fun z => by have h1 : te i ≤ t := z; have := (nI_ltI (by omega) (by omega)).mp c32; omega)]
          exact hV
        · have hte : te i ≤ t := by
            rcases Nat.lt_or_ge t (te i) with z | z
            · exact absurd ((nI_ltI (by omega) (by omega)).mpr z) c32
            · exact z
          refine fz_aload_n dX0_step_35 rfl ?_
          refine fz_iload_n dX0_step_36 rfl ?_
          refine fz_callV (tX0_lookForWork cn w kn on tn rn g hg (O, T, P, te, B, t, A, wy, lg) _ i (by omega) (fun _ => tmF s) hti.symm hIi hte hV) dX0_step_37 kX0_95 rfl (Nat.one_pos) ⟨rfl, rfl, rfl, rfl, rfl, rfl, rfl, rfl, rfl, rfl, rfl, rfl, rfl, rfl, rfl, rfl, rfl, rfl, rfl, rfl, rfl, rfl, rfl, rfl, trivial⟩ (Nat.le_of_ble_eq_true rfl) (Nat.le_of_ble_eq_true rfl) (Nat.le_of_ble_eq_true rfl) (Nat.le_of_ble_eq_true rfl) (Nat.le_of_ble_eq_true rfl) rfl (fun r U hq => ?_)
          obtain ⟨rfl, hst3⟩ := hq
          have hst4 := hst3
          unfold stR at hst4
          obtain ⟨sz', wd', st', op', ki', fa', qu', F', Q', nc', pn', pf', rows', en', et', ow', lo', hi', rb', ts', sh', go', re', al', y1, y2, y3, y4, y5, rfl⟩ := hst4
          refine fz_back rfl ?_
          refine next _ ?_
          rw [hstep, if_pos hte]
          exact hst3
theorem lX0_step58 {G : fz_G} {E0 : Nat → fz_E} {Z : List Frame → Array Value → State → State → Prop} (cn w : Nat) (kn : Nat → Nat) (on tn rn g : Nat) (s : fS) (t : Nat) (hts : tmF s = t + 1) (hI : inF cn kn on tn rn s)
    (kk : ∀ V, stR cn w kn on tn rn g (fun q => if q < rn then t + 1 else t) (goA s rn) V → fz_J G mX0_step rX0_step Z E0 0 0 77 [(1, zI (nI rn)), (0, zR 16 0)] [] V) :
    ∀ q i, i + q = rn → ∀ V, stR cn w kn on tn rn g (fun q => if q < i then t + 1 else t) (goA s i) V → fz_J G mX0_step rX0_step Z E0 0 0 58 [(1, zI (nI i)), (0, zR 16 0)] [] V := by
  intro q
  induction q with
  | zero =>
    intro i hi V hV
    have e : i = rn := by omega
    subst e
    have hi3 := hI.2.2.1
    have hV2 := hV
    unfold stR at hV2
    obtain ⟨sz, wd, st, op, ki, fa, qu, F, Q, nc, pn, pf, rows, en, et, ow, lo, hi, rb, ts, sh, go, re, al, z1, z2, z3, z4, z5, rfl⟩ := hV2
    refine fz_iload_n dX0_step_58 rfl ?_
    refine fz_aload_n dX0_step_59 rfl ?_
    refine fz_get dX0_step_60 fX0_49 rfl (Nat.one_pos) rfl ?_
    refine fz_icmp_ge (tgt := 77) dX0_step_63 (by decide) (fun c63 => ?_) (fun c63 => ?_)
    · exact kk _ hV
    · exact absurd (nI_le (Nat.le_refl _) (by omega)) c63
  | succ q ih =>
    intro i hi V hV
    have hi3 := hI.2.2.1
    have hIi := inF_goA (n := i) hI (by omega)
    have hti := goA_t s i
    have hV2 := hV
    unfold stR at hV2
    obtain ⟨sz, wd, st, op, ki, fa, qu, F, Q, nc, pn, pf, rows, en, et, ow, lo, hi, rb, ts, sh, go, re, al, z1, z2, z3, z4, z5, rfl⟩ := hV2
    refine fz_iload_n dX0_step_58 rfl ?_
    refine fz_aload_n dX0_step_59 rfl ?_
    refine fz_get dX0_step_60 fX0_49 rfl (Nat.one_pos) rfl ?_
    refine fz_icmp_ge (tgt := 77) dX0_step_63 (by decide) (fun c63 => ?_) (fun c63 => ?_)
    · exact absurd ((nI_leI (by omega) (by omega)).mp c63) (by omega)
    · skip
      refine fz_aload_n dX0_step_66 rfl ?_
      refine fz_iload_n dX0_step_67 rfl ?_
      refine fz_callV (tX0_goOn cn w kn on tn rn g (goA s i) _ i (by omega) _ hIi (by rw [show (goA s i).2.2.2.2.2.1 = tmF s from hti, hts]; omega) (by rw [show (goA s i).2.2.2.2.2.1 = tmF s from hti, hts, if_neg (Nat.lt_irrefl i)]; omega) hV) dX0_step_68 kX0_98 rfl (Nat.one_pos) ⟨rfl, rfl, rfl, rfl, rfl, rfl, rfl, rfl, rfl, rfl, rfl, rfl, rfl, rfl, rfl, rfl, rfl, rfl, rfl, rfl, rfl, rfl, rfl, rfl, trivial⟩ (Nat.le_of_ble_eq_true rfl) (Nat.le_of_ble_eq_true rfl) (Nat.le_of_ble_eq_true rfl) (Nat.le_of_ble_eq_true rfl) (Nat.le_of_ble_eq_true rfl) rfl (fun r U hq => ?_)
      obtain ⟨rfl, hst3⟩ := hq
      have hst4 := hst3
      unfold stR at hst4
      obtain ⟨sz', wd', st', op', ki', fa', qu', F', Q', nc', pn', pf', rows', en', et', ow', lo', hi', rb', ts', sh', go', re', al', y1, y2, y3, y4, y5, rfl⟩ := hst4
      refine fz_back rfl ?_
      refine fz_incN dX0_step_71 rfl (Nat.le_of_ble_eq_true rfl) ?_
      refine fz_goto (tgt := 58) dX0_step_74 (by decide) ?_
      refine ih (i + 1) (by omega) _ (stR_kt (fun q hq => ?_) hst3)
      rw [show (goA s i).2.2.2.2.2.1 = tmF s from hti, hts]
      by_cases e : q = i
      · rw [if_pos e, if_pos (by omega)]; omega
      · rw [if_neg e]
        by_cases e2 : q < i
        · rw [if_pos e2, if_pos (by omega)]; omega
        · rw [if_neg e2, if_neg (by omega)]; omega
theorem tX0_step {G : fz_G} (cn w : Nat) (kn : Nat → Nat) (on tn rn g : Nat) (hg : g < 2) (s : fS) (V : fz_W) (h0 : 0 < w) (hh : ∃ h, cn = w * h) (hI : inF cn kn on tn rn s) (ht : tmF s < 4000) (hV : stR cn w kn on tn rn g (fun _ => tmF s) s V) : fz_T G mX0_step rX0_step [zR 16 0] V (fun x U => x = none ∧ stR cn w kn on tn rn g (fun _ => tmF (stp cn w kn tn rn s)) (stp cn w kn tn rn s) U) := by
  refine fz_T.of (by decide) (Nat.le_of_ble_eq_true rfl) (fun E0 => ?_)
  rw [stp_t]
  refine fz_iconst (v := nI 0) dX0_step_0 (by decide) ?_
  refine fz_istore_n dX0_step_1 (Nat.le_of_ble_eq_true rfl) ?_
  refine lX0_step2 cn w kn on tn rn g hg s h0 hh hI (fun V1 hV1 => ?_) rn 0 (by omega) V hV
  have hI1 := inF_lfA (n := rn) h0 hh hI (Nat.le_refl _)
  have ht1 := lfA_t (cn := cn) (w := w) (kn := kn) (tn := tn) (rn := rn) s rn
  have hI2 := inF_tk hI1 (by rw [ht1]; exact ht)
  have ht2 : tmF (tkT1 (lfA cn w kn tn rn s rn)) = tmF s + 1 := by rw [tmF_tk, ht1]
  have hI3 := inF_goA (n := rn) hI2 (Nat.le_refl _)
  have ht3 := goA_t (tkT1 (lfA cn w kn tn rn s rn)) rn
  have hV2 := hV1
  rcases hs' : lfA cn w kn tn rn s rn with ⟨O, T, P, te, B, t, A, wy, lg⟩
  rw [hs'] at hV2 ht1
  have ht1 : t = tmF s := ht1
  obtain ⟨sz, wd, st, op, ki, fa, qu, F, Q, nc, pn, pf, rows, en, et, ow, lo, hi, rb, ts, sh, go, re, al, z1, z2, z3, z4, z5, rfl⟩ := hV2
  refine fz_aload_n dX0_step_46 rfl ?_
  refine fz_dup dX0_step_47 rfl ?_
  refine fz_get dX0_step_48 fX0_53 rfl (Nat.one_pos) rfl ?_
  refine fz_iconst (v := nI 1) dX0_step_51 (by decide) ?_
  refine fz_iadd dX0_step_52 ?_
  rw [nI_add]
  refine fz_put1 dX0_step_53 fX0_53 rfl (Nat.le_of_ble_eq_true rfl) ⟨rfl, rfl⟩ ?_
  refine fz_iconst (v := nI 0) dX0_step_56 (by decide) ?_
  refine fz_istore_n dX0_step_57 (Nat.le_of_ble_eq_true rfl) ?_
  refine fz_pk [0, 1] rfl ?_
  refine lX0_step58 cn w kn on tn rn g (tkT1 (lfA cn w kn tn rn s rn)) (tmF s) ht2 hI2 (fun V3 hV3 => ?_) rn 0 (by omega) _ ?_
  · have hrn := hI.2.2.1
    rcases hs3 : goA (tkT1 (lfA cn w kn tn rn s rn)) rn with ⟨O', T', P', te', B', t', A', wy', lg'⟩
    have hstp : stp cn w kn tn rn s = (O', T', P', te', B', t', A' + wct cn w kn P' t' rn, wy', lg') := by
      unfold stp
      rw [hs3]
      rfl
    rw [hs3] at hV3 hI3 ht3
    have ht3 : t' = tmF s + 1 := by rw [ht2] at ht3; exact ht3
    rw [hstp]
    obtain ⟨i1, i2, i3, i4, i5, i6, i7, i8, i9⟩ := hI3
    obtain ⟨sz, wd, st, op, ki, fa, qu, F, Q, nc, pn, pf, rows, en, et, ow, lo, hi, rb, ts, sh, go, re, al, z1, z2, z3, z4, z5, rfl⟩ := hV3
    refine fz_aload_n dX0_step_77 rfl ?_
    refine fz_get dX0_step_78 fX0_27 rfl (Nat.one_pos) rfl ?_
    refine fz_aload_n dX0_step_81 rfl ?_
    refine fz_get dX0_step_82 fX0_31 rfl (Nat.one_pos) rfl ?_
    refine fz_aload_n dX0_step_85 rfl ?_
    refine fz_get dX0_step_86 fX0_20 rfl (Nat.one_pos) rfl ?_
    refine fz_aload_n dX0_step_89 rfl ?_
    refine fz_get dX0_step_90 fX0_53 rfl (Nat.one_pos) rfl ?_
    refine fz_callV (tX3_look g hg sz wd st op ki cn w kn z1 z2 z3 rn rows en et P' i3 t' (by omega) (by omega) (ttR_at z5) (fun q τ hq => (i8 q hq τ).1) A') dX0_step_93 kX0_101 rfl (Nat.one_pos) ⟨rfl, rfl, rfl, rfl, rfl, rfl, rfl, rfl, rfl, trivial⟩ (Nat.le_of_ble_eq_true rfl) (Nat.le_of_ble_eq_true rfl) (Nat.le_of_ble_eq_true rfl) (Nat.le_of_ble_eq_true rfl) (Nat.le_of_ble_eq_true rfl) rfl (fun r U hq => ?_)
    obtain ⟨rfl, rfl⟩ := hq
    refine fz_back rfl ?_
    refine fz_vret dX0_step_96 rfl (Nat.zero_le _) (Nat.zero_le _) ⟨rfl, sz, wd, st, op, ki, fa, qu, F, Q, nc, pn, pf, rows, en, et, ow, lo, hi, rb, ts, sh, go, re, al, z1, z2, z3, z4, ttR_kt (fun q hq => by rw [if_pos hq]; exact Nat.le_refl _) z5, rfl⟩
  · show stR cn w kn on tn rn g _ (tkT1 (lfA cn w kn tn rn s rn)) _
    rw [hs']
    exact ⟨sz, wd, st, op, ki, fa, qu, F, Q, nc, pn, pf, rows, en, et, ow, lo, hi, rb, ts, sh, go, re, al, z1, z2, z3, z4, ttR_kt (fun q hq => by rw [if_neg (by omega)]; exact Nat.le_refl _) z5, rfl⟩
