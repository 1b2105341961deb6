/-! FleetController: tick, settle -/
def refF (rn t : Nat) (x : Int32) : Int32 := if rn = 0 then -4 else if x < nI 1 ∨ nI 200 < x then -2 else if 4000 < t + x.toNatClampNeg then -3 else 0
theorem ref_cases (x : Int32) : (x < nI 1 ∨ nI 200 < x) ∨ ∃ k, 1 ≤ k ∧ k ≤ 200 ∧ x = nI k := by
  rcases ix_cases x (n := 201) (by omega) with (h | h) | ⟨j, hj, rfl⟩
  · left; left
    rw [Int32.lt_iff_toInt_lt] at h ⊢
    rw [nI_toInt (by omega)]
    have e : (0 : Int32).toInt = 0 := by decide
    omega
  · left; right
    rw [Int32.le_iff_toInt_le, nI_toInt (by omega)] at h
    rw [Int32.lt_iff_toInt_lt, nI_toInt (by omega)]
    omega
  · rcases Nat.eq_zero_or_pos j with z | z
    · left; left; rw [z]; decide
    · exact Or.inr ⟨j, z, by omega, rfl⟩
theorem tX10_refusalOfTicks {G : fz_G} (g : Nat) (fp : Int32) (rn t : Nat) (hrn : rn ≤ 6) (ht : t ≤ 4000) (wy lg x : Int32) : fz_T G mX10_refusalOfTicks rX10_refusalOfTicks [zR 1 0, zI x] [(1, eFC g fp), (16, eFl g (nI rn) (nI t) wy lg)] (fun r U => r = some (zI (refF rn t x)) ∧ U = [(1, eFC g fp), (16, eFl g (nI rn) (nI t) wy lg)]) := by
  refine fz_T.of (by decide) (Nat.le_of_ble_eq_true rfl) (fun E0 => ?_)
  refine fz_aload_n dX10_refusalOfTicks_0 rfl ?_
  refine fz_get dX10_refusalOfTicks_1 fX10_38 rfl (Nat.one_pos) rfl ?_
  refine fz_callV (tX0_size g (nI rn) (nI t) wy lg) dX10_refusalOfTicks_4 kX10_131 rfl (Nat.one_pos) ⟨rfl, trivial⟩ (Nat.le_of_ble_eq_true rfl) (Nat.le_of_ble_eq_true rfl) (Nat.le_of_ble_eq_true rfl) (Nat.le_of_ble_eq_true rfl) (Nat.le_of_ble_eq_true rfl) rfl (fun r U hq => ?_)
  obtain ⟨rfl, rfl⟩ := hq
  refine fz_back rfl ?_
  refine fz_wo (V' := [(1, eFC g fp), (16, eFl g (nI rn) (nI t) wy lg)]) rfl ?_
  unfold refF
  refine fz_if_ne (tgt := 13) dX10_refusalOfTicks_7 (by decide) (fun c7 => ?_) (fun c7 => ?_)
  · have h0 : ¬ rn = 0 := fun z => c7 (by rw [z]; exact nI_0)
    rw [if_neg h0]
    refine fz_iload_n dX10_refusalOfTicks_13 rfl ?_
    refine fz_iconst (v := nI 1) dX10_refusalOfTicks_14 (by decide) ?_
    rcases ref_cases x with h | ⟨k, hk1, hk2, rfl⟩
    · rw [if_pos h]
      refine fz_icmp_lt (tgt := 25) dX10_refusalOfTicks_15 (by decide) (fun c15 => ?_) (fun c15 => ?_)
      · skip
        refine fz_bipush (v := -2) dX10_refusalOfTicks_25 (by decide) ?_
        refine fz_iret dX10_refusalOfTicks_27 rfl (Nat.zero_le _) (Nat.zero_le _) ⟨rfl, rfl⟩
      · skip
        refine fz_iload_n dX10_refusalOfTicks_18 rfl ?_
        refine fz_sipush (v := nI 200) dX10_refusalOfTicks_19 (by decide) ?_
        refine fz_icmp_le (tgt := 28) dX10_refusalOfTicks_22 (by decide) (fun c22 => ?_) (fun c22 => ?_)
        · rcases h with h | h
          · exact absurd h c15
          · exact absurd c22 (Int32.not_le.mpr h)
        · skip
          refine fz_bipush (v := -2) dX10_refusalOfTicks_25 (by decide) ?_
          refine fz_iret dX10_refusalOfTicks_27 rfl (Nat.zero_le _) (Nat.zero_le _) ⟨rfl, rfl⟩
    · have hn : ¬ (nI k < nI 1 ∨ nI 200 < nI k) := by
        rintro (z | z)
        · have := (nI_ltI (by omega) (by omega)).mp z; omega
        · have := (nI_ltI (by omega) (by omega)).mp z; omega
      rw [if_neg hn, nI_clamp (by omega)]
      refine fz_icmp_lt (tgt := 25) dX10_refusalOfTicks_15 (by decide) (fun c15 => ?_) (fun c15 => ?_)
      · exact absurd (Or.inl c15) hn
      · skip
        refine fz_iload_n dX10_refusalOfTicks_18 rfl ?_
        refine fz_sipush (v := nI 200) dX10_refusalOfTicks_19 (by decide) ?_
        refine fz_icmp_le (tgt := 28) dX10_refusalOfTicks_22 (by decide) (fun c22 => ?_) (fun c22 => ?_)
        · skip
          refine fz_aload_n dX10_refusalOfTicks_28 rfl ?_
          refine fz_get dX10_refusalOfTicks_29 fX10_38 rfl (Nat.one_pos) rfl ?_
          refine fz_callV (tX0_now g (nI rn) (nI t) wy lg) dX10_refusalOfTicks_32 kX10_82 rfl (Nat.one_pos) ⟨rfl, trivial⟩ (Nat.le_of_ble_eq_true rfl) (Nat.le_of_ble_eq_true rfl) (Nat.le_of_ble_eq_true rfl) (Nat.le_of_ble_eq_true rfl) (Nat.le_of_ble_eq_true rfl) rfl (fun r U hq => ?_)
          obtain ⟨rfl, rfl⟩ := hq
          refine fz_back rfl ?_
          refine fz_iload_n dX10_refusalOfTicks_35 rfl ?_
          refine fz_iadd dX10_refusalOfTicks_36 ?_
          rw [nI_add]
          refine fz_sipush (v := nI 4000) dX10_refusalOfTicks_37 (by decide) ?_
          refine fz_icmp_le (tgt := 48) dX10_refusalOfTicks_40 (by decide) (fun c40 => ?_) (fun c40 => ?_)
          · have hle := (nI_leI (by omega) (by omega)).mp c40
            rw [if_neg (by omega)]
            refine fz_iconst (v := nI 0) dX10_refusalOfTicks_48 (by decide) ?_
            refine fz_iret dX10_refusalOfTicks_49 rfl (Nat.zero_le _) (Nat.zero_le _) ⟨rfl, rfl⟩
          · have hgt : 4000 < t + k := by
              rcases Nat.lt_or_ge 4000 (t + k) with z | z
              · exact z
              · exact absurd (nI_le z (by omega)) c40
            rw [if_pos hgt]
            refine fz_bipush (v := -3) dX10_refusalOfTicks_43 (by decide) ?_
            refine fz_goto (tgt := 49) dX10_refusalOfTicks_45 (by decide) ?_
            refine fz_iret dX10_refusalOfTicks_49 rfl (Nat.zero_le _) (Nat.zero_le _) ⟨rfl, rfl⟩
        · exact absurd (Or.inr (Int32.not_le.mp c22)) hn
  · have h0 : rn = 0 := (nI_eq (by omega) (by omega)).mp (c7.trans nI_0.symm)
    rw [if_pos h0]
    refine fz_bipush (v := -4) dX10_refusalOfTicks_10 (by decide) ?_
    refine fz_iret dX10_refusalOfTicks_12 rfl (Nat.zero_le _) (Nat.zero_le _) ⟨rfl, rfl⟩
noncomputable def itS (cn w : Nat) (kn : Nat → Nat) (tn rn : Nat) (s : fS) : Nat → fS
  | 0 => s
  | k + 1 => stp cn w kn tn rn (itS cn w kn tn rn s k)
theorem itS_t {cn w : Nat} {kn : Nat → Nat} {tn rn : Nat} (s : fS) : ∀ k, tmF (itS cn w kn tn rn s k) = tmF s + k
  | 0 => rfl
  | k + 1 => by
    unfold itS
    rw [stp_t, itS_t s k]; omega
theorem inF_itS {cn w : Nat} {kn : Nat → Nat} {on tn rn : Nat} {s : fS} (h0 : 0 < w) (hh : ∃ h, cn = w * h) (h : inF cn kn on tn rn s) : ∀ k, tmF s + k ≤ 4000 → inF cn kn on tn rn (itS cn w kn tn rn s k)
  | 0, _ => h
  | k + 1, hk => inF_stp h0 hh (inF_itS h0 hh h k (by omega)) (by rw [itS_t]; omega)
noncomputable def ticF (σ : zS) (x : Int32) : Int32 × zS := match σ with
  | (tx, n, fp, cn, w, kn, on, tn, rn, s) => if refF rn (tmF s) x = 0 then (nI (tmF s + x.toNatClampNeg), (tx, n, fp, cn, w, kn, on, tn, rn, itS cn w kn tn rn s x.toNatClampNeg)) else (refF rn (tmF s) x, σ)
theorem ref_0 {rn t : Nat} {x : Int32} (h : refF rn t x = 0) : 0 < rn ∧ ∃ k, 1 ≤ k ∧ k ≤ 200 ∧ x = nI k ∧ t + k ≤ 4000 := by
  unfold refF at h
  by_cases h0 : rn = 0
  · rw [if_pos h0] at h; exact absurd h (by decide)
  · rw [if_neg h0] at h
    refine ⟨by omega, ?_⟩
    rcases ref_cases x with z | ⟨k, hk1, hk2, rfl⟩
    · rw [if_pos z] at h; exact absurd h (by decide)
    · split at h
      · exact absurd h (by decide)
      · rw [nI_clamp (by omega)] at h
        split at h
        · exact absurd h (by decide)
        · exact ⟨k, hk1, hk2, rfl, by omega⟩
theorem lX10_tick {G : fz_G} {E0 : Nat → fz_E} {Z : List Frame → Array Value → State → State → Prop} (g : Nat) (hg : g < 2) (fp : Int32) (n tw : Nat) (ln co tf : Int32) (sg : Nat → Int32) (cn w : Nat) (kn : Nat → Nat) (on tn rn : Nat) (s : fS) (h0 : 0 < w) (hh : ∃ h, cn = w * h) (hI : inF cn kn on tn rn s) (k : Nat) (hk2 : k ≤ 200) (hk : tmF s + k ≤ 4000)
    (kk : ∀ V', stR cn w kn on tn rn g (fun _ => tmF (itS cn w kn tn rn s k)) (itS cn w kn tn rn s k) V' → fz_J G mX10_tick rX10_tick Z E0 0 0 32 [(3, zI (nI k)), (2, zI 0), (0, zR 1 0), (1, zI (nI k))] [] (wAl g fp n tw ln co tf sg V')) :
    ∀ q i, i + q = k → ∀ V', stR cn w kn on tn rn g (fun _ => tmF (itS cn w kn tn rn s i)) (itS cn w kn tn rn s i) V' → fz_J G mX10_tick rX10_tick Z E0 0 0 14 [(3, zI (nI i)), (2, zI 0), (0, zR 1 0), (1, zI (nI k))] [] (wAl g fp n tw ln co tf sg V') := by
  intro q
  induction q with
  | zero =>
    intro i hi V' hV'
    have e : i = k := by omega
    subst e
    refine fz_iload_n dX10_tick_14 rfl ?_
    refine fz_iload_n dX10_tick_15 rfl ?_
    refine fz_icmp_ge (tgt := 32) dX10_tick_16 (by decide) (fun c16 => ?_) (fun c16 => ?_)
    · exact kk V' hV'
    · exact absurd (nI_le (Nat.le_refl _) (by omega)) c16
  | succ q ih =>
    intro i hi V' hV'
    refine fz_iload_n dX10_tick_14 rfl ?_
    refine fz_iload_n dX10_tick_15 rfl ?_
    refine fz_icmp_ge (tgt := 32) dX10_tick_16 (by decide) (fun c16 => ?_) (fun c16 => ?_)
    · exact absurd ((nI_leI (by omega) (by omega)).mp c16) (by omega)
    · have hV2 := hV'
      unfold stR at hV2
      obtain ⟨sz, wd, st, op, ki, fa, qu, F, Q, nc, pn, pf, rows, en, et, ow, lo, hi, rb, ts, sh, go, re, al, z1, z2, z3, z4, z5, rfl⟩ := hV2
      refine fz_aload_n dX10_tick_19 rfl ?_
      refine fz_get dX10_tick_20 fX10_38 rfl (Nat.one_pos) rfl ?_
      refine fz_callV (tX0_step cn w kn on tn rn g hg (itS cn w kn tn rn s i) _ h0 hh (inF_itS h0 hh hI i (by omega)) (by rw [itS_t]; omega) hV') dX10_tick_23 kX10_110 rfl (Nat.one_pos) ⟨rfl, rfl, rfl, rfl, rfl, rfl, rfl, rfl, rfl, rfl, rfl, rfl, rfl, rfl, rfl, rfl, rfl, rfl, rfl, rfl, rfl, rfl, rfl, rfl, trivial⟩ (Nat.le_of_ble_eq_true rfl) (Nat.le_of_ble_eq_true rfl) (Nat.le_of_ble_eq_true rfl) (Nat.le_of_ble_eq_true rfl) (Nat.le_of_ble_eq_true rfl) rfl (fun r U hq => ?_)
      obtain ⟨rfl, hst3⟩ := hq
      have hst4 := hst3
      unfold stR at hst4
      obtain ⟨sz', wd', st', op', ki', fa', qu', F', Q', nc', pn', pf', rows', en', et', ow', lo', hi', rb', ts', sh', go', re', al', y1, y2, y3, y4, y5, rfl⟩ := hst4
      refine fz_back rfl ?_
      refine fz_incN dX10_tick_26 rfl (Nat.le_of_ble_eq_true rfl) ?_
      refine fz_goto (tgt := 14) dX10_tick_29 (by decide) ?_
      exact ih (i + 1) (by omega) _ hst3
theorem tX10_tick {G : fz_G} (σ : zS) (V : fz_W) (hI : inZ σ) (hV : clR σ V) (x : Int32) : fz_T G mX10_tick rX10_tick [zR 1 0, zI x] V (fun r U => r = some (zI (ticF σ x).1) ∧ clR (ticF σ x).2 U) := by
  obtain ⟨tx, n, fp, cn, w, kn, on, tn, rn, s⟩ := σ
  obtain ⟨j1, j2, j3⟩ := hI
  have hrn : rn ≤ 6 := j1.2.2.1
  have ht4 : tmF s ≤ 4000 := j1.2.2.2.1
  have hV2 := hV
  unfold clR at hV2
  obtain ⟨g, tw, ln, co, tf, sg, sz, wd, st, op, ki, fa, qu, F, Q, nc, pn, pf, rows, en, et, ow, lo, hi, rb, ts, sh, go, re, al, hg, hn, htw, htq, hM, hoc, htt, rfl⟩ := hV2
  refine fz_T.of (by decide) (Nat.le_of_ble_eq_true rfl) (fun E0 => ?_)
  refine fz_aload_n dX10_tick_0 rfl ?_
  refine fz_iload_n dX10_tick_1 rfl ?_
  refine fz_callV (tX10_refusalOfTicks g fp rn (tmF s) hrn ht4 _ _ x) dX10_tick_2 kX10_107 rfl (Nat.one_pos) ⟨rfl, rfl, trivial⟩ (Nat.le_of_ble_eq_true rfl) (Nat.le_of_ble_eq_true rfl) (Nat.le_of_ble_eq_true rfl) (Nat.le_of_ble_eq_true rfl) (Nat.le_of_ble_eq_true rfl) rfl (fun r U hq => ?_)
  obtain ⟨rfl, rfl⟩ := hq
  refine fz_back rfl ?_
  refine fz_wo (V' := wAl g fp n tw ln co tf sg (wSt g sz wd st op ki fa qu F Q on tn nc pn pf s.1 s.2.1 rn (tmF s) s.2.2.2.2.2.2.2.1 s.2.2.2.2.2.2.2.2 s.2.2.2.2.1 rows en et ow s.2.2.2.2.2.2.1 lo hi rb ts sh go re al)) rfl ?_
  unfold ticF
  refine fz_istore_n dX10_tick_5 (Nat.le_of_ble_eq_true rfl) ?_
  refine fz_iload_n dX10_tick_6 rfl ?_
  refine fz_if_eq (tgt := 12) dX10_tick_7 (by decide) (fun c7 => ?_) (fun c7 => ?_)
  · simp only [if_pos c7]
    obtain ⟨hr0, k, hk1, hk2, rfl, hk3⟩ := ref_0 c7
    have hcn : 0 < cn := by
      rcases Nat.eq_zero_or_pos cn with z | z
      · have := (j2 z).2.2; omega
      · exact z
    obtain ⟨h0, hh⟩ := j3 hcn
    obtain ⟨hK, hS, hO⟩ := hM.2.2 hcn
    have hst : stR cn w kn on tn rn g (fun _ => tmF s) s (wSt g sz wd st op ki fa qu F Q on tn nc pn pf s.1 s.2.1 rn (tmF s) s.2.2.2.2.2.2.2.1 s.2.2.2.2.2.2.2.2 s.2.2.2.2.1 rows en et ow s.2.2.2.2.2.2.1 lo hi rb ts sh go re al) := ⟨sz, wd, st, op, ki, fa, qu, F, Q, nc, pn, pf, rows, en, et, ow, lo, hi, rb, ts, sh, go, re, al, hK, hS, hO, hoc, htt hcn, rfl⟩
    rw [c7, nI_clamp (by omega)]
    refine fz_iconst (v := nI 0) dX10_tick_12 (by decide) ?_
    refine fz_istore_n dX10_tick_13 (Nat.le_of_ble_eq_true rfl) ?_
    refine lX10_tick g hg fp n tw ln co tf sg cn w kn on tn rn s h0 hh j1 k hk2 hk3 (fun V' hV' => ?_) k 0 (by omega) _ hst
    have hV3 := hV'
    unfold stR at hV3
    obtain ⟨sz', wd', st', op', ki', fa', qu', F', Q', nc', pn', pf', rows', en', et', ow', lo', hi', rb', ts', sh', go', re', al', y1, y2, y3, y4, y5, rfl⟩ := hV3
    refine fz_aload_n dX10_tick_32 rfl ?_
    refine fz_get dX10_tick_33 fX10_38 rfl (Nat.one_pos) rfl ?_
    refine fz_callV (tX0_now g (nI rn) _ _ _) dX10_tick_36 kX10_82 rfl (Nat.one_pos) ⟨rfl, trivial⟩ (Nat.le_of_ble_eq_true rfl) (Nat.le_of_ble_eq_true rfl) (Nat.le_of_ble_eq_true rfl) (Nat.le_of_ble_eq_true rfl) (Nat.le_of_ble_eq_true rfl) rfl (fun r U hq => ?_)
    obtain ⟨rfl, rfl⟩ := hq
    refine fz_back rfl ?_
    refine fz_iret dX10_tick_39 rfl (Nat.zero_le _) (Nat.zero_le _) ⟨?_, clR_of hg hn htw htq hV'⟩
    rw [← itS_t (cn := cn) (w := w) (kn := kn) (tn := tn) (rn := rn) s k]
  · simp only [if_neg c7]
    refine fz_iload_n dX10_tick_10 rfl ?_
    refine fz_iret dX10_tick_11 rfl (Nat.zero_le _) (Nat.zero_le _) ⟨rfl, hV⟩
/-- ticks until no order is open, at most f -/
noncomputable def stl (cn w : Nat) (kn : Nat → Nat) (on tn rn : Nat) : Nat → fS → Nat × fS
  | 0, s => (0, s)
  | f + 1, s => if opO s.1 on = 0 then (0, s) else ((stl cn w kn on tn rn f (stp cn w kn tn rn s)).1 + 1, (stl cn w kn on tn rn f (stp cn w kn tn rn s)).2)
noncomputable def setF (σ : zS) (x : Int32) : Int32 × zS := match σ with
  | (tx, n, fp, cn, w, kn, on, tn, rn, s) => if refF rn (tmF s) x = 0 then (nI (stl cn w kn on tn rn x.toNatClampNeg s).1, (tx, n, fp, cn, w, kn, on, tn, rn, (stl cn w kn on tn rn x.toNatClampNeg s).2)) else (refF rn (tmF s) x, σ)
theorem lX10_settle {G : fz_G} {E0 : Nat → fz_E} (g : Nat) (hg : g < 2) (tx : Nat → Nat) (fp : Int32) (n tw : Nat) (ln co tf : Int32) (sg : Nat → Int32) (hn : n ≤ 90) (htw : tw ≤ 10) (htq : tq sg tx n) (cn w : Nat) (kn : Nat → Nat) (on tn rn : Nat) (h0 : 0 < w) (hh : ∃ h, cn = w * h) (k : Nat) (hk2 : k ≤ 200) (v : Nat) (S : fS) :
    ∀ q i, i + q = k → ∀ s V', inF cn kn on tn rn s → tmF s + q ≤ 4000 → stR cn w kn on tn rn g (fun _ => tmF s) s V' → i + (stl cn w kn on tn rn q s).1 = v → (stl cn w kn on tn rn q s).2 = S → fz_J G mX10_settle rX10_settle (fz_Z G E0 rX10_settle.cells rX10_settle.slots (fun r U => r = some (zI (nI v)) ∧ clR (tx, n, fp, cn, w, kn, on, tn, rn, S) U)) E0 0 0 14 [(3, zI (nI i)), (2, zI 0), (0, zR 1 0), (1, zI (nI k))] [] (wAl g fp n tw ln co tf sg V') := by
  intro q
  induction q with
  | zero =>
    intro i hi s V' hIs ht hV' hv hS
    have e : i = k := by omega
    subst e
    have hv : i = v := hv
    have hS : s = S := hS
    subst hv hS
    refine fz_iload_n dX10_settle_14 rfl ?_
    refine fz_iload_n dX10_settle_15 rfl ?_
    refine fz_icmp_ge (tgt := 42) dX10_settle_16 (by decide) (fun c16 => ?_) (fun c16 => ?_)
    · skip
      refine fz_iload_n dX10_settle_42 rfl ?_
      refine fz_iret dX10_settle_43 rfl (Nat.zero_le _) (Nat.zero_le _) ⟨rfl, clR_of hg hn htw htq hV'⟩
    · exact absurd (nI_le (Nat.le_refl _) (by omega)) c16
  | succ q ih =>
    intro i hi s V' hIs ht hV' hv hS
    have hon : on ≤ 40 := hIs.1
    have hV2 := hV'
    unfold stR at hV2
    obtain ⟨sz, wd, st, op, ki, fa, qu, F, Q, nc, pn, pf, rows, en, et, ow, lo, hi, rb, ts, sh, go, re, al, z1, z2, z3, z4, z5, rfl⟩ := hV2
    have hnc : nc = opO s.1 on := z4.2.2
    have hncl : opO s.1 on ≤ on := cnt_le _ _
    unfold stl at hv hS
    refine fz_iload_n dX10_settle_14 rfl ?_
    refine fz_iload_n dX10_settle_15 rfl ?_
    refine fz_icmp_ge (tgt := 42) dX10_settle_16 (by decide) (fun c16 => ?_) (fun c16 => ?_)
    · exact absurd ((nI_leI (by omega) (by omega)).mp c16) (by omega)
    · skip
      refine fz_aload_n dX10_settle_19 rfl ?_
      refine fz_get dX10_settle_20 fX10_29 rfl (Nat.one_pos) rfl ?_
      refine fz_callV (tX5_open (nI on) (nI tn) (nI nc) (nI pn)) dX10_settle_23 kX10_113 rfl (Nat.one_pos) ⟨rfl, trivial⟩ (Nat.le_of_ble_eq_true rfl) (Nat.le_of_ble_eq_true rfl) (Nat.le_of_ble_eq_true rfl) (Nat.le_of_ble_eq_true rfl) (Nat.le_of_ble_eq_true rfl) rfl (fun r U hq => ?_)
      obtain ⟨rfl, rfl⟩ := hq
      refine fz_back rfl ?_
      refine fz_wo (V' := wAl g fp n tw ln co tf sg (wSt g sz wd st op ki fa qu F Q on tn nc pn pf s.1 s.2.1 rn (tmF s) s.2.2.2.2.2.2.2.1 s.2.2.2.2.2.2.2.2 s.2.2.2.2.1 rows en et ow s.2.2.2.2.2.2.1 lo hi rb ts sh go re al)) rfl ?_
      refine fz_if_le (tgt := 42) dX10_settle_26 (by decide) (fun c26 => ?_) (fun c26 => ?_)
      · have h00 : opO s.1 on = 0 := by
          rw [← hnc]
          rcases Nat.eq_zero_or_pos nc with z | z
          · exact z
          · exact absurd c26 (nI_nle z (by omega))
        rw [if_pos h00] at hv hS
        have hv : i = v := hv
        have hS : s = S := hS
        subst hv hS
        refine fz_iload_n dX10_settle_42 rfl ?_
        refine fz_iret dX10_settle_43 rfl (Nat.zero_le _) (Nat.zero_le _) ⟨rfl, clR_of hg hn htw htq hV'⟩
      · have h00 : ¬ opO s.1 on = 0 := by
          rw [← hnc]
          intro z
          exact c26 (by rw [z]; decide)
        rw [if_neg h00] at hv hS
        refine fz_aload_n dX10_settle_29 rfl ?_
        refine fz_get dX10_settle_30 fX10_38 rfl (Nat.one_pos) rfl ?_
        refine fz_callV (tX0_step cn w kn on tn rn g hg s _ h0 hh hIs (by omega) hV') dX10_settle_33 kX10_110 rfl (Nat.one_pos) ⟨rfl, rfl, rfl, rfl, rfl, rfl, rfl, rfl, rfl, rfl, rfl, rfl, rfl, rfl, rfl, rfl, rfl, rfl, rfl, rfl, rfl, rfl, rfl, rfl, trivial⟩ (Nat.le_of_ble_eq_true rfl) (Nat.le_of_ble_eq_true rfl) (Nat.le_of_ble_eq_true rfl) (Nat.le_of_ble_eq_true rfl) (Nat.le_of_ble_eq_true rfl) rfl (fun r U hq => ?_)
        obtain ⟨rfl, hst3⟩ := hq
        have hst4 := hst3
        unfold stR at hst4
        obtain ⟨sz', wd', st', op', ki', fa', qu', F', Q', nc', pn', pf', rows', en', et', ow', lo', hi', rb', ts', sh', go', re', al', y1, y2, y3, y4, y5, rfl⟩ := hst4
        refine fz_back rfl ?_
        refine fz_incN dX10_settle_36 rfl (Nat.le_of_ble_eq_true rfl) ?_
        refine fz_goto (tgt := 14) dX10_settle_39 (by decide) ?_
        refine ih (i + 1) (by omega) (stp cn w kn tn rn s) _ (inF_stp h0 hh hIs (by omega)) (by rw [stp_t]; omega) hst3 ?_ hS
        have hv : i + ((stl cn w kn on tn rn q (stp cn w kn tn rn s)).1 + 1) = v := hv
        omega
theorem tX10_settle {G : fz_G} (σ : zS) (V : fz_W) (hI : inZ σ) (hV : clR σ V) (x : Int32) : fz_T G mX10_settle rX10_settle [zR 1 0, zI x] V (fun r U => r = some (zI (setF σ x).1) ∧ clR (setF σ x).2 U) := by
  obtain ⟨tx, n, fp, cn, w, kn, on, tn, rn, s⟩ := σ
  obtain ⟨j1, j2, j3⟩ := hI
  have hrn : rn ≤ 6 := j1.2.2.1
  have ht4 : tmF s ≤ 4000 := j1.2.2.2.1
  have hV2 := hV
  unfold clR at hV2
  obtain ⟨g, tw, ln, co, tf, sg, sz, wd, st, op, ki, fa, qu, F, Q, nc, pn, pf, rows, en, et, ow, lo, hi, rb, ts, sh, go, re, al, hg, hn, htw, htq, hM, hoc, htt, rfl⟩ := hV2
  refine fz_T.of (by decide) (Nat.le_of_ble_eq_true rfl) (fun E0 => ?_)
  refine fz_aload_n dX10_settle_0 rfl ?_
  refine fz_iload_n dX10_settle_1 rfl ?_
  refine fz_callV (tX10_refusalOfTicks g fp rn (tmF s) hrn ht4 _ _ x) dX10_settle_2 kX10_107 rfl (Nat.one_pos) ⟨rfl, rfl, trivial⟩ (Nat.le_of_ble_eq_true rfl) (Nat.le_of_ble_eq_true rfl) (Nat.le_of_ble_eq_true rfl) (Nat.le_of_ble_eq_true rfl) (Nat.le_of_ble_eq_true rfl) rfl (fun r U hq => ?_)
  obtain ⟨rfl, rfl⟩ := hq
  refine fz_back rfl ?_
  refine fz_wo (V' := wAl g fp n tw ln co tf sg (wSt g sz wd st op ki fa qu F Q on tn nc pn pf s.1 s.2.1 rn (tmF s) s.2.2.2.2.2.2.2.1 s.2.2.2.2.2.2.2.2 s.2.2.2.2.1 rows en et ow s.2.2.2.2.2.2.1 lo hi rb ts sh go re al)) rfl ?_
  unfold setF
  refine fz_istore_n dX10_settle_5 (Nat.le_of_ble_eq_true rfl) ?_
  refine fz_iload_n dX10_settle_6 rfl ?_
  refine fz_if_eq (tgt := 12) dX10_settle_7 (by decide) (fun c7 => ?_) (fun c7 => ?_)
  · simp only [if_pos c7]
    obtain ⟨hr0, k, hk1, hk2, rfl, hk3⟩ := ref_0 c7
    have hcn : 0 < cn := by
      rcases Nat.eq_zero_or_pos cn with z | z
      · have := (j2 z).2.2; omega
      · exact z
    obtain ⟨h0, hh⟩ := j3 hcn
    obtain ⟨hK, hS, hO⟩ := hM.2.2 hcn
    have hst : stR cn w kn on tn rn g (fun _ => tmF s) s (wSt g sz wd st op ki fa qu F Q on tn nc pn pf s.1 s.2.1 rn (tmF s) s.2.2.2.2.2.2.2.1 s.2.2.2.2.2.2.2.2 s.2.2.2.2.1 rows en et ow s.2.2.2.2.2.2.1 lo hi rb ts sh go re al) := ⟨sz, wd, st, op, ki, fa, qu, F, Q, nc, pn, pf, rows, en, et, ow, lo, hi, rb, ts, sh, go, re, al, hK, hS, hO, hoc, htt hcn, rfl⟩
    rw [c7, nI_clamp (by omega)]
    refine fz_iconst (v := nI 0) dX10_settle_12 (by decide) ?_
    refine fz_istore_n dX10_settle_13 (Nat.le_of_ble_eq_true rfl) ?_
    exact lX10_settle g hg tx fp n tw ln co tf sg hn htw htq cn w kn on tn rn h0 hh k hk2 _ _ k 0 (by omega) s _ j1 hk3 hst (Nat.zero_add _) rfl
  · simp only [if_neg c7]
    refine fz_iload_n dX10_settle_10 rfl ?_
    refine fz_iret dX10_settle_11 rfl (Nat.zero_le _) (Nat.zero_le _) ⟨rfl, hV⟩
