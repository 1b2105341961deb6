/-! What always holds, and that each operation keeps it -/
def inA (σ : zS) : Prop := match σ with
  | (tx, n, fp, cn, w, kn, on, tn, rn, s) => inZ (tx, n, fp, cn, w, kn, on, tn, rn, s) ∧ cn ≤ 80 ∧ (∀ j, j < cn → kn j ≤ 4) ∧ (0 < cn → w ≤ 10 ∧ inW cn w kn rn s) ∧ (tmF s = 0 → ∀ q, q < rn → s.2.2.2.1 q = 0)
theorem celK_is {cn : Nat} {kn : Nat → Nat} {x : Int32} {v : Nat} (h80 : cn ≤ 80) (hk : ∀ j, j < cn → kn j ≤ 4) (hv : v < 10) (h : celK cn kn x = nI v) : ∃ j, j < cn ∧ x = nI j ∧ kn j = v := by
  rcases ix_cases x (n := cn) (by omega) with z | ⟨j, hj, rfl⟩
  · unfold celK at h
    rw [if_pos z] at h
    exact absurd h.symm (oI_ne (by omega))
  · rw [celK_in hj h80] at h
    have := hk j hj
    exact ⟨j, hj, rfl, (nI_eq (by omega) (by omega)).mp h⟩
theorem inA_typ {σ : zS} (h : inA σ) (x : Int64) : inA (typF σ x).2 := by
  obtain ⟨tx, n, fp, cn, w, kn, on, tn, rn, s⟩ := σ
  unfold typF
  by_cases z : n + nb x ≤ 90
  · simp only [if_pos z]; exact h
  · simp only [if_neg z]; exact h
theorem inA_era {σ : zS} (h : inA σ) : inA (eraF σ).2 := by
  obtain ⟨tx, n, fp, cn, w, kn, on, tn, rn, s⟩ := σ
  exact h
theorem inA_rd {σ : zS} (h : inA σ) : inA (rdF σ).2 := by
  obtain ⟨tx, n, fp, cn, w, kn, on, tn, rn, O, T, P, te, B, t, A, wy, lg⟩ := σ
  unfold rdF
  by_cases h1 : (scn tx n 0 0 0 0).1 = 0
  · simp only [if_neg (show ¬ ¬ (scn tx n 0 0 0 0).1 = 0 from fun z => z h1)]
    by_cases h2 : (hkd (ldk tx n) 2 (ldc tx n) && (hkd (ldk tx n) 3 (ldc tx n) && hkd (ldk tx n) 4 (ldc tx n))) = true
    · simp only [if_neg (show ¬ ¬ (hkd (ldk tx n) 2 (ldc tx n) && (hkd (ldk tx n) 3 (ldc tx n) && hkd (ldk tx n) 4 (ldc tx n))) = true from fun z => z h2)]
      cases h3 : apF (ldc tx n) (scn tx n 0 0 0 0).2.2 (ldk tx n) (ldc tx n) with
      | some c => exact h
      | none =>
        obtain ⟨s1, s2, s3, s4, s5, s6⟩ := scn_all h1
        refine ⟨⟨⟨by omega, by omega, by omega, by omega, by omega, fun i hi => absurd hi (Nat.not_lt_zero i), fun i hi => absurd hi (Nat.not_lt_zero i), fun i hi => absurd hi (Nat.not_lt_zero i), fun i hi => absurd hi (Nat.not_lt_zero i)⟩, fun _ => ⟨rfl, rfl, rfl⟩, fun _ => ⟨s1, s6⟩⟩, s4, fun j _ => ldk_le tx n s3 j, fun _ => ⟨s2, fun c hc hk => apF_JA h3 c hc hk, ⟨fun i hi => absurd hi (Nat.not_lt_zero i), fun i hi => absurd hi (Nat.not_lt_zero i), fun i _ hi => absurd hi (Nat.not_lt_zero i), fun i hi => absurd hi (Nat.not_lt_zero i)⟩⟩, fun _ i hi => absurd hi (Nat.not_lt_zero i)⟩
    · simp only [if_pos h2]; exact h
  · simp only [if_pos h1]; exact h
theorem inA_rob {σ : zS} (h : inA σ) (x : Int32) : inA (robF σ x).2 := by
  obtain ⟨tx, n, fp, cn, w, kn, on, tn, rn, O, T, P, te, B, t, A, wy, lg⟩ := σ
  unfold robF
  by_cases z1 : cn = 0 ∨ ¬ t = 0
  · simp only [if_pos z1]; exact h
  · simp only [if_neg z1]
    by_cases z2 : celK cn kn x = nI 4
    · simp only [if_neg (show ¬ ¬ celK cn kn x = nI 4 from fun z => z z2)]
      by_cases z3 : rn = 6
      · simp only [if_pos z3]; exact h
      · simp only [if_neg z3]
        by_cases z4 : eoB P te rn x.toNatClampNeg rn = true
        · simp only [if_pos z4]; exact h
        · simp only [if_neg z4]
          obtain ⟨⟨⟨i1, i2, i3, i4, i5, i6, i7, i8, i9⟩, j2, j3⟩, h80, hkn, hwW, ht0⟩ := h
          obtain ⟨c, hc, rfl, hkc⟩ := celK_is h80 hkn (by omega) z2
          rw [nI_clamp (by omega)] at z4 ⊢
          have ht : t = 0 := by omega
          have hte : ∀ q, q < rn → te q = 0 := ht0 ht
          obtain ⟨hw10, hJ, hPP⟩ := hwW (by omega)
          have hPP : inP kn rn P te t := hPP
          obtain ⟨p1, p2, p3, p4⟩ := hPP
          have hr7 : rn + 1 ≤ 6 := by clear j3 hwW; omega
          have hc0 : ¬ cn = 0 := by omega
          have hno := eo_no (Bool.eq_false_iff.mpr z4)
          have eP : ∀ τ, adP P rn c rn τ = c := fun τ => by unfold adP; rw [if_pos rfl]
          have eQ : ∀ q, ¬ q = rn → ∀ τ, adP P rn c q τ = P q τ := fun q e τ => by unfold adP; rw [if_neg e]
          have eE : ∀ q, q < rn + 1 → adE te rn q = 0 := fun q hq => by
            unfold adE
            by_cases e : q = rn
            · rw [if_pos e]
            · rw [if_neg e]; exact hte q (by omega)
          have hP0 : ∀ q, q < rn → ∀ τ, P q τ = P q 0 := fun q hq τ => by
            have h1 : P q τ = P q (te q) := p1 q hq τ (by rw [hte q hq]; omega)
            rw [hte q hq] at h1
            exact h1
          have hn0 : ∀ q, q < rn → ∀ τ, ¬ P q τ = c := fun q hq τ z => by
            refine hno q hq (by omega) ?_
            rw [hte q hq, ← hP0 q hq τ]; exact z
          refine ⟨⟨⟨i1, i2, hr7, i4, i5, i6, i7, fun q hq τ => ?_, fun q hq => ?_⟩, fun z => absurd z hc0, j3⟩, h80, hkn, fun _ => ⟨hw10, hJ, ?_⟩, fun _ q hq => eE q hq⟩
          · by_cases e : q = rn
            · rw [e, eP]; exact ⟨hc, by omega⟩
            · rw [eQ q e]; exact i8 q (by omega) τ
          · by_cases e : q = rn
            · left; rw [e, va_up_self]; unfold roN; rw [upk (by decide), upk (by decide), upk (by decide), pk_us]
            · rw [va_up_ne _ _ e]; exact i9 q (by omega)
          · show inP kn (rn + 1) (adP P rn c) (adE te rn) t
            refine ⟨fun q hq x hx => ?_, fun q hq => ?_, fun q q' h1 h2 h3 τ hτ => ?_, fun q hq htq => ?_⟩
            · rw [eE q hq]
              by_cases e : q = rn
              · rw [e, eP, eP]
              · rw [eQ q e, eQ q e]; exact hP0 q (by omega) x
            · rw [eE q hq]
              by_cases e : q = rn
              · rw [e, eP]; omega
              · rw [eQ q e]
                have h2 : 1 < kn (P q (te q)) := p2 q (by omega)
                rw [hte q (by omega)] at h2; exact h2
            · by_cases e : q = rn
              · rw [e, eP, eQ q' (by omega)]
                exact fun z => hn0 q' (by omega) τ z.symm
              · by_cases e' : q' = rn
                · rw [e', eP, eQ q e]; exact hn0 q (by omega) τ
                · rw [eQ q e, eQ q' e']; exact p3 q q' (by omega) (by omega) h3 τ hτ
            · rw [eE q hq] at htq; omega
    · simp only [if_pos z2]; exact h
theorem addM_lt {T : Nat → Nat → Int32} {tn o : Nat} {a b c sn t : Int32} {i : Nat} (hi : i < tn) : addM T tn o a b c sn t i = T i := by
  unfold addM
  split
  · exact addT_lt (by omega)
  · split
    · rw [addT_lt (by omega), addT_lt (by omega)]
    · rw [addT_lt (by omega), addT_lt (by omega), addT_lt (by omega)]
theorem addM_at {cn : Nat} {kn : Nat → Nat} {T : Nat → Nat → Int32} {tn o : Nat} {a b c sn t : Int32} {i : Nat} (hs : shB cn kn a b c = true) (h1 : tn ≤ i) (h2 : i < tn + wanN b c) : ∃ sh b0, addM T tn o a b c sn t i = tkN (nI o) sh sn t b0 ∧ celK cn kn sh = nI 2 := by
  unfold shB at hs
  rw [Bool.and_eq_true, decide_eq_true_eq] at hs
  obtain ⟨ha, hs⟩ := hs
  unfold wanN at h2
  unfold addM
  by_cases hb : b = -1
  · rw [if_pos hb] at h2 ⊢
    have e : i = tn := by omega
    rw [e]
    exact ⟨a, _, addT_at, ha⟩
  · rw [if_neg hb] at h2 hs ⊢
    rw [Bool.and_eq_true, decide_eq_true_eq] at hs
    by_cases hc : c = -1
    · rw [if_pos hc] at h2 ⊢
      by_cases e : i = tn + 1
      · rw [e]; exact ⟨b, _, addT_at, hs.1⟩
      · have e : i = tn := by omega
        rw [e, addT_lt (by omega)]; exact ⟨a, _, addT_at, ha⟩
    · rw [if_neg hc] at h2 ⊢
      have hc2 : celK cn kn c = nI 2 := by
        have := hs.2
        rw [decide_eq_false hc, Bool.false_or, decide_eq_true_eq] at this
        exact this
      by_cases e : i = tn + 2
      · rw [e]; exact ⟨c, _, addT_at, hc2⟩
      · by_cases e : i = tn + 1
        · rw [e, addT_lt (by omega)]; exact ⟨b, _, addT_at, hs.1⟩
        · have e : i = tn := by omega
          rw [e, addT_lt (by omega), addT_lt (by omega)]; exact ⟨a, _, addT_at, ha⟩
theorem opn_full {T : Nat → Nat → Int32} {a : Nat} : ∀ n, (∀ q, q < n → T (a + q) 3 = nI 0) → opn T a n = n
  | 0, _ => rfl
  | n + 1, h => by
    rw [opn_s, opn_full n (fun q hq => h q (by omega)), h n (by omega), if_pos (by decide)]
theorem orN_0 (s n f t : Int32) (a : Nat → Int32) : orN s n f t a 0 = s := by
  unfold orN; rw [upk (by decide), upk (by decide), upk (by decide), upk (by decide), upk (by decide), pk_us]
theorem orN_1 (s n f t : Int32) (a : Nat → Int32) : orN s n f t a 1 = n := by
  unfold orN; rw [upk (by decide), upk (by decide), upk (by decide), upk (by decide), pk_us]
theorem orN_2 (s n f t : Int32) (a : Nat → Int32) : orN s n f t a 2 = f := by
  unfold orN; rw [upk (by decide), upk (by decide), upk (by decide), pk_us]
theorem orN_3 (s n f t : Int32) (a : Nat → Int32) : orN s n f t a 3 = n := by
  unfold orN; rw [upk (by decide), upk (by decide), pk_us]
theorem orN_5 (s n f t : Int32) (a : Nat → Int32) : orN s n f t a 5 = -1 := by
  unfold orN; rw [pk_us]
theorem ord_wf {cn : Nat} {kn : Nat → Nat} {on tn : Nat} {O T : Nat → Nat → Int32} {x a b c : Int32} {t : Nat} (h80 : cn ≤ 80) (hkn : ∀ j, j < cn → kn j ≤ 4) (hon : on < 40) (htn : tn + wanN b c ≤ 90) (hx : celK cn kn x = nI 3) (hs : shB cn kn a b c = true) (hw : tWf cn kn on tn O T) (ho : oWf on tn O T) : tWf cn kn (on + 1) (tn + wanN b c) (va_up O on (orN x (nI (wanN b c)) (nI tn) (nI t) (O on))) (addM T tn on a b c x (nI t)) ∧ oWf (on + 1) (tn + wanN b c) (va_up O on (orN x (nI (wanN b c)) (nI tn) (nI t) (O on))) (addM T tn on a b c x (nI t)) := by
  have hw1 : 1 ≤ wanN b c := by unfold wanN; split; omega; split <;> omega
  have hw3 : wanN b c ≤ 3 := by unfold wanN; split; omega; split <;> omega
  obtain ⟨jx, jx1, rfl, jx2⟩ := celK_is h80 hkn (by omega) hx
  have new : ∀ i, tn ≤ i → i < tn + wanN b c → addM T tn on a b c (nI jx) (nI t) i 0 = nI on ∧ addM T tn on a b c (nI jx) (nI t) i 2 = nI jx ∧ addM T tn on a b c (nI jx) (nI t) i 3 = nI 0 ∧ ∃ j, j < cn ∧ kn j = 2 ∧ addM T tn on a b c (nI jx) (nI t) i 1 = nI j := by
    intro i h1 h2
    obtain ⟨sh, b0, e, hsh⟩ := addM_at (T := T) (o := on) (sn := nI jx) (t := nI t) hs h1 h2
    obtain ⟨j, j1, rfl, j2⟩ := celK_is h80 hkn (by omega) hsh
    rw [e, tkN_0, tkN_1, tkN_2, tkN_3]
    exact ⟨rfl, rfl, rfl, j, j1, j2, rfl⟩
  constructor
  · intro i hi
    rcases Nat.lt_or_ge i tn with z | z
    · obtain ⟨a1, a2, o, o1, o2, o3⟩ := hw i z
      unfold tsh tst
      rw [addM_lt z]
      refine ⟨a1, a2, o, by omega, o2, ?_⟩
      rw [va_up_ne _ _ (by omega)]; exact o3
    · obtain ⟨e0, e2, e3, j, j1, j2, e1⟩ := new i z hi
      unfold tsh tst
      rw [e1, e2, nI_clamp (by omega), nI_clamp (by omega)]
      refine ⟨⟨rfl, j1, j2⟩, ⟨rfl, jx1, jx2⟩, on, by omega, e0, ?_⟩
      rw [va_up_self, orN_0]
  · intro o h1
    by_cases e : o = on
    · rw [e, va_up_self, orN_1, orN_2, orN_3, orN_5]
      have hop : opn (addM T tn on a b c (nI jx) (nI t)) tn (wanN b c) = wanN b c := opn_full _ (fun q hq => (new (tn + q) (by omega) (by omega)).2.2.1)
      refine ⟨tn, wanN b c, rfl, rfl, hw1, hw3, by omega, fun i hi => ⟨fun z => ?_, fun z => (new i z.1 z.2).1⟩, by rw [hop], by rw [hop, if_neg (by omega)]⟩
      rcases Nat.lt_or_ge i tn with y | y
      · rw [addM_lt y] at z
        obtain ⟨-, -, o', o1, o2, -⟩ := hw i y
        have := (nI_eq (by omega) (by omega)).mp (o2.symm.trans z)
        omega
      · omega
    · obtain ⟨a', n', d1, d2, d3, d4, d5, d6, d7, d8⟩ := ho o (by omega)
      rw [va_up_ne _ _ e]
      have hop : opn (addM T tn on a b c (nI jx) (nI t)) a' n' = opn T a' n' := opn_c (fun q hq => by rw [addM_lt (by omega)])
      refine ⟨a', n', d1, d2, d3, d4, by omega, fun i hi => ?_, by rw [hop]; exact d7, by rw [hop]; exact d8⟩
      rcases Nat.lt_or_ge i tn with y | y
      · rw [addM_lt y]; exact d6 i y
      · rw [(new i y hi).1]
        constructor
        · intro z
          have := (nI_eq (by omega) (by omega)).mp z
          omega
        · intro z; omega
theorem inA_ord {σ : zS} (h : inA σ) (x a b c : Int32) : inA (ordF σ x a b c).2 := by
  obtain ⟨tx, n, fp, cn, w, kn, on, tn, rn, O, T, P, te, B, t, A, wy, lg⟩ := σ
  by_cases h0 : cn = 0
  · unfold ordF
    simp only [if_pos h0]; exact h
  · by_cases h1 : celK cn kn x = nI 3 ∧ shB cn kn a b c = true
    · by_cases h2 : on < 40 ∧ tn + wanN b c ≤ 90
      · rw [ordF_ok h0 h1 h2]
        obtain ⟨⟨⟨i1, i2, i3, i4, i5, i6, i7, i8, i9⟩, j2, j3⟩, h80, hkn, hwW, ht0⟩ := h
        obtain ⟨w1, w2⟩ := ord_wf (t := t) h80 hkn h2.1 h2.2 h1.1 h1.2 i6 i7
        refine ⟨⟨⟨by omega, h2.2, i3, i4, i5, w1, w2, i8, fun q hq => ?_⟩, fun z => absurd z h0, j3⟩, h80, hkn, hwW, ht0⟩
        rcases i9 q hq with z | ⟨k, k1, k2⟩
        · exact Or.inl z
        · exact Or.inr ⟨k, by omega, k2⟩
      · rw [ordF_full h0 h1 h2]; exact h
    · rw [ordF_bad h0 h1]; exact h
theorem inA_can {σ : zS} (h : inA σ) (x : Int32) : inA (canF σ x).2 := by
  obtain ⟨tx, n, fp, cn, w, kn, on, tn, rn, O, T, P, te, B, t, A, wy, lg⟩ := σ
  have h2 := h
  obtain ⟨⟨⟨i1, i2, i3, i4, i5, i6, i7, i8, i9⟩, j2, j3⟩, h80, hkn, hwW, ht0⟩ := h2
  rcases ix_cases x (n := on) (by omega) with z | ⟨k, hk, rfl⟩
  · unfold canF
    simp only [if_pos z]; exact h
  · obtain ⟨a, m, u, s, d1, d2, d3, d4, d5, d6, d7, d8, d9, d10, d11, d12, d13, d14, d15, d16, d17⟩ := can_pure i1 i2 i4 hk i6 i7
    rw [canF_in i1 hk d1 d2 d3 d4 (by omega) d9]
    exact ⟨⟨⟨i1, i2, i3, i4, i5, d16, d17, i8, i9⟩, j2, j3⟩, h80, hkn, hwW, ht0⟩
theorem inA_it {tx : Nat → Nat} {n : Nat} {fp : Int32} {cn w : Nat} {kn : Nat → Nat} {on tn rn : Nat} {s : fS} (h : inA (tx, n, fp, cn, w, kn, on, tn, rn, s)) (hr : 0 < rn) (k : Nat) (hk : tmF s + k ≤ 4000) : inA (tx, n, fp, cn, w, kn, on, tn, rn, itS cn w kn tn rn s k) := by
  rcases Nat.eq_zero_or_pos k with e | e
  · rw [e]; exact h
  · obtain ⟨⟨hF, j2, j3⟩, h80, hkn, hwW, ht0⟩ := h
    have hcn : 0 < cn := by
      rcases Nat.eq_zero_or_pos cn with z | z
      · have := (j2 z).2.2; omega
      · exact z
    obtain ⟨a1, a2⟩ := j3 hcn
    obtain ⟨b1, b2⟩ := hwW hcn
    refine ⟨⟨inF_itS a1 a2 hF k hk, j2, j3⟩, h80, hkn, fun _ => ⟨b1, inW_itS a1 a2 h80 hF b2 k hk⟩, fun z => ?_⟩
    rw [itS_t] at z
    omega
theorem inA_tic {σ : zS} (h : inA σ) (x : Int32) : inA (ticF σ x).2 := by
  obtain ⟨tx, n, fp, cn, w, kn, on, tn, rn, s⟩ := σ
  unfold ticF
  by_cases z : refF rn (tmF s) x = 0
  · simp only [if_pos z]
    obtain ⟨r1, k, k1, k2, rfl, k3⟩ := ref_0 z
    rw [nI_clamp (by omega)]
    exact inA_it h r1 k k3
  · simp only [if_neg z]; exact h
theorem itS_s {cn w : Nat} {kn : Nat → Nat} {tn rn : Nat} (s : fS) : ∀ j, itS cn w kn tn rn (stp cn w kn tn rn s) j = itS cn w kn tn rn s (j + 1)
  | 0 => rfl
  | j + 1 => by
    show stp cn w kn tn rn (itS cn w kn tn rn (stp cn w kn tn rn s) j) = stp cn w kn tn rn (itS cn w kn tn rn s (j + 1))
    rw [itS_s s j]
theorem stl_it {cn w : Nat} {kn : Nat → Nat} {on tn rn : Nat} : ∀ f s, ∃ j, j ≤ f ∧ (stl cn w kn on tn rn f s).2 = itS cn w kn tn rn s j
  | 0, s => ⟨0, Nat.le_refl _, rfl⟩
  | f + 1, s => by
    unfold stl
    split
    · exact ⟨0, by omega, rfl⟩
    · obtain ⟨j, j1, j2⟩ := stl_it f (stp cn w kn tn rn s)
      exact ⟨j + 1, by omega, by rw [← itS_s]; exact j2⟩
theorem inA_set {σ : zS} (h : inA σ) (x : Int32) : inA (setF σ x).2 := by
  obtain ⟨tx, n, fp, cn, w, kn, on, tn, rn, s⟩ := σ
  unfold setF
  by_cases z : refF rn (tmF s) x = 0
  · simp only [if_pos z]
    obtain ⟨r1, k, k1, k2, rfl, k3⟩ := ref_0 z
    rw [nI_clamp (by omega)]
    obtain ⟨j, j1, j2⟩ := stl_it (cn := cn) (w := w) (kn := kn) (on := on) (tn := tn) (rn := rn) k s
    rw [j2]
    exact inA_it h r1 j (by omega)
  · simp only [if_neg z]; exact h
theorem allX_of {σ : zS} (h : inA σ) (hr : 0 < σ.2.2.2.2.2.2.2.2.1) : allX σ := by
  obtain ⟨tx, n, fp, cn, w, kn, on, tn, rn, s⟩ := σ
  intro i hi
  have hr : 0 < rn := hr
  obtain ⟨⟨hF, j2, j3⟩, h80, hkn, hwW, ht0⟩ := inA_it h hr i (by omega)
  have hcn : 0 < cn := by
    rcases Nat.eq_zero_or_pos cn with z | z
    · have := (j2 z).2.2; omega
    · exact z
  obtain ⟨a1, a2⟩ := j3 hcn
  obtain ⟨b1, b2⟩ := hwW hcn
  exact okX_of a1 a2 h80 hF b2
