/-! THE MODEL: its face: read, robot, order, cancel -/
theorem mfR_up {f : Nat → Int32} {n : Nat} {fp : Int32} {cn w t rn A wy lg on tn : Nat} (h : mfR f n fp cn w t rn A wy lg on tn) {k : Nat} (x : Int32) (hk : k = 7 ∨ k = 8) : mfR (upd f k x) n fp cn w t rn A wy lg on tn := by
  obtain ⟨m0, m2, m3, m4, m11, m12, m19, m20, m21, m22, m28⟩ := h
  rcases hk with rfl | rfl
  all_goals
    refine ⟨?_, ?_, ?_, ?_, ?_, ?_, ?_, ?_, ?_, ?_, ?_⟩
    all_goals (rw [upk (by decide)]; assumption)
theorem mfR_2 {f : Nat → Int32} {n : Nat} {fp : Int32} {cn w t rn A wy lg on tn : Nat} (h : mfR f n fp cn w t rn A wy lg on tn) (x : Int32) : mfR (upd f 2 x) n x cn w t rn A wy lg on tn := by
  obtain ⟨m0, m2, m3, m4, m11, m12, m19, m20, m21, m22, m28⟩ := h
  refine ⟨?_, pk_us, ?_, ?_, ?_, ?_, ?_, ?_, ?_, ?_, ?_⟩
  all_goals (rw [upk (by decide)]; assumption)
theorem mfR_12 {f : Nat → Int32} {n : Nat} {fp : Int32} {cn w t rn A wy lg on tn : Nat} (h : mfR f n fp cn w t rn A wy lg on tn) (rn' : Nat) : mfR (upd f 12 (nI rn')) n fp cn w t rn' A wy lg on tn := by
  obtain ⟨m0, m2, m3, m4, m11, m12, m19, m20, m21, m22, m28⟩ := h
  refine ⟨?_, ?_, ?_, ?_, ?_, pk_us, ?_, ?_, ?_, ?_, ?_⟩
  all_goals (rw [upk (by decide)]; assumption)
theorem mfR_22 {f : Nat → Int32} {n : Nat} {fp : Int32} {cn w t rn A wy lg on tn : Nat} (h : mfR f n fp cn w t rn A wy lg on tn) (on' : Nat) : mfR (upd f 22 (nI on')) n fp cn w t rn A wy lg on' tn := by
  obtain ⟨m0, m2, m3, m4, m11, m12, m19, m20, m21, m22, m28⟩ := h
  refine ⟨?_, ?_, ?_, ?_, ?_, ?_, ?_, ?_, ?_, pk_us, ?_⟩
  all_goals (rw [upk (by decide)]; assumption)
theorem mfR_28 {f : Nat → Int32} {n : Nat} {fp : Int32} {cn w t rn A wy lg on tn : Nat} (h : mfR f n fp cn w t rn A wy lg on tn) (tn' : Nat) : mfR (upd f 28 (nI tn')) n fp cn w t rn A wy lg on tn' := by
  obtain ⟨m0, m2, m3, m4, m11, m12, m19, m20, m21, m22, m28⟩ := h
  refine ⟨?_, ?_, ?_, ?_, ?_, ?_, ?_, ?_, ?_, ?_, pk_us⟩
  all_goals (rw [upk (by decide)]; assumption)
theorem mfR_rd {f : Nat → Int32} {n : Nat} {fp : Int32} {cn w t rn A wy lg on tn : Nat} (h : mfR f n fp cn w t rn A wy lg on tn) (cn' w' : Nat) : mfR (fRd (upd (upd f 3 (nI cn')) 4 (nI w'))) n fp cn' w' 0 0 0 0 0 0 0 := by
  obtain ⟨m0, m2, m3, m4, m11, m12, m19, m20, m21, m22, m28⟩ := h
  unfold fRd
  refine ⟨?_, ?_, ?_, ?_, ?_, ?_, ?_, ?_, ?_, ?_, ?_⟩
  · rw [upk (by decide), upk (by decide), upk (by decide), upk (by decide), upk (by decide), upk (by decide), upk (by decide), upk (by decide), upk (by decide)]; exact m0
  · rw [upk (by decide), upk (by decide), upk (by decide), upk (by decide), upk (by decide), upk (by decide), upk (by decide), upk (by decide), upk (by decide)]; exact m2
  · rw [upk (by decide), upk (by decide), upk (by decide), upk (by decide), upk (by decide), upk (by decide), upk (by decide), upk (by decide), pk_us]
  · rw [upk (by decide), upk (by decide), upk (by decide), upk (by decide), upk (by decide), upk (by decide), upk (by decide), pk_us]
  · rw [upk (by decide), upk (by decide), upk (by decide), upk (by decide), upk (by decide), upk (by decide), pk_us]
  · rw [upk (by decide), upk (by decide), upk (by decide), upk (by decide), upk (by decide), pk_us]
  · rw [upk (by decide), upk (by decide), pk_us]
  · rw [upk (by decide), pk_us]
  · rw [pk_us]
  · rw [upk (by decide), upk (by decide), upk (by decide), upk (by decide), pk_us]
  · rw [upk (by decide), upk (by decide), upk (by decide), pk_us]
theorem md_read {G : fz_G} (σ : zS) (V : fz_W) (hV : mdR σ V) : fz_T G mX11_read rX11_read [zR 30 0] V (fun r U => r = some (zI (rdF σ).1) ∧ mdR (rdF σ).2 U) := by
  obtain ⟨tx, n, fp, cn, w, kn, on, tn, rn, O, T, P, te, B, t, A, wy, lg⟩ := σ
  obtain ⟨f, sg, ki, dr, fa, sn, wh, en, Rb, Od, Ta, re, le, hm, hn, htq, h80, hki, hfa, hmt, hrb, hod, hta, rfl⟩ := hV
  obtain ⟨m0, m2, m3, m4, m11, m12, m19, m20, m21, m22, m28⟩ := id hm
  refine fz_T.sup (tX11_read n hn f m0 sg tx htq ki dr fa sn) ⟨rfl, rfl, rfl, rfl, rfl, rfl, trivial⟩ (fun r U hq => ?_)
  obtain ⟨f', ki', dr', fa', sn', hQ, rfl⟩ := hq
  refine ⟨rfl, ?_⟩
  show r = _ ∧ mdR _ (wMd f' sg ki' dr' fa' sn' wh en Rb Od Ta re le)
  rcases hQ with ⟨a, b, v, p, hc, rfl, rfl, rfl, rfl⟩ | ⟨h1, h2, h3, rfl, rfl, hk', hf'⟩
  · have e : rdF (tx, n, fp, cn, w, kn, on, tn, rn, O, T, P, te, B, t, A, wy, lg) = (v, (tx, n, p, cn, w, kn, on, tn, rn, O, T, P, te, B, t, A, wy, lg)) := by
      unfold rdF
      rcases hc with ⟨h1, rfl, rfl⟩ | ⟨h1, h2, rfl, rfl⟩ | ⟨h1, h2, c, h3, rfl, rfl⟩
      · simp only [if_pos h1]
      · simp only [if_neg (show ¬ ¬ (scn tx n 0 0 0 0).1 = 0 from fun z => z h1), if_pos h2]
      · simp only [if_neg (show ¬ ¬ (scn tx n 0 0 0 0).1 = 0 from fun z => z h1), if_neg (show ¬ ¬ (hkd (ldk tx n) 2 (ldc tx n) && (hkd (ldk tx n) 3 (ldc tx n) && hkd (ldk tx n) 4 (ldc tx n))) = true from fun z => z h2), h3]
    rw [e]
    exact ⟨rfl, _, sg, ki', dr', fa', sn', wh, en, Rb, Od, Ta, re, le, mfR_2 (mfR_up (mfR_up (mfR_2 hm _) _ (Or.inl rfl)) _ (Or.inr rfl)) _, hn, htq, h80, hki, hfa, hmt, hrb, hod, hta, rfl⟩
  · obtain ⟨s1, s2, s3, s4, s5, s6⟩ := scn_all h1
    have e : rdF (tx, n, fp, cn, w, kn, on, tn, rn, O, T, P, te, B, t, A, wy, lg) = (nI (ldc tx n), (tx, n, -1, ldc tx n, (scn tx n 0 0 0 0).2.2, ldk tx n, 0, 0, 0, O, T, P, te, B, 0, 0, 0, 0)) := by
      unfold rdF
      simp only [if_neg (show ¬ ¬ (scn tx n 0 0 0 0).1 = 0 from fun z => z h1), if_neg (show ¬ ¬ (hkd (ldk tx n) 2 (ldc tx n) && (hkd (ldk tx n) 3 (ldc tx n) && hkd (ldk tx n) 4 (ldc tx n))) = true from fun z => z h2), h3]
    rw [e]
    refine ⟨rfl, _, sg, ki', dr', fa', sn', wh, en, Rb, Od, Ta, re, le, mfR_rd (mfR_up (mfR_up (mfR_2 hm _) _ (Or.inl rfl)) _ (Or.inr rfl)) _ _, hn, htq, s4, fun j hj => ⟨hk' j hj, by have := ldk_le tx n s3 j; omega⟩, hf', fun q hq => absurd hq (Nat.not_lt_zero q), fun q hq => absurd hq (Nat.not_lt_zero q), fun q hq => absurd hq (Nat.not_lt_zero q), fun q hq => absurd hq (Nat.not_lt_zero q), rfl⟩
theorem lX11_robot {G : fz_G} {E0 : Nat → fz_E} {Z : List Frame → Array Value → State → State → Prop} (f sg ki dr fa sn wh en : Nat → Int32) (Rb Od Ta : Nat → Nat → Int32) (re le : Nat → Int32) (E : Nat → Nat) (rn : Nat) (hrn : rn ≤ 6) (m12 : f 12 = nI rn) (P : Nat → Nat → Nat) (te : Nat → Nat) (h : mtR E rn P te wh en) (c : Nat) (hc : c < 80)
    (kno : (∀ q, q < rn → ¬ P q 0 = c) → fz_J G mX11_robot rX11_robot Z E0 0 0 69 [(2, zI (nI rn)), (0, zR 30 0), (1, zI (nI c))] [] (wMd f sg ki dr fa sn wh en Rb Od Ta re le))
    (kyes : (∃ q, q < rn ∧ P q 0 = c) → ∀ v, fz_J G mX11_robot rX11_robot Z E0 0 0 61 [(2, v), (0, zR 30 0), (1, zI (nI c))] [] (wMd f sg ki dr fa sn wh en Rb Od Ta re le)) :
    ∀ q i, i + q = rn → (∀ j, j < i → ¬ P j 0 = c) → fz_J G mX11_robot rX11_robot Z E0 0 0 43 [(2, zI (nI i)), (0, zR 30 0), (1, zI (nI c))] [] (wMd f sg ki dr fa sn wh en Rb Od Ta re le) := by
  intro q
  induction q with
  | zero =>
    intro i hi hno
    have e : i = rn := by omega
    subst e
    refine fz_iload_n dX11_robot_43 rfl ?_
    refine fz_aload_n dX11_robot_44 rfl ?_
    refine fz_get dX11_robot_45 fX11_144 rfl (Nat.one_pos) rfl ?_
    rw [m12]
    refine fz_icmp_ge (tgt := 69) dX11_robot_48 (by decide) (fun c48 => ?_) (fun c48 => ?_)
    · exact kno hno
    · exact absurd (nI_le (Nat.le_refl _) (by omega)) c48
  | succ q ih =>
    intro i hi hno
    refine fz_iload_n dX11_robot_43 rfl ?_
    refine fz_aload_n dX11_robot_44 rfl ?_
    refine fz_get dX11_robot_45 fX11_144 rfl (Nat.one_pos) rfl ?_
    rw [m12]
    refine fz_icmp_ge (tgt := 69) dX11_robot_48 (by decide) (fun c48 => ?_) (fun c48 => ?_)
    · exact absurd ((nI_leI (by omega) (by omega)).mp c48) (by omega)
    · have hP := (h i (by omega)).2.2.2.2.2 0
      refine fz_aload_n dX11_robot_51 rfl ?_
      refine fz_iload_n dX11_robot_52 rfl ?_
      refine fz_iconst (v := nI 0) dX11_robot_53 (by decide) ?_
      refine fz_callV (tX11_at f wh en _ rn hrn P te h i 0 (by omega) (by omega)) dX11_robot_54 kX11_166 rfl (Nat.one_pos) ⟨rfl, rfl, rfl, trivial⟩ (Nat.le_of_ble_eq_true rfl) (Nat.le_of_ble_eq_true rfl) (Nat.le_of_ble_eq_true rfl) (Nat.le_of_ble_eq_true rfl) (Nat.le_of_ble_eq_true rfl) rfl (fun r U hq => ?_)
      obtain ⟨rfl, rfl⟩ := hq
      refine fz_back rfl ?_
      refine fz_wo (V' := wMd f sg ki dr fa sn wh en Rb Od Ta re le) rfl ?_
      refine fz_iload_n dX11_robot_57 rfl ?_
      refine fz_icmp_ne (tgt := 63) dX11_robot_58 (by decide) (fun c58 => ?_) (fun c58 => ?_)
      · skip
        refine fz_incN dX11_robot_63 rfl (Nat.le_of_ble_eq_true rfl) ?_
        refine fz_goto (tgt := 43) dX11_robot_66 (by decide) ?_
        refine ih (i + 1) (by omega) (fun j hj => ?_)
        rcases Nat.lt_or_ge j i with z | z
        · exact hno j z
        · have e : j = i := by omega
          intro y
          rw [e] at y
          exact c58 (by rw [y])
      · exact kyes ⟨i, by omega, (nI_eq (by omega) (by omega)).mp c58⟩ _
theorem mtR_add {rn : Nat} {P : Nat → Nat → Nat} {te : Nat → Nat} {wh en : Nat → Int32} {c t : Nat} (hrn : rn < 6) (hc : c < 80) (ht : t = 0) (h0 : ∀ q, q < rn → te q = 0) (h : mtR (mxE te (fun _ => t)) rn P te wh en) : mtR (mxE (adE te rn) (fun _ => t)) (rn + 1) (adP P rn c) (adE te rn) (upd wh (5200 * rn) (nI c)) (upd en rn (nI 0)) := by
  subst ht
  intro q hq
  by_cases e : q = rn
  · subst e
    have e2 : adE te q q = 0 := by unfold adE; rw [if_pos rfl]
    have e3 : ∀ τ, adP P q c q τ = c := fun τ => by unfold adP; rw [if_pos rfl]
    have e4 : mxE (adE te q) (fun _ => 0) q = 0 := by show max (adE te q q) 0 = 0; rw [e2]; rfl
    rw [e4, e2]
    refine ⟨pk_us, Nat.le_refl _, by omega, fun τ hτ => ?_, fun τ _ => by rw [e3, e3], fun τ => by rw [e3]; exact hc⟩
    have : τ = 0 := by omega
    subst this
    rw [Nat.add_zero, pk_us, e3]
  · obtain ⟨h1, h2, h3, h4, h5, h6⟩ := h q (by omega)
    have e2 : adE te rn q = te q := by unfold adE; rw [if_neg e]
    have e3 : ∀ τ, adP P rn c q τ = P q τ := fun τ => by unfold adP; rw [if_neg e]
    have e4 : mxE (adE te rn) (fun _ => 0) q = mxE te (fun _ => 0) q := by show max (adE te rn q) 0 = max (te q) 0; rw [e2]
    rw [e4, e2]
    exact ⟨by rw [pk_un e]; exact h1, h2, h3, fun τ hτ => by rw [e3, pk_un (by omega)]; exact h4 τ hτ, fun τ hτ => by rw [e3, e3]; exact h5 τ hτ, fun τ => by rw [e3]; exact h6 τ⟩
theorem rbR_add {rn : Nat} {B Rb : Nat → Nat → Int32} (h : rbR rn B Rb) : rbR (rn + 1) (va_up B rn (roN (B rn))) (va_up (va_up (va_up (va_up Rb 0 (upd (Rb 0) rn (-1))) 1 (upd (Rb 1) rn (nI 0))) 2 (upd (Rb 2) rn (nI 0))) 3 (upd (Rb 3) rn (nI 0))) := by
  intro q hq j hj
  rcases (show j = 0 ∨ j = 1 ∨ j = 2 ∨ j = 3 by omega) with rfl | rfl | rfl | rfl
  · rw [va_up_ne _ _ (by decide), va_up_ne _ _ (by decide), va_up_ne _ _ (by decide), va_up_self]
    by_cases e : q = rn
    · rw [e, pk_us, va_up_self]; unfold roN; rw [upk (by decide), upk (by decide), upk (by decide), pk_us]
    · rw [pk_un e, va_up_ne _ _ e]; exact h q (by omega) _ hj
  · rw [va_up_ne _ _ (by decide), va_up_ne _ _ (by decide), va_up_self]
    by_cases e : q = rn
    · rw [e, pk_us, va_up_self]; unfold roN; rw [upk (by decide), upk (by decide), pk_us]
    · rw [pk_un e, va_up_ne _ _ e]; exact h q (by omega) _ hj
  · rw [va_up_ne _ _ (by decide), va_up_self]
    by_cases e : q = rn
    · rw [e, pk_us, va_up_self]; unfold roN; rw [upk (by decide), pk_us]
    · rw [pk_un e, va_up_ne _ _ e]; exact h q (by omega) _ hj
  · rw [va_up_self]
    by_cases e : q = rn
    · rw [e, pk_us, va_up_self]; unfold roN; rw [pk_us]
    · rw [pk_un e, va_up_ne _ _ e]; exact h q (by omega) _ hj
theorem md_robot {G : fz_G} (σ : zS) (V : fz_W) (hI : inZ σ) (ht0 : tmF σ.2.2.2.2.2.2.2.2.2 = 0 → ∀ q, q < σ.2.2.2.2.2.2.2.2.1 → σ.2.2.2.2.2.2.2.2.2.2.2.2.1 q = 0) (hV : mdR σ V) (x : Int32) : fz_T G mX11_robot rX11_robot [zR 30 0, zI x] V (fun r U => r = some (zI (robF σ x).1) ∧ mdR (robF σ x).2 U) := by
  obtain ⟨tx, n, fp, cn, w, kn, on, tn, rn, O, T, P, te, B, t, A, wy, lg⟩ := σ
  obtain ⟨i1, i2, i3, i4, i5, i6, i7, i8, i9⟩ := hI.1
  have ht0 : t = 0 → ∀ q, q < rn → te q = 0 := ht0
  have hV2 := hV
  obtain ⟨f, sg, ki, dr, fa, sn, wh, en, Rb, Od, Ta, re, le, hm, hn, htq, h80, hki, hfa, hmt, hrb, hod, hta, rfl⟩ := hV2
  obtain ⟨m0, m2, m3, m4, m11, m12, m19, m20, m21, m22, m28⟩ := id hm
  refine fz_T.of (by decide) (Nat.le_of_ble_eq_true rfl) (fun E0 => ?_)
  have out : cn = 0 ∨ ¬ t = 0 → fz_J G mX11_robot rX11_robot (fz_Z G E0 rX11_robot.cells rX11_robot.slots (fun r U => r = some (zI (robF (tx, n, fp, cn, w, kn, on, tn, rn, O, T, P, te, B, t, A, wy, lg) x).1) ∧ mdR (robF (tx, n, fp, cn, w, kn, on, tn, rn, O, T, P, te, B, t, A, wy, lg) x).2 U)) E0 0 0 14 [(0, zR 30 0), (1, zI x)] [] (wMd f sg ki dr fa sn wh en Rb Od Ta re le) := by
    intro h
    have e : robF (tx, n, fp, cn, w, kn, on, tn, rn, O, T, P, te, B, t, A, wy, lg) x = (-4, (tx, n, fp, cn, w, kn, on, tn, rn, O, T, P, te, B, t, A, wy, lg)) := by unfold robF; simp only [if_pos h]
    rw [e]
    refine fz_bipush (v := -4) dX11_robot_14 (by decide) ?_
    refine fz_iret dX11_robot_16 rfl (Nat.zero_le _) (Nat.zero_le _) ⟨rfl, hV⟩
  refine fz_aload_n dX11_robot_0 rfl ?_
  refine fz_get dX11_robot_1 fX11_132 rfl (Nat.one_pos) rfl ?_
  rw [m3]
  refine fz_if_eq (tgt := 14) dX11_robot_4 (by decide) (fun c4 => ?_) (fun c4 => ?_)
  · exact out (Or.inl ((nI_eq (a := cn) (b := 0) (by omega) (by omega)).mp (c4.trans nI_0.symm)))
  · have hc0 : ¬ cn = 0 := fun z => c4 (by rw [z]; exact nI_0)
    refine fz_aload_n dX11_robot_7 rfl ?_
    refine fz_get dX11_robot_8 fX11_141 rfl (Nat.one_pos) rfl ?_
    rw [m11]
    refine fz_if_le (tgt := 17) dX11_robot_11 (by decide) (fun c11 => ?_) (fun c11 => ?_)
    · have ht : t = 0 := by
        have := (nI_leI (a := t) (b := 0) (by omega) (by omega)).mp (by rw [nI_0]; exact c11)
        omega
      have hno1 : ¬ (cn = 0 ∨ ¬ t = 0) := by omega
      refine fz_aload_n dX11_robot_17 rfl ?_
      refine fz_iload_n dX11_robot_18 rfl ?_
      refine fz_iconst (v := nI 4) dX11_robot_19 (by decide) ?_
      refine fz_callV (tX11_isKind f ki cn kn h80 m3 hki x 4 (by omega)) dX11_robot_20 kX11_169 rfl (Nat.one_pos) ⟨rfl, rfl, trivial⟩ (Nat.le_of_ble_eq_true rfl) (Nat.le_of_ble_eq_true rfl) (Nat.le_of_ble_eq_true rfl) (Nat.le_of_ble_eq_true rfl) (Nat.le_of_ble_eq_true rfl) rfl (fun r U hq => ?_)
      obtain ⟨rfl, rfl⟩ := hq
      refine fz_back rfl ?_
      refine fz_wo (V' := wMd f sg ki dr fa sn wh en Rb Od Ta re le) rfl ?_
      by_cases hk : celK cn kn x = nI 4
      · rw [decide_eq_true hk]
        have hno2 : ¬ ¬ celK cn kn x = nI 4 := fun z => z hk
        refine fz_if_ne (tgt := 29) dX11_robot_23 (by decide) (fun c23 => ?_) (fun c23 => ?_)
        · skip
          refine fz_aload_n dX11_robot_29 rfl ?_
          refine fz_get dX11_robot_30 fX11_144 rfl (Nat.one_pos) rfl ?_
          refine fz_bipush (v := nI 6) dX11_robot_33 (by decide) ?_
          rw [m12]
          refine fz_icmp_ne (tgt := 41) dX11_robot_35 (by decide) (fun c35 => ?_) (fun c35 => ?_)
          · have hr6 : ¬ rn = 6 := fun z => c35 (by rw [z])
            rcases ix_cases x (n := cn) (by omega) with h | ⟨c, hc, rfl⟩
            · exfalso
              unfold celK at hk
              rw [if_pos h] at hk
              exact absurd hk (by decide)
            · have hcl : (nI c).toNatClampNeg = c := nI_clamp (by omega)
              refine fz_iconst (v := nI 0) dX11_robot_41 (by decide) ?_
              refine fz_istore_n dX11_robot_42 (Nat.le_of_ble_eq_true rfl) ?_
              refine lX11_robot f sg ki dr fa sn wh en Rb Od Ta re le _ rn i3 m12 P te hmt c (by omega) ?_ ?_ rn 0 (by omega) (fun j hj => absurd hj (Nat.not_lt_zero j))
              · intro hno
                have hE : ¬ eoB P te rn c rn = true := by
                  intro z
                  obtain ⟨q, q1, q2, q3⟩ := (eoB_iff rn).mp z
                  rw [ht0 ht q q1] at q3
                  exact hno q q1 q3
                have e : robF (tx, n, fp, cn, w, kn, on, tn, rn, O, T, P, te, B, t, A, wy, lg) (nI c) = (nI rn, (tx, n, fp, cn, w, kn, on, tn, rn + 1, O, T, adP P rn c, adE te rn, va_up B rn (roN (B rn)), t, A, wy, lg)) := by unfold robF; simp only [if_neg hno1, if_neg hno2, if_neg hr6, hcl, if_neg hE]
                rw [e]
                refine fz_aload_n dX11_robot_69 rfl ?_
                refine fz_get dX11_robot_70 fX11_30 rfl (Nat.one_pos) rfl ?_
                refine fz_sipush (v := nI 5200) dX11_robot_73 (by decide) ?_
                refine fz_aload_n dX11_robot_76 rfl ?_
                refine fz_get dX11_robot_77 fX11_144 rfl (Nat.one_pos) rfl ?_
                rw [m12]
                refine fz_imul dX11_robot_80 ?_
                rw [nI_mul]
                refine fz_iload_n dX11_robot_81 rfl ?_
                refine fz_iast1 dX11_robot_82 rfl rfl (vp_in_nI (by omega) (by omega)) ?_
                rw [nI_clamp (by omega)]
                refine fz_aload_n dX11_robot_83 rfl ?_
                refine fz_get dX11_robot_84 fX11_33 rfl (Nat.one_pos) rfl ?_
                refine fz_aload_n dX11_robot_87 rfl ?_
                refine fz_get dX11_robot_88 fX11_144 rfl (Nat.one_pos) rfl ?_
                rw [m12]
                refine fz_iconst (v := nI 0) dX11_robot_91 (by decide) ?_
                refine fz_iast1 dX11_robot_92 rfl rfl (vp_in_nI (by omega) (by omega)) ?_
                rw [nI_clamp (by omega)]
                refine fz_aload_n dX11_robot_93 rfl ?_
                refine fz_get dX11_robot_94 fX11_36 rfl (Nat.one_pos) rfl ?_
                refine fz_aload_n dX11_robot_97 rfl ?_
                refine fz_get dX11_robot_98 fX11_144 rfl (Nat.one_pos) rfl ?_
                rw [m12]
                refine fz_iconst (v := -1) dX11_robot_101 (by decide) ?_
                refine fz_iast1 dX11_robot_102 rfl rfl (vp_in_nI (by omega) (by omega)) ?_
                rw [nI_clamp (by omega)]
                refine fz_aload_n dX11_robot_103 rfl ?_
                refine fz_get dX11_robot_104 fX11_39 rfl (Nat.one_pos) rfl ?_
                refine fz_aload_n dX11_robot_107 rfl ?_
                refine fz_get dX11_robot_108 fX11_144 rfl (Nat.one_pos) rfl ?_
                rw [m12]
                refine fz_iconst (v := nI 0) dX11_robot_111 (by decide) ?_
                refine fz_iast1 dX11_robot_112 rfl rfl (vp_in_nI (by omega) (by omega)) ?_
                rw [nI_clamp (by omega)]
                refine fz_aload_n dX11_robot_113 rfl ?_
                refine fz_get dX11_robot_114 fX11_42 rfl (Nat.one_pos) rfl ?_
                refine fz_aload_n dX11_robot_117 rfl ?_
                refine fz_get dX11_robot_118 fX11_144 rfl (Nat.one_pos) rfl ?_
                rw [m12]
                refine fz_iconst (v := nI 0) dX11_robot_121 (by decide) ?_
                refine fz_iast1 dX11_robot_122 rfl rfl (vp_in_nI (by omega) (by omega)) ?_
                rw [nI_clamp (by omega)]
                refine fz_aload_n dX11_robot_123 rfl ?_
                refine fz_get dX11_robot_124 fX11_45 rfl (Nat.one_pos) rfl ?_
                refine fz_aload_n dX11_robot_127 rfl ?_
                refine fz_get dX11_robot_128 fX11_144 rfl (Nat.one_pos) rfl ?_
                rw [m12]
                refine fz_iconst (v := nI 0) dX11_robot_131 (by decide) ?_
                refine fz_iast1 dX11_robot_132 rfl rfl (vp_in_nI (by omega) (by omega)) ?_
                rw [nI_clamp (by omega)]
                refine fz_aload_n dX11_robot_133 rfl ?_
                refine fz_dup dX11_robot_134 rfl ?_
                refine fz_get dX11_robot_135 fX11_144 rfl (Nat.one_pos) rfl ?_
                rw [m12]
                refine fz_iconst (v := nI 1) dX11_robot_138 (by decide) ?_
                refine fz_iadd dX11_robot_139 ?_
                rw [nI_add]
                refine fz_putM dX11_robot_140 fX11_144 (by decide) rfl ⟨rfl, rfl⟩ ?_
                refine fz_aload_n dX11_robot_143 rfl ?_
                refine fz_get dX11_robot_144 fX11_144 rfl (Nat.one_pos) rfl ?_
                rw [pk_us]
                refine fz_iconst (v := nI 1) dX11_robot_147 (by decide) ?_
                refine fz_isub dX11_robot_148 ?_
                rw [nI_sub1]
                refine fz_wo (V' := wMd (upd f 12 (nI (rn + 1))) sg ki dr fa sn (upd wh (5200 * rn) (nI c)) (upd en rn (nI 0)) (va_up (va_up (va_up (va_up Rb 0 (upd (Rb 0) rn (-1))) 1 (upd (Rb 1) rn (nI 0))) 2 (upd (Rb 2) rn (nI 0))) 3 (upd (Rb 3) rn (nI 0))) Od Ta re le) rfl ?_
                have res : mdR (tx, n, fp, cn, w, kn, on, tn, rn + 1, O, T, adP P rn c, adE te rn, va_up B rn (roN (B rn)), t, A, wy, lg) (wMd (upd f 12 (nI (rn + 1))) sg ki dr fa sn (upd wh (5200 * rn) (nI c)) (upd en rn (nI 0)) (va_up (va_up (va_up (va_up Rb 0 (upd (Rb 0) rn (-1))) 1 (upd (Rb 1) rn (nI 0))) 2 (upd (Rb 2) rn (nI 0))) 3 (upd (Rb 3) rn (nI 0))) Od Ta re le) := ⟨_, sg, ki, dr, fa, sn, _, _, _, Od, Ta, re, le, mfR_12 hm _, hn, htq, h80, hki, hfa, mtR_add (by omega) (by omega) ht (ht0 ht) hmt, rbR_add hrb, hod, hta, rfl⟩
                refine fz_iret dX11_robot_149 rfl (Nat.zero_le _) (Nat.zero_le _) ⟨rfl, res⟩
              · intro hyes v
                have hE : eoB P te rn c rn = true := by
                  obtain ⟨q, q1, q2⟩ := hyes
                  exact (eoB_iff rn).mpr ⟨q, q1, by omega, by rw [ht0 ht q q1]; exact q2⟩
                have e : robF (tx, n, fp, cn, w, kn, on, tn, rn, O, T, P, te, B, t, A, wy, lg) (nI c) = (-1, (tx, n, fp, cn, w, kn, on, tn, rn, O, T, P, te, B, t, A, wy, lg)) := by unfold robF; simp only [if_neg hno1, if_neg hno2, if_neg hr6, hcl, if_pos hE]
                rw [e]
                refine fz_iconst (v := -1) dX11_robot_61 (by decide) ?_
                refine fz_iret dX11_robot_62 rfl (Nat.zero_le _) (Nat.zero_le _) ⟨rfl, hV⟩
          · have hr6 : rn = 6 := (nI_eq (by omega) (by omega)).mp c35
            have e : robF (tx, n, fp, cn, w, kn, on, tn, rn, O, T, P, te, B, t, A, wy, lg) x = (-3, (tx, n, fp, cn, w, kn, on, tn, rn, O, T, P, te, B, t, A, wy, lg)) := by unfold robF; simp only [if_neg hno1, if_neg hno2, if_pos hr6]
            rw [e]
            refine fz_bipush (v := -3) dX11_robot_38 (by decide) ?_
            refine fz_iret dX11_robot_40 rfl (Nat.zero_le _) (Nat.zero_le _) ⟨rfl, hV⟩
        · exact absurd c23 (by decide)
      · rw [decide_eq_false hk]
        refine fz_if_ne (tgt := 29) dX11_robot_23 (by decide) (fun c23 => ?_) (fun c23 => ?_)
        · exact absurd rfl c23
        · skip
          have e : robF (tx, n, fp, cn, w, kn, on, tn, rn, O, T, P, te, B, t, A, wy, lg) x = (-2, (tx, n, fp, cn, w, kn, on, tn, rn, O, T, P, te, B, t, A, wy, lg)) := by unfold robF; simp only [if_neg hno1, if_pos hk]
          rw [e]
          refine fz_bipush (v := -2) dX11_robot_26 (by decide) ?_
          refine fz_iret dX11_robot_28 rfl (Nat.zero_le _) (Nat.zero_le _) ⟨rfl, hV⟩
    · exact out (Or.inr (fun z => c11 (by rw [z]; decide)))
