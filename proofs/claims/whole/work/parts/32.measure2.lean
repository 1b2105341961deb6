/-! measureFrom, isJoinedToAll, firstPlaceApart -/
def exT (thr : Bool) (kn : Nat → Nat) (s : Nat) : Nat → Bool := fun c => thr || (c == s || decide (¬ 1 < kn c))
noncomputable def dsw (cn w : Nat) (kn : Nat → Nat) (ex : Nat → Bool) (s d : Nat) : Option Nat := if kn s = 0 then none else dsp cn w kn ex s d
def bI (b : Bool) : Int32 := if b then 1 else 0
/-- what a search leaves in far -/
def FD (cn w : Nat) (kn : Nat → Nat) (ex : Nat → Bool) (s : Nat) (F : Nat → Int32) : Prop := ∀ d, d < cn → F d = oI (dsw cn w kn ex s d) ∧ ∀ k, dsw cn w kn ex s d = some k → k < cn
theorem lX1_measureFrom {G : fz_G} {E0 : Nat → fz_E} (g : Nat) (hg : g < 2) (sz wd : Nat → Int32) (st : Nat → Nat → Int32) (op : Nat → Nat → Int64) (ki fa qu : Nat → Nat → Int32) (cn w : Nat) (kn : Nat → Nat) (thr : Bool) (s : Nat) (hK : gK cn w kn (sz g) (wd g) (ki g)) (hS : gS w (st g)) (hO : gO cn w kn (op g)) (hs : s < cn) (hsw : ¬ kn s = 0) :
    ∀ q i, i + q = cn → ∀ (fn : Nat → Option Nat) (qn : Nat → Nat) (f : Nat) (F Q : Nat → Int32), BI cn w kn (exT thr kn s) s i 1 fn qn f → fR cn F fn → qR Q qn f → fz_J G mX1_measureFrom rX1_measureFrom (fz_Z G E0 0 0 (fun r U => r = none ∧ ∃ F' Q', FD cn w kn (exT thr kn s) s F' ∧ U = wMe sz wd st op ki fa qu g F' Q')) E0 0 0 37 [(4, zI (nI i)), (3, zI (nI f)), (0, zR 2 g), (1, zI (nI s)), (2, zI (bI thr))] [] (wMe sz wd st op ki fa qu g F Q) := by
  obtain ⟨k1, k2, k3, k4, k5, k6, k7⟩ := hK
  intro q
  have fin : ∀ i (fn : Nat → Option Nat) (qn : Nat → Nat) (f : Nat) (F : Nat → Int32), BI cn w kn (exT thr kn s) s i 1 fn qn f → fR cn F fn → f ≤ i → FD cn w kn (exT thr kn s) s F := by
    intro i fn qn f F hB hF hfi d hd
    obtain ⟨e1, e2⟩ := BI.end k1 k4 hB hfi d hd
    have e3 : dsw cn w kn (exT thr kn s) s d = fn d := by unfold dsw; rw [if_neg hsw, e1]
    rw [e3]
    exact ⟨hF d hd, e2⟩
  induction q with
  | zero =>
    intro i hi fn qn f F Q hB hF hQ
    have hfl := hB.f_le
    refine fz_iload dX1_measureFrom_37 rfl ?_
    refine fz_iload_n dX1_measureFrom_39 rfl ?_
    refine fz_icmp_ge (tgt := 94) dX1_measureFrom_40 (by decide) (fun c40 => ?_) (fun c40 => ?_)
    · skip
      refine fz_vret dX1_measureFrom_94 rfl (Nat.zero_le _) (Nat.zero_le _) ⟨rfl, F, Q, fin i fn qn f F hB hF (by omega), rfl⟩
    · exact absurd (nI_le (by omega) (by omega)) c40
  | succ q ih =>
    intro i hi fn qn f F Q hB hF hQ
    have hfl := hB.f_le
    refine fz_iload dX1_measureFrom_37 rfl ?_
    refine fz_iload_n dX1_measureFrom_39 rfl ?_
    refine fz_icmp_ge (tgt := 94) dX1_measureFrom_40 (by decide) (fun c40 => ?_) (fun c40 => ?_)
    · have hfi : f ≤ i := (nI_leI (by omega) (by omega)).mp c40
      refine fz_vret dX1_measureFrom_94 rfl (Nat.zero_le _) (Nat.zero_le _) ⟨rfl, F, Q, fin i fn qn f F hB hF hfi, rfl⟩
    · have hif : i < f := by
        rcases Nat.lt_or_ge i f with z | z
        · exact z
        · exact absurd (nI_le z (by omega)) c40
      refine fz_iload dX1_measureFrom_43 rfl ?_
      refine fz_aload_n dX1_measureFrom_45 rfl ?_
      refine fz_get dX1_measureFrom_46 fX1_28 rfl (hg) rfl ?_
      rw [k5]
      refine fz_icmp_ge (tgt := 94) dX1_measureFrom_49 (by decide) (fun c49 => ?_) (fun c49 => ?_)
      · exact absurd ((nI_leI (by omega) (by omega)).mp c49) (by omega)
      · have hqi := (hB.2.1 i hif).1
        refine fz_aload_n dX1_measureFrom_52 rfl ?_
        refine fz_get dX1_measureFrom_53 fX1_25 rfl (hg) rfl ?_
        refine fz_iload dX1_measureFrom_56 rfl ?_
        refine fz_ialdu dX1_measureFrom_58 rfl rfl (hg) (vp_in_nI (by omega) (by omega)) ?_
        rw [nI_clamp (by omega), hQ i hif]
        have go : exT thr kn s (qn i) = true → fz_J G mX1_measureFrom rX1_measureFrom (fz_Z G E0 0 0 (fun r U => r = none ∧ ∃ F' Q', FD cn w kn (exT thr kn s) s F' ∧ U = wMe sz wd st op ki fa qu g F' Q')) E0 0 0 80 [(5, zI (nI (qn i))), (4, zI (nI i)), (3, zI (nI f)), (0, zR 2 g), (1, zI (nI s)), (2, zI (bI thr))] [] (wMe sz wd st op ki fa qu g F Q) := by
          intro hx
          refine fz_aload_n dX1_measureFrom_80 rfl ?_
          refine fz_iload dX1_measureFrom_81 rfl ?_
          refine fz_iload_n dX1_measureFrom_83 rfl ?_
          refine fz_callV (tX1_measureAround g hg sz wd st op ki fa qu F Q cn w kn (exT thr kn s) s i f fn qn k1 k3 k4 hS hO hB hF hQ hif hx) dX1_measureFrom_84 kX1_89 rfl (hg) ⟨rfl, rfl, rfl, rfl, rfl, rfl, trivial⟩ (Nat.le_of_ble_eq_true rfl) (Nat.le_of_ble_eq_true rfl) (Nat.le_of_ble_eq_true rfl) (Nat.le_of_ble_eq_true rfl) (Nat.le_of_ble_eq_true rfl) rfl (fun r U hq => ?_)
          obtain ⟨fn', qn', f', F', Q', rfl, hB', hF', hQ', hff, rfl⟩ := hq
          refine fz_back rfl ?_
          refine fz_wo (V' := wMe sz wd st op ki fa qu g F' Q') rfl ?_
          refine fz_istore_n dX1_measureFrom_87 (Nat.le_of_ble_eq_true rfl) ?_
          refine fz_incN dX1_measureFrom_88 rfl (Nat.le_of_ble_eq_true rfl) ?_
          refine fz_goto (tgt := 37) dX1_measureFrom_91 (by decide) ?_
          refine fz_pk [0, 1, 3, 4, 5] rfl ?_
          exact ih (i + 1) (by omega) fn' qn' f' F' Q' (hB'.next (by omega) (Or.inl (Nat.le_refl _))) hF' hQ'
        refine fz_istore dX1_measureFrom_59 (Nat.le_of_ble_eq_true rfl) ?_
        refine fz_iload_n dX1_measureFrom_61 rfl ?_
        cases thr with
        | true =>
          refine fz_if_ne (tgt := 80) dX1_measureFrom_62 (by decide) (fun c62 => ?_) (fun c62 => ?_)
          · exact go rfl
          · exact absurd c62 (by decide)
        | false =>
          refine fz_if_ne (tgt := 80) dX1_measureFrom_62 (by decide) (fun c62 => ?_) (fun c62 => ?_)
          · exact absurd rfl c62
          · skip
            refine fz_iload dX1_measureFrom_65 rfl ?_
            refine fz_iload_n dX1_measureFrom_67 rfl ?_
            refine fz_icmp_eq (tgt := 80) dX1_measureFrom_68 (by decide) (fun c68 => ?_) (fun c68 => ?_)
            · have e : qn i = s := (nI_eq (by omega) (by omega)).mp c68
              exact go (by unfold exT; simp [e])
            · have e : ¬ qn i = s := fun z => c68 (by rw [z])
              have hk7 := k7 (qn i) hqi
              refine fz_aload_n dX1_measureFrom_71 rfl ?_
              refine fz_iload dX1_measureFrom_72 rfl ?_
              refine fz_callV (tX1_isPlace g hg sz wd ki (qn i) (kn (qn i)) (by omega) (by omega) hk7.1) dX1_measureFrom_74 kX1_76 rfl (hg) ⟨rfl, rfl, trivial⟩ (Nat.le_of_ble_eq_true rfl) (Nat.le_of_ble_eq_true rfl) (Nat.le_of_ble_eq_true rfl) (Nat.le_of_ble_eq_true rfl) (Nat.le_of_ble_eq_true rfl) rfl (fun r U hq => ?_)
              obtain ⟨rfl, rfl⟩ := hq
              refine fz_back rfl ?_
              refine fz_wo (V' := wMe sz wd st op ki fa qu g F Q) rfl ?_
              by_cases hp : 1 < kn (qn i)
              · rw [if_pos hp]
                refine fz_if_ne (tgt := 88) dX1_measureFrom_77 (by decide) (fun c77 => ?_) (fun c77 => ?_)
                · skip
                  refine fz_incN dX1_measureFrom_88 rfl (Nat.le_of_ble_eq_true rfl) ?_
                  refine fz_goto (tgt := 37) dX1_measureFrom_91 (by decide) ?_
                  refine fz_pk [0, 2, 3, 4, 5] rfl ?_
                  exact ih (i + 1) (by omega) fn qn f F Q (hB.next hif (Or.inr (by unfold exT; simp [e, hp]))) hF hQ
                · exact absurd c77 (by decide)
              · rw [if_neg hp]
                refine fz_if_ne (tgt := 88) dX1_measureFrom_77 (by decide) (fun c77 => ?_) (fun c77 => ?_)
                · exact absurd rfl c77
                · exact go (by unfold exT; simp [hp])
theorem tX1_measureFrom {G : fz_G} (g : Nat) (hg : g < 2) (sz wd : Nat → Int32) (st : Nat → Nat → Int32) (op : Nat → Nat → Int64) (ki fa qu : Nat → Nat → Int32) (F Q : Nat → Int32) (cn w : Nat) (kn : Nat → Nat) (thr : Bool) (s : Nat) (hK : gK cn w kn (sz g) (wd g) (ki g)) (hS : gS w (st g)) (hO : gO cn w kn (op g)) (hs : s < cn) :
    fz_T G mX1_measureFrom rX1_measureFrom [zR 2 g, zI (nI s), zI (bI thr)] (wMe sz wd st op ki fa qu g F Q) (fun r U => r = none ∧ ∃ F' Q', FD cn w kn (exT thr kn s) s F' ∧ U = wMe sz wd st op ki fa qu g F' Q') := by
  refine fz_T.of (by decide) (Nat.le_of_ble_eq_true rfl) (fun E0 => ?_)
  have hK' := hK
  obtain ⟨k1, k2, k3, k4, k5, k6, k7⟩ := hK
  have hks := k7 s hs
  refine fz_aload_n dX1_measureFrom_0 rfl ?_
  refine fz_get dX1_measureFrom_1 fX1_22 rfl (hg) rfl ?_
  refine fz_iconst (v := -1) dX1_measureFrom_4 (by decide) ?_
  refine fz_callS (tJ7_fill_6 fa g hg (-1) F) dX1_measureFrom_5 kX1_86 ⟨rfl, trivial⟩ (Nat.le_of_ble_eq_true rfl) (Nat.le_of_ble_eq_true rfl) (Nat.le_of_ble_eq_true rfl) (Nat.le_of_ble_eq_true rfl) (Nat.le_of_ble_eq_true rfl) rfl (fun r U hq => ?_)
  obtain ⟨rfl, F1, hF1, rfl⟩ := hq
  refine fz_back rfl ?_
  refine fz_wo (V' := wMe sz wd st op ki fa qu g F1 Q) rfl ?_
  refine fz_aload_n dX1_measureFrom_8 rfl ?_
  refine fz_get dX1_measureFrom_9 fX1_19 rfl (hg) rfl ?_
  refine fz_iload_n dX1_measureFrom_12 rfl ?_
  refine fz_iald dX1_measureFrom_13 rfl rfl (hg) (vp_in_nI (by omega) (by omega)) ?_
  rw [nI_clamp (by omega), hks.1]
  refine fz_if_ne (tgt := 18) dX1_measureFrom_14 (by decide) (fun c14 => ?_) (fun c14 => ?_)
  · have hsw : ¬ kn s = 0 := fun z => c14 (by rw [z]; exact nI_0)
    refine fz_aload_n dX1_measureFrom_18 rfl ?_
    refine fz_get dX1_measureFrom_19 fX1_22 rfl (hg) rfl ?_
    refine fz_iload_n dX1_measureFrom_22 rfl ?_
    refine fz_iconst (v := nI 0) dX1_measureFrom_23 (by decide) ?_
    refine fz_iastu dX1_measureFrom_24 rfl rfl (hg) (vp_in_nI (by omega) (by omega)) ?_
    rw [nI_clamp (by omega)]
    refine fz_aload_n dX1_measureFrom_25 rfl ?_
    refine fz_get dX1_measureFrom_26 fX1_25 rfl (hg) rfl ?_
    refine fz_iconst (v := nI 0) dX1_measureFrom_29 (by decide) ?_
    refine fz_iload_n dX1_measureFrom_30 rfl ?_
    refine fz_iastu dX1_measureFrom_31 rfl rfl (hg) (vp_in_nI (by omega) (by omega)) ?_
    rw [nI_clamp (by omega)]
    refine fz_iconst (v := nI 1) dX1_measureFrom_32 (by decide) ?_
    refine fz_istore_n dX1_measureFrom_33 (Nat.le_of_ble_eq_true rfl) ?_
    refine fz_iconst (v := nI 0) dX1_measureFrom_34 (by decide) ?_
    refine fz_istore dX1_measureFrom_35 (Nat.le_of_ble_eq_true rfl) ?_
    refine lX1_measureFrom g hg sz wd st op ki fa qu cn w kn thr s hK' hS hO hs hsw cn 0 (by omega) _ (fun _ => s) 1 _ _ (BI.start hs rfl) (fR_add (k := 0) (fn := fun _ => none) (fun d hd => ?_)) (fun p hp => ?_)
    · exact hF1 d (by omega)
    · rw [show p = 0 by omega, pk_us]
  · have hsw : kn s = 0 := (nI_eq (by omega) (by omega)).mp c14
    refine fz_vret dX1_measureFrom_17 rfl (Nat.zero_le _) (Nat.zero_le _) ⟨rfl, F1, Q, fun d hd => ?_, rfl⟩
    have e3 : dsw cn w kn (exT thr kn s) s d = none := by unfold dsw; rw [if_pos hsw]
    rw [e3]
    exact ⟨hF1 d (by omega), fun k hk => by cases hk⟩
