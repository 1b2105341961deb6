/-! THE MODEL: isOthersEnd, isWanted, fitTask, aside -/
abbrev e40 (a : Nat → Int32) : fz_E := zi 0 1 40 (fun _ => a)
abbrev e90 (a : Nat → Int32) : fz_E := zi 0 1 90 (fun _ => a)
def taR (tn : Nat) (T Ta : Nat → Nat → Int32) : Prop := ∀ i, i < tn → ∀ j, j < 9 → ¬ j = 2 → Ta j i = T i j
def odR (on : Nat) (O Od : Nat → Nat → Int32) : Prop := ∀ o, o < on → ∀ j, j < 6 → ¬ j = 3 → Od j o = O o j
theorem lX11_isOthersEnd {G : fz_G} {E0 : Nat → fz_E} (f wh en : Nat → Int32) (E : Nat → Nat) (rn : Nat) (hrn : rn ≤ 6) (hf12 : f 12 = nI rn) (P : Nat → Nat → Nat) (te : Nat → Nat) (h : mtR E rn P te wh en) (r c : Nat) (hr : r < 6) (hc : c < 80) :
    ∀ q o, o + q = rn → fz_J G mX11_isOthersEnd rX11_isOthersEnd (fz_Z G E0 rX11_isOthersEnd.cells rX11_isOthersEnd.slots (fun x U => x = some (zI (bI (eoB P te r c rn))) ∧ U = wAt f wh en)) E0 0 0 5 [(4, zI (nI o)), (3, zI (bI (eoB P te r c o))), (0, zR 30 0), (1, zI (nI r)), (2, zI (nI c))] [] (wAt f wh en) := by
  intro q
  induction q with
  | zero =>
    intro o ho
    have e : o = rn := by omega
    subst e
    refine fz_iload dX11_isOthersEnd_5 rfl ?_
    refine fz_aload_n dX11_isOthersEnd_7 rfl ?_
    refine fz_get dX11_isOthersEnd_8 fX11_144 rfl (Nat.one_pos) rfl ?_
    rw [hf12]
    refine fz_icmp_ge (tgt := 46) dX11_isOthersEnd_11 (by decide) (fun c11 => ?_) (fun c11 => ?_)
    · skip
      refine fz_iload_n dX11_isOthersEnd_46 rfl ?_
      refine fz_zret dX11_isOthersEnd_47 rfl (by cases eoB P te r c o <;> decide) (Nat.zero_le _) (Nat.zero_le _) ⟨rfl, rfl⟩
    · exact absurd (nI_le (Nat.le_refl _) (by omega)) c11
  | succ q ih =>
    intro o ho
    have h6 := (h o (by omega)).2.2.2.2.2 (te o)
    have hst : eoB P te r c (o + 1) = (eoB P te r c o || (decide (¬ o = r) && decide (P o (te o) = c))) := rfl
    have yes : eoB P te r c (o + 1) = true → ∀ y, fz_J G mX11_isOthersEnd rX11_isOthersEnd (fz_Z G E0 rX11_isOthersEnd.cells rX11_isOthersEnd.slots (fun x U => x = some (zI (bI (eoB P te r c rn))) ∧ U = wAt f wh en)) E0 0 0 34 [(4, zI (nI o)), (3, zI y), (0, zR 30 0), (1, zI (nI r)), (2, zI (nI c))] [] (wAt f wh en) := by
      intro he y
      refine fz_iconst (v := nI 1) dX11_isOthersEnd_34 (by decide) ?_
      refine fz_goto (tgt := 39) dX11_isOthersEnd_35 (by decide) ?_
      refine fz_istore_n dX11_isOthersEnd_39 (Nat.le_of_ble_eq_true rfl) ?_
      refine fz_incN dX11_isOthersEnd_40 rfl (Nat.le_of_ble_eq_true rfl) ?_
      refine fz_goto (tgt := 5) dX11_isOthersEnd_43 (by decide) ?_
      have := ih (o + 1) (by omega)
      rw [he] at this
      exact this
    have no : eoB P te r c (o + 1) = false → ∀ y, fz_J G mX11_isOthersEnd rX11_isOthersEnd (fz_Z G E0 rX11_isOthersEnd.cells rX11_isOthersEnd.slots (fun x U => x = some (zI (bI (eoB P te r c rn))) ∧ U = wAt f wh en)) E0 0 0 38 [(4, zI (nI o)), (3, zI y), (0, zR 30 0), (1, zI (nI r)), (2, zI (nI c))] [] (wAt f wh en) := by
      intro he y
      refine fz_iconst (v := nI 0) dX11_isOthersEnd_38 (by decide) ?_
      refine fz_istore_n dX11_isOthersEnd_39 (Nat.le_of_ble_eq_true rfl) ?_
      refine fz_incN dX11_isOthersEnd_40 rfl (Nat.le_of_ble_eq_true rfl) ?_
      refine fz_goto (tgt := 5) dX11_isOthersEnd_43 (by decide) ?_
      have := ih (o + 1) (by omega)
      rw [he] at this
      exact this
    refine fz_iload dX11_isOthersEnd_5 rfl ?_
    refine fz_aload_n dX11_isOthersEnd_7 rfl ?_
    refine fz_get dX11_isOthersEnd_8 fX11_144 rfl (Nat.one_pos) rfl ?_
    rw [hf12]
    refine fz_icmp_ge (tgt := 46) dX11_isOthersEnd_11 (by decide) (fun c11 => ?_) (fun c11 => ?_)
    · exact absurd ((nI_leI (by omega) (by omega)).mp c11) (by omega)
    · skip
      refine fz_iload_n dX11_isOthersEnd_14 rfl ?_
      cases hv : eoB P te r c o with
      | true =>
        refine fz_if_ne (tgt := 34) dX11_isOthersEnd_15 (by decide) (fun c15 => ?_) (fun c15 => ?_)
        · exact yes (by rw [hst, hv]; rfl) _
        · exact absurd c15 (by decide)
      | false =>
        refine fz_if_ne (tgt := 34) dX11_isOthersEnd_15 (by decide) (fun c15 => ?_) (fun c15 => ?_)
        · exact absurd rfl c15
        · skip
          refine fz_iload dX11_isOthersEnd_18 rfl ?_
          refine fz_iload_n dX11_isOthersEnd_20 rfl ?_
          refine fz_icmp_eq (tgt := 38) dX11_isOthersEnd_21 (by decide) (fun c21 => ?_) (fun c21 => ?_)
          · have hor : o = r := (nI_eq (by omega) (by omega)).mp c21
            exact no (by rw [hst, hv]; simp [hor]) _
          · have hor : ¬ o = r := fun z => c21 (by rw [z])
            refine fz_aload_n dX11_isOthersEnd_24 rfl ?_
            refine fz_iload dX11_isOthersEnd_25 rfl ?_
            refine fz_callV (tX11_endOf f wh en E rn hrn P te h o (by omega)) dX11_isOthersEnd_27 kX11_182 rfl (Nat.one_pos) ⟨rfl, rfl, rfl, trivial⟩ (Nat.le_of_ble_eq_true rfl) (Nat.le_of_ble_eq_true rfl) (Nat.le_of_ble_eq_true rfl) (Nat.le_of_ble_eq_true rfl) (Nat.le_of_ble_eq_true rfl) rfl (fun r U hq => ?_)
            obtain ⟨rfl, rfl⟩ := hq
            refine fz_back rfl ?_
            refine fz_wo (V' := wAt f wh en) rfl ?_
            refine fz_iload_n dX11_isOthersEnd_30 rfl ?_
            refine fz_icmp_ne (tgt := 38) dX11_isOthersEnd_31 (by decide) (fun c31 => ?_) (fun c31 => ?_)
            · have hne : ¬ P o (te o) = c := fun z => c31 (by rw [z])
              exact no (by rw [hst, hv]; simp [hne]) _
            · have he : P o (te o) = c := (nI_eq (by omega) (by omega)).mp c31
              exact yes (by rw [hst, hv]; simp [hor, he]) _
theorem tX11_isOthersEnd {G : fz_G} (f wh en : Nat → Int32) (E : Nat → Nat) (rn : Nat) (hrn : rn ≤ 6) (hf12 : f 12 = nI rn) (P : Nat → Nat → Nat) (te : Nat → Nat) (h : mtR E rn P te wh en) (r c : Nat) (hr : r < 6) (hc : c < 80) :
    fz_T G mX11_isOthersEnd rX11_isOthersEnd [zR 30 0, zI (nI r), zI (nI c)] (wAt f wh en) (fun x U => x = some (zI (bI (eoB P te r c rn))) ∧ U = wAt f wh en) := by
  refine fz_T.of (by decide) (Nat.le_of_ble_eq_true rfl) (fun E0 => ?_)
  refine fz_iconst (v := nI 0) dX11_isOthersEnd_0 (by decide) ?_
  refine fz_istore_n dX11_isOthersEnd_1 (Nat.le_of_ble_eq_true rfl) ?_
  refine fz_iconst (v := nI 0) dX11_isOthersEnd_2 (by decide) ?_
  refine fz_istore dX11_isOthersEnd_3 (Nat.le_of_ble_eq_true rfl) ?_
  exact lX11_isOthersEnd f wh en E rn hrn hf12 P te h r c hr hc rn 0 (by omega)
abbrev wWn (f : Nat → Int32) (Od Ta : Nat → Nat → Int32) : fz_W := [(30, eM f), (63, e40 (Od 0)), (69, e90 (Ta 0)), (71, e90 (Ta 3))]
theorem lX11_isWanted {G : fz_G} {E0 : Nat → fz_E} (f : Nat → Int32) (Od Ta : Nat → Nat → Int32) (cn : Nat) (h80 : cn ≤ 80) (kn : Nat → Nat) (on tn : Nat) (hon : on ≤ 40) (htn : tn ≤ 90) (O T : Nat → Nat → Int32) (hw : tWf cn kn on tn O T) (hO : odR on O Od) (hT : taR tn T Ta) (hf28 : f 28 = nI tn) (c : Nat) (hc : c < 80) :
    ∀ q k, k + q = tn → fz_J G mX11_isWanted rX11_isWanted (fz_Z G E0 rX11_isWanted.cells rX11_isWanted.slots (fun x U => x = some (zI (bI (wnB T c tn))) ∧ U = wWn f Od Ta)) E0 0 0 4 [(3, zI (nI k)), (2, zI (bI (wnB T c k))), (0, zR 30 0), (1, zI (nI c))] [] (wWn f Od Ta) := by
  intro q
  induction q with
  | zero =>
    intro k hk
    have e : k = tn := by omega
    subst e
    refine fz_iload_n dX11_isWanted_4 rfl ?_
    refine fz_aload_n dX11_isWanted_5 rfl ?_
    refine fz_get dX11_isWanted_6 fX11_150 rfl (Nat.one_pos) rfl ?_
    rw [hf28]
    refine fz_icmp_ge (tgt := 52) dX11_isWanted_9 (by decide) (fun c9 => ?_) (fun c9 => ?_)
    · skip
      refine fz_iload_n dX11_isWanted_52 rfl ?_
      refine fz_zret dX11_isWanted_53 rfl (by cases wnB T c k <;> decide) (Nat.zero_le _) (Nat.zero_le _) ⟨rfl, rfl⟩
    · exact absurd (nI_le (Nat.le_refl _) (by omega)) c9
  | succ q ih =>
    intro k hk
    obtain ⟨-, ⟨b1, b2, b3⟩, o, c1, c2, c3⟩ := hw k (by omega)
    have t0 := hT k (by omega) 0 (by omega) (by omega)
    have t3 := hT k (by omega) 3 (by omega) (by omega)
    have o0 := hO o c1 0 (by omega) (by omega)
    have hst : wnB T c (k + 1) = (wnB T c k || (decide (T k 3 = nI 0) && decide (tst T k = c))) := rfl
    have yes : wnB T c (k + 1) = true → ∀ y, fz_J G mX11_isWanted rX11_isWanted (fz_Z G E0 rX11_isWanted.cells rX11_isWanted.slots (fun x U => x = some (zI (bI (wnB T c tn))) ∧ U = wWn f Od Ta)) E0 0 0 40 [(3, zI (nI k)), (2, zI y), (0, zR 30 0), (1, zI (nI c))] [] (wWn f Od Ta) := by
      intro he y
      refine fz_iconst (v := nI 1) dX11_isWanted_40 (by decide) ?_
      refine fz_goto (tgt := 45) dX11_isWanted_41 (by decide) ?_
      refine fz_istore_n dX11_isWanted_45 (Nat.le_of_ble_eq_true rfl) ?_
      refine fz_incN dX11_isWanted_46 rfl (Nat.le_of_ble_eq_true rfl) ?_
      refine fz_goto (tgt := 4) dX11_isWanted_49 (by decide) ?_
      have := ih (k + 1) (by omega)
      rw [he] at this
      exact this
    have no : wnB T c (k + 1) = false → ∀ y, fz_J G mX11_isWanted rX11_isWanted (fz_Z G E0 rX11_isWanted.cells rX11_isWanted.slots (fun x U => x = some (zI (bI (wnB T c tn))) ∧ U = wWn f Od Ta)) E0 0 0 44 [(3, zI (nI k)), (2, zI y), (0, zR 30 0), (1, zI (nI c))] [] (wWn f Od Ta) := by
      intro he y
      refine fz_iconst (v := nI 0) dX11_isWanted_44 (by decide) ?_
      refine fz_istore_n dX11_isWanted_45 (Nat.le_of_ble_eq_true rfl) ?_
      refine fz_incN dX11_isWanted_46 rfl (Nat.le_of_ble_eq_true rfl) ?_
      refine fz_goto (tgt := 4) dX11_isWanted_49 (by decide) ?_
      have := ih (k + 1) (by omega)
      rw [he] at this
      exact this
    refine fz_iload_n dX11_isWanted_4 rfl ?_
    refine fz_aload_n dX11_isWanted_5 rfl ?_
    refine fz_get dX11_isWanted_6 fX11_150 rfl (Nat.one_pos) rfl ?_
    rw [hf28]
    refine fz_icmp_ge (tgt := 52) dX11_isWanted_9 (by decide) (fun c9 => ?_) (fun c9 => ?_)
    · exact absurd ((nI_leI (by omega) (by omega)).mp c9) (by omega)
    · skip
      refine fz_iload_n dX11_isWanted_12 rfl ?_
      cases hv : wnB T c k with
      | true =>
        refine fz_if_ne (tgt := 40) dX11_isWanted_13 (by decide) (fun c13 => ?_) (fun c13 => ?_)
        · exact yes (by rw [hst, hv]; rfl) _
        · exact absurd c13 (by decide)
      | false =>
        refine fz_if_ne (tgt := 40) dX11_isWanted_13 (by decide) (fun c13 => ?_) (fun c13 => ?_)
        · exact absurd rfl c13
        · skip
          refine fz_aload_n dX11_isWanted_16 rfl ?_
          refine fz_get dX11_isWanted_17 fX11_69 rfl (Nat.one_pos) rfl ?_
          refine fz_iload_n dX11_isWanted_20 rfl ?_
          refine fz_iald dX11_isWanted_21 rfl rfl (Nat.one_pos) (vp_in_nI (by omega) (by omega)) ?_
          rw [nI_clamp (by omega), t3]
          refine fz_if_ne (tgt := 44) dX11_isWanted_22 (by decide) (fun c22 => ?_) (fun c22 => ?_)
          · have hne : ¬ T k 3 = nI 0 := fun z => c22 (by rw [z]; exact nI_0)
            exact no (by rw [hst, hv]; simp [hne]) _
          · have he : T k 3 = nI 0 := c22.trans nI_0.symm
            refine fz_aload_n dX11_isWanted_25 rfl ?_
            refine fz_get dX11_isWanted_26 fX11_48 rfl (Nat.one_pos) rfl ?_
            refine fz_aload_n dX11_isWanted_29 rfl ?_
            refine fz_get dX11_isWanted_30 fX11_63 rfl (Nat.one_pos) rfl ?_
            refine fz_iload_n dX11_isWanted_33 rfl ?_
            refine fz_iald dX11_isWanted_34 rfl rfl (Nat.one_pos) (vp_in_nI (by omega) (by omega)) ?_
            rw [nI_clamp (by omega), t0, c2]
            refine fz_iald dX11_isWanted_35 rfl rfl (Nat.one_pos) (vp_in_nI (by omega) (by omega)) ?_
            refine fz_iload_n dX11_isWanted_36 rfl ?_
            rw [nI_clamp (by omega), o0, c3, b1]
            refine fz_icmp_ne (tgt := 44) dX11_isWanted_37 (by decide) (fun c37 => ?_) (fun c37 => ?_)
            · have hne : ¬ tst T k = c := fun z => c37 (by rw [z])
              exact no (by rw [hst, hv]; simp [hne]) _
            · have he2 : tst T k = c := (nI_eq (by omega) (by omega)).mp c37
              exact yes (by rw [hst, hv]; simp [he, he2]) _
theorem tX11_isWanted {G : fz_G} (f : Nat → Int32) (Od Ta : Nat → Nat → Int32) (cn : Nat) (h80 : cn ≤ 80) (kn : Nat → Nat) (on tn : Nat) (hon : on ≤ 40) (htn : tn ≤ 90) (O T : Nat → Nat → Int32) (hw : tWf cn kn on tn O T) (hO : odR on O Od) (hT : taR tn T Ta) (hf28 : f 28 = nI tn) (c : Nat) (hc : c < 80) :
    fz_T G mX11_isWanted rX11_isWanted [zR 30 0, zI (nI c)] (wWn f Od Ta) (fun x U => x = some (zI (bI (wnB T c tn))) ∧ U = wWn f Od Ta) := by
  refine fz_T.of (by decide) (Nat.le_of_ble_eq_true rfl) (fun E0 => ?_)
  refine fz_iconst (v := nI 0) dX11_isWanted_0 (by decide) ?_
  refine fz_istore_n dX11_isWanted_1 (Nat.le_of_ble_eq_true rfl) ?_
  refine fz_iconst (v := nI 0) dX11_isWanted_2 (by decide) ?_
  refine fz_istore_n dX11_isWanted_3 (Nat.le_of_ble_eq_true rfl) ?_
  exact lX11_isWanted f Od Ta cn h80 kn on tn hon htn O T hw hO hT hf28 c hc tn 0 (by omega)
abbrev wFt (f fa wh en : Nat → Int32) (Od Ta : Nat → Nat → Int32) : fz_W := [(30, eM f), (49, eFa fa), (53, eWh wh), (54, e6 en), (63, e40 (Od 0)), (69, e90 (Ta 0)), (70, e90 (Ta 1)), (71, e90 (Ta 3))]
theorem lX11_fitTask {G : fz_G} {E0 : Nat → fz_E} (f fa wh en : Nat → Int32) (Od Ta : Nat → Nat → Int32) (E : Nat → Nat) (cn w rn : Nat) (kn : Nat → Nat) (h80 : cn ≤ 80) (hfa : faR cn w kn fa) (hrn : rn ≤ 6) (hf12 : f 12 = nI rn) (P : Nat → Nat → Nat) (te : Nat → Nat) (h : mtR E rn P te wh en) (on tn : Nat) (hon : on ≤ 40) (htn : tn ≤ 90) (O T : Nat → Nat → Int32) (hw : tWf cn kn on tn O T) (hO : odR on O Od) (hT : taR tn T Ta) (hf28 : f 28 = nI tn) (r c : Nat) (hr : r < 6) (hc : c < cn) :
    ∀ q i, i + q = tn → ∀ x5 : List (Nat × fz_V), fz_J G mX11_fitTask rX11_fitTask (fz_Z G E0 rX11_fitTask.cells rX11_fitTask.slots (fun x U => x = some (zI (oI (bst (ftB T (fun c => eoB P te r c rn)) (fun i => dsF cn w kn c (tsh T i)) tn))) ∧ U = wFt f fa wh en Od Ta)) E0 0 0 15 ((4, zI (nI i)) :: (3, zI (oI (bst (ftB T (fun c => eoB P te r c rn)) (fun i => dsF cn w kn c (tsh T i)) i))) :: (2, zI (nI c)) :: (0, zR 30 0) :: (1, zI (nI r)) :: x5) [] (wFt f fa wh en Od Ta) := by
  intro q
  induction q with
  | zero =>
    intro i hi x5
    have e : i = tn := by omega
    subst e
    refine fz_pk [0, 1, 2, 3, 4] rfl ?_
    refine fz_iload dX11_fitTask_15 rfl ?_
    refine fz_aload_n dX11_fitTask_17 rfl ?_
    refine fz_get dX11_fitTask_18 fX11_150 rfl (Nat.one_pos) rfl ?_
    rw [hf28]
    refine fz_icmp_ge (tgt := 134) dX11_fitTask_21 (by decide) (fun c21 => ?_) (fun c21 => ?_)
    · skip
      refine fz_iload_n dX11_fitTask_134 rfl ?_
      refine fz_iret dX11_fitTask_135 rfl (Nat.zero_le _) (Nat.zero_le _) ⟨rfl, rfl⟩
    · exact absurd (nI_le (Nat.le_refl _) (by omega)) c21
  | succ q ih =>
    intro i hi x5
    obtain ⟨⟨a1, a2, a3⟩, ⟨b1, b2, b3⟩, o, c1, c2, c3⟩ := hw i (by omega)
    have t0 := hT i (by omega) 0 (by omega) (by omega)
    have t1 := hT i (by omega) 1 (by omega) (by omega)
    have t3 := hT i (by omega) 3 (by omega) (by omega)
    have o0 := hO o c1 0 (by omega) (by omega)
    have hstep : bst (ftB T (fun c => eoB P te r c rn)) (fun i => dsF cn w kn c (tsh T i)) (i + 1) = (match bst (ftB T (fun c => eoB P te r c rn)) (fun i => dsF cn w kn c (tsh T i)) i with
      | none => if ftB T (fun c => eoB P te r c rn) i then some i else none
      | some b => if ftB T (fun c => eoB P te r c rn) i && decide (dsF cn w kn c (tsh T i) < dsF cn w kn c (tsh T b)) then some i else some b) := rfl
    refine fz_pk [0, 1, 2, 3, 4] rfl ?_
    have put : ∀ (v : Option Nat) (y : Int32), bst (ftB T (fun c => eoB P te r c rn)) (fun i => dsF cn w kn c (tsh T i)) (i + 1) = v → fz_J G mX11_fitTask rX11_fitTask (fz_Z G E0 rX11_fitTask.cells rX11_fitTask.slots (fun x U => x = some (zI (oI (bst (ftB T (fun c => eoB P te r c rn)) (fun i => dsF cn w kn c (tsh T i)) tn))) ∧ U = wFt f fa wh en Od Ta)) E0 0 0 127 [(5, zI y), (4, zI (nI i)), (3, zI (oI (bst (ftB T (fun c => eoB P te r c rn)) (fun i => dsF cn w kn c (tsh T i)) i))), (2, zI (nI c)), (0, zR 30 0), (1, zI (nI r))] [zI (oI v)] (wFt f fa wh en Od Ta) := by
      intro v y hv
      refine fz_istore_n dX11_fitTask_127 (Nat.le_of_ble_eq_true rfl) ?_
      refine fz_incN dX11_fitTask_128 rfl (Nat.le_of_ble_eq_true rfl) ?_
      refine fz_goto (tgt := 15) dX11_fitTask_131 (by decide) ?_
      refine fz_pk [0, 1, 3, 4, 5] rfl ?_
      rw [← hv]
      exact ih (i + 1) (by omega) []
    have nofit : ftB T (fun c => eoB P te r c rn) i = false → fz_J G mX11_fitTask rX11_fitTask (fz_Z G E0 rX11_fitTask.cells rX11_fitTask.slots (fun x U => x = some (zI (oI (bst (ftB T (fun c => eoB P te r c rn)) (fun i => dsF cn w kn c (tsh T i)) tn))) ∧ U = wFt f fa wh en Od Ta)) E0 0 0 73 [(4, zI (nI i)), (3, zI (oI (bst (ftB T (fun c => eoB P te r c rn)) (fun i => dsF cn w kn c (tsh T i)) i))), (2, zI (nI c)), (0, zR 30 0), (1, zI (nI r))] [] (wFt f fa wh en Od Ta) := by
      intro hn
      refine fz_iconst (v := nI 0) dX11_fitTask_73 (by decide) ?_
      refine fz_istore dX11_fitTask_74 (Nat.le_of_ble_eq_true rfl) ?_
      refine fz_iload dX11_fitTask_76 rfl ?_
      refine fz_if_eq (tgt := 126) dX11_fitTask_78 (by decide) (fun c78 => ?_) (fun c78 => ?_)
      · skip
        refine fz_iload_n dX11_fitTask_126 rfl ?_
        refine put _ _ ?_
        rw [hstep, hn]
        cases bst (ftB T (fun c => eoB P te r c rn)) (fun i => dsF cn w kn c (tsh T i)) i <;> rfl
      · exact absurd (by decide) c78
    refine fz_iload dX11_fitTask_15 rfl ?_
    refine fz_aload_n dX11_fitTask_17 rfl ?_
    refine fz_get dX11_fitTask_18 fX11_150 rfl (Nat.one_pos) rfl ?_
    rw [hf28]
    refine fz_icmp_ge (tgt := 134) dX11_fitTask_21 (by decide) (fun c21 => ?_) (fun c21 => ?_)
    · exact absurd ((nI_leI (by omega) (by omega)).mp c21) (by omega)
    · skip
      refine fz_aload_n dX11_fitTask_24 rfl ?_
      refine fz_get dX11_fitTask_25 fX11_69 rfl (Nat.one_pos) rfl ?_
      refine fz_iload dX11_fitTask_28 rfl ?_
      refine fz_iald dX11_fitTask_30 rfl rfl (Nat.one_pos) (vp_in_nI (by omega) (by omega)) ?_
      rw [nI_clamp (by omega), t3]
      refine fz_if_ne (tgt := 73) dX11_fitTask_31 (by decide) (fun c31 => ?_) (fun c31 => ?_)
      · exact nofit (by unfold ftB; rw [decide_eq_false (fun z => c31 (by rw [z]; exact nI_0))]; rfl)
      · have e3 : T i 3 = nI 0 := c31.trans nI_0.symm
        refine fz_aload_n dX11_fitTask_34 rfl ?_
        refine fz_iload_n dX11_fitTask_35 rfl ?_
        refine fz_aload_n dX11_fitTask_36 rfl ?_
        refine fz_get dX11_fitTask_37 fX11_66 rfl (Nat.one_pos) rfl ?_
        refine fz_iload dX11_fitTask_40 rfl ?_
        refine fz_iald dX11_fitTask_42 rfl rfl (Nat.one_pos) (vp_in_nI (by omega) (by omega)) ?_
        rw [nI_clamp (by omega), t1, a1]
        refine fz_callV (tX11_isOthersEnd f wh en E rn hrn hf12 P te h r (tsh T i) hr (by omega)) dX11_fitTask_43 kX11_207 rfl (Nat.one_pos) ⟨rfl, rfl, rfl, trivial⟩ (Nat.le_of_ble_eq_true rfl) (Nat.le_of_ble_eq_true rfl) (Nat.le_of_ble_eq_true rfl) (Nat.le_of_ble_eq_true rfl) (Nat.le_of_ble_eq_true rfl) rfl (fun r U hq => ?_)
        obtain ⟨rfl, rfl⟩ := hq
        refine fz_back rfl ?_
        refine fz_wo (V' := wFt f fa wh en Od Ta) rfl ?_
        cases v1 : eoB P te r (tsh T i) rn with
        | true =>
          refine fz_if_ne (tgt := 73) dX11_fitTask_46 (by decide) (fun c46 => ?_) (fun c46 => ?_)
          · exact nofit (by unfold ftB; simp only [v1]; simp)
          · exact absurd c46 (by decide)
        | false =>
          refine fz_if_ne (tgt := 73) dX11_fitTask_46 (by decide) (fun c46 => ?_) (fun c46 => ?_)
          · exact absurd rfl c46
          · skip
            refine fz_aload_n dX11_fitTask_49 rfl ?_
            refine fz_iload_n dX11_fitTask_50 rfl ?_
            refine fz_aload_n dX11_fitTask_51 rfl ?_
            refine fz_get dX11_fitTask_52 fX11_48 rfl (Nat.one_pos) rfl ?_
            refine fz_aload_n dX11_fitTask_55 rfl ?_
            refine fz_get dX11_fitTask_56 fX11_63 rfl (Nat.one_pos) rfl ?_
            refine fz_iload dX11_fitTask_59 rfl ?_
            refine fz_iald dX11_fitTask_61 rfl rfl (Nat.one_pos) (vp_in_nI (by omega) (by omega)) ?_
            rw [nI_clamp (by omega), t0, c2]
            refine fz_iald dX11_fitTask_62 rfl rfl (Nat.one_pos) (vp_in_nI (by omega) (by omega)) ?_
            rw [nI_clamp (by omega), o0, c3, b1]
            refine fz_callV (tX11_isOthersEnd f wh en E rn hrn hf12 P te h r (tst T i) hr (by omega)) dX11_fitTask_63 kX11_207 rfl (Nat.one_pos) ⟨rfl, rfl, rfl, trivial⟩ (Nat.le_of_ble_eq_true rfl) (Nat.le_of_ble_eq_true rfl) (Nat.le_of_ble_eq_true rfl) (Nat.le_of_ble_eq_true rfl) (Nat.le_of_ble_eq_true rfl) rfl (fun r U hq => ?_)
            obtain ⟨rfl, rfl⟩ := hq
            refine fz_back rfl ?_
            refine fz_wo (V' := wFt f fa wh en Od Ta) rfl ?_
            cases v2 : eoB P te r (tst T i) rn with
            | true =>
              refine fz_if_ne (tgt := 73) dX11_fitTask_66 (by decide) (fun c66 => ?_) (fun c66 => ?_)
              · exact nofit (by unfold ftB; simp only [v2]; simp)
              · exact absurd c66 (by decide)
            | false =>
              have hfit : ftB T (fun c => eoB P te r c rn) i = true := by unfold ftB; simp only [v1, v2, e3]; decide
              refine fz_if_ne (tgt := 73) dX11_fitTask_66 (by decide) (fun c66 => ?_) (fun c66 => ?_)
              · exact absurd rfl c66
              · skip
                refine fz_iconst (v := nI 1) dX11_fitTask_69 (by decide) ?_
                refine fz_goto (tgt := 74) dX11_fitTask_70 (by decide) ?_
                refine fz_istore dX11_fitTask_74 (Nat.le_of_ble_eq_true rfl) ?_
                refine fz_iload dX11_fitTask_76 rfl ?_
                refine fz_if_eq (tgt := 126) dX11_fitTask_78 (by decide) (fun c78 => ?_) (fun c78 => ?_)
                · exact absurd c78 (by decide)
                · skip
                  refine fz_iload_n dX11_fitTask_81 rfl ?_
                  cases hb : bst (ftB T (fun c => eoB P te r c rn)) (fun i => dsF cn w kn c (tsh T i)) i with
                  | none =>
                    rw [hb] at put
                    refine fz_if_lt (tgt := 121) dX11_fitTask_82 (by decide) (fun c82 => ?_) (fun c82 => ?_)
                    · skip
                      refine fz_iload dX11_fitTask_121 rfl ?_
                      refine fz_goto (tgt := 127) dX11_fitTask_123 (by decide) ?_
                      exact put (some i) _ (by rw [hstep, hb, hfit]; rfl)
                    · exact absurd (by decide) c82
                  | some b =>
                    rw [hb] at put
                    have hbl := (bst_lt hb).1
                    obtain ⟨⟨p1, p2, p3⟩, -⟩ := hw b (by omega)
                    have u1 := hT b (by omega) 1 (by omega) (by omega)
                    refine fz_if_lt (tgt := 121) dX11_fitTask_82 (by decide) (fun c82 => ?_) (fun c82 => ?_)
                    · exact absurd c82 (nI_pos (by omega))
                    · skip
                      refine fz_aload_n dX11_fitTask_85 rfl ?_
                      refine fz_get dX11_fitTask_86 fX11_23 rfl (Nat.one_pos) rfl ?_
                      refine fz_bipush (v := nI 80) dX11_fitTask_89 (by decide) ?_
                      refine fz_iload_n dX11_fitTask_91 rfl ?_
                      refine fz_imul dX11_fitTask_92 ?_
                      rw [nI_mul]
                      refine fz_aload_n dX11_fitTask_93 rfl ?_
                      refine fz_get dX11_fitTask_94 fX11_66 rfl (Nat.one_pos) rfl ?_
                      refine fz_iload dX11_fitTask_97 rfl ?_
                      refine fz_iald dX11_fitTask_99 rfl rfl (Nat.one_pos) (vp_in_nI (by omega) (by omega)) ?_
                      rw [nI_clamp (by omega), t1, a1]
                      refine fz_iadd dX11_fitTask_100 ?_
                      rw [nI_add]
                      refine fz_iald dX11_fitTask_101 rfl rfl (Nat.one_pos) (vp_in_nI (by omega) (by omega)) ?_
                      rw [nI_clamp (by omega), hfa c (tsh T i) hc a2]
                      refine fz_aload_n dX11_fitTask_102 rfl ?_
                      refine fz_get dX11_fitTask_103 fX11_23 rfl (Nat.one_pos) rfl ?_
                      refine fz_bipush (v := nI 80) dX11_fitTask_106 (by decide) ?_
                      refine fz_iload_n dX11_fitTask_108 rfl ?_
                      refine fz_imul dX11_fitTask_109 ?_
                      rw [nI_mul]
                      refine fz_aload_n dX11_fitTask_110 rfl ?_
                      refine fz_get dX11_fitTask_111 fX11_66 rfl (Nat.one_pos) rfl ?_
                      refine fz_iload_n dX11_fitTask_114 rfl ?_
                      refine fz_top (y := nI b) rfl ?_
                      refine fz_iald dX11_fitTask_115 rfl rfl (Nat.one_pos) (vp_in_nI (by omega) (by omega)) ?_
                      rw [nI_clamp (by omega), u1, p1]
                      refine fz_iadd dX11_fitTask_116 ?_
                      rw [nI_add]
                      refine fz_iald dX11_fitTask_117 rfl rfl (Nat.one_pos) (vp_in_nI (by omega) (by omega)) ?_
                      rw [nI_clamp (by omega), hfa c (tsh T b) hc p2]
                      refine fz_icmp_ge (tgt := 126) dX11_fitTask_118 (by decide) (fun c118 => ?_) (fun c118 => ?_)
                      · have hn : ¬ dsF cn w kn c (tsh T i) < dsF cn w kn c (tsh T b) := Int32.not_lt.mpr c118
                        refine fz_iload_n dX11_fitTask_126 rfl ?_
                        exact put (some b) _ (by rw [hstep, hb, hfit]; simp [hn])
                      · have hl : dsF cn w kn c (tsh T i) < dsF cn w kn c (tsh T b) := Int32.not_le.mp c118
                        refine fz_iload dX11_fitTask_121 rfl ?_
                        refine fz_goto (tgt := 127) dX11_fitTask_123 (by decide) ?_
                        exact put (some i) _ (by rw [hstep, hb, hfit]; simp [hl])
theorem tX11_fitTask {G : fz_G} (f fa wh en : Nat → Int32) (Od Ta : Nat → Nat → Int32) (E : Nat → Nat) (cn w rn : Nat) (kn : Nat → Nat) (h80 : cn ≤ 80) (hfa : faR cn w kn fa) (hrn : rn ≤ 6) (hf12 : f 12 = nI rn) (P : Nat → Nat → Nat) (te : Nat → Nat) (h : mtR E rn P te wh en) (on tn : Nat) (hon : on ≤ 40) (htn : tn ≤ 90) (O T : Nat → Nat → Int32) (hw : tWf cn kn on tn O T) (hO : odR on O Od) (hT : taR tn T Ta) (hf28 : f 28 = nI tn) (r t : Nat) (hr : r < rn) (hf11 : f 11 = nI t) (ht : t ≤ 4000) (hc : P r t < cn) :
    fz_T G mX11_fitTask rX11_fitTask [zR 30 0, zI (nI r)] (wFt f fa wh en Od Ta) (fun x U => x = some (zI (oI (bst (ftB T (fun c => eoB P te r c rn)) (fun i => dsF cn w kn (P r t) (tsh T i)) tn))) ∧ U = wFt f fa wh en Od Ta) := by
  refine fz_T.of (by decide) (Nat.le_of_ble_eq_true rfl) (fun E0 => ?_)
  refine fz_aload_n dX11_fitTask_0 rfl ?_
  refine fz_iload_n dX11_fitTask_1 rfl ?_
  refine fz_aload_n dX11_fitTask_2 rfl ?_
  refine fz_get dX11_fitTask_3 fX11_141 rfl (Nat.one_pos) rfl ?_
  rw [hf11]
  refine fz_callV (tX11_at f wh en E rn hrn P te h r t hr (by omega)) dX11_fitTask_6 kX11_166 rfl (Nat.one_pos) ⟨rfl, rfl, rfl, trivial⟩ (Nat.le_of_ble_eq_true rfl) (Nat.le_of_ble_eq_true rfl) (Nat.le_of_ble_eq_true rfl) (Nat.le_of_ble_eq_true rfl) (Nat.le_of_ble_eq_true rfl) rfl (fun r U hq => ?_)
  obtain ⟨rfl, rfl⟩ := hq
  refine fz_back rfl ?_
  refine fz_wo (V' := wFt f fa wh en Od Ta) rfl ?_
  refine fz_istore_n dX11_fitTask_9 (Nat.le_of_ble_eq_true rfl) ?_
  refine fz_iconst (v := -1) dX11_fitTask_10 (by decide) ?_
  refine fz_istore_n dX11_fitTask_11 (Nat.le_of_ble_eq_true rfl) ?_
  refine fz_iconst (v := nI 0) dX11_fitTask_12 (by decide) ?_
  refine fz_istore dX11_fitTask_13 (Nat.le_of_ble_eq_true rfl) ?_
  exact lX11_fitTask f fa wh en Od Ta E cn w rn kn h80 hfa hrn hf12 P te h on tn hon htn O T hw hO hT hf28 r (P r t) (by omega) hc tn 0 (by omega) []
