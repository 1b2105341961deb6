/-! Fleet: nearestRefuge -/
/-- a place that no waiting task wants and that is no end of another -/
def rfB (kn : Nat → Nat) (Wn E : Nat → Bool) (c : Nat) : Bool := decide (1 < kn c) && (!Wn c && !E c)
def pfW (pf : Nat → Int32) (Wn : Nat → Bool) : Prop := ∀ c, c < 80 → (if pf c ≤ 0 then (0 : Int32) else 1) = bI (Wn c)
abbrev wNr (g : Nat) (sz wd : Nat → Int32) (st : Nat → Nat → Int32) (op : Nat → Nat → Int64) (ki fa qu : Nat → Nat → Int32) (F Q : Nat → Int32) (oc tc nc pn : Int32) (pf : Nat → Int32) (fs nw wy lg rb : Int32) (ow : Nat → Int32) : fz_W := [(2, eGr sz wd), (3, e5 st), (4, eL op), (5, e8 ki), (6, e8 (va_up fa g F)), (7, e8 (va_up qu g Q)), (10, eOs oc tc nc pn), (13, e80 pf), (16, eFl g fs nw wy lg), (19, eTT rb), (23, e80 ow)]
theorem lX0_nearestRefuge {G : fz_G} {E0 : Nat → fz_E} (g : Nat) (hg : g < 2) (sz wd : Nat → Int32) (st : Nat → Nat → Int32) (op : Nat → Nat → Int64) (ki fa qu : Nat → Nat → Int32) (cn w : Nat) (kn : Nat → Nat) (hK : gK cn w kn (sz g) (wd g) (ki g)) (oc tc nc pn : Int32) (pf : Nat → Int32) (fs nw wy lg rb : Int32) (ow : Nat → Int32) (Wn E : Nat → Bool) (r c : Nat) (hE : owE ow r E) (hW : pfW pf Wn) (F Q : Nat → Int32) (D : Nat → Int32) (hF : ∀ d, d < cn → F d = D d) :
    ∀ q i, i + q = cn → fz_J G mX0_nearestRefuge rX0_nearestRefuge (fz_Z G E0 0 0 (fun x U => x = some (zI (oI (bst (rfB kn Wn E) D cn))) ∧ ∃ F Q, U = wNr g sz wd st op ki fa qu F Q oc tc nc pn pf fs nw wy lg rb ow)) E0 0 0 14 [(4, zI (nI i)), (3, zI (oI (bst (rfB kn Wn E) D i))), (0, zR 16 0), (1, zI (nI r)), (2, zI (nI c))] [] (wNr g sz wd st op ki fa qu F Q oc tc nc pn pf fs nw wy lg rb ow) := by
  obtain ⟨h0, hw, h80, hh, hsz, hwd, hki⟩ := id hK
  intro q
  induction q with
  | zero =>
    intro i hi
    have e : i = cn := by omega
    subst e
    refine fz_iload dX0_nearestRefuge_14 rfl ?_
    refine fz_aload_n dX0_nearestRefuge_16 rfl ?_
    refine fz_get dX0_nearestRefuge_17 fX0_31 rfl (Nat.one_pos) rfl ?_
    refine fz_callV (tX1_size g hg sz wd) dX0_nearestRefuge_20 kX0_168 rfl (hg) ⟨rfl, trivial⟩ (Nat.le_of_ble_eq_true rfl) (Nat.le_of_ble_eq_true rfl) (Nat.le_of_ble_eq_true rfl) (Nat.le_of_ble_eq_true rfl) (Nat.le_of_ble_eq_true rfl) rfl (fun r U hq => ?_)
    obtain ⟨rfl, rfl⟩ := hq
    refine fz_back rfl ?_
    rw [hsz]
    refine fz_icmp_ge (tgt := 109) dX0_nearestRefuge_23 (by decide) (fun c23 => ?_) (fun c23 => ?_)
    · skip
      refine fz_iload_n dX0_nearestRefuge_109 rfl ?_
      refine fz_iret dX0_nearestRefuge_110 rfl (Nat.zero_le _) (Nat.zero_le _) ⟨rfl, F, Q, rfl⟩
    · exact absurd (nI_le (Nat.le_refl _) (by omega)) c23
  | succ q ih =>
    intro i hi
    have hstep : bst (rfB kn Wn E) D (i + 1) = (match bst (rfB kn Wn E) D i with
      | none => if rfB kn Wn E i then some i else none
      | some b => if rfB kn Wn E i && decide (D i < D b) then some i else some b) := rfl
    have skip : ∀ y : Int32, bst (rfB kn Wn E) D (i + 1) = bst (rfB kn Wn E) D i → fz_J G mX0_nearestRefuge rX0_nearestRefuge (fz_Z G E0 0 0 (fun x U => x = some (zI (oI (bst (rfB kn Wn E) D cn))) ∧ ∃ F Q, U = wNr g sz wd st op ki fa qu F Q oc tc nc pn pf fs nw wy lg rb ow)) E0 0 0 103 [(5, zI y), (4, zI (nI i)), (3, zI (oI (bst (rfB kn Wn E) D i))), (0, zR 16 0), (1, zI (nI r)), (2, zI (nI c))] [] (wNr g sz wd st op ki fa qu F Q oc tc nc pn pf fs nw wy lg rb ow) := by
      intro y he
      refine fz_incN dX0_nearestRefuge_103 rfl (Nat.le_of_ble_eq_true rfl) ?_
      refine fz_goto (tgt := 14) dX0_nearestRefuge_106 (by decide) ?_
      refine fz_pk [0, 2, 3, 4, 5] rfl ?_
      rw [← he]
      exact ih (i + 1) (by omega)
    have no : rfB kn Wn E i = false → fz_J G mX0_nearestRefuge rX0_nearestRefuge (fz_Z G E0 0 0 (fun x U => x = some (zI (oI (bst (rfB kn Wn E) D cn))) ∧ ∃ F Q, U = wNr g sz wd st op ki fa qu F Q oc tc nc pn pf fs nw wy lg rb ow)) E0 0 0 67 [(4, zI (nI i)), (3, zI (oI (bst (rfB kn Wn E) D i))), (0, zR 16 0), (1, zI (nI r)), (2, zI (nI c))] [] (wNr g sz wd st op ki fa qu F Q oc tc nc pn pf fs nw wy lg rb ow) := by
      intro hv
      refine fz_iconst (v := nI 0) dX0_nearestRefuge_67 (by decide) ?_
      refine fz_istore dX0_nearestRefuge_68 (Nat.le_of_ble_eq_true rfl) ?_
      refine fz_iload dX0_nearestRefuge_70 rfl ?_
      refine fz_if_eq (tgt := 103) dX0_nearestRefuge_72 (by decide) (fun c72 => ?_) (fun c72 => ?_)
      · refine skip _ ?_
        rw [hstep, hv]
        cases bst (rfB kn Wn E) D i <;> rfl
      · exact absurd rfl c72
    refine fz_iload dX0_nearestRefuge_14 rfl ?_
    refine fz_aload_n dX0_nearestRefuge_16 rfl ?_
    refine fz_get dX0_nearestRefuge_17 fX0_31 rfl (Nat.one_pos) rfl ?_
    refine fz_callV (tX1_size g hg sz wd) dX0_nearestRefuge_20 kX0_168 rfl (hg) ⟨rfl, trivial⟩ (Nat.le_of_ble_eq_true rfl) (Nat.le_of_ble_eq_true rfl) (Nat.le_of_ble_eq_true rfl) (Nat.le_of_ble_eq_true rfl) (Nat.le_of_ble_eq_true rfl) rfl (fun r U hq => ?_)
    obtain ⟨rfl, rfl⟩ := hq
    refine fz_back rfl ?_
    refine fz_wo (V' := wNr g sz wd st op ki fa qu F Q oc tc nc pn pf fs nw wy lg rb ow) rfl ?_
    rw [hsz]
    refine fz_icmp_ge (tgt := 109) dX0_nearestRefuge_23 (by decide) (fun c23 => ?_) (fun c23 => ?_)
    · exact absurd ((nI_leI (by omega) (by omega)).mp c23) (by omega)
    · skip
      refine fz_aload_n dX0_nearestRefuge_26 rfl ?_
      refine fz_get dX0_nearestRefuge_27 fX0_31 rfl (Nat.one_pos) rfl ?_
      refine fz_iload dX0_nearestRefuge_30 rfl ?_
      refine fz_callV (tX1_isPlace g hg sz wd ki i (kn i) (by omega) (by have := (hki i (by omega)).2; omega) (hki i (by omega)).1) dX0_nearestRefuge_32 kX0_170 rfl (hg) ⟨rfl, rfl, trivial⟩ (Nat.le_of_ble_eq_true rfl) (Nat.le_of_ble_eq_true rfl) (Nat.le_of_ble_eq_true rfl) (Nat.le_of_ble_eq_true rfl) (Nat.le_of_ble_eq_true rfl) rfl (fun r U hq => ?_)
      obtain ⟨rfl, rfl⟩ := hq
      refine fz_back rfl ?_
      refine fz_wo (V' := wNr g sz wd st op ki fa qu F Q oc tc nc pn pf fs nw wy lg rb ow) rfl ?_
      by_cases hk1 : 1 < kn i
      · rw [if_pos hk1]
        refine fz_if_eq (tgt := 67) dX0_nearestRefuge_35 (by decide) (fun c35 => ?_) (fun c35 => ?_)
        · exact absurd c35 (by decide)
        · skip
          refine fz_aload_n dX0_nearestRefuge_38 rfl ?_
          refine fz_get dX0_nearestRefuge_39 fX0_35 rfl (Nat.one_pos) rfl ?_
          refine fz_iload dX0_nearestRefuge_42 rfl ?_
          refine fz_callV (tX5_arePendingFor oc tc nc pn pf i (by omega)) dX0_nearestRefuge_44 kX0_136 rfl (Nat.one_pos) ⟨rfl, rfl, trivial⟩ (Nat.le_of_ble_eq_true rfl) (Nat.le_of_ble_eq_true rfl) (Nat.le_of_ble_eq_true rfl) (Nat.le_of_ble_eq_true rfl) (Nat.le_of_ble_eq_true rfl) rfl (fun r U hq => ?_)
          obtain ⟨rfl, rfl⟩ := hq
          refine fz_back rfl ?_
          refine fz_wo (V' := wNr g sz wd st op ki fa qu F Q oc tc nc pn pf fs nw wy lg rb ow) rfl ?_
          rw [hW i (by omega)]
          cases hv1 : Wn i with
          | true =>
            refine fz_if_ne (tgt := 67) dX0_nearestRefuge_47 (by decide) (fun c47 => ?_) (fun c47 => ?_)
            · exact no (by unfold rfB; rw [hv1]; simp)
            · exact absurd c47 (by decide)
          | false =>
            refine fz_if_ne (tgt := 67) dX0_nearestRefuge_47 (by decide) (fun c47 => ?_) (fun c47 => ?_)
            · exact absurd rfl c47
            · skip
              refine fz_aload_n dX0_nearestRefuge_50 rfl ?_
              refine fz_get dX0_nearestRefuge_51 fX0_20 rfl (Nat.one_pos) rfl ?_
              refine fz_iload dX0_nearestRefuge_54 rfl ?_
              refine fz_iload_n dX0_nearestRefuge_56 rfl ?_
              refine fz_callV (tX8_isEndOfOther rb ow i r (by omega)) dX0_nearestRefuge_57 kX0_164 rfl (Nat.one_pos) ⟨rfl, rfl, trivial⟩ (Nat.le_of_ble_eq_true rfl) (Nat.le_of_ble_eq_true rfl) (Nat.le_of_ble_eq_true rfl) (Nat.le_of_ble_eq_true rfl) (Nat.le_of_ble_eq_true rfl) rfl (fun r U hq => ?_)
              obtain ⟨rfl, rfl⟩ := hq
              refine fz_back rfl ?_
              refine fz_wo (V' := wNr g sz wd st op ki fa qu F Q oc tc nc pn pf fs nw wy lg rb ow) rfl ?_
              rw [hE i (by omega)]
              cases hv2 : E i with
              | true =>
                refine fz_if_ne (tgt := 67) dX0_nearestRefuge_60 (by decide) (fun c60 => ?_) (fun c60 => ?_)
                · exact no (by unfold rfB; rw [hv2]; simp)
                · exact absurd c60 (by decide)
              | false =>
                have hv : rfB kn Wn E i = true := by unfold rfB; rw [hv1, hv2]; simp [hk1]
                have take : bst (rfB kn Wn E) D (i + 1) = some i → ∀ y : Int32, fz_J G mX0_nearestRefuge rX0_nearestRefuge (fz_Z G E0 0 0 (fun x U => x = some (zI (oI (bst (rfB kn Wn E) D cn))) ∧ ∃ F Q, U = wNr g sz wd st op ki fa qu F Q oc tc nc pn pf fs nw wy lg rb ow)) E0 0 0 100 [(5, zI (nI 1)), (4, zI (nI i)), (3, zI y), (0, zR 16 0), (1, zI (nI r)), (2, zI (nI c))] [] (wNr g sz wd st op ki fa qu F Q oc tc nc pn pf fs nw wy lg rb ow) := by
                  intro he y
                  refine fz_iload dX0_nearestRefuge_100 rfl ?_
                  refine fz_istore_n dX0_nearestRefuge_102 (Nat.le_of_ble_eq_true rfl) ?_
                  refine fz_incN dX0_nearestRefuge_103 rfl (Nat.le_of_ble_eq_true rfl) ?_
                  refine fz_goto (tgt := 14) dX0_nearestRefuge_106 (by decide) ?_
                  refine fz_pk [0, 1, 3, 4, 5] rfl ?_
                  have := ih (i + 1) (by omega)
                  rw [he] at this
                  exact this
                refine fz_if_ne (tgt := 67) dX0_nearestRefuge_60 (by decide) (fun c60 => ?_) (fun c60 => ?_)
                · exact absurd rfl c60
                · skip
                  refine fz_iconst (v := nI 1) dX0_nearestRefuge_63 (by decide) ?_
                  refine fz_goto (tgt := 68) dX0_nearestRefuge_64 (by decide) ?_
                  refine fz_istore dX0_nearestRefuge_68 (Nat.le_of_ble_eq_true rfl) ?_
                  refine fz_iload dX0_nearestRefuge_70 rfl ?_
                  refine fz_if_eq (tgt := 103) dX0_nearestRefuge_72 (by decide) (fun c72 => ?_) (fun c72 => ?_)
                  · exact absurd c72 (by decide)
                  · skip
                    refine fz_iload_n dX0_nearestRefuge_75 rfl ?_
                    refine fz_iconst (v := -1) dX0_nearestRefuge_76 (by decide) ?_
                    cases hbn : bst (rfB kn Wn E) D i with
                    | none =>
                      refine fz_icmp_eq (tgt := 100) dX0_nearestRefuge_77 (by decide) (fun c77 => ?_) (fun c77 => ?_)
                      · exact take (by rw [hstep, hbn, hv]; rfl) _
                      · exact absurd rfl c77
                    | some b =>
                      have hbl := (bst_lt hbn).1
                      refine fz_icmp_eq (tgt := 100) dX0_nearestRefuge_77 (by decide) (fun c77 => ?_) (fun c77 => ?_)
                      · exact absurd c77 (oI_ne (by omega))
                      · skip
                        refine fz_aload_n dX0_nearestRefuge_80 rfl ?_
                        refine fz_get dX0_nearestRefuge_81 fX0_31 rfl (Nat.one_pos) rfl ?_
                        refine fz_iload dX0_nearestRefuge_84 rfl ?_
                        refine fz_callV (tX1_measured g hg sz wd (va_up fa g F) i (by omega)) dX0_nearestRefuge_86 kX0_158 rfl (hg) ⟨rfl, rfl, trivial⟩ (Nat.le_of_ble_eq_true rfl) (Nat.le_of_ble_eq_true rfl) (Nat.le_of_ble_eq_true rfl) (Nat.le_of_ble_eq_true rfl) (Nat.le_of_ble_eq_true rfl) rfl (fun r U hq => ?_)
                        obtain ⟨rfl, rfl⟩ := hq
                        refine fz_back rfl ?_
                        refine fz_wo (V' := wNr g sz wd st op ki fa qu F Q oc tc nc pn pf fs nw wy lg rb ow) rfl ?_
                        rw [va_up_self, hF i (by omega)]
                        refine fz_aload_n dX0_nearestRefuge_89 rfl ?_
                        refine fz_get dX0_nearestRefuge_90 fX0_31 rfl (Nat.one_pos) rfl ?_
                        refine fz_iload_n dX0_nearestRefuge_93 rfl ?_
                        refine fz_callV (tX1_measured g hg sz wd (va_up fa g F) b (by omega)) dX0_nearestRefuge_94 kX0_158 rfl (hg) ⟨rfl, rfl, trivial⟩ (Nat.le_of_ble_eq_true rfl) (Nat.le_of_ble_eq_true rfl) (Nat.le_of_ble_eq_true rfl) (Nat.le_of_ble_eq_true rfl) (Nat.le_of_ble_eq_true rfl) rfl (fun r U hq => ?_)
                        obtain ⟨rfl, rfl⟩ := hq
                        refine fz_back rfl ?_
                        refine fz_wo (V' := wNr g sz wd st op ki fa qu F Q oc tc nc pn pf fs nw wy lg rb ow) rfl ?_
                        rw [va_up_self, hF b (by omega)]
                        refine fz_icmp_ge (tgt := 103) dX0_nearestRefuge_97 (by decide) (fun c97 => ?_) (fun c97 => ?_)
                        · have hnl : ¬ D i < D b := Int32.not_lt.mpr c97
                          have := skip (nI 1) (by rw [hstep, hbn, hv]; simp [hnl])
                          rw [hbn] at this
                          exact this
                        · have hl : D i < D b := Int32.not_le.mp c97
                          exact take (by rw [hstep, hbn, hv]; simp [hl]) _
      · rw [if_neg hk1]
        refine fz_if_eq (tgt := 67) dX0_nearestRefuge_35 (by decide) (fun c35 => ?_) (fun c35 => ?_)
        · exact no (by unfold rfB; simp [hk1])
        · exact absurd rfl c35
theorem tX0_nearestRefuge {G : fz_G} (g : Nat) (hg : g < 2) (sz wd : Nat → Int32) (st : Nat → Nat → Int32) (op : Nat → Nat → Int64) (ki fa qu : Nat → Nat → Int32) (cn w : Nat) (kn : Nat → Nat) (hK : gK cn w kn (sz g) (wd g) (ki g)) (hS : gS w (st g)) (hO : gO cn w kn (op g)) (oc tc nc pn : Int32) (pf : Nat → Int32) (fs nw wy lg rb : Int32) (ow : Nat → Int32) (Wn E : Nat → Bool) (r c : Nat) (hE : owE ow r E) (hW : pfW pf Wn) (hc : c < cn) (F Q : Nat → Int32) :
    fz_T G mX0_nearestRefuge rX0_nearestRefuge [zR 16 0, zI (nI r), zI (nI c)] (wNr g sz wd st op ki fa qu F Q oc tc nc pn pf fs nw wy lg rb ow) (fun x U => x = some (zI (oI (bst (rfB kn Wn E) (fun d => oI (dsw cn w kn (exT true kn c) c d)) cn))) ∧ ∃ F Q, U = wNr g sz wd st op ki fa qu F Q oc tc nc pn pf fs nw wy lg rb ow) := by
  refine fz_T.of (by decide) (Nat.le_of_ble_eq_true rfl) (fun E0 => ?_)
  refine fz_aload_n dX0_nearestRefuge_0 rfl ?_
  refine fz_get dX0_nearestRefuge_1 fX0_31 rfl (Nat.one_pos) rfl ?_
  refine fz_iload_n dX0_nearestRefuge_4 rfl ?_
  refine fz_iconst (v := nI 1) dX0_nearestRefuge_5 (by decide) ?_
  refine fz_callV (tX1_measureFrom g hg sz wd st op ki fa qu F Q cn w kn true c hK hS hO hc) dX0_nearestRefuge_6 kX0_152 rfl (hg) ⟨rfl, rfl, rfl, rfl, rfl, rfl, trivial⟩ (Nat.le_of_ble_eq_true rfl) (Nat.le_of_ble_eq_true rfl) (Nat.le_of_ble_eq_true rfl) (Nat.le_of_ble_eq_true rfl) (Nat.le_of_ble_eq_true rfl) rfl (fun r U hq => ?_)
  obtain ⟨rfl, F2, Q2, hF2, rfl⟩ := hq
  refine fz_back rfl ?_
  refine fz_wo (V' := wNr g sz wd st op ki fa qu F2 Q2 oc tc nc pn pf fs nw wy lg rb ow) rfl ?_
  refine fz_iconst (v := -1) dX0_nearestRefuge_9 (by decide) ?_
  refine fz_istore_n dX0_nearestRefuge_10 (Nat.le_of_ble_eq_true rfl) ?_
  refine fz_iconst (v := nI 0) dX0_nearestRefuge_11 (by decide) ?_
  refine fz_istore dX0_nearestRefuge_12 (Nat.le_of_ble_eq_true rfl) ?_
  exact lX0_nearestRefuge g hg sz wd st op ki fa qu cn w kn hK oc tc nc pn pf fs nw wy lg rb ow Wn E r c hE hW F2 Q2 _ (fun d hd => (hF2 d hd).1) cn 0 (by omega)
