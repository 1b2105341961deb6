/-! Fleet: isFit, nearestFit -/
def tsh (T : Nat → Nat → Int32) (i : Nat) : Nat := (T i 1).toNatClampNeg
def tst (T : Nat → Nat → Int32) (i : Nat) : Nat := (T i 2).toNatClampNeg
/-- task i waits, and neither of its places is an end of another (E) -/
def ftB (T : Nat → Nat → Int32) (E : Nat → Bool) (i : Nat) : Bool := decide (T i 3 = nI 0) && (!E (tsh T i) && !E (tst T i))
/-- what the table's owners say of the others' ends -/
def owE (ow : Nat → Int32) (r : Nat) (E : Nat → Bool) : Prop := ∀ c, c < 80 → (if ¬ ow c = -1 ∧ ¬ ow c = nI r then (1 : Int32) else 0) = bI (E c)
theorem tX0_isFit {G : fz_G} (g : Nat) (sz nw wy lg rb : Int32) (T : Nat → Nat → Int32) (ow : Nat → Int32) (E : Nat → Bool) (i r : Nat) (hi : i < 90) (hE : owE ow r E) (h1 : T i 1 = nI (tsh T i)) (h1c : tsh T i < 80) (h2 : T i 2 = nI (tst T i)) (h2c : tst T i < 80) : fz_T G mX0_isFit rX0_isFit [zR 16 0, zR 15 i, zI (nI r)] [(15, eTa T), (16, eFl g sz nw wy lg), (19, eTT rb), (23, e80 ow)] (fun x U => x = some (zI (bI (ftB T E i))) ∧ U = [(15, eTa T), (16, eFl g sz nw wy lg), (19, eTT rb), (23, e80 ow)]) := by
  refine fz_T.of (by decide) (Nat.le_of_ble_eq_true rfl) (fun E0 => ?_)
  refine fz_aload_n dX0_isFit_0 rfl ?_
  refine fz_get dX0_isFit_1 fX0_161 rfl (hi) rfl ?_
  unfold ftB
  refine fz_if_ne (tgt := 41) dX0_isFit_4 (by decide) (fun c4 => ?_) (fun c4 => ?_)
  · have e : decide (T i 3 = nI 0) = false := decide_eq_false (fun z => c4 (by rw [z]; exact nI_0))
    rw [e]
    refine fz_iconst (v := nI 0) dX0_isFit_41 (by decide) ?_
    refine fz_zret dX0_isFit_42 rfl (by decide) (Nat.zero_le _) (Nat.zero_le _) ⟨rfl, rfl⟩
  · have e : decide (T i 3 = nI 0) = true := decide_eq_true (by rw [c4]; exact nI_0.symm)
    rw [e]
    refine fz_aload_n dX0_isFit_7 rfl ?_
    refine fz_get dX0_isFit_8 fX0_20 rfl (Nat.one_pos) rfl ?_
    refine fz_aload_n dX0_isFit_11 rfl ?_
    refine fz_get dX0_isFit_12 fX0_116 rfl (hi) rfl ?_
    refine fz_iload_n dX0_isFit_15 rfl ?_
    refine fz_wo (V' := [(15, eTa T), (16, eFl g sz nw wy lg), (19, eTT rb), (23, e80 ow)]) rfl ?_
    rw [h1]
    refine fz_callV (tX8_isEndOfOther rb ow (tsh T i) r h1c) dX0_isFit_16 kX0_164 rfl (Nat.one_pos) ⟨rfl, rfl, trivial⟩ (Nat.le_of_ble_eq_true rfl) (Nat.le_of_ble_eq_true rfl) (Nat.le_of_ble_eq_true rfl) (Nat.le_of_ble_eq_true rfl) (Nat.le_of_ble_eq_true rfl) rfl (fun r U hq => ?_)
    obtain ⟨rfl, rfl⟩ := hq
    refine fz_back rfl ?_
    rw [hE _ h1c]
    cases hv : E (tsh T i) with
    | true =>
      refine fz_if_ne (tgt := 41) dX0_isFit_19 (by decide) (fun c19 => ?_) (fun c19 => ?_)
      · skip
        refine fz_iconst (v := nI 0) dX0_isFit_41 (by decide) ?_
        refine fz_zret dX0_isFit_42 rfl (by decide) (Nat.zero_le _) (Nat.zero_le _) ⟨rfl, rfl⟩
      · exact absurd c19 (by decide)
    | false =>
      refine fz_if_ne (tgt := 41) dX0_isFit_19 (by decide) (fun c19 => ?_) (fun c19 => ?_)
      · exact absurd rfl c19
      · skip
        refine fz_aload_n dX0_isFit_22 rfl ?_
        refine fz_get dX0_isFit_23 fX0_20 rfl (Nat.one_pos) rfl ?_
        refine fz_aload_n dX0_isFit_26 rfl ?_
        refine fz_get dX0_isFit_27 fX0_121 rfl (hi) rfl ?_
        refine fz_iload_n dX0_isFit_30 rfl ?_
        refine fz_wo (V' := [(15, eTa T), (16, eFl g sz nw wy lg), (19, eTT rb), (23, e80 ow)]) rfl ?_
        rw [h2]
        refine fz_callV (tX8_isEndOfOther rb ow (tst T i) r h2c) dX0_isFit_31 kX0_164 rfl (Nat.one_pos) ⟨rfl, rfl, trivial⟩ (Nat.le_of_ble_eq_true rfl) (Nat.le_of_ble_eq_true rfl) (Nat.le_of_ble_eq_true rfl) (Nat.le_of_ble_eq_true rfl) (Nat.le_of_ble_eq_true rfl) rfl (fun r U hq => ?_)
        obtain ⟨rfl, rfl⟩ := hq
        refine fz_back rfl ?_
        rw [hE _ h2c]
        cases hv2 : E (tst T i) with
        | true =>
          refine fz_if_ne (tgt := 41) dX0_isFit_34 (by decide) (fun c34 => ?_) (fun c34 => ?_)
          · skip
            refine fz_iconst (v := nI 0) dX0_isFit_41 (by decide) ?_
            refine fz_zret dX0_isFit_42 rfl (by decide) (Nat.zero_le _) (Nat.zero_le _) ⟨rfl, rfl⟩
          · exact absurd c34 (by decide)
        | false =>
          refine fz_if_ne (tgt := 41) dX0_isFit_34 (by decide) (fun c34 => ?_) (fun c34 => ?_)
          · exact absurd rfl c34
          · skip
            refine fz_iconst (v := nI 1) dX0_isFit_37 (by decide) ?_
            refine fz_goto (tgt := 42) dX0_isFit_38 (by decide) ?_
            refine fz_zret dX0_isFit_42 rfl (by decide) (Nat.zero_le _) (Nat.zero_le _) ⟨rfl, rfl⟩
/-- the first of those that are F with the least D -/
def bst (F : Nat → Bool) (D : Nat → Int32) : Nat → Option Nat
  | 0 => none
  | n + 1 => match bst F D n with
    | none => if F n then some n else none
    | some b => if F n && decide (D n < D b) then some n else some b
theorem bst_lt {F : Nat → Bool} {D : Nat → Int32} : ∀ {n b : Nat}, bst F D n = some b → b < n ∧ F b = true
  | 0, b, h => by cases h
  | n + 1, b, h => by
    unfold bst at h
    cases hb : bst F D n with
    | none =>
      rw [hb] at h
      simp only at h
      split at h
      · rename_i hf
        cases h
        exact ⟨by omega, hf⟩
      · cases h
    | some b' =>
      obtain ⟨a1, a2⟩ := bst_lt hb
      rw [hb] at h
      simp only at h
      split at h
      · rename_i hf
        cases h
        rw [Bool.and_eq_true] at hf
        exact ⟨by omega, hf.1⟩
      · cases h
        exact ⟨by omega, a2⟩
abbrev wNf (g : Nat) (sz wd : Nat → Int32) (st : Nat → Nat → Int32) (op : Nat → Nat → Int64) (ki fa qu : Nat → Nat → Int32) (F Q : Nat → Int32) (oc tc nc pn : Int32) (T : Nat → Nat → Int32) (fs nw wy lg rb : Int32) (ow : Nat → Int32) : fz_W := [(2, eGr sz wd), (3, e5 st), (4, eL op), (5, e8 ki), (6, e8 (va_up fa g F)), (7, e8 (va_up qu g Q)), (10, eOs oc tc nc pn), (12, eA12), (15, eTa T), (16, eFl g fs nw wy lg), (19, eTT rb), (23, e80 ow)]
theorem lX0_nearestFit {G : fz_G} {E0 : Nat → fz_E} (g : Nat) (hg : g < 2) (sz wd : Nat → Int32) (st : Nat → Nat → Int32) (op : Nat → Nat → Int64) (ki fa qu : Nat → Nat → Int32) (cn w : Nat) (kn : Nat → Nat) (hK : gK cn w kn (sz g) (wd g) (ki g)) (hS : gS w (st g)) (hO : gO cn w kn (op g)) (oc nc pn : Int32) (tn : Nat) (htn : tn ≤ 90) (T : Nat → Nat → Int32) (fs nw wy lg rb : Int32) (ow : Nat → Int32) (E : Nat → Bool) (r c : Nat) (hE : owE ow r E) (hc : c < cn) (hT1 : ∀ i, i < tn → T i 1 = nI (tsh T i) ∧ tsh T i < cn) (hT2 : ∀ i, i < tn → T i 2 = nI (tst T i) ∧ tst T i < cn) :
    ∀ q i, i + q = tn → ∀ F Q (x : Int32), (∀ b, bst (ftB T E) (fun i => oI (dsw cn w kn (exT true kn c) c (tsh T i))) i = some b → FD cn w kn (exT true kn c) c F ∧ x = oI (dsw cn w kn (exT true kn c) c (tsh T b))) → fz_J G mX0_nearestFit rX0_nearestFit (fz_Z G E0 0 0 (fun x U => x = some (zI (oI (bst (ftB T E) (fun i => oI (dsw cn w kn (exT true kn c) c (tsh T i))) tn))) ∧ ∃ F Q, U = wNf g sz wd st op ki fa qu F Q oc (nI tn) nc pn T fs nw wy lg rb ow)) E0 0 0 8 [(5, zI (nI i)), (4, zI x), (3, zI (oI (bst (ftB T E) (fun i => oI (dsw cn w kn (exT true kn c) c (tsh T i))) i))), (0, zR 16 0), (1, zI (nI r)), (2, zI (nI c))] [] (wNf g sz wd st op ki fa qu F Q oc (nI tn) nc pn T fs nw wy lg rb ow) := by
  obtain ⟨h0, hw, h80, hh, hsz, hwd, hki⟩ := id hK
  intro q
  induction q with
  | zero =>
    intro i hi F Q x hb
    have e : i = tn := by omega
    subst e
    refine fz_iload dX0_nearestFit_8 rfl ?_
    refine fz_aload_n dX0_nearestFit_10 rfl ?_
    refine fz_get dX0_nearestFit_11 fX0_35 rfl (Nat.one_pos) rfl ?_
    refine fz_callV (tX5_tasks oc (nI i) nc pn) dX0_nearestFit_14 kX0_145 rfl (Nat.one_pos) ⟨rfl, trivial⟩ (Nat.le_of_ble_eq_true rfl) (Nat.le_of_ble_eq_true rfl) (Nat.le_of_ble_eq_true rfl) (Nat.le_of_ble_eq_true rfl) (Nat.le_of_ble_eq_true rfl) rfl (fun r U hq => ?_)
    obtain ⟨rfl, rfl⟩ := hq
    refine fz_back rfl ?_
    refine fz_icmp_ge (tgt := 97) dX0_nearestFit_17 (by decide) (fun c17 => ?_) (fun c17 => ?_)
    · skip
      refine fz_iload_n dX0_nearestFit_97 rfl ?_
      refine fz_iret dX0_nearestFit_98 rfl (Nat.zero_le _) (Nat.zero_le _) ⟨rfl, F, Q, rfl⟩
    · exact absurd (nI_le (Nat.le_refl _) (by omega)) c17
  | succ q ih =>
    intro i hi F Q x hb
    obtain ⟨t1, t1c⟩ := hT1 i (by omega)
    obtain ⟨t2, t2c⟩ := hT2 i (by omega)
    refine fz_iload dX0_nearestFit_8 rfl ?_
    refine fz_aload_n dX0_nearestFit_10 rfl ?_
    refine fz_get dX0_nearestFit_11 fX0_35 rfl (Nat.one_pos) rfl ?_
    refine fz_callV (tX5_tasks oc (nI tn) nc pn) dX0_nearestFit_14 kX0_145 rfl (Nat.one_pos) ⟨rfl, trivial⟩ (Nat.le_of_ble_eq_true rfl) (Nat.le_of_ble_eq_true rfl) (Nat.le_of_ble_eq_true rfl) (Nat.le_of_ble_eq_true rfl) (Nat.le_of_ble_eq_true rfl) rfl (fun r U hq => ?_)
    obtain ⟨rfl, rfl⟩ := hq
    refine fz_back rfl ?_
    refine fz_wo (V' := wNf g sz wd st op ki fa qu F Q oc (nI tn) nc pn T fs nw wy lg rb ow) rfl ?_
    refine fz_icmp_ge (tgt := 97) dX0_nearestFit_17 (by decide) (fun c17 => ?_) (fun c17 => ?_)
    · exact absurd ((nI_leI (by omega) (by omega)).mp c17) (by omega)
    · skip
      refine fz_aload_n dX0_nearestFit_20 rfl ?_
      refine fz_aload_n dX0_nearestFit_21 rfl ?_
      refine fz_get dX0_nearestFit_22 fX0_35 rfl (Nat.one_pos) rfl ?_
      refine fz_iload dX0_nearestFit_25 rfl ?_
      refine fz_callV (tX5_taskAt oc (nI tn) nc pn i (by omega)) dX0_nearestFit_27 kX0_112 rfl (Nat.one_pos) ⟨rfl, rfl, trivial⟩ (Nat.le_of_ble_eq_true rfl) (Nat.le_of_ble_eq_true rfl) (Nat.le_of_ble_eq_true rfl) (Nat.le_of_ble_eq_true rfl) (Nat.le_of_ble_eq_true rfl) rfl (fun r U hq => ?_)
      obtain ⟨rfl, rfl⟩ := hq
      refine fz_back rfl ?_
      refine fz_wo (V' := wNf g sz wd st op ki fa qu F Q oc (nI tn) nc pn T fs nw wy lg rb ow) rfl ?_
      refine fz_iload_n dX0_nearestFit_30 rfl ?_
      refine fz_callV (tX0_isFit g fs nw wy lg rb T ow E i r (by omega) hE t1 (by omega) t2 (by omega)) dX0_nearestFit_31 kX0_148 rfl (Nat.one_pos) ⟨rfl, rfl, rfl, rfl, trivial⟩ (Nat.le_of_ble_eq_true rfl) (Nat.le_of_ble_eq_true rfl) (Nat.le_of_ble_eq_true rfl) (Nat.le_of_ble_eq_true rfl) (Nat.le_of_ble_eq_true rfl) rfl (fun r U hq => ?_)
      obtain ⟨rfl, rfl⟩ := hq
      refine fz_back rfl ?_
      refine fz_wo (V' := wNf g sz wd st op ki fa qu F Q oc (nI tn) nc pn T fs nw wy lg rb ow) rfl ?_
      have hstep : bst (ftB T E) (fun i => oI (dsw cn w kn (exT true kn c) c (tsh T i))) (i + 1) = (match bst (ftB T E) (fun i => oI (dsw cn w kn (exT true kn c) c (tsh T i))) i with
        | none => if ftB T E i then some i else none
        | some b => if ftB T E i && decide (oI (dsw cn w kn (exT true kn c) c (tsh T i)) < oI (dsw cn w kn (exT true kn c) c (tsh T b))) then some i else some b) := rfl
      cases hv : ftB T E i with
      | false =>
        refine fz_if_eq (tgt := 91) dX0_nearestFit_34 (by decide) (fun c34 => ?_) (fun c34 => ?_)
        · have e : bst (ftB T E) (fun i => oI (dsw cn w kn (exT true kn c) c (tsh T i))) (i + 1) = bst (ftB T E) (fun i => oI (dsw cn w kn (exT true kn c) c (tsh T i))) i := by
            rw [hstep, hv]
            cases bst (ftB T E) (fun i => oI (dsw cn w kn (exT true kn c) c (tsh T i))) i <;> rfl
          refine fz_incN dX0_nearestFit_91 rfl (Nat.le_of_ble_eq_true rfl) ?_
          refine fz_goto (tgt := 8) dX0_nearestFit_94 (by decide) ?_
          rw [← e] at hb ⊢
          exact ih (i + 1) (by omega) F Q x hb
        · exact absurd rfl c34
      | true =>
        have key : ∀ F Q (x6 : Int32), FD cn w kn (exT true kn c) c F → fz_J G mX0_nearestFit rX0_nearestFit (fz_Z G E0 0 0 (fun x U => x = some (zI (oI (bst (ftB T E) (fun i => oI (dsw cn w kn (exT true kn c) c (tsh T i))) tn))) ∧ ∃ F Q, U = wNf g sz wd st op ki fa qu F Q oc (nI tn) nc pn T fs nw wy lg rb ow)) E0 0 0 51 [(5, zI (nI i)), (4, zI x), (3, zI (oI (bst (ftB T E) (fun i => oI (dsw cn w kn (exT true kn c) c (tsh T i))) i))), (0, zR 16 0), (1, zI (nI r)), (2, zI (nI c))] [] (wNf g sz wd st op ki fa qu F Q oc (nI tn) nc pn T fs nw wy lg rb ow) := by
          intro F Q _ hF
          have take : ∀ v : Int32, v = oI (dsw cn w kn (exT true kn c) c (tsh T i)) → bst (ftB T E) (fun i => oI (dsw cn w kn (exT true kn c) c (tsh T i))) (i + 1) = some i → ∀ y : Int32, fz_J G mX0_nearestFit rX0_nearestFit (fz_Z G E0 0 0 (fun x U => x = some (zI (oI (bst (ftB T E) (fun i => oI (dsw cn w kn (exT true kn c) c (tsh T i))) tn))) ∧ ∃ F Q, U = wNf g sz wd st op ki fa qu F Q oc (nI tn) nc pn T fs nw wy lg rb ow)) E0 0 0 84 [(6, zI v), (5, zI (nI i)), (4, zI x), (3, zI y), (0, zR 16 0), (1, zI (nI r)), (2, zI (nI c))] [] (wNf g sz wd st op ki fa qu F Q oc (nI tn) nc pn T fs nw wy lg rb ow) := by
            intro v hv2 he y
            refine fz_iload dX0_nearestFit_84 rfl ?_
            refine fz_istore_n dX0_nearestFit_86 (Nat.le_of_ble_eq_true rfl) ?_
            refine fz_iload dX0_nearestFit_87 rfl ?_
            refine fz_istore dX0_nearestFit_89 (Nat.le_of_ble_eq_true rfl) ?_
            refine fz_incN dX0_nearestFit_91 rfl (Nat.le_of_ble_eq_true rfl) ?_
            refine fz_goto (tgt := 8) dX0_nearestFit_94 (by decide) ?_
            refine fz_pk [0, 1, 2, 4, 5, 6] rfl ?_
            have key2 := ih (i + 1) (by omega) F Q v (fun b hb2 => by
              rw [he] at hb2
              cases hb2
              exact ⟨hF, hv2⟩)
            rw [he] at key2
            exact key2
          refine fz_aload_n dX0_nearestFit_51 rfl ?_
          refine fz_get dX0_nearestFit_52 fX0_31 rfl (Nat.one_pos) rfl ?_
          refine fz_aload_n dX0_nearestFit_55 rfl ?_
          refine fz_get dX0_nearestFit_56 fX0_35 rfl (Nat.one_pos) rfl ?_
          refine fz_iload dX0_nearestFit_59 rfl ?_
          refine fz_callV (tX5_taskAt oc (nI tn) nc pn i (by omega)) dX0_nearestFit_61 kX0_112 rfl (Nat.one_pos) ⟨rfl, rfl, trivial⟩ (Nat.le_of_ble_eq_true rfl) (Nat.le_of_ble_eq_true rfl) (Nat.le_of_ble_eq_true rfl) (Nat.le_of_ble_eq_true rfl) (Nat.le_of_ble_eq_true rfl) rfl (fun r U hq => ?_)
          obtain ⟨rfl, rfl⟩ := hq
          refine fz_back rfl ?_
          refine fz_wo (V' := wNf g sz wd st op ki fa qu F Q oc (nI tn) nc pn T fs nw wy lg rb ow) rfl ?_
          refine fz_get dX0_nearestFit_64 fX0_116 rfl ((by omega : i < 90)) rfl ?_
          rw [t1]
          refine fz_callV (tX1_measured g hg sz wd (va_up fa g F) (tsh T i) (by omega)) dX0_nearestFit_67 kX0_158 rfl (hg) ⟨rfl, rfl, trivial⟩ (Nat.le_of_ble_eq_true rfl) (Nat.le_of_ble_eq_true rfl) (Nat.le_of_ble_eq_true rfl) (Nat.le_of_ble_eq_true rfl) (Nat.le_of_ble_eq_true rfl) rfl (fun r U hq => ?_)
          obtain ⟨rfl, rfl⟩ := hq
          refine fz_back rfl ?_
          refine fz_wo (V' := wNf g sz wd st op ki fa qu F Q oc (nI tn) nc pn T fs nw wy lg rb ow) rfl ?_
          rw [va_up_self, (hF (tsh T i) t1c).1]
          refine fz_istore dX0_nearestFit_70 (Nat.le_of_ble_eq_true rfl) ?_
          refine fz_iload_n dX0_nearestFit_72 rfl ?_
          refine fz_iconst (v := -1) dX0_nearestFit_73 (by decide) ?_
          cases hbn : bst (ftB T E) (fun i => oI (dsw cn w kn (exT true kn c) c (tsh T i))) i with
          | none =>
            refine fz_icmp_eq (tgt := 84) dX0_nearestFit_74 (by decide) (fun c74 => ?_) (fun c74 => ?_)
            · exact take _ rfl (by rw [hstep, hbn, hv]; rfl) _
            · exact absurd rfl c74
          | some b =>
            have hbl := (bst_lt hbn).1
            refine fz_icmp_eq (tgt := 84) dX0_nearestFit_74 (by decide) (fun c74 => ?_) (fun c74 => ?_)
            · exact absurd c74 (oI_ne (by omega))
            · skip
              refine fz_iload dX0_nearestFit_77 rfl ?_
              refine fz_iload dX0_nearestFit_79 rfl ?_
              rw [(hb b hbn).2]
              refine fz_icmp_ge (tgt := 91) dX0_nearestFit_81 (by decide) (fun c81 => ?_) (fun c81 => ?_)
              · have e : bst (ftB T E) (fun i => oI (dsw cn w kn (exT true kn c) c (tsh T i))) (i + 1) = some b := by
                  rw [hstep, hbn, hv]
                  have : ¬ oI (dsw cn w kn (exT true kn c) c (tsh T i)) < oI (dsw cn w kn (exT true kn c) c (tsh T b)) := Int32.not_lt.mpr c81
                  simp [this]
                refine fz_incN dX0_nearestFit_91 rfl (Nat.le_of_ble_eq_true rfl) ?_
                refine fz_goto (tgt := 8) dX0_nearestFit_94 (by decide) ?_
                refine fz_pk [0, 2, 3, 4, 5, 6] rfl ?_
                have key2 := ih (i + 1) (by omega) F Q _ (fun b2 hb2 => by
                  rw [e] at hb2
                  cases hb2
                  exact ⟨hF, (hb b hbn).2⟩)
                rw [e, (hb b hbn).2] at key2
                exact key2
              · have h3 : oI (dsw cn w kn (exT true kn c) c (tsh T i)) < oI (dsw cn w kn (exT true kn c) c (tsh T b)) := Int32.not_le.mp c81
                rw [← (hb b hbn).2]
                exact take _ rfl (by rw [hstep, hbn, hv]; simp [h3]) _
        refine fz_if_eq (tgt := 91) dX0_nearestFit_34 (by decide) (fun c34 => ?_) (fun c34 => ?_)
        · exact absurd c34 (by decide)
        · skip
          refine fz_iload_n dX0_nearestFit_37 rfl ?_
          refine fz_iconst (v := -1) dX0_nearestFit_38 (by decide) ?_
          cases hbn : bst (ftB T E) (fun i => oI (dsw cn w kn (exT true kn c) c (tsh T i))) i with
          | none =>
            rw [hbn] at key
            refine fz_icmp_ne (tgt := 51) dX0_nearestFit_39 (by decide) (fun c39 => ?_) (fun c39 => ?_)
            · exact absurd rfl c39
            · skip
              refine fz_aload_n dX0_nearestFit_42 rfl ?_
              refine fz_get dX0_nearestFit_43 fX0_31 rfl (Nat.one_pos) rfl ?_
              refine fz_iload_n dX0_nearestFit_46 rfl ?_
              refine fz_iconst (v := nI 1) dX0_nearestFit_47 (by decide) ?_
              refine fz_callV (tX1_measureFrom g hg sz wd st op ki fa qu F Q cn w kn true c hK hS hO hc) dX0_nearestFit_48 kX0_152 rfl (hg) ⟨rfl, rfl, rfl, rfl, rfl, rfl, trivial⟩ (Nat.le_of_ble_eq_true rfl) (Nat.le_of_ble_eq_true rfl) (Nat.le_of_ble_eq_true rfl) (Nat.le_of_ble_eq_true rfl) (Nat.le_of_ble_eq_true rfl) rfl (fun r U hq => ?_)
              obtain ⟨rfl, F2, Q2, hF2, rfl⟩ := hq
              refine fz_back rfl ?_
              refine fz_wo (V' := wNf g sz wd st op ki fa qu F2 Q2 oc (nI tn) nc pn T fs nw wy lg rb ow) rfl ?_
              exact key F2 Q2 x hF2
          | some b =>
            have hbl := (bst_lt hbn).1
            refine fz_icmp_ne (tgt := 51) dX0_nearestFit_39 (by decide) (fun c39 => ?_) (fun c39 => ?_)
            · have := key F Q x (hb b hbn).1
              rw [hbn] at this
              exact this
            · exact absurd c39 (oI_ne (by omega))
theorem tX0_nearestFit {G : fz_G} (g : Nat) (hg : g < 2) (sz wd : Nat → Int32) (st : Nat → Nat → Int32) (op : Nat → Nat → Int64) (ki fa qu : Nat → Nat → Int32) (cn w : Nat) (kn : Nat → Nat) (hK : gK cn w kn (sz g) (wd g) (ki g)) (hS : gS w (st g)) (hO : gO cn w kn (op g)) (oc nc pn : Int32) (tn : Nat) (htn : tn ≤ 90) (T : Nat → Nat → Int32) (fs nw wy lg rb : Int32) (ow : Nat → Int32) (E : Nat → Bool) (r c : Nat) (hE : owE ow r E) (hc : c < cn) (hT1 : ∀ i, i < tn → T i 1 = nI (tsh T i) ∧ tsh T i < cn) (hT2 : ∀ i, i < tn → T i 2 = nI (tst T i) ∧ tst T i < cn) (F Q : Nat → Int32) :
    fz_T G mX0_nearestFit rX0_nearestFit [zR 16 0, zI (nI r), zI (nI c)] (wNf g sz wd st op ki fa qu F Q oc (nI tn) nc pn T fs nw wy lg rb ow) (fun x U => x = some (zI (oI (bst (ftB T E) (fun i => oI (dsw cn w kn (exT true kn c) c (tsh T i))) tn))) ∧ ∃ F Q, U = wNf g sz wd st op ki fa qu F Q oc (nI tn) nc pn T fs nw wy lg rb ow) := by
  refine fz_T.of (by decide) (Nat.le_of_ble_eq_true rfl) (fun E0 => ?_)
  refine fz_iconst (v := -1) dX0_nearestFit_0 (by decide) ?_
  refine fz_istore_n dX0_nearestFit_1 (Nat.le_of_ble_eq_true rfl) ?_
  refine fz_iconst (v := nI 0) dX0_nearestFit_2 (by decide) ?_
  refine fz_istore dX0_nearestFit_3 (Nat.le_of_ble_eq_true rfl) ?_
  refine fz_iconst (v := nI 0) dX0_nearestFit_5 (by decide) ?_
  refine fz_istore dX0_nearestFit_6 (Nat.le_of_ble_eq_true rfl) ?_
  exact lX0_nearestFit g hg sz wd st op ki fa qu cn w kn hK hS hO oc nc pn tn htn T fs nw wy lg rb ow E r c hE hc hT1 hT2 tn 0 (by omega) F Q (nI 0) (fun b hb => by cases hb)
