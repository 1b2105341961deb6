/-! WaySearch: ticksUntilGoalIsClear -/
/-- from cl ticks on no robot before o comes to the goal, and one does a tick before that -/
def clo (P : Nat → Nat → Nat) (te : Nat → Nat) (rn r t goal o cl : Nat) : Prop := (∀ q, q < o → ¬ q = r → ∀ τ, t + cl ≤ τ → τ < te q → ¬ P q τ = goal) ∧ (cl = 0 ∨ ∃ q, q < rn ∧ ¬ q = r ∧ t + cl - 1 < te q ∧ P q (t + cl - 1) = goal)
theorem sub_lt {y b : Nat} (hy : y < 2 ^ 30) (hb : b < 2 ^ 30) : nI y - nI 1 < nI b ↔ y ≤ b := by
  rw [Int32.lt_iff_toInt_lt, pk_sub_toInt hy (by omega), nI_toInt (by omega)]
  omega
abbrev wCl (g : Nat) (rn : Nat) (rows : Nat → Int64) (en et : Nat → Int32) (lo hi : Int64) (r t : Nat) (sh : Int32) (goal : Nat) : fz_W := [(19, eTT (nI rn)), (20, eRw rows), (21, e6 en), (22, e6 et), (25, eWS g lo hi (nI r) (nI t) sh (nI goal))]
theorem lX9_clear_26 {G : fz_G} {E0 : Nat → fz_E} {Z : List Frame → Array Value → State → State → Prop} (g rn : Nat) (rows : Nat → Int64) (en et : Nat → Int32) (lo hi : Int64) (r t : Nat) (sh : Int32) (goal : Nat) (P : Nat → Nat → Nat) (te : Nat → Nat) (hrn : rn ≤ 6) (hr : r < 6) (ht : t ≤ 4000) (hP : ∀ r τ, r < rn → τ < 5001 → cAt rows en et r τ = nI (P r τ)) (hP8 : ∀ r τ, r < rn → P r τ < 80) (hg8 : goal < 80) (hte : ∀ q, q < rn → te q ≤ 5000) (o : Nat) (ho : o < rn)
    (kk : ∀ cl, cl ≤ 5000 → clo P te rn r t goal (o + 1) cl → fz_J G mX9_ticksUntilGoalIsClear rX9_ticksUntilGoalIsClear Z E0 0 0 4 [(2, zI (nI (o + 1))), (1, zI (nI cl)), (0, zR 25 0)] [] (wCl g rn rows en et lo hi r t sh goal)) :
    ∀ y, y ≤ te o → ∀ cl, cl ≤ 5000 → clo P te rn r t goal o cl → (∀ τ, y ≤ τ → τ < te o → t + cl ≤ τ → ¬ P o τ = goal) → fz_J G mX9_ticksUntilGoalIsClear rX9_ticksUntilGoalIsClear Z E0 0 0 26 [(3, zI (nI y - nI 1)), (2, zI (nI o)), (1, zI (nI cl)), (0, zR 25 0)] [] (wCl g rn rows en et lo hi r t sh goal) := by
  intro y
  have hteo := hte o ho
  have out : ∀ y cl, cl ≤ 5000 → clo P te rn r t goal o cl → (o = r ∨ (y ≤ t + cl ∧ (∀ τ, y ≤ τ → τ < te o → t + cl ≤ τ → ¬ P o τ = goal))) → fz_J G mX9_ticksUntilGoalIsClear rX9_ticksUntilGoalIsClear Z E0 0 0 75 [(3, zI (nI y - nI 1)), (2, zI (nI o)), (1, zI (nI cl)), (0, zR 25 0)] [] (wCl g rn rows en et lo hi r t sh goal) := by
    intro y cl hc5 hcl hx
    refine fz_incN dX9_ticksUntilGoalIsClear_75 rfl (Nat.le_of_ble_eq_true rfl) ?_
    refine fz_goto (tgt := 4) dX9_ticksUntilGoalIsClear_78 (by decide) ?_
    refine fz_pk [0, 2, 3] rfl ?_
    refine kk cl hc5 ⟨fun q hq hqr τ h1 h2 => ?_, hcl.2⟩
    by_cases e : q = o
    · subst e
      rcases hx with hx | ⟨hx1, hx2⟩
      · exact absurd hx hqr
      · exact hx2 τ (by omega) h2 h1
    · exact hcl.1 q (by omega) hqr τ h1 h2
  induction y with
  | zero =>
    intro hy cl hc5 hcl hch
    refine fz_iload_n dX9_ticksUntilGoalIsClear_26 rfl ?_
    refine fz_aload_n dX9_ticksUntilGoalIsClear_27 rfl ?_
    refine fz_get dX9_ticksUntilGoalIsClear_28 fX9_26 rfl (Nat.one_pos) rfl ?_
    refine fz_icmp_eq (tgt := 75) dX9_ticksUntilGoalIsClear_31 (by decide) (fun c31 => ?_) (fun c31 => ?_)
    · exact out 0 cl hc5 hcl (Or.inl ((nI_eq (by omega) (by omega)).mp c31))
    · skip
      refine fz_iload_n dX9_ticksUntilGoalIsClear_34 rfl ?_
      refine fz_aload_n dX9_ticksUntilGoalIsClear_35 rfl ?_
      refine fz_get dX9_ticksUntilGoalIsClear_36 fX9_30 rfl (Nat.one_pos) rfl ?_
      refine fz_iload_n dX9_ticksUntilGoalIsClear_39 rfl ?_
      refine fz_iadd dX9_ticksUntilGoalIsClear_40 ?_
      rw [nI_add]
      refine fz_icmp_lt (tgt := 75) dX9_ticksUntilGoalIsClear_41 (by decide) (fun c41 => ?_) (fun c41 => ?_)
      · exact out 0 cl hc5 hcl (Or.inr ⟨by omega, hch⟩)
      · exact absurd ((sub_lt (by omega) (by omega)).mpr (by omega)) c41
  | succ y ih =>
    intro hy cl hc5 hcl hch
    refine fz_iload_n dX9_ticksUntilGoalIsClear_26 rfl ?_
    refine fz_aload_n dX9_ticksUntilGoalIsClear_27 rfl ?_
    refine fz_get dX9_ticksUntilGoalIsClear_28 fX9_26 rfl (Nat.one_pos) rfl ?_
    refine fz_icmp_eq (tgt := 75) dX9_ticksUntilGoalIsClear_31 (by decide) (fun c31 => ?_) (fun c31 => ?_)
    · exact out (y + 1) cl hc5 hcl (Or.inl ((nI_eq (by omega) (by omega)).mp c31))
    · have hor : ¬ o = r := fun z => c31 (by rw [z])
      refine fz_iload_n dX9_ticksUntilGoalIsClear_34 rfl ?_
      refine fz_aload_n dX9_ticksUntilGoalIsClear_35 rfl ?_
      refine fz_get dX9_ticksUntilGoalIsClear_36 fX9_30 rfl (Nat.one_pos) rfl ?_
      refine fz_iload_n dX9_ticksUntilGoalIsClear_39 rfl ?_
      refine fz_iadd dX9_ticksUntilGoalIsClear_40 ?_
      rw [nI_add]
      refine fz_icmp_lt (tgt := 75) dX9_ticksUntilGoalIsClear_41 (by decide) (fun c41 => ?_) (fun c41 => ?_)
      · have := (sub_lt (by omega) (by omega)).mp c41
        exact out (y + 1) cl hc5 hcl (Or.inr ⟨by omega, hch⟩)
      · have hyc : ¬ y + 1 ≤ t + cl := fun z => c41 ((sub_lt (by omega) (by omega)).mpr z)
        rw [nI_sub1]
        refine fz_aload_n dX9_ticksUntilGoalIsClear_44 rfl ?_
        refine fz_get dX9_ticksUntilGoalIsClear_45 fX9_22 rfl (Nat.one_pos) rfl ?_
        refine fz_iload_n dX9_ticksUntilGoalIsClear_48 rfl ?_
        refine fz_iload_n dX9_ticksUntilGoalIsClear_49 rfl ?_
        refine fz_callV (tX8_cellAt (nI rn) rows en et o y (by omega) (by omega)) dX9_ticksUntilGoalIsClear_50 kX9_39 rfl (Nat.one_pos) ⟨rfl, rfl, rfl, rfl, trivial⟩ (Nat.le_of_ble_eq_true rfl) (Nat.le_of_ble_eq_true rfl) (Nat.le_of_ble_eq_true rfl) (Nat.le_of_ble_eq_true rfl) (Nat.le_of_ble_eq_true rfl) rfl (fun r U hq => ?_)
        obtain ⟨rfl, rfl⟩ := hq
        refine fz_back rfl ?_
        refine fz_wo (V' := wCl g rn rows en et lo hi r t sh goal) rfl ?_
        rw [hP o y ho (by omega)]
        have h8 := hP8 o y ho
        have hdec : nI y + Int32.ofInt (-1) = nI y - nI 1 := by
          rw [Int32.sub_eq_add_neg]
          congr 1
        refine fz_aload_n dX9_ticksUntilGoalIsClear_53 rfl ?_
        refine fz_get dX9_ticksUntilGoalIsClear_54 fX9_36 rfl (Nat.one_pos) rfl ?_
        refine fz_icmp_ne (tgt := 69) dX9_ticksUntilGoalIsClear_57 (by decide) (fun c57 => ?_) (fun c57 => ?_)
        · have hne : ¬ P o y = goal := fun z => c57 (by rw [z])
          refine fz_iinc dX9_ticksUntilGoalIsClear_69 rfl (Nat.le_of_ble_eq_true rfl) ?_
          rw [hdec]
          refine fz_goto (tgt := 26) dX9_ticksUntilGoalIsClear_72 (by decide) ?_
          refine ih (by omega) cl hc5 hcl (fun τ h1 h2 h3 => ?_)
          by_cases e : τ = y
          · rw [e]; exact hne
          · exact hch τ (by omega) h2 h3
        · have heq : P o y = goal := (nI_eq (by omega) (by omega)).mp c57
          refine fz_iload_n dX9_ticksUntilGoalIsClear_60 rfl ?_
          refine fz_iconst (v := nI 1) dX9_ticksUntilGoalIsClear_61 (by decide) ?_
          refine fz_iadd dX9_ticksUntilGoalIsClear_62 ?_
          refine fz_aload_n dX9_ticksUntilGoalIsClear_63 rfl ?_
          refine fz_get dX9_ticksUntilGoalIsClear_64 fX9_30 rfl (Nat.one_pos) rfl ?_
          rw [nI_add]
          refine fz_isub dX9_ticksUntilGoalIsClear_67 ?_
          rw [pk_sub (by omega)]
          refine fz_istore_n dX9_ticksUntilGoalIsClear_68 (Nat.le_of_ble_eq_true rfl) ?_
          refine fz_iinc dX9_ticksUntilGoalIsClear_69 rfl (Nat.le_of_ble_eq_true rfl) ?_
          rw [hdec]
          refine fz_goto (tgt := 26) dX9_ticksUntilGoalIsClear_72 (by decide) ?_
          refine fz_pk [0, 2, 1, 3] rfl ?_
          refine ih (by omega) (y + 1 - t) (by omega) ⟨fun q hq hqr τ h1 h2 => hcl.1 q hq hqr τ (by omega) h2, Or.inr ⟨o, ho, hor, ?_, ?_⟩⟩ (fun τ h1 h2 h3 => ?_)
          · rw [show t + (y + 1 - t) - 1 = y by omega]; omega
          · rw [show t + (y + 1 - t) - 1 = y by omega]; exact heq
          · exact hch τ (by omega) h2 (by omega)
theorem lX9_clear_4 {G : fz_G} {E0 : Nat → fz_E} (g rn : Nat) (rows : Nat → Int64) (en et : Nat → Int32) (lo hi : Int64) (r t : Nat) (sh : Int32) (goal : Nat) (P : Nat → Nat → Nat) (te : Nat → Nat) (hrn : rn ≤ 6) (hr : r < 6) (ht : t ≤ 4000) (hP : ∀ r τ, r < rn → τ < 5001 → cAt rows en et r τ = nI (P r τ)) (hP8 : ∀ r τ, r < rn → P r τ < 80) (hg8 : goal < 80) (hte : ∀ q, q < rn → te q ≤ 5000) (het : ∀ q, q < rn → et q = nI (te q)) :
    ∀ f o, o + f = rn → ∀ cl, cl ≤ 5000 → clo P te rn r t goal o cl → fz_J G mX9_ticksUntilGoalIsClear rX9_ticksUntilGoalIsClear (fz_Z G E0 0 0 (fun x U => (∃ cl, cl ≤ 5000 ∧ x = some (zI (nI cl)) ∧ clo P te rn r t goal rn cl) ∧ U = wCl g rn rows en et lo hi r t sh goal)) E0 0 0 4 [(2, zI (nI o)), (1, zI (nI cl)), (0, zR 25 0)] [] (wCl g rn rows en et lo hi r t sh goal) := by
  intro f
  induction f with
  | zero =>
    intro o ho cl hc5 hcl
    have e : o = rn := by omega
    subst e
    refine fz_iload_n dX9_ticksUntilGoalIsClear_4 rfl ?_
    refine fz_aload_n dX9_ticksUntilGoalIsClear_5 rfl ?_
    refine fz_get dX9_ticksUntilGoalIsClear_6 fX9_22 rfl (Nat.one_pos) rfl ?_
    refine fz_callV (tX8_robots (nI o)) dX9_ticksUntilGoalIsClear_9 kX9_77 rfl (Nat.one_pos) ⟨rfl, trivial⟩ (Nat.le_of_ble_eq_true rfl) (Nat.le_of_ble_eq_true rfl) (Nat.le_of_ble_eq_true rfl) (Nat.le_of_ble_eq_true rfl) (Nat.le_of_ble_eq_true rfl) rfl (fun r U hq => ?_)
    obtain ⟨rfl, rfl⟩ := hq
    refine fz_back rfl ?_
    refine fz_icmp_ge (tgt := 81) dX9_ticksUntilGoalIsClear_12 (by decide) (fun c12 => ?_) (fun c12 => ?_)
    · skip
      refine fz_iload_n dX9_ticksUntilGoalIsClear_81 rfl ?_
      refine fz_iret dX9_ticksUntilGoalIsClear_82 rfl (Nat.zero_le _) (Nat.zero_le _) ⟨⟨cl, hc5, rfl, hcl⟩, rfl⟩
    · exact absurd (nI_le (Nat.le_refl _) (by omega)) c12
  | succ f ih =>
    intro o ho cl hc5 hcl
    refine fz_iload_n dX9_ticksUntilGoalIsClear_4 rfl ?_
    refine fz_aload_n dX9_ticksUntilGoalIsClear_5 rfl ?_
    refine fz_get dX9_ticksUntilGoalIsClear_6 fX9_22 rfl (Nat.one_pos) rfl ?_
    refine fz_callV (tX8_robots (nI rn)) dX9_ticksUntilGoalIsClear_9 kX9_77 rfl (Nat.one_pos) ⟨rfl, trivial⟩ (Nat.le_of_ble_eq_true rfl) (Nat.le_of_ble_eq_true rfl) (Nat.le_of_ble_eq_true rfl) (Nat.le_of_ble_eq_true rfl) (Nat.le_of_ble_eq_true rfl) rfl (fun r U hq => ?_)
    obtain ⟨rfl, rfl⟩ := hq
    refine fz_back rfl ?_
    refine fz_wo (V' := wCl g rn rows en et lo hi r t sh goal) rfl ?_
    refine fz_icmp_ge (tgt := 81) dX9_ticksUntilGoalIsClear_12 (by decide) (fun c12 => ?_) (fun c12 => ?_)
    · exact absurd ((nI_leI (by omega) (by omega)).mp c12) (by omega)
    · skip
      refine fz_aload_n dX9_ticksUntilGoalIsClear_15 rfl ?_
      refine fz_get dX9_ticksUntilGoalIsClear_16 fX9_22 rfl (Nat.one_pos) rfl ?_
      refine fz_iload_n dX9_ticksUntilGoalIsClear_19 rfl ?_
      refine fz_callV (tX8_endTimeOf (nI rn) et o (by omega)) dX9_ticksUntilGoalIsClear_20 kX9_80 rfl (Nat.one_pos) ⟨rfl, rfl, trivial⟩ (Nat.le_of_ble_eq_true rfl) (Nat.le_of_ble_eq_true rfl) (Nat.le_of_ble_eq_true rfl) (Nat.le_of_ble_eq_true rfl) (Nat.le_of_ble_eq_true rfl) rfl (fun r U hq => ?_)
      obtain ⟨rfl, rfl⟩ := hq
      refine fz_back rfl ?_
      refine fz_wo (V' := wCl g rn rows en et lo hi r t sh goal) rfl ?_
      rw [het o (by omega)]
      refine fz_iconst (v := nI 1) dX9_ticksUntilGoalIsClear_23 (by decide) ?_
      refine fz_isub dX9_ticksUntilGoalIsClear_24 ?_
      refine fz_istore_n dX9_ticksUntilGoalIsClear_25 (Nat.le_of_ble_eq_true rfl) ?_
      exact lX9_clear_26 g rn rows en et lo hi r t sh goal P te hrn hr ht hP hP8 hg8 hte o (by omega) (fun cl2 h2 hcl2 => ih (o + 1) (by omega) cl2 h2 hcl2) (te o) (Nat.le_refl _) cl hc5 hcl (fun τ h1 h2 => by omega)
theorem tX9_clear {G : fz_G} (g rn : Nat) (rows : Nat → Int64) (en et : Nat → Int32) (lo hi : Int64) (r t : Nat) (sh : Int32) (goal : Nat) (P : Nat → Nat → Nat) (te : Nat → Nat) (hrn : rn ≤ 6) (hr : r < 6) (ht : t ≤ 4000) (hP : ∀ r τ, r < rn → τ < 5001 → cAt rows en et r τ = nI (P r τ)) (hP8 : ∀ r τ, r < rn → P r τ < 80) (hg8 : goal < 80) (hte : ∀ q, q < rn → te q ≤ 5000) (het : ∀ q, q < rn → et q = nI (te q)) :
    fz_T G mX9_ticksUntilGoalIsClear rX9_ticksUntilGoalIsClear [zR 25 0] (wCl g rn rows en et lo hi r t sh goal) (fun x U => (∃ cl, cl ≤ 5000 ∧ x = some (zI (nI cl)) ∧ clo P te rn r t goal rn cl) ∧ U = wCl g rn rows en et lo hi r t sh goal) := by
  refine fz_T.of (by decide) (Nat.le_of_ble_eq_true rfl) (fun E0 => ?_)
  refine fz_iconst (v := nI 0) dX9_ticksUntilGoalIsClear_0 (by decide) ?_
  refine fz_istore_n dX9_ticksUntilGoalIsClear_1 (Nat.le_of_ble_eq_true rfl) ?_
  refine fz_iconst (v := nI 0) dX9_ticksUntilGoalIsClear_2 (by decide) ?_
  refine fz_istore_n dX9_ticksUntilGoalIsClear_3 (Nat.le_of_ble_eq_true rfl) ?_
  exact lX9_clear_4 g rn rows en et lo hi r t sh goal P te hrn hr ht hP hP8 hg8 hte het rn 0 (by omega) 0 (by omega) ⟨fun q hq => by omega, Or.inl rfl⟩
