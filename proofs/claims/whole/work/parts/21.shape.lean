/-! THE TEXT'S SHAPE: kindOf, widenLine, endLine, findFault -/
/-- what a sign is: 0 wall .. 4 parking, 5 the end of a line, 9 none of these -/
def kd (b : Nat) : Nat := if b = 35 then 0 else if b = 46 then 1 else if b = 115 then 2 else if b = 116 then 3 else if b = 112 then 4 else if b = 47 then 5 else 9
def kI (b : Nat) : Int32 := if kd b = 9 then -1 else nI (kd b)
theorem kd_cases (b : Nat) : kd b = 0 ∨ kd b = 1 ∨ kd b = 2 ∨ kd b = 3 ∨ kd b = 4 ∨ kd b = 5 ∨ kd b = 9 := by
  unfold kd
  repeat' split
  all_goals simp
theorem kd_off : ∀ b, b < 256 → Op.lookupswitch.offset [(35, 58), (46, 60), (47, 68), (112, 66), (115, 62), (116, 64)] 70 (nI b).toInt = 58 + 2 * ((min (kd b) 6 : Nat) : Int) := by decide +kernel
theorem tX2_kindOf {G : fz_G} (len wd ln co fp : Int32) (sg : Nat → Int32) (k b : Nat) (hk : k < 90) (hs : sg k = nI b) (hb : b < 256) : fz_T G mX2_kindOf rX2_kindOf [zR 8 0, zI (nI k)] [(8, eTx len wd ln co fp), (9, eSg sg)] (fun r U => r = some (zI (kI b)) ∧ U = [(8, eTx len wd ln co fp), (9, eSg sg)]) := by
  refine fz_T.of (by decide) (Nat.le_of_ble_eq_true rfl) (fun E0 => ?_)
  refine fz_aload_n dX2_kindOf_0 rfl ?_
  refine fz_get dX2_kindOf_1 fX2_9 rfl (Nat.one_pos) rfl ?_
  refine fz_iload_n dX2_kindOf_4 rfl ?_
  refine fz_iald dX2_kindOf_5 rfl rfl (Nat.one_pos) (vp_in_nI hk (by omega)) ?_
  refine fz_top (y := nI b) (by rw [nI_clamp (by omega)]; exact hs) ?_
  rcases kd_cases b with h | h | h | h | h | h | h
  · refine fz_lookup (off := 58) (tgt := 64) dX2_kindOf_6 (by decide) (by rw [kd_off b hb, h]; rfl) (by decide) ?_
    refine fz_iconst (v := nI 0) dX2_kindOf_64 (by decide) ?_
    refine fz_iret dX2_kindOf_65 rfl (Nat.zero_le _) (Nat.zero_le _) ⟨by unfold kI; rw [h]; rfl, rfl⟩
  · refine fz_lookup (off := 60) (tgt := 66) dX2_kindOf_6 (by decide) (by rw [kd_off b hb, h]; rfl) (by decide) ?_
    refine fz_iconst (v := nI 1) dX2_kindOf_66 (by decide) ?_
    refine fz_iret dX2_kindOf_67 rfl (Nat.zero_le _) (Nat.zero_le _) ⟨by unfold kI; rw [h]; rfl, rfl⟩
  · refine fz_lookup (off := 62) (tgt := 68) dX2_kindOf_6 (by decide) (by rw [kd_off b hb, h]; rfl) (by decide) ?_
    refine fz_iconst (v := nI 2) dX2_kindOf_68 (by decide) ?_
    refine fz_iret dX2_kindOf_69 rfl (Nat.zero_le _) (Nat.zero_le _) ⟨by unfold kI; rw [h]; rfl, rfl⟩
  · refine fz_lookup (off := 64) (tgt := 70) dX2_kindOf_6 (by decide) (by rw [kd_off b hb, h]; rfl) (by decide) ?_
    refine fz_iconst (v := nI 3) dX2_kindOf_70 (by decide) ?_
    refine fz_iret dX2_kindOf_71 rfl (Nat.zero_le _) (Nat.zero_le _) ⟨by unfold kI; rw [h]; rfl, rfl⟩
  · refine fz_lookup (off := 66) (tgt := 72) dX2_kindOf_6 (by decide) (by rw [kd_off b hb, h]; rfl) (by decide) ?_
    refine fz_iconst (v := nI 4) dX2_kindOf_72 (by decide) ?_
    refine fz_iret dX2_kindOf_73 rfl (Nat.zero_le _) (Nat.zero_le _) ⟨by unfold kI; rw [h]; rfl, rfl⟩
  · refine fz_lookup (off := 68) (tgt := 74) dX2_kindOf_6 (by decide) (by rw [kd_off b hb, h]; rfl) (by decide) ?_
    refine fz_iconst (v := nI 5) dX2_kindOf_74 (by decide) ?_
    refine fz_iret dX2_kindOf_75 rfl (Nat.zero_le _) (Nat.zero_le _) ⟨by unfold kI; rw [h]; rfl, rfl⟩
  · refine fz_lookup (off := 70) (tgt := 76) dX2_kindOf_6 (by decide) (by rw [kd_off b hb, h]; rfl) (by decide) ?_
    refine fz_iconst (v := -1) dX2_kindOf_76 (by decide) ?_
    refine fz_iret dX2_kindOf_77 rfl (Nat.zero_le _) (Nat.zero_le _) ⟨by unfold kI; rw [h]; rfl, rfl⟩
theorem tX2_widenLine {G : fz_G} (len fp : Int32) (w l c : Nat) (hw : w ≤ 10) (hl : l ≤ 8) (hc : c ≤ 90) : fz_T G mX2_widenLine rX2_widenLine [zR 8 0] [(8, eTx len (nI w) (nI l) (nI c) fp)] (fun r U => r = some (zI (if c + 1 ≤ (if l = 0 then 10 else w) then 1 else 0)) ∧ U = [(8, eTx len (nI w) (nI l) (nI (c + 1)) fp)]) := by
  refine fz_T.of (by decide) (Nat.le_of_ble_eq_true rfl) (fun E0 => ?_)
  refine fz_aload_n dX2_widenLine_0 rfl ?_
  refine fz_dup dX2_widenLine_1 rfl ?_
  refine fz_get dX2_widenLine_2 fX2_32 rfl (Nat.one_pos) rfl ?_
  refine fz_iconst (v := nI 1) dX2_widenLine_5 (by decide) ?_
  refine fz_iadd dX2_widenLine_6 ?_
  refine fz_put1 dX2_widenLine_7 fX2_32 rfl (Nat.le_of_ble_eq_true rfl) ⟨rfl, rfl⟩ ?_
  refine fz_aload_n dX2_widenLine_10 rfl ?_
  refine fz_get dX2_widenLine_11 fX2_32 rfl (Nat.one_pos) rfl ?_
  refine fz_aload_n dX2_widenLine_14 rfl ?_
  refine fz_get dX2_widenLine_15 fX2_29 rfl (Nat.one_pos) rfl ?_
  rw [nI_add]
  refine fz_if_ne (tgt := 26) dX2_widenLine_18 (by decide) (fun c18 => ?_) (fun c18 => ?_)
  · have h0 : ¬ l = 0 := fun z => c18 (by rw [z]; exact nI_0)
    refine fz_aload_n dX2_widenLine_26 rfl ?_
    refine fz_get dX2_widenLine_27 fX2_19 rfl (Nat.one_pos) rfl ?_
    refine fz_icmp_gt (tgt := 37) dX2_widenLine_30 (by decide) (fun c30 => ?_) (fun c30 => ?_)
    · have h1 : ¬ c + 1 ≤ w := by have := (nI_ltI (by omega) (by omega)).mp c30; omega
      refine fz_iconst (v := nI 0) dX2_widenLine_37 (by decide) ?_
      refine fz_zret dX2_widenLine_38 rfl (by decide) (Nat.zero_le _) (Nat.zero_le _) ⟨by rw [if_neg h0, if_neg h1]; rfl, rfl⟩
    · have h1 : c + 1 ≤ w := by
        rcases Nat.lt_or_ge w (c + 1) with z | z
        · exact absurd (nI_lt z (by omega)) c30
        · exact z
      refine fz_iconst (v := nI 1) dX2_widenLine_33 (by decide) ?_
      refine fz_goto (tgt := 38) dX2_widenLine_34 (by decide) ?_
      refine fz_zret dX2_widenLine_38 rfl (by decide) (Nat.zero_le _) (Nat.zero_le _) ⟨by rw [if_neg h0, if_pos h1]; rfl, rfl⟩
  · have h0 : l = 0 := (nI_eq (by omega) (by omega)).mp c18
    refine fz_bipush (v := nI 10) dX2_widenLine_21 (by decide) ?_
    refine fz_goto (tgt := 30) dX2_widenLine_23 (by decide) ?_
    refine fz_icmp_gt (tgt := 37) dX2_widenLine_30 (by decide) (fun c30 => ?_) (fun c30 => ?_)
    · have h1 : ¬ c + 1 ≤ 10 := by have := (nI_ltI (by omega) (by omega)).mp c30; omega
      refine fz_iconst (v := nI 0) dX2_widenLine_37 (by decide) ?_
      refine fz_zret dX2_widenLine_38 rfl (by decide) (Nat.zero_le _) (Nat.zero_le _) ⟨by rw [if_pos h0, if_neg h1]; rfl, rfl⟩
    · have h1 : c + 1 ≤ 10 := by
        rcases Nat.lt_or_ge 10 (c + 1) with z | z
        · exact absurd (nI_lt z (by omega)) c30
        · exact z
      refine fz_iconst (v := nI 1) dX2_widenLine_33 (by decide) ?_
      refine fz_goto (tgt := 38) dX2_widenLine_34 (by decide) ?_
      refine fz_zret dX2_widenLine_38 rfl (by decide) (Nat.zero_le _) (Nat.zero_le _) ⟨by rw [if_pos h0, if_pos h1]; rfl, rfl⟩
theorem tX2_endLine {G : fz_G} (len fp : Int32) (w l c : Nat) (hw : w ≤ 10) (hl : l ≤ 8) (hc : c ≤ 90) : fz_T G mX2_endLine rX2_endLine [zR 8 0] [(8, eTx len (nI w) (nI l) (nI c) fp)] (fun r U => if c = 0 ∨ (0 < l ∧ c < w) then r = some (zI 0) ∧ U = [(8, eTx len (nI w) (nI l) (nI c) fp)] else r = some (zI 1) ∧ U = [(8, eTx len (nI c) (nI (l + 1)) 0 fp)]) := by
  refine fz_T.of (by decide) (Nat.le_of_ble_eq_true rfl) (fun E0 => ?_)
  refine fz_aload_n dX2_endLine_0 rfl ?_
  refine fz_get dX2_endLine_1 fX2_32 rfl (Nat.one_pos) rfl ?_
  refine fz_if_eq (tgt := 25) dX2_endLine_4 (by decide) (fun c4 => ?_) (fun c4 => ?_)
  · have h0 : c = 0 := (nI_eq (by omega) (by omega)).mp c4
    refine fz_iconst (v := nI 0) dX2_endLine_25 (by decide) ?_
    refine fz_zret dX2_endLine_26 rfl (by decide) (Nat.zero_le _) (Nat.zero_le _) (by rw [if_pos (Or.inl h0)]; exact ⟨rfl, rfl⟩)
  · have h0 : ¬ c = 0 := fun z => c4 (by rw [z]; exact nI_0)
    refine fz_aload_n dX2_endLine_7 rfl ?_
    refine fz_get dX2_endLine_8 fX2_29 rfl (Nat.one_pos) rfl ?_
    refine fz_if_le (tgt := 27) dX2_endLine_11 (by decide) (fun c11 => ?_) (fun c11 => ?_)
    · have h1 : l = 0 := by
        rcases Nat.eq_zero_or_pos l with z | z
        · exact z
        · exact absurd c11 (nI_nle z (by omega))
      refine fz_aload_n dX2_endLine_27 rfl ?_
      refine fz_aload_n dX2_endLine_28 rfl ?_
      refine fz_get dX2_endLine_29 fX2_32 rfl (Nat.one_pos) rfl ?_
      refine fz_put1 dX2_endLine_32 fX2_19 rfl (Nat.le_of_ble_eq_true rfl) ⟨rfl, rfl⟩ ?_
      refine fz_aload_n dX2_endLine_35 rfl ?_
      refine fz_iconst (v := nI 0) dX2_endLine_36 (by decide) ?_
      refine fz_put1 dX2_endLine_37 fX2_32 rfl (Nat.le_of_ble_eq_true rfl) ⟨rfl, rfl⟩ ?_
      refine fz_aload_n dX2_endLine_40 rfl ?_
      refine fz_dup dX2_endLine_41 rfl ?_
      refine fz_get dX2_endLine_42 fX2_29 rfl (Nat.one_pos) rfl ?_
      refine fz_iconst (v := nI 1) dX2_endLine_45 (by decide) ?_
      refine fz_iadd dX2_endLine_46 ?_
      refine fz_put1 dX2_endLine_47 fX2_29 rfl (Nat.le_of_ble_eq_true rfl) ⟨rfl, rfl⟩ ?_
      refine fz_iconst (v := nI 1) dX2_endLine_50 (by decide) ?_
      rw [nI_add]
      refine fz_zret dX2_endLine_51 rfl (by decide) (Nat.zero_le _) (Nat.zero_le _) (by rw [if_neg (by omega)]; exact ⟨rfl, rfl⟩)
    · have h1 : 0 < l := by
        rcases Nat.eq_zero_or_pos l with z | z
        · exact absurd (by rw [z, nI_0]; decide) c11
        · exact z
      refine fz_aload_n dX2_endLine_14 rfl ?_
      refine fz_get dX2_endLine_15 fX2_32 rfl (Nat.one_pos) rfl ?_
      refine fz_aload_n dX2_endLine_18 rfl ?_
      refine fz_get dX2_endLine_19 fX2_19 rfl (Nat.one_pos) rfl ?_
      refine fz_icmp_ge (tgt := 27) dX2_endLine_22 (by decide) (fun c22 => ?_) (fun c22 => ?_)
      · have h2 : w ≤ c := (nI_leI (by omega) (by omega)).mp c22
        refine fz_aload_n dX2_endLine_27 rfl ?_
        refine fz_aload_n dX2_endLine_28 rfl ?_
        refine fz_get dX2_endLine_29 fX2_32 rfl (Nat.one_pos) rfl ?_
        refine fz_put1 dX2_endLine_32 fX2_19 rfl (Nat.le_of_ble_eq_true rfl) ⟨rfl, rfl⟩ ?_
        refine fz_aload_n dX2_endLine_35 rfl ?_
        refine fz_iconst (v := nI 0) dX2_endLine_36 (by decide) ?_
        refine fz_put1 dX2_endLine_37 fX2_32 rfl (Nat.le_of_ble_eq_true rfl) ⟨rfl, rfl⟩ ?_
        refine fz_aload_n dX2_endLine_40 rfl ?_
        refine fz_dup dX2_endLine_41 rfl ?_
        refine fz_get dX2_endLine_42 fX2_29 rfl (Nat.one_pos) rfl ?_
        refine fz_iconst (v := nI 1) dX2_endLine_45 (by decide) ?_
        refine fz_iadd dX2_endLine_46 ?_
        refine fz_put1 dX2_endLine_47 fX2_29 rfl (Nat.le_of_ble_eq_true rfl) ⟨rfl, rfl⟩ ?_
        refine fz_iconst (v := nI 1) dX2_endLine_50 (by decide) ?_
        rw [nI_add]
        refine fz_zret dX2_endLine_51 rfl (by decide) (Nat.zero_le _) (Nat.zero_le _) (by rw [if_neg (by omega)]; exact ⟨rfl, rfl⟩)
      · have h2 : c < w := by
          rcases Nat.lt_or_ge c w with z | z
          · exact z
          · exact absurd (nI_le z (by omega)) c22
        refine fz_iconst (v := nI 0) dX2_endLine_25 (by decide) ?_
        refine fz_zret dX2_endLine_26 rfl (by decide) (Nat.zero_le _) (Nat.zero_le _) (by rw [if_pos (Or.inr ⟨h1, h2⟩)]; exact ⟨rfl, rfl⟩)
/-- the text's lines looked at from sign k on, in line l with c signs so far, the first line's length w: fault, place, length -/
def scn (tx : Nat → Nat) : Nat → Nat → Nat → Nat → Nat → Int32 × Nat × Nat
  | 0, k, l, c, w => if c = 0 ∨ (0 < l ∧ c < w) then (-12, k, 0) else (0, k, c)
  | f + 1, k, l, c, w =>
    if kd (tx k) = 9 then (-11, k, 0)
    else if kd (tx k) = 5 then
      (if c = 0 ∨ (0 < l ∧ c < w) then (-12, k, 0) else if l + 1 < 8 then scn tx f (k + 1) (l + 1) 0 c else (-12, k, 0))
    else if c + 1 ≤ (if l = 0 then 10 else w) then scn tx f (k + 1) l (c + 1) w else (-12, k, 0)
def qF (n : Nat) (sg : Nat → Int32) (S : Int32 × Nat × Nat) : Option fz_V → fz_W → Prop := fun r U => r = some (zI S.1) ∧ ∃ (w : Nat) (l c : Int32), w ≤ 10 ∧ (S.1 = 0 → w = S.2.2) ∧ U = [(8, eTx (nI n) (nI w) l c (nI S.2.1)), (9, eSg sg)]
theorem kI_ne {b : Nat} (h : ¬ kd b = 9) : kI b = nI (kd b) := by unfold kI; rw [if_neg h]
theorem kd_le (b : Nat) : kd b ≤ 9 := by rcases kd_cases b with h | h | h | h | h | h | h <;> omega
theorem lX2_findFault {G : fz_G} {E0 : Nat → fz_E} (n : Nat) (hn : n ≤ 90) (sg : Nat → Int32) (tx : Nat → Nat) (ht : tq sg tx n) (S : Int32 × Nat × Nat) :
    ∀ f k l c w (fp : Int32), k + f = n → l ≤ 7 → c ≤ 10 → w ≤ 10 → scn tx f k l c w = S → fz_J G mX2_findFault rX2_findFault (fz_Z G E0 rX2_findFault.cells rX2_findFault.slots (qF n sg S)) E0 0 0 12 [(1, zI (nI k)), (0, zR 8 0)] [] [(8, eTx (nI n) (nI w) (nI l) (nI c) fp), (9, eSg sg)] := by
  intro f
  induction f with
  | zero =>
    intro k l c w fp hk hl hc hw hS
    have e : k = n := by omega
    subst e
    refine fz_iload_n dX2_findFault_12 rfl ?_
    refine fz_aload_n dX2_findFault_13 rfl ?_
    refine fz_get dX2_findFault_14 fX2_15 rfl (Nat.one_pos) rfl ?_
    refine fz_icmp_ge (tgt := 91) dX2_findFault_17 (by decide) (fun c17 => ?_) (fun c17 => ?_)
    · skip
      refine fz_aload_n dX2_findFault_91 rfl ?_
      refine fz_aload_n dX2_findFault_92 rfl ?_
      refine fz_get dX2_findFault_93 fX2_15 rfl (Nat.one_pos) rfl ?_
      refine fz_put1 dX2_findFault_96 fX2_22 rfl (Nat.le_of_ble_eq_true rfl) ⟨rfl, rfl⟩ ?_
      refine fz_aload_n dX2_findFault_99 rfl ?_
      refine fz_wo (V' := [(8, eTx (nI k) (nI w) (nI l) (nI c) (nI k)), (9, eSg sg)]) rfl ?_
      refine fz_callV (tX2_endLine (nI k) (nI k) w l c hw (by omega) (by omega)) dX2_findFault_100 kX2_39 rfl (Nat.one_pos) ⟨rfl, trivial⟩ (Nat.le_of_ble_eq_true rfl) (Nat.le_of_ble_eq_true rfl) (Nat.le_of_ble_eq_true rfl) (Nat.le_of_ble_eq_true rfl) (Nat.le_of_ble_eq_true rfl) rfl (fun r U hq => ?_)
      unfold scn at hS
      split at hq
      · rename_i h0
        rw [if_pos h0] at hS
        subst hS
        obtain ⟨rfl, rfl⟩ := hq
        refine fz_back rfl ?_
        refine fz_if_eq (tgt := 110) dX2_findFault_103 (by decide) (fun c103 => ?_) (fun c103 => ?_)
        · skip
          refine fz_bipush (v := -12) dX2_findFault_110 (by decide) ?_
          refine fz_iret dX2_findFault_112 rfl (Nat.zero_le _) (Nat.zero_le _) ⟨rfl, w, _, _, hw, fun z => absurd (show (-12 : Int32) = 0 from z) (by decide), rfl⟩
        · exact absurd rfl c103
      · rename_i h0
        rw [if_neg h0] at hS
        subst hS
        obtain ⟨rfl, rfl⟩ := hq
        refine fz_back rfl ?_
        refine fz_if_eq (tgt := 110) dX2_findFault_103 (by decide) (fun c103 => ?_) (fun c103 => ?_)
        · exact absurd c103 (by decide)
        · skip
          refine fz_iconst (v := nI 0) dX2_findFault_106 (by decide) ?_
          refine fz_goto (tgt := 112) dX2_findFault_107 (by decide) ?_
          refine fz_iret dX2_findFault_112 rfl (Nat.zero_le _) (Nat.zero_le _) ⟨rfl, c, _, _, hc, fun _ => rfl, rfl⟩
    · exact absurd (nI_le (Nat.le_refl _) (by omega)) c17
  | succ f ih =>
    intro k l c w fp hk hl hc hw hS
    have hkn : k < n := by omega
    obtain ⟨hs, hb⟩ := ht k hkn
    refine fz_iload_n dX2_findFault_12 rfl ?_
    refine fz_aload_n dX2_findFault_13 rfl ?_
    refine fz_get dX2_findFault_14 fX2_15 rfl (Nat.one_pos) rfl ?_
    refine fz_icmp_ge (tgt := 91) dX2_findFault_17 (by decide) (fun c17 => ?_) (fun c17 => ?_)
    · exact absurd ((nI_leI (by omega) (by omega)).mp c17) (by omega)
    · skip
      refine fz_aload_n dX2_findFault_20 rfl ?_
      refine fz_iload_n dX2_findFault_21 rfl ?_
      refine fz_callV (tX2_kindOf (nI n) (nI w) (nI l) (nI c) fp sg k (tx k) (by omega) hs hb) dX2_findFault_22 kX2_35 rfl (Nat.one_pos) ⟨rfl, rfl, trivial⟩ (Nat.le_of_ble_eq_true rfl) (Nat.le_of_ble_eq_true rfl) (Nat.le_of_ble_eq_true rfl) (Nat.le_of_ble_eq_true rfl) (Nat.le_of_ble_eq_true rfl) rfl (fun r U hq => ?_)
      obtain ⟨rfl, rfl⟩ := hq
      refine fz_back rfl ?_
      refine fz_wo (V' := [(8, eTx (nI n) (nI w) (nI l) (nI c) fp), (9, eSg sg)]) rfl ?_
      unfold scn at hS
      refine fz_istore_n dX2_findFault_25 (Nat.le_of_ble_eq_true rfl) ?_
      refine fz_iload_n dX2_findFault_26 rfl ?_
      refine fz_iconst (v := -1) dX2_findFault_27 (by decide) ?_
      refine fz_icmp_ne (tgt := 39) dX2_findFault_28 (by decide) (fun c28 => ?_) (fun c28 => ?_)
      · have h9 : ¬ kd (tx k) = 9 := fun z => c28 (by unfold kI; rw [if_pos z])
        rw [if_neg h9] at hS
        refine fz_iload_n dX2_findFault_39 rfl ?_
        refine fz_iconst (v := nI 5) dX2_findFault_40 (by decide) ?_
        refine fz_icmp_ne (tgt := 68) dX2_findFault_41 (by decide) (fun c41 => ?_) (fun c41 => ?_)
        · have h5 : ¬ kd (tx k) = 5 := fun z => c41 (by rw [kI_ne h9, z])
          rw [if_neg h5] at hS
          refine fz_aload_n dX2_findFault_68 rfl ?_
          refine fz_callV (tX2_widenLine (nI n) fp w l c hw (by omega) (by omega)) dX2_findFault_69 kX2_43 rfl (Nat.one_pos) ⟨rfl, trivial⟩ (Nat.le_of_ble_eq_true rfl) (Nat.le_of_ble_eq_true rfl) (Nat.le_of_ble_eq_true rfl) (Nat.le_of_ble_eq_true rfl) (Nat.le_of_ble_eq_true rfl) rfl (fun r U hq => ?_)
          obtain ⟨rfl, rfl⟩ := hq
          refine fz_back rfl ?_
          refine fz_wo (V' := [(8, eTx (nI n) (nI w) (nI l) (nI (c + 1)) fp), (9, eSg sg)]) rfl ?_
          refine fz_istore_n dX2_findFault_72 (Nat.le_of_ble_eq_true rfl) ?_
          refine fz_iload_n dX2_findFault_73 rfl ?_
          by_cases hfit : c + 1 ≤ (if l = 0 then 10 else w)
          · rw [if_pos hfit] at hS ⊢
            refine fz_if_ne (tgt := 85) dX2_findFault_74 (by decide) (fun c74 => ?_) (fun c74 => ?_)
            · skip
              refine fz_incN dX2_findFault_85 rfl (Nat.le_of_ble_eq_true rfl) ?_
              refine fz_goto (tgt := 12) dX2_findFault_88 (by decide) ?_
              exact fz_pk [0, 3] rfl (ih (k + 1) l (c + 1) w fp (by omega) hl (by split at hfit <;> omega) hw hS)
            · exact absurd c74 (by decide)
          · rw [if_neg hfit] at hS ⊢
            subst hS
            refine fz_if_ne (tgt := 85) dX2_findFault_74 (by decide) (fun c74 => ?_) (fun c74 => ?_)
            · exact absurd rfl c74
            · skip
              refine fz_aload_n dX2_findFault_77 rfl ?_
              refine fz_iload_n dX2_findFault_78 rfl ?_
              refine fz_put1 dX2_findFault_79 fX2_22 rfl (Nat.le_of_ble_eq_true rfl) ⟨rfl, rfl⟩ ?_
              refine fz_bipush (v := -12) dX2_findFault_82 (by decide) ?_
              refine fz_iret dX2_findFault_84 rfl (Nat.zero_le _) (Nat.zero_le _) ⟨rfl, w, _, _, hw, fun z => absurd (show (-12 : Int32) = 0 from z) (by decide), rfl⟩
        · have h5 : kd (tx k) = 5 := by
            rw [kI_ne h9] at c41
            exact (nI_eq (by have := kd_le (tx k); omega) (by omega)).mp c41
          rw [if_pos h5] at hS
          refine fz_aload_n dX2_findFault_44 rfl ?_
          refine fz_callV (tX2_endLine (nI n) fp w l c hw (by omega) (by omega)) dX2_findFault_45 kX2_39 rfl (Nat.one_pos) ⟨rfl, trivial⟩ (Nat.le_of_ble_eq_true rfl) (Nat.le_of_ble_eq_true rfl) (Nat.le_of_ble_eq_true rfl) (Nat.le_of_ble_eq_true rfl) (Nat.le_of_ble_eq_true rfl) rfl (fun r U hq => ?_)
          by_cases h0 : c = 0 ∨ (0 < l ∧ c < w)
          · rw [if_pos h0] at hq hS
            subst hS
            obtain ⟨rfl, rfl⟩ := hq
            refine fz_back rfl ?_
            refine fz_wo (V' := [(8, eTx (nI n) (nI w) (nI l) (nI c) fp), (9, eSg sg)]) rfl ?_
            refine fz_if_eq (tgt := 64) dX2_findFault_48 (by decide) (fun c48 => ?_) (fun c48 => ?_)
            · skip
              refine fz_iconst (v := nI 0) dX2_findFault_64 (by decide) ?_
              refine fz_goto (tgt := 72) dX2_findFault_65 (by decide) ?_
              refine fz_istore_n dX2_findFault_72 (Nat.le_of_ble_eq_true rfl) ?_
              refine fz_iload_n dX2_findFault_73 rfl ?_
              refine fz_if_ne (tgt := 85) dX2_findFault_74 (by decide) (fun c74 => ?_) (fun c74 => ?_)
              · exact absurd nI_0 c74
              · skip
                refine fz_aload_n dX2_findFault_77 rfl ?_
                refine fz_iload_n dX2_findFault_78 rfl ?_
                refine fz_put1 dX2_findFault_79 fX2_22 rfl (Nat.le_of_ble_eq_true rfl) ⟨rfl, rfl⟩ ?_
                refine fz_bipush (v := -12) dX2_findFault_82 (by decide) ?_
                refine fz_iret dX2_findFault_84 rfl (Nat.zero_le _) (Nat.zero_le _) ⟨rfl, w, _, _, hw, fun z => absurd (show (-12 : Int32) = 0 from z) (by decide), rfl⟩
            · exact absurd rfl c48
          · rw [if_neg h0] at hq hS
            obtain ⟨rfl, rfl⟩ := hq
            refine fz_back rfl ?_
            refine fz_wo (V' := [(8, eTx (nI n) (nI c) (nI (l + 1)) 0 fp), (9, eSg sg)]) rfl ?_
            refine fz_if_eq (tgt := 64) dX2_findFault_48 (by decide) (fun c48 => ?_) (fun c48 => ?_)
            · exact absurd c48 (by decide)
            · skip
              refine fz_aload_n dX2_findFault_51 rfl ?_
              refine fz_get dX2_findFault_52 fX2_29 rfl (Nat.one_pos) rfl ?_
              refine fz_bipush (v := nI 8) dX2_findFault_55 (by decide) ?_
              refine fz_icmp_ge (tgt := 64) dX2_findFault_57 (by decide) (fun c57 => ?_) (fun c57 => ?_)
              · have h8 : ¬ l + 1 < 8 := by have := (nI_leI (by omega) (by omega)).mp c57; omega
                rw [if_neg h8] at hS
                subst hS
                refine fz_iconst (v := nI 0) dX2_findFault_64 (by decide) ?_
                refine fz_goto (tgt := 72) dX2_findFault_65 (by decide) ?_
                refine fz_istore_n dX2_findFault_72 (Nat.le_of_ble_eq_true rfl) ?_
                refine fz_iload_n dX2_findFault_73 rfl ?_
                refine fz_if_ne (tgt := 85) dX2_findFault_74 (by decide) (fun c74 => ?_) (fun c74 => ?_)
                · exact absurd nI_0 c74
                · skip
                  refine fz_aload_n dX2_findFault_77 rfl ?_
                  refine fz_iload_n dX2_findFault_78 rfl ?_
                  refine fz_put1 dX2_findFault_79 fX2_22 rfl (Nat.le_of_ble_eq_true rfl) ⟨rfl, rfl⟩ ?_
                  refine fz_bipush (v := -12) dX2_findFault_82 (by decide) ?_
                  refine fz_iret dX2_findFault_84 rfl (Nat.zero_le _) (Nat.zero_le _) ⟨rfl, c, _, _, hc, fun z => absurd (show (-12 : Int32) = 0 from z) (by decide), rfl⟩
              · have h8 : l + 1 < 8 := by
                  rcases Nat.lt_or_ge (l + 1) 8 with z | z
                  · exact z
                  · exact absurd (nI_le z (by omega)) c57
                rw [if_pos h8] at hS
                refine fz_iconst (v := nI 1) dX2_findFault_60 (by decide) ?_
                refine fz_goto (tgt := 72) dX2_findFault_61 (by decide) ?_
                refine fz_istore_n dX2_findFault_72 (Nat.le_of_ble_eq_true rfl) ?_
                refine fz_iload_n dX2_findFault_73 rfl ?_
                refine fz_if_ne (tgt := 85) dX2_findFault_74 (by decide) (fun c74 => ?_) (fun c74 => ?_)
                · skip
                  refine fz_incN dX2_findFault_85 rfl (Nat.le_of_ble_eq_true rfl) ?_
                  refine fz_goto (tgt := 12) dX2_findFault_88 (by decide) ?_
                  exact fz_pk [0, 3] rfl (ih (k + 1) (l + 1) 0 c fp (by omega) (by omega) (by omega) hc hS)
                · exact absurd c74 (by decide)
      · have h9 : kd (tx k) = 9 := by
          unfold kI at c28
          split at c28
          · assumption
          · exfalso
            have h2 := kd_le (tx k)
            have : (nI (kd (tx k))).toInt = (-1 : Int32).toInt := by rw [c28]
            rw [nI_toInt (by omega)] at this
            have e1 : (-1 : Int32).toInt = -1 := by decide
            omega
        rw [if_pos h9] at hS
        subst hS
        refine fz_aload_n dX2_findFault_31 rfl ?_
        refine fz_iload_n dX2_findFault_32 rfl ?_
        refine fz_put1 dX2_findFault_33 fX2_22 rfl (Nat.le_of_ble_eq_true rfl) ⟨rfl, rfl⟩ ?_
        refine fz_bipush (v := -11) dX2_findFault_36 (by decide) ?_
        refine fz_iret dX2_findFault_38 rfl (Nat.zero_le _) (Nat.zero_le _) ⟨rfl, w, _, _, hw, fun z => absurd (show (-11 : Int32) = 0 from z) (by decide), rfl⟩
theorem tX2_findFault {G : fz_G} (n w : Nat) (hn : n ≤ 90) (hw : w ≤ 10) (ln co fp : Int32) (sg : Nat → Int32) (tx : Nat → Nat) (ht : tq sg tx n) : fz_T G mX2_findFault rX2_findFault [zR 8 0] [(8, eTx (nI n) (nI w) ln co fp), (9, eSg sg)] (qF n sg (scn tx n 0 0 0 w)) := by
  refine fz_T.of (by decide) (Nat.le_of_ble_eq_true rfl) (fun E0 => ?_)
  refine fz_aload_n dX2_findFault_0 rfl ?_
  refine fz_iconst (v := nI 0) dX2_findFault_1 (by decide) ?_
  refine fz_put1 dX2_findFault_2 fX2_29 rfl (Nat.le_of_ble_eq_true rfl) ⟨rfl, rfl⟩ ?_
  refine fz_aload_n dX2_findFault_5 rfl ?_
  refine fz_iconst (v := nI 0) dX2_findFault_6 (by decide) ?_
  refine fz_put1 dX2_findFault_7 fX2_32 rfl (Nat.le_of_ble_eq_true rfl) ⟨rfl, rfl⟩ ?_
  refine fz_iconst (v := nI 0) dX2_findFault_10 (by decide) ?_
  refine fz_istore_n dX2_findFault_11 (Nat.le_of_ble_eq_true rfl) ?_
  exact lX2_findFault n hn sg tx ht _ n 0 0 0 w fp (by omega) (by omega) (by omega) hw rfl
