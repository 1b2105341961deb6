/-! TASKS, ORDERS, ROBOTS: the objects -/
section FZO
variable {G : fz_G} {M : fz_M} {R : Room} {Z : List Frame → Array Value → State → State → Prop} {E0 : Nat → fz_E} {cs sl pc : Nat} {ls : List (Nat × fz_V)} {st : List fz_V} {V : fz_W}
abbrev eTa (T : Nat → Nat → Int32) : fz_E := zo 7 90 (fun i => [zI (T i 0), zI (T i 1), zI (T i 2), zI (T i 3), zI (T i 4), zI (T i 5), zI (T i 6), zI (T i 7), zI (T i 8)])
theorem fz_putTa {idx i j : Nat} {ty : FieldType} {T : Nat → Nat → Int32} {a : Nat → Int32} {x : Int32} (hd : decode M.2.1 pc = .ok (.putfield idx, 3)) (hF : fz_F M.1.cls idx 7 j ty false) (hj : j < 9) (hV : fz_lk V 15 = some (eTa (va_up T i a))) (hi : i < 90) (hok : fz_ok G ty (zI x)) (kk : fz_J G M R Z E0 cs sl (pc + 3) ls st (fz_st V 15 (eTa (va_up T i (upd a j x))))) : fz_J G M R Z E0 cs sl pc ls (zI x :: zR 15 i :: st) V := by
  refine fz_put _ hd hF hV hi hj hok ?_ (fun i' _ h2 => by simp only [va_up_ne _ _ h2]) kk
  rcases (show j = 0 ∨ j = 1 ∨ j = 2 ∨ j = 3 ∨ j = 4 ∨ j = 5 ∨ j = 6 ∨ j = 7 ∨ j = 8 by omega) with rfl | rfl | rfl | rfl | rfl | rfl | rfl | rfl | rfl <;> simp only [va_up_self, upd] <;> rfl
abbrev eOr (T : Nat → Nat → Int32) : fz_E := zo 4 40 (fun i => [zI (T i 0), zI (T i 1), zI (T i 2), zI (T i 3), zI (T i 4), zI (T i 5)])
theorem fz_putOr {idx i j : Nat} {ty : FieldType} {T : Nat → Nat → Int32} {a : Nat → Int32} {x : Int32} (hd : decode M.2.1 pc = .ok (.putfield idx, 3)) (hF : fz_F M.1.cls idx 4 j ty false) (hj : j < 6) (hV : fz_lk V 14 = some (eOr (va_up T i a))) (hi : i < 40) (hok : fz_ok G ty (zI x)) (kk : fz_J G M R Z E0 cs sl (pc + 3) ls st (fz_st V 14 (eOr (va_up T i (upd a j x))))) : fz_J G M R Z E0 cs sl pc ls (zI x :: zR 14 i :: st) V := by
  refine fz_put _ hd hF hV hi hj hok ?_ (fun i' _ h2 => by simp only [va_up_ne _ _ h2]) kk
  rcases (show j = 0 ∨ j = 1 ∨ j = 2 ∨ j = 3 ∨ j = 4 ∨ j = 5 by omega) with rfl | rfl | rfl | rfl | rfl | rfl <;> simp only [va_up_self, upd] <;> rfl
abbrev eRo (T : Nat → Nat → Int32) : fz_E := zo 6 6 (fun i => [zI (T i 0), zI (T i 1), zI (T i 2), zI (T i 3)])
theorem fz_putRo {idx i j : Nat} {ty : FieldType} {T : Nat → Nat → Int32} {a : Nat → Int32} {x : Int32} (hd : decode M.2.1 pc = .ok (.putfield idx, 3)) (hF : fz_F M.1.cls idx 6 j ty false) (hj : j < 4) (hV : fz_lk V 18 = some (eRo (va_up T i a))) (hi : i < 6) (hok : fz_ok G ty (zI x)) (kk : fz_J G M R Z E0 cs sl (pc + 3) ls st (fz_st V 18 (eRo (va_up T i (upd a j x))))) : fz_J G M R Z E0 cs sl pc ls (zI x :: zR 18 i :: st) V := by
  refine fz_put _ hd hF hV hi hj hok ?_ (fun i' _ h2 => by simp only [va_up_ne _ _ h2]) kk
  rcases (show j = 0 ∨ j = 1 ∨ j = 2 ∨ j = 3 by omega) with rfl | rfl | rfl | rfl <;> simp only [va_up_self, upd] <;> rfl
end FZO
def tkN (o sh sn t : Int32) (a : Nat → Int32) : Nat → Int32 := upd (upd (upd (upd (upd (upd (upd (upd (upd a 0 o) 1 sh) 2 sn) 3 (nI 0)) 4 (-1)) 5 t) 6 (-1)) 7 (-1)) 8 (-1)
theorem tX7_begin {G : fz_G} (T : Nat → Nat → Int32) (a : Nat → Int32) (i : Nat) (hi : i < 90) (o sh sn t : Int32) : fz_T G mX7_begin rX7_begin [zR 15 i, zI o, zI sh, zI sn, zI t] [(15, eTa (va_up T i a))] (fun r U => r = none ∧ U = [(15, eTa (va_up T i (tkN o sh sn t a)))]) := by
  refine fz_T.of (by decide) (Nat.le_of_ble_eq_true rfl) (fun E0 => ?_)
  refine fz_aload_n dX7_begin_0 rfl ?_
  refine fz_iload_n dX7_begin_1 rfl ?_
  refine fz_putTa dX7_begin_2 fX7_9 (by decide) rfl (hi) ⟨rfl, rfl⟩ ?_
  refine fz_aload_n dX7_begin_5 rfl ?_
  refine fz_iload_n dX7_begin_6 rfl ?_
  refine fz_putTa dX7_begin_7 fX7_15 (by decide) rfl (hi) ⟨rfl, rfl⟩ ?_
  refine fz_aload_n dX7_begin_10 rfl ?_
  refine fz_iload_n dX7_begin_11 rfl ?_
  refine fz_putTa dX7_begin_12 fX7_18 (by decide) rfl (hi) ⟨rfl, rfl⟩ ?_
  refine fz_aload_n dX7_begin_15 rfl ?_
  refine fz_iconst (v := nI 0) dX7_begin_16 (by decide) ?_
  refine fz_putTa dX7_begin_17 fX7_21 (by decide) rfl (hi) ⟨rfl, rfl⟩ ?_
  refine fz_aload_n dX7_begin_20 rfl ?_
  refine fz_iconst (v := -1) dX7_begin_21 (by decide) ?_
  refine fz_putTa dX7_begin_22 fX7_24 (by decide) rfl (hi) ⟨rfl, rfl⟩ ?_
  refine fz_aload_n dX7_begin_25 rfl ?_
  refine fz_iload dX7_begin_26 rfl ?_
  refine fz_putTa dX7_begin_28 fX7_27 (by decide) rfl (hi) ⟨rfl, rfl⟩ ?_
  refine fz_aload_n dX7_begin_31 rfl ?_
  refine fz_iconst (v := -1) dX7_begin_32 (by decide) ?_
  refine fz_putTa dX7_begin_33 fX7_30 (by decide) rfl (hi) ⟨rfl, rfl⟩ ?_
  refine fz_aload_n dX7_begin_36 rfl ?_
  refine fz_iconst (v := -1) dX7_begin_37 (by decide) ?_
  refine fz_putTa dX7_begin_38 fX7_33 (by decide) rfl (hi) ⟨rfl, rfl⟩ ?_
  refine fz_aload_n dX7_begin_41 rfl ?_
  refine fz_iconst (v := -1) dX7_begin_42 (by decide) ?_
  refine fz_putTa dX7_begin_43 fX7_36 (by decide) rfl (hi) ⟨rfl, rfl⟩ ?_
  refine fz_vret dX7_begin_46 rfl (Nat.zero_le _) (Nat.zero_le _) ⟨rfl, rfl⟩
def orN (s n f t : Int32) (a : Nat → Int32) : Nat → Int32 := upd (upd (upd (upd (upd (upd a 0 s) 1 n) 2 f) 3 n) 4 t) 5 (-1)
theorem tX4_begin {G : fz_G} (T : Nat → Nat → Int32) (a : Nat → Int32) (i : Nat) (hi : i < 40) (s n f t : Int32) : fz_T G mX4_begin rX4_begin [zR 14 i, zI s, zI n, zI f, zI t] [(14, eOr (va_up T i a))] (fun r U => r = none ∧ U = [(14, eOr (va_up T i (orN s n f t a)))]) := by
  refine fz_T.of (by decide) (Nat.le_of_ble_eq_true rfl) (fun E0 => ?_)
  refine fz_aload_n dX4_begin_0 rfl ?_
  refine fz_iload_n dX4_begin_1 rfl ?_
  refine fz_putOr dX4_begin_2 fX4_9 (by decide) rfl (hi) ⟨rfl, rfl⟩ ?_
  refine fz_aload_n dX4_begin_5 rfl ?_
  refine fz_iload_n dX4_begin_6 rfl ?_
  refine fz_putOr dX4_begin_7 fX4_15 (by decide) rfl (hi) ⟨rfl, rfl⟩ ?_
  refine fz_aload_n dX4_begin_10 rfl ?_
  refine fz_iload_n dX4_begin_11 rfl ?_
  refine fz_putOr dX4_begin_12 fX4_18 (by decide) rfl (hi) ⟨rfl, rfl⟩ ?_
  refine fz_aload_n dX4_begin_15 rfl ?_
  refine fz_iload_n dX4_begin_16 rfl ?_
  refine fz_putOr dX4_begin_17 fX4_21 (by decide) rfl (hi) ⟨rfl, rfl⟩ ?_
  refine fz_aload_n dX4_begin_20 rfl ?_
  refine fz_iload dX4_begin_21 rfl ?_
  refine fz_putOr dX4_begin_23 fX4_24 (by decide) rfl (hi) ⟨rfl, rfl⟩ ?_
  refine fz_aload_n dX4_begin_26 rfl ?_
  refine fz_iconst (v := -1) dX4_begin_27 (by decide) ?_
  refine fz_putOr dX4_begin_28 fX4_27 (by decide) rfl (hi) ⟨rfl, rfl⟩ ?_
  refine fz_vret dX4_begin_31 rfl (Nat.zero_le _) (Nat.zero_le _) ⟨rfl, rfl⟩
def roN (a : Nat → Int32) : Nat → Int32 := upd (upd (upd (upd a 0 (-1)) 1 (nI 0)) 2 (nI 0)) 3 (nI 0)
theorem tX6_begin {G : fz_G} (T : Nat → Nat → Int32) (a : Nat → Int32) (i : Nat) (hi : i < 6) : fz_T G mX6_begin rX6_begin [zR 18 i] [(18, eRo (va_up T i a))] (fun r U => r = none ∧ U = [(18, eRo (va_up T i (roN a)))]) := by
  refine fz_T.of (by decide) (Nat.le_of_ble_eq_true rfl) (fun E0 => ?_)
  refine fz_aload_n dX6_begin_0 rfl ?_
  refine fz_iconst (v := -1) dX6_begin_1 (by decide) ?_
  refine fz_putRo dX6_begin_2 fX6_9 (by decide) rfl (hi) ⟨rfl, rfl⟩ ?_
  refine fz_aload_n dX6_begin_5 rfl ?_
  refine fz_iconst (v := nI 0) dX6_begin_6 (by decide) ?_
  refine fz_putRo dX6_begin_7 fX6_15 (by decide) rfl (hi) ⟨rfl, rfl⟩ ?_
  refine fz_aload_n dX6_begin_10 rfl ?_
  refine fz_iconst (v := nI 0) dX6_begin_11 (by decide) ?_
  refine fz_putRo dX6_begin_12 fX6_18 (by decide) rfl (hi) ⟨rfl, rfl⟩ ?_
  refine fz_aload_n dX6_begin_15 rfl ?_
  refine fz_iconst (v := nI 0) dX6_begin_16 (by decide) ?_
  refine fz_putRo dX6_begin_17 fX6_21 (by decide) rfl (hi) ⟨rfl, rfl⟩ ?_
  refine fz_vret dX6_begin_20 rfl (Nat.zero_le _) (Nat.zero_le _) ⟨rfl, rfl⟩
theorem tw_out {x : Int32} {n : Nat} (hn : n < 2 ^ 31) (h : x < 0 ∨ nI n ≤ x) : x.toInt < 0 ∨ ((n : Int) - 1) < x.toInt := by
  rcases h with h | h
  · exact Or.inl (by simpa using Int32.lt_iff_toInt_lt.mp h)
  · have := Int32.le_iff_toInt_le.mp h
    rw [nI_toInt hn] at this
    exact Or.inr (by omega)
/-- what a task tells -/
def tkT (a : Nat → Int32) (x : Int32) : Int32 := if x < 0 ∨ nI 9 ≤ x then -2 else a x.toNatClampNeg
theorem tX7_tell {G : fz_G} (T : Nat → Nat → Int32) (i : Nat) (hi : i < 90) (x : Int32) : fz_T G mX7_tell rX7_tell [zR 15 i, zI x] [(15, eTa T)] (fun r U => r = some (zI (tkT (T i) x)) ∧ U = [(15, eTa T)]) := by
  refine fz_T.of (by decide) (Nat.le_of_ble_eq_true rfl) (fun E0 => ?_)
  refine fz_iload_n dX7_tell_0 rfl ?_
  rcases pk_ix x (n := 9) (by omega) with h | h | ⟨j, hj, rfl⟩
  · refine fz_tableOut (tgt := 97) dX7_tell_1 (tw_out (n := 9) (by omega) (Or.inl h)) (by decide) ?_
    refine fz_bipush (v := -2) dX7_tell_97 (by decide) ?_
    refine fz_iret dX7_tell_99 rfl (Nat.zero_le _) (Nat.zero_le _) ⟨by unfold tkT; rw [if_pos (Or.inl h)], rfl⟩
  · refine fz_tableOut (tgt := 97) dX7_tell_1 (tw_out (n := 9) (by omega) (Or.inr h)) (by decide) ?_
    refine fz_bipush (v := -2) dX7_tell_97 (by decide) ?_
    refine fz_iret dX7_tell_99 rfl (Nat.zero_le _) (Nat.zero_le _) ⟨by unfold tkT; rw [if_pos (Or.inr h)], rfl⟩
  · have e : tkT (T i) (nI j) = T i j := by
      unfold tkT
      rw [if_neg, nI_clamp (by omega)]
      rintro (z | z)
      · exact nI_pos (by omega) z
      · have := (nI_leI (by omega) (by omega)).mp z
        omega
    rw [e]
    rcases (show j = 0 ∨ j = 1 ∨ j = 2 ∨ j = 3 ∨ j = 4 ∨ j = 5 ∨ j = 6 ∨ j = 7 ∨ j = 8 by omega) with rfl | rfl | rfl | rfl | rfl | rfl | rfl | rfl | rfl
    · refine fz_tableIn (off := 51) (tgt := 52) dX7_tell_1 (by decide) (by decide) (by decide) (by decide) ?_
      refine fz_aload_n dX7_tell_52 rfl ?_
      refine fz_get dX7_tell_53 fX7_9 rfl (hi) rfl ?_
      refine fz_iret dX7_tell_56 rfl (Nat.zero_le _) (Nat.zero_le _) ⟨rfl, rfl⟩
    · refine fz_tableIn (off := 56) (tgt := 57) dX7_tell_1 (by decide) (by decide) (by decide) (by decide) ?_
      refine fz_aload_n dX7_tell_57 rfl ?_
      refine fz_get dX7_tell_58 fX7_15 rfl (hi) rfl ?_
      refine fz_iret dX7_tell_61 rfl (Nat.zero_le _) (Nat.zero_le _) ⟨rfl, rfl⟩
    · refine fz_tableIn (off := 61) (tgt := 62) dX7_tell_1 (by decide) (by decide) (by decide) (by decide) ?_
      refine fz_aload_n dX7_tell_62 rfl ?_
      refine fz_get dX7_tell_63 fX7_18 rfl (hi) rfl ?_
      refine fz_iret dX7_tell_66 rfl (Nat.zero_le _) (Nat.zero_le _) ⟨rfl, rfl⟩
    · refine fz_tableIn (off := 66) (tgt := 67) dX7_tell_1 (by decide) (by decide) (by decide) (by decide) ?_
      refine fz_aload_n dX7_tell_67 rfl ?_
      refine fz_get dX7_tell_68 fX7_21 rfl (hi) rfl ?_
      refine fz_iret dX7_tell_71 rfl (Nat.zero_le _) (Nat.zero_le _) ⟨rfl, rfl⟩
    · refine fz_tableIn (off := 71) (tgt := 72) dX7_tell_1 (by decide) (by decide) (by decide) (by decide) ?_
      refine fz_aload_n dX7_tell_72 rfl ?_
      refine fz_get dX7_tell_73 fX7_24 rfl (hi) rfl ?_
      refine fz_iret dX7_tell_76 rfl (Nat.zero_le _) (Nat.zero_le _) ⟨rfl, rfl⟩
    · refine fz_tableIn (off := 76) (tgt := 77) dX7_tell_1 (by decide) (by decide) (by decide) (by decide) ?_
      refine fz_aload_n dX7_tell_77 rfl ?_
      refine fz_get dX7_tell_78 fX7_27 rfl (hi) rfl ?_
      refine fz_iret dX7_tell_81 rfl (Nat.zero_le _) (Nat.zero_le _) ⟨rfl, rfl⟩
    · refine fz_tableIn (off := 81) (tgt := 82) dX7_tell_1 (by decide) (by decide) (by decide) (by decide) ?_
      refine fz_aload_n dX7_tell_82 rfl ?_
      refine fz_get dX7_tell_83 fX7_30 rfl (hi) rfl ?_
      refine fz_iret dX7_tell_86 rfl (Nat.zero_le _) (Nat.zero_le _) ⟨rfl, rfl⟩
    · refine fz_tableIn (off := 86) (tgt := 87) dX7_tell_1 (by decide) (by decide) (by decide) (by decide) ?_
      refine fz_aload_n dX7_tell_87 rfl ?_
      refine fz_get dX7_tell_88 fX7_33 rfl (hi) rfl ?_
      refine fz_iret dX7_tell_91 rfl (Nat.zero_le _) (Nat.zero_le _) ⟨rfl, rfl⟩
    · refine fz_tableIn (off := 91) (tgt := 92) dX7_tell_1 (by decide) (by decide) (by decide) (by decide) ?_
      refine fz_aload_n dX7_tell_92 rfl ?_
      refine fz_get dX7_tell_93 fX7_36 rfl (hi) rfl ?_
      refine fz_iret dX7_tell_96 rfl (Nat.zero_le _) (Nat.zero_le _) ⟨rfl, rfl⟩
/-- what an order tells -/
def orT (a : Nat → Int32) (x : Int32) : Int32 := if x < 0 ∨ nI 6 ≤ x then -2 else if x = nI 3 then (if a 3 ≤ 0 then 0 else 1) else a x.toNatClampNeg
theorem tX4_tell {G : fz_G} (T : Nat → Nat → Int32) (i : Nat) (hi : i < 40) (x : Int32) : fz_T G mX4_tell rX4_tell [zR 14 i, zI x] [(14, eOr T)] (fun r U => r = some (zI (orT (T i) x)) ∧ U = [(14, eOr T)]) := by
  refine fz_T.of (by decide) (Nat.le_of_ble_eq_true rfl) (fun E0 => ?_)
  refine fz_iload_n dX4_tell_0 rfl ?_
  rcases pk_ix x (n := 6) (by omega) with h | h | ⟨j, hj, rfl⟩
  · refine fz_tableOut (tgt := 78) dX4_tell_1 (tw_out (n := 6) (by omega) (Or.inl h)) (by decide) ?_
    refine fz_bipush (v := -2) dX4_tell_78 (by decide) ?_
    refine fz_iret dX4_tell_80 rfl (Nat.zero_le _) (Nat.zero_le _) ⟨by unfold orT; rw [if_pos (Or.inl h)], rfl⟩
  · refine fz_tableOut (tgt := 78) dX4_tell_1 (tw_out (n := 6) (by omega) (Or.inr h)) (by decide) ?_
    refine fz_bipush (v := -2) dX4_tell_78 (by decide) ?_
    refine fz_iret dX4_tell_80 rfl (Nat.zero_le _) (Nat.zero_le _) ⟨by unfold orT; rw [if_pos (Or.inr h)], rfl⟩
  · have e : orT (T i) (nI j) = if j = 3 then (if T i 3 ≤ 0 then 0 else 1) else T i j := by
      unfold orT
      rw [if_neg, nI_clamp (by omega)]
      · by_cases h3 : j = 3
        · rw [if_pos h3, if_pos (by rw [h3])]
        · rw [if_neg h3, if_neg (fun z => h3 ((nI_eq (by omega) (by omega)).mp z))]
      · rintro (z | z)
        · exact nI_pos (by omega) z
        · have := (nI_leI (by omega) (by omega)).mp z
          omega
    rw [e]
    rcases (show j = 0 ∨ j = 1 ∨ j = 2 ∨ j = 3 ∨ j = 4 ∨ j = 5 by omega) with rfl | rfl | rfl | rfl | rfl | rfl
    · refine fz_tableIn (off := 39) (tgt := 40) dX4_tell_1 (by decide) (by decide) (by decide) (by decide) ?_
      refine fz_aload_n dX4_tell_40 rfl ?_
      refine fz_get dX4_tell_41 fX4_9 rfl (hi) rfl ?_
      refine fz_iret dX4_tell_44 rfl (Nat.zero_le _) (Nat.zero_le _) ⟨rfl, rfl⟩
    · refine fz_tableIn (off := 44) (tgt := 45) dX4_tell_1 (by decide) (by decide) (by decide) (by decide) ?_
      refine fz_aload_n dX4_tell_45 rfl ?_
      refine fz_get dX4_tell_46 fX4_15 rfl (hi) rfl ?_
      refine fz_iret dX4_tell_49 rfl (Nat.zero_le _) (Nat.zero_le _) ⟨rfl, rfl⟩
    · refine fz_tableIn (off := 49) (tgt := 50) dX4_tell_1 (by decide) (by decide) (by decide) (by decide) ?_
      refine fz_aload_n dX4_tell_50 rfl ?_
      refine fz_get dX4_tell_51 fX4_18 rfl (hi) rfl ?_
      refine fz_iret dX4_tell_54 rfl (Nat.zero_le _) (Nat.zero_le _) ⟨rfl, rfl⟩
    · refine fz_tableIn (off := 54) (tgt := 55) dX4_tell_1 (by decide) (by decide) (by decide) (by decide) ?_
      refine fz_aload_n dX4_tell_55 rfl ?_
      refine fz_get dX4_tell_56 fX4_21 rfl (hi) rfl ?_
      refine fz_if_le (tgt := 66) dX4_tell_59 (by decide) (fun c => ?_) (fun c => ?_)
      · skip
        refine fz_iconst (v := nI 0) dX4_tell_66 (by decide) ?_
        refine fz_iret dX4_tell_67 rfl (Nat.zero_le _) (Nat.zero_le _) ⟨by rw [if_pos rfl, if_pos c]; rfl, rfl⟩
      · skip
        refine fz_iconst (v := nI 1) dX4_tell_62 (by decide) ?_
        refine fz_goto (tgt := 67) dX4_tell_63 (by decide) ?_
        refine fz_iret dX4_tell_67 rfl (Nat.zero_le _) (Nat.zero_le _) ⟨by rw [if_pos rfl, if_neg c]; rfl, rfl⟩
    · refine fz_tableIn (off := 67) (tgt := 68) dX4_tell_1 (by decide) (by decide) (by decide) (by decide) ?_
      refine fz_aload_n dX4_tell_68 rfl ?_
      refine fz_get dX4_tell_69 fX4_24 rfl (hi) rfl ?_
      refine fz_iret dX4_tell_72 rfl (Nat.zero_le _) (Nat.zero_le _) ⟨rfl, rfl⟩
    · refine fz_tableIn (off := 72) (tgt := 73) dX4_tell_1 (by decide) (by decide) (by decide) (by decide) ?_
      refine fz_aload_n dX4_tell_73 rfl ?_
      refine fz_get dX4_tell_74 fX4_27 rfl (hi) rfl ?_
      refine fz_iret dX4_tell_77 rfl (Nat.zero_le _) (Nat.zero_le _) ⟨rfl, rfl⟩
