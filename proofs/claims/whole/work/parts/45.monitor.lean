/-! FleetController$Monitor -/
abbrev eMo (al : Int32) : fz_E := zo 3 1 (fun _ => [zI al])
theorem tX3_alarms {G : fz_G} (al : Int32) : fz_T G mX3_alarms rX3_alarms [zR 24 0] [(24, eMo al)] (fun r U => r = some (zI al) ∧ U = [(24, eMo al)]) := by
  refine fz_T.of (by decide) (Nat.le_of_ble_eq_true rfl) (fun E0 => ?_)
  refine fz_aload_n dX3_alarms_0 rfl ?_
  refine fz_get dX3_alarms_1 fX3_9 rfl (Nat.one_pos) rfl ?_
  refine fz_iret dX3_alarms_4 rfl (Nat.zero_le _) (Nat.zero_le _) ⟨rfl, rfl⟩
theorem tX3_clear {G : fz_G} (al : Int32) : fz_T G mX3_clear rX3_clear [zR 24 0] [(24, eMo al)] (fun r U => r = none ∧ U = [(24, eMo (nI 0))]) := by
  refine fz_T.of (by decide) (Nat.le_of_ble_eq_true rfl) (fun E0 => ?_)
  refine fz_aload_n dX3_clear_0 rfl ?_
  refine fz_iconst (v := nI 0) dX3_clear_1 (by decide) ?_
  refine fz_put1 dX3_clear_2 fX3_9 rfl (Nat.le_of_ble_eq_true rfl) ⟨rfl, rfl⟩ ?_
  refine fz_vret dX3_clear_5 rfl (Nat.zero_le _) (Nat.zero_le _) ⟨rfl, rfl⟩
/-- what two robots give the monitor to count -/
def wc2 (b a ob oa : Nat) : Nat := (if a = oa then 1 else 0) + (if ¬ a = b ∧ a = ob ∧ b = oa then 1 else 0)
theorem tX3_lookAtTwo {G : fz_G} (A b a ob oa : Nat) (h1 : b < 80) (h2 : a < 80) (h3 : ob < 80) (h4 : oa < 80) : fz_T G mX3_lookAtTwo rX3_lookAtTwo [zR 24 0, zI (nI b), zI (nI a), zI (nI ob), zI (nI oa)] [(24, eMo (nI A))] (fun r U => r = none ∧ U = [(24, eMo (nI (A + wc2 b a ob oa)))]) := by
  refine fz_T.of (by decide) (Nat.le_of_ble_eq_true rfl) (fun E0 => ?_)
  have fin : ∀ (B : Nat) , fz_J G mX3_lookAtTwo rX3_lookAtTwo (fz_Z G E0 rX3_lookAtTwo.cells rX3_lookAtTwo.slots (fun r U => r = none ∧ U = [(24, eMo (nI (B + if ¬ a = b ∧ a = ob ∧ b = oa then 1 else 0)))])) E0 0 0 16 (fz_args 0 [zR 24 0, zI (nI b), zI (nI a), zI (nI ob), zI (nI oa)]) [] [(24, eMo (nI B))] := by
    intro B
    refine fz_iload_n dX3_lookAtTwo_16 rfl ?_
    refine fz_iload_n dX3_lookAtTwo_17 rfl ?_
    refine fz_icmp_eq (tgt := 42) dX3_lookAtTwo_18 (by decide) (fun c18 => ?_) (fun c18 => ?_)
    · have e : a = b := (nI_eq (by omega) (by omega)).mp c18
      refine fz_vret dX3_lookAtTwo_42 rfl (Nat.zero_le _) (Nat.zero_le _) ⟨rfl, by rw [if_neg (fun z => z.1 e)]; rfl⟩
    · have e : ¬ a = b := fun z => c18 (by rw [z])
      refine fz_iload_n dX3_lookAtTwo_21 rfl ?_
      refine fz_iload_n dX3_lookAtTwo_22 rfl ?_
      refine fz_icmp_ne (tgt := 42) dX3_lookAtTwo_23 (by decide) (fun c23 => ?_) (fun c23 => ?_)
      · have e2 : ¬ a = ob := fun z => c23 (by rw [z])
        refine fz_vret dX3_lookAtTwo_42 rfl (Nat.zero_le _) (Nat.zero_le _) ⟨rfl, by rw [if_neg (fun z => e2 z.2.1)]; rfl⟩
      · have e2 : a = ob := (nI_eq (by omega) (by omega)).mp c23
        refine fz_iload_n dX3_lookAtTwo_26 rfl ?_
        refine fz_iload dX3_lookAtTwo_27 rfl ?_
        refine fz_icmp_ne (tgt := 42) dX3_lookAtTwo_29 (by decide) (fun c29 => ?_) (fun c29 => ?_)
        · have e3 : ¬ b = oa := fun z => c29 (by rw [z])
          refine fz_vret dX3_lookAtTwo_42 rfl (Nat.zero_le _) (Nat.zero_le _) ⟨rfl, by rw [if_neg (fun z => e3 z.2.2)]; rfl⟩
        · have e3 : b = oa := (nI_eq (by omega) (by omega)).mp c29
          refine fz_aload_n dX3_lookAtTwo_32 rfl ?_
          refine fz_dup dX3_lookAtTwo_33 rfl ?_
          refine fz_get dX3_lookAtTwo_34 fX3_9 rfl (Nat.one_pos) rfl ?_
          refine fz_iconst (v := nI 1) dX3_lookAtTwo_37 (by decide) ?_
          refine fz_iadd dX3_lookAtTwo_38 ?_
          rw [nI_add]
          refine fz_put1 dX3_lookAtTwo_39 fX3_9 rfl (Nat.le_of_ble_eq_true rfl) ⟨rfl, rfl⟩ ?_
          refine fz_vret dX3_lookAtTwo_42 rfl (Nat.zero_le _) (Nat.zero_le _) ⟨rfl, by rw [if_pos ⟨e, e2, e3⟩]; rfl⟩
  refine fz_iload_n dX3_lookAtTwo_0 rfl ?_
  refine fz_iload dX3_lookAtTwo_1 rfl ?_
  refine fz_icmp_ne (tgt := 16) dX3_lookAtTwo_3 (by decide) (fun c3 => ?_) (fun c3 => ?_)
  · have e : ¬ a = oa := fun z => c3 (by rw [z])
    have hw : A + wc2 b a ob oa = A + if ¬ a = b ∧ a = ob ∧ b = oa then 1 else 0 := by unfold wc2; rw [if_neg e]; omega
    rw [hw]
    exact fin A
  · have e : a = oa := (nI_eq (by omega) (by omega)).mp c3
    have hw : A + wc2 b a ob oa = A + 1 + if ¬ a = b ∧ a = ob ∧ b = oa then 1 else 0 := by unfold wc2; rw [if_pos e]; omega
    rw [hw]
    refine fz_aload_n dX3_lookAtTwo_6 rfl ?_
    refine fz_dup dX3_lookAtTwo_7 rfl ?_
    refine fz_get dX3_lookAtTwo_8 fX3_9 rfl (Nat.one_pos) rfl ?_
    refine fz_iconst (v := nI 1) dX3_lookAtTwo_11 (by decide) ?_
    refine fz_iadd dX3_lookAtTwo_12 ?_
    rw [nI_add]
    refine fz_put1 dX3_lookAtTwo_13 fX3_9 rfl (Nat.le_of_ble_eq_true rfl) ⟨rfl, rfl⟩ ?_
    exact fin (A + 1)
/-- what robot r gives it to count with those before q -/
def wcq (P : Nat → Nat → Nat) (t r : Nat) : Nat → Nat
  | 0 => 0
  | q + 1 => wcq P t r q + wc2 (P r (t - 1)) (P r t) (P q (t - 1)) (P q t)
def wcr (cn w : Nat) (kn : Nat → Nat) (P : Nat → Nat → Nat) (t r : Nat) : Nat := (if kn (P r t) = 0 then 1 else 0) + (if nrB cn w (P r (t - 1)) (P r t) 5 then 0 else 1) + wcq P t r r
def wct (cn w : Nat) (kn : Nat → Nat) (P : Nat → Nat → Nat) (t : Nat) : Nat → Nat
  | 0 => 0
  | r + 1 => wct cn w kn P t r + wcr cn w kn P t r
abbrev wMo (sz wd : Nat → Int32) (st : Nat → Nat → Int32) (op : Nat → Nat → Int64) (ki : Nat → Nat → Int32) (rn : Nat) (rows : Nat → Int64) (en et : Nat → Int32) (A : Nat) : fz_W := [(2, eGr sz wd), (3, e5 st), (4, eL op), (5, e8 ki), (19, eTT (nI rn)), (20, eRw rows), (21, e6 en), (22, e6 et), (24, eMo (nI A))]
theorem lX3_look_75 {G : fz_G} {E0 : Nat → fz_E} {Z : List Frame → Array Value → State → State → Prop} (g : Nat) (sz wd : Nat → Int32) (st : Nat → Nat → Int32) (op : Nat → Nat → Int64) (ki : Nat → Nat → Int32) (rn : Nat) (rows : Nat → Int64) (en et : Nat → Int32) (P : Nat → Nat → Nat) (hrn : rn ≤ 6) (t : Nat) (ht : 0 < t) (ht2 : t < 5001) (hP : ∀ r τ, r < rn → τ < 5001 → cAt rows en et r τ = nI (P r τ)) (hP8 : ∀ r τ, r < rn → P r τ < 80) (r A : Nat) (hr : r < rn)
    (kk : fz_J G mX3_look rX3_look Z E0 0 0 112 [(7, zI (nI r)), (6, zI (nI (P r t))), (5, zI (nI (P r (t - 1)))), (4, zI (nI r)), (0, zR 24 0), (1, zR 2 g), (2, zR 19 0), (3, zI (nI t))] [] (wMo sz wd st op ki rn rows en et (A + wcq P t r r))) :
    ∀ f q, q + f = r → fz_J G mX3_look rX3_look Z E0 0 0 75 [(7, zI (nI q)), (6, zI (nI (P r t))), (5, zI (nI (P r (t - 1)))), (4, zI (nI r)), (0, zR 24 0), (1, zR 2 g), (2, zR 19 0), (3, zI (nI t))] [] (wMo sz wd st op ki rn rows en et (A + wcq P t r q)) := by
  intro f
  induction f with
  | zero =>
    intro q hq
    have e : q = r := by omega
    subst e
    refine fz_iload dX3_look_75 rfl ?_
    refine fz_iload dX3_look_77 rfl ?_
    refine fz_icmp_ge (tgt := 112) dX3_look_79 (by decide) (fun c79 => ?_) (fun c79 => ?_)
    · exact kk
    · exact absurd (nI_le (Nat.le_refl _) (by omega)) c79
  | succ f ih =>
    intro q hq
    refine fz_iload dX3_look_75 rfl ?_
    refine fz_iload dX3_look_77 rfl ?_
    refine fz_icmp_ge (tgt := 112) dX3_look_79 (by decide) (fun c79 => ?_) (fun c79 => ?_)
    · exact absurd ((nI_leI (by omega) (by omega)).mp c79) (by omega)
    · skip
      refine fz_aload_n dX3_look_82 rfl ?_
      refine fz_iload dX3_look_83 rfl ?_
      refine fz_iload dX3_look_85 rfl ?_
      refine fz_aload_n dX3_look_87 rfl ?_
      refine fz_iload dX3_look_88 rfl ?_
      refine fz_iload_n dX3_look_90 rfl ?_
      refine fz_iconst (v := nI 1) dX3_look_91 (by decide) ?_
      refine fz_isub dX3_look_92 ?_
      rw [pk_sub (by omega)]
      refine fz_callV (tX8_cellAt (nI rn) rows en et q (t - 1) (by omega) (by omega)) dX3_look_93 kX3_21 rfl (Nat.one_pos) ⟨rfl, rfl, rfl, rfl, trivial⟩ (Nat.le_of_ble_eq_true rfl) (Nat.le_of_ble_eq_true rfl) (Nat.le_of_ble_eq_true rfl) (Nat.le_of_ble_eq_true rfl) (Nat.le_of_ble_eq_true rfl) rfl (fun r U hq => ?_)
      obtain ⟨rfl, rfl⟩ := hq
      refine fz_back rfl ?_
      rw [hP q (t - 1) (by omega) (by omega)]
      refine fz_aload_n dX3_look_96 rfl ?_
      refine fz_iload dX3_look_97 rfl ?_
      refine fz_iload_n dX3_look_99 rfl ?_
      refine fz_callV (tX8_cellAt (nI rn) rows en et q t (by omega) (by omega)) dX3_look_100 kX3_21 rfl (Nat.one_pos) ⟨rfl, rfl, rfl, rfl, trivial⟩ (Nat.le_of_ble_eq_true rfl) (Nat.le_of_ble_eq_true rfl) (Nat.le_of_ble_eq_true rfl) (Nat.le_of_ble_eq_true rfl) (Nat.le_of_ble_eq_true rfl) rfl (fun r U hq => ?_)
      obtain ⟨rfl, rfl⟩ := hq
      refine fz_back rfl ?_
      rw [hP q t (by omega) (by omega)]
      refine fz_wo (V' := wMo sz wd st op ki rn rows en et (A + wcq P t r q)) rfl ?_
      refine fz_callV (tX3_lookAtTwo (A + wcq P t r q) (P r (t - 1)) (P r t) (P q (t - 1)) (P q t) (hP8 _ _ hr) (hP8 _ _ hr) (hP8 _ _ (by omega)) (hP8 _ _ (by omega))) dX3_look_103 kX3_35 rfl (Nat.one_pos) ⟨rfl, trivial⟩ (Nat.le_of_ble_eq_true rfl) (Nat.le_of_ble_eq_true rfl) (Nat.le_of_ble_eq_true rfl) (Nat.le_of_ble_eq_true rfl) (Nat.le_of_ble_eq_true rfl) rfl (fun r U hq => ?_)
      obtain ⟨rfl, rfl⟩ := hq
      refine fz_back rfl ?_
      refine fz_incN dX3_look_106 rfl (Nat.le_of_ble_eq_true rfl) ?_
      refine fz_goto (tgt := 75) dX3_look_109 (by decide) ?_
      have e : A + wcq P t r q + wc2 (P r (t - 1)) (P r t) (P q (t - 1)) (P q t) = A + wcq P t r (q + 1) := by show _ = A + (wcq P t r q + _); omega
      rw [e]
      exact ih (q + 1) (by omega)
theorem lX3_look_3 {G : fz_G} {E0 : Nat → fz_E} (g : Nat) (hg : g < 2) (sz wd : Nat → Int32) (st : Nat → Nat → Int32) (op : Nat → Nat → Int64) (ki : Nat → Nat → Int32) (cn w : Nat) (kn : Nat → Nat) (hK : gK cn w kn (sz g) (wd g) (ki g)) (hS : gS w (st g)) (hO : gO cn w kn (op g)) (rn : Nat) (rows : Nat → Int64) (en et : Nat → Int32) (P : Nat → Nat → Nat) (hrn : rn ≤ 6) (t : Nat) (ht : 0 < t) (ht2 : t < 5001) (hP : ∀ r τ, r < rn → τ < 5001 → cAt rows en et r τ = nI (P r τ)) (hPc : ∀ r τ, r < rn → P r τ < cn) (A : Nat) :
    ∀ f r, r + f = rn → fz_J G mX3_look rX3_look (fz_Z G E0 0 0 (fun x U => x = none ∧ U = wMo sz wd st op ki rn rows en et (A + wct cn w kn P t rn))) E0 0 0 3 [(4, zI (nI r)), (0, zR 24 0), (1, zR 2 g), (2, zR 19 0), (3, zI (nI t))] [] (wMo sz wd st op ki rn rows en et (A + wct cn w kn P t r)) := by
  have hK' := hK
  obtain ⟨k1, k2, k3, k4, k5, k6, k7⟩ := hK
  intro f
  induction f with
  | zero =>
    intro r hr
    have e : r = rn := by omega
    subst e
    refine fz_iload dX3_look_3 rfl ?_
    refine fz_aload_n dX3_look_5 rfl ?_
    refine fz_callV (tX8_robots (nI r)) dX3_look_6 kX3_15 rfl (Nat.one_pos) ⟨rfl, trivial⟩ (Nat.le_of_ble_eq_true rfl) (Nat.le_of_ble_eq_true rfl) (Nat.le_of_ble_eq_true rfl) (Nat.le_of_ble_eq_true rfl) (Nat.le_of_ble_eq_true rfl) rfl (fun r U hq => ?_)
    obtain ⟨rfl, rfl⟩ := hq
    refine fz_back rfl ?_
    refine fz_icmp_ge (tgt := 118) dX3_look_9 (by decide) (fun c9 => ?_) (fun c9 => ?_)
    · skip
      refine fz_vret dX3_look_118 rfl (Nat.zero_le _) (Nat.zero_le _) ⟨rfl, rfl⟩
    · exact absurd (nI_le (Nat.le_refl _) (by omega)) c9
  | succ f ih =>
    intro r hr
    have ihr := ih (r + 1) (by omega)
    have hc1 := hPc r (t - 1) (by omega)
    have hc2 := hPc r t (by omega)
    refine fz_iload dX3_look_3 rfl ?_
    refine fz_aload_n dX3_look_5 rfl ?_
    refine fz_callV (tX8_robots (nI rn)) dX3_look_6 kX3_15 rfl (Nat.one_pos) ⟨rfl, trivial⟩ (Nat.le_of_ble_eq_true rfl) (Nat.le_of_ble_eq_true rfl) (Nat.le_of_ble_eq_true rfl) (Nat.le_of_ble_eq_true rfl) (Nat.le_of_ble_eq_true rfl) rfl (fun r U hq => ?_)
    obtain ⟨rfl, rfl⟩ := hq
    refine fz_back rfl ?_
    refine fz_icmp_ge (tgt := 118) dX3_look_9 (by decide) (fun c9 => ?_) (fun c9 => ?_)
    · exact absurd ((nI_leI (by omega) (by omega)).mp c9) (by omega)
    · skip
      refine fz_aload_n dX3_look_12 rfl ?_
      refine fz_iload dX3_look_13 rfl ?_
      refine fz_iload_n dX3_look_15 rfl ?_
      refine fz_iconst (v := nI 1) dX3_look_16 (by decide) ?_
      refine fz_isub dX3_look_17 ?_
      rw [pk_sub (by omega)]
      refine fz_callV (tX8_cellAt (nI rn) rows en et r (t - 1) (by omega) (by omega)) dX3_look_18 kX3_21 rfl (Nat.one_pos) ⟨rfl, rfl, rfl, rfl, trivial⟩ (Nat.le_of_ble_eq_true rfl) (Nat.le_of_ble_eq_true rfl) (Nat.le_of_ble_eq_true rfl) (Nat.le_of_ble_eq_true rfl) (Nat.le_of_ble_eq_true rfl) rfl (fun r U hq => ?_)
      obtain ⟨rfl, rfl⟩ := hq
      refine fz_back rfl ?_
      rw [hP r (t - 1) (by omega) (by omega)]
      refine fz_istore dX3_look_21 (Nat.le_of_ble_eq_true rfl) ?_
      refine fz_aload_n dX3_look_23 rfl ?_
      refine fz_iload dX3_look_24 rfl ?_
      refine fz_iload_n dX3_look_26 rfl ?_
      refine fz_callV (tX8_cellAt (nI rn) rows en et r t (by omega) (by omega)) dX3_look_27 kX3_21 rfl (Nat.one_pos) ⟨rfl, rfl, rfl, rfl, trivial⟩ (Nat.le_of_ble_eq_true rfl) (Nat.le_of_ble_eq_true rfl) (Nat.le_of_ble_eq_true rfl) (Nat.le_of_ble_eq_true rfl) (Nat.le_of_ble_eq_true rfl) rfl (fun r U hq => ?_)
      obtain ⟨rfl, rfl⟩ := hq
      refine fz_back rfl ?_
      rw [hP r t (by omega) (by omega)]
      refine fz_wo (V' := wMo sz wd st op ki rn rows en et (A + wct cn w kn P t r)) rfl ?_
      refine fz_istore dX3_look_30 (Nat.le_of_ble_eq_true rfl) ?_
      refine fz_aload_n dX3_look_32 rfl ?_
      refine fz_iload dX3_look_33 rfl ?_
      refine fz_callV (tX1_kindAt_in g hg sz wd ki cn k5 k3 (P r t) hc2) dX3_look_35 kX3_25 rfl (hg) ⟨rfl, rfl, trivial⟩ (Nat.le_of_ble_eq_true rfl) (Nat.le_of_ble_eq_true rfl) (Nat.le_of_ble_eq_true rfl) (Nat.le_of_ble_eq_true rfl) (Nat.le_of_ble_eq_true rfl) rfl (fun r U hq => ?_)
      obtain ⟨rfl, rfl⟩ := hq
      refine fz_back rfl ?_
      refine fz_wo (V' := wMo sz wd st op ki rn rows en et (A + wct cn w kn P t r)) rfl ?_
      rw [(k7 _ hc2).1]
      have hle := (k7 _ hc2).2
      have mid : ∀ B, B + ((if nrB cn w (P r (t - 1)) (P r t) 5 then 0 else 1) + wcq P t r r) = A + wct cn w kn P t (r + 1) → fz_J G mX3_look rX3_look (fz_Z G E0 0 0 (fun x U => x = none ∧ U = wMo sz wd st op ki rn rows en et (A + wct cn w kn P t rn))) E0 0 0 51 [(6, zI (nI (P r t))), (5, zI (nI (P r (t - 1)))), (4, zI (nI r)), (0, zR 24 0), (1, zR 2 g), (2, zR 19 0), (3, zI (nI t))] [] (wMo sz wd st op ki rn rows en et B) := by
        intro B hB
        refine fz_aload_n dX3_look_51 rfl ?_
        refine fz_iload dX3_look_52 rfl ?_
        refine fz_iload dX3_look_54 rfl ?_
        refine fz_callV (tX1_isWithinAMove g hg sz wd cn w k1 k2 k3 k6 (P r (t - 1)) (P r t) hc1 hc2) dX3_look_56 kX3_31 rfl (hg) ⟨rfl, trivial⟩ (Nat.le_of_ble_eq_true rfl) (Nat.le_of_ble_eq_true rfl) (Nat.le_of_ble_eq_true rfl) (Nat.le_of_ble_eq_true rfl) (Nat.le_of_ble_eq_true rfl) rfl (fun r U hq => ?_)
        obtain ⟨rfl, rfl⟩ := hq
        refine fz_back rfl ?_
        refine fz_wo (V' := wMo sz wd st op ki rn rows en et B) rfl ?_
        have last : ∀ C, C + wcq P t r r = A + wct cn w kn P t (r + 1) → fz_J G mX3_look rX3_look (fz_Z G E0 0 0 (fun x U => x = none ∧ U = wMo sz wd st op ki rn rows en et (A + wct cn w kn P t rn))) E0 0 0 72 [(6, zI (nI (P r t))), (5, zI (nI (P r (t - 1)))), (4, zI (nI r)), (0, zR 24 0), (1, zR 2 g), (2, zR 19 0), (3, zI (nI t))] [] (wMo sz wd st op ki rn rows en et C) := by
          intro C hC
          refine fz_iconst (v := nI 0) dX3_look_72 (by decide) ?_
          refine fz_istore dX3_look_73 (Nat.le_of_ble_eq_true rfl) ?_
          refine lX3_look_75 g sz wd st op ki rn rows en et P hrn t ht ht2 hP (fun r τ h => by have := hPc r τ h; omega) r C (by omega) ?_ r 0 (by omega)
          rw [hC]
          refine fz_incN dX3_look_112 rfl (Nat.le_of_ble_eq_true rfl) ?_
          refine fz_goto (tgt := 3) dX3_look_115 (by decide) ?_
          exact fz_pk [0, 4, 5, 6, 7] rfl ihr
        cases hm : nrB cn w (P r (t - 1)) (P r t) 5 with
        | true =>
          rw [hm] at hB
          refine fz_if_ne (tgt := 72) dX3_look_59 (by decide) (fun c59 => ?_) (fun c59 => ?_)
          · exact last B (by simpa using hB)
          · exact absurd c59 (by decide)
        | false =>
          rw [hm] at hB
          refine fz_if_ne (tgt := 72) dX3_look_59 (by decide) (fun c59 => ?_) (fun c59 => ?_)
          · exact absurd rfl c59
          · skip
            refine fz_aload_n dX3_look_62 rfl ?_
            refine fz_dup dX3_look_63 rfl ?_
            refine fz_get dX3_look_64 fX3_9 rfl (Nat.one_pos) rfl ?_
            refine fz_iconst (v := nI 1) dX3_look_67 (by decide) ?_
            refine fz_iadd dX3_look_68 ?_
            rw [nI_add]
            refine fz_put1 dX3_look_69 fX3_9 rfl (Nat.le_of_ble_eq_true rfl) ⟨rfl, rfl⟩ ?_
            exact last (B + 1) (by simp at hB; omega)
      have hw : wct cn w kn P t (r + 1) = wct cn w kn P t r + ((if kn (P r t) = 0 then 1 else 0) + (if nrB cn w (P r (t - 1)) (P r t) 5 then 0 else 1) + wcq P t r r) := rfl
      refine fz_if_ne (tgt := 51) dX3_look_38 (by decide) (fun c38 => ?_) (fun c38 => ?_)
      · have h0 : ¬ kn (P r t) = 0 := fun z => c38 (by rw [z]; exact nI_0)
        rw [if_neg h0] at hw
        exact mid _ (by omega)
      · have h0 : kn (P r t) = 0 := (nI_eq (by omega) (by omega)).mp c38
        rw [if_pos h0] at hw
        refine fz_aload_n dX3_look_41 rfl ?_
        refine fz_dup dX3_look_42 rfl ?_
        refine fz_get dX3_look_43 fX3_9 rfl (Nat.one_pos) rfl ?_
        refine fz_iconst (v := nI 1) dX3_look_46 (by decide) ?_
        refine fz_iadd dX3_look_47 ?_
        rw [nI_add]
        refine fz_put1 dX3_look_48 fX3_9 rfl (Nat.le_of_ble_eq_true rfl) ⟨rfl, rfl⟩ ?_
        exact mid _ (by omega)
theorem tX3_look {G : fz_G} (g : Nat) (hg : g < 2) (sz wd : Nat → Int32) (st : Nat → Nat → Int32) (op : Nat → Nat → Int64) (ki : Nat → Nat → Int32) (cn w : Nat) (kn : Nat → Nat) (hK : gK cn w kn (sz g) (wd g) (ki g)) (hS : gS w (st g)) (hO : gO cn w kn (op g)) (rn : Nat) (rows : Nat → Int64) (en et : Nat → Int32) (P : Nat → Nat → Nat) (hrn : rn ≤ 6) (t : Nat) (ht : 0 < t) (ht2 : t < 5001) (hP : ∀ r τ, r < rn → τ < 5001 → cAt rows en et r τ = nI (P r τ)) (hPc : ∀ r τ, r < rn → P r τ < cn) (A : Nat) :
    fz_T G mX3_look rX3_look [zR 24 0, zR 2 g, zR 19 0, zI (nI t)] (wMo sz wd st op ki rn rows en et A) (fun x U => x = none ∧ U = wMo sz wd st op ki rn rows en et (A + wct cn w kn P t rn)) := by
  refine fz_T.of (by decide) (Nat.le_of_ble_eq_true rfl) (fun E0 => ?_)
  refine fz_iconst (v := nI 0) dX3_look_0 (by decide) ?_
  refine fz_istore dX3_look_1 (Nat.le_of_ble_eq_true rfl) ?_
  exact lX3_look_3 g hg sz wd st op ki cn w kn hK hS hO rn rows en et P hrn t ht ht2 hP hPc A rn 0 (by omega)
