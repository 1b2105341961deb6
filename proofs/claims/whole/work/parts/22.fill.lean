/-! Arrays.fill, for each array that it fills -/
theorem lJ7_fill_6 {G : fz_G} {E0 : Nat → fz_E} (f : Nat → Nat → Int32) (g : Nat) (hg : g < 2) (x : Int32) : ∀ q i, i + q = 80 → ∀ a : Nat → Int32, (∀ j, j < i → a j = x) → fz_J G mJ7_fill_53178 rJ7_fill_53178 (fz_Z G E0 0 0 (fun r U => r = none ∧ ∃ a' : Nat → Int32, (∀ j, j < 80 → a' j = x) ∧ U = [(6, zi 0 2 80 (va_up f g a'))])) E0 0 0 5 [(2, zI (nI i)), (3, zI (nI 80)), (0, zR 6 g), (1, zI x)] [] [(6, zi 0 2 80 (va_up f g a))] := by
  intro q
  induction q with
  | zero =>
    intro i hi a ha
    have e : i = 80 := by omega
    subst e
    refine fz_iload_n dJ7_fill_53178_5 rfl ?_
    refine fz_iload_n dJ7_fill_53178_6 rfl ?_
    refine fz_icmp_ge (tgt := 20) dJ7_fill_53178_7 (by decide) (fun c => ?_) (fun c => ?_)
    · skip
      refine fz_vret dJ7_fill_53178_20 rfl (Nat.zero_le _) (Nat.zero_le _) ⟨rfl, a, ha, rfl⟩
    · exact absurd (nI_le (Nat.le_refl _) (by omega)) c
  | succ q ih =>
    intro i hi a ha
    refine fz_iload_n dJ7_fill_53178_5 rfl ?_
    refine fz_iload_n dJ7_fill_53178_6 rfl ?_
    refine fz_icmp_ge (tgt := 20) dJ7_fill_53178_7 (by decide) (fun c => ?_) (fun c => ?_)
    · exact absurd ((nI_leI (by omega) (by omega)).mp c) (by omega)
    · skip
      refine fz_aload_n dJ7_fill_53178_10 rfl ?_
      refine fz_iload_n dJ7_fill_53178_11 rfl ?_
      refine fz_iload_n dJ7_fill_53178_12 rfl ?_
      refine fz_iastu dJ7_fill_53178_13 rfl rfl (hg) (vp_in_nI (by omega) (by omega)) ?_
      refine fz_incN dJ7_fill_53178_14 rfl (Nat.le_of_ble_eq_true rfl) ?_
      refine fz_goto (tgt := 5) dJ7_fill_53178_17 (by decide) ?_
      refine ih (i + 1) (by omega) _ (fun j hj => ?_)
      rw [nI_clamp (by omega)]
      by_cases h : j = i
      · rw [h, pk_us]
      · rw [pk_un h]
        exact ha j (by omega)
theorem tJ7_fill_6 {G : fz_G} (f : Nat → Nat → Int32) (g : Nat) (hg : g < 2) (x : Int32) (a : Nat → Int32) : fz_T G mJ7_fill_53178 rJ7_fill_53178 [zR 6 g, zI x] [(6, zi 0 2 80 (va_up f g a))] (fun r U => r = none ∧ ∃ a' : Nat → Int32, (∀ j, j < 80 → a' j = x) ∧ U = [(6, zi 0 2 80 (va_up f g a'))]) := by
  refine fz_T.of (by decide) (Nat.le_of_ble_eq_true rfl) (fun E0 => ?_)
  refine fz_iconst (v := nI 0) dJ7_fill_53178_0 (by decide) ?_
  refine fz_istore_n dJ7_fill_53178_1 (Nat.le_of_ble_eq_true rfl) ?_
  refine fz_aload_n dJ7_fill_53178_2 rfl ?_
  refine fz_alen_zi dJ7_fill_53178_3 rfl rfl (hg) rfl ?_
  refine fz_istore_n dJ7_fill_53178_4 (Nat.le_of_ble_eq_true rfl) ?_
  refine fz_pk [1, 0, 2, 3] rfl ?_
  exact lJ7_fill_6 f g hg x 80 0 (by omega) a (fun j h => by omega)
theorem lJ7_fill_13 {G : fz_G} {E0 : Nat → fz_E}  (x : Int32) : ∀ q i, i + q = 80 → ∀ a : Nat → Int32, (∀ j, j < i → a j = x) → fz_J G mJ7_fill_53178 rJ7_fill_53178 (fz_Z G E0 0 0 (fun r U => r = none ∧ ∃ a' : Nat → Int32, (∀ j, j < 80 → a' j = x) ∧ U = [(13, zi 0 1 80 (fun _ => a'))])) E0 0 0 5 [(2, zI (nI i)), (3, zI (nI 80)), (0, zR 13 0), (1, zI x)] [] [(13, zi 0 1 80 (fun _ => a))] := by
  intro q
  induction q with
  | zero =>
    intro i hi a ha
    have e : i = 80 := by omega
    subst e
    refine fz_iload_n dJ7_fill_53178_5 rfl ?_
    refine fz_iload_n dJ7_fill_53178_6 rfl ?_
    refine fz_icmp_ge (tgt := 20) dJ7_fill_53178_7 (by decide) (fun c => ?_) (fun c => ?_)
    · skip
      refine fz_vret dJ7_fill_53178_20 rfl (Nat.zero_le _) (Nat.zero_le _) ⟨rfl, a, ha, rfl⟩
    · exact absurd (nI_le (Nat.le_refl _) (by omega)) c
  | succ q ih =>
    intro i hi a ha
    refine fz_iload_n dJ7_fill_53178_5 rfl ?_
    refine fz_iload_n dJ7_fill_53178_6 rfl ?_
    refine fz_icmp_ge (tgt := 20) dJ7_fill_53178_7 (by decide) (fun c => ?_) (fun c => ?_)
    · exact absurd ((nI_leI (by omega) (by omega)).mp c) (by omega)
    · skip
      refine fz_aload_n dJ7_fill_53178_10 rfl ?_
      refine fz_iload_n dJ7_fill_53178_11 rfl ?_
      refine fz_iload_n dJ7_fill_53178_12 rfl ?_
      refine fz_iast1 dJ7_fill_53178_13 rfl rfl (vp_in_nI (by omega) (by omega)) ?_
      refine fz_incN dJ7_fill_53178_14 rfl (Nat.le_of_ble_eq_true rfl) ?_
      refine fz_goto (tgt := 5) dJ7_fill_53178_17 (by decide) ?_
      refine ih (i + 1) (by omega) _ (fun j hj => ?_)
      rw [nI_clamp (by omega)]
      by_cases h : j = i
      · rw [h, pk_us]
      · rw [pk_un h]
        exact ha j (by omega)
theorem tJ7_fill_13 {G : fz_G}  (x : Int32) (a : Nat → Int32) : fz_T G mJ7_fill_53178 rJ7_fill_53178 [zR 13 0, zI x] [(13, zi 0 1 80 (fun _ => a))] (fun r U => r = none ∧ ∃ a' : Nat → Int32, (∀ j, j < 80 → a' j = x) ∧ U = [(13, zi 0 1 80 (fun _ => a'))]) := by
  refine fz_T.of (by decide) (Nat.le_of_ble_eq_true rfl) (fun E0 => ?_)
  refine fz_iconst (v := nI 0) dJ7_fill_53178_0 (by decide) ?_
  refine fz_istore_n dJ7_fill_53178_1 (Nat.le_of_ble_eq_true rfl) ?_
  refine fz_aload_n dJ7_fill_53178_2 rfl ?_
  refine fz_alen_zi dJ7_fill_53178_3 rfl rfl (Nat.one_pos) rfl ?_
  refine fz_istore_n dJ7_fill_53178_4 (Nat.le_of_ble_eq_true rfl) ?_
  refine fz_pk [1, 0, 2, 3] rfl ?_
  exact lJ7_fill_13  x 80 0 (by omega) a (fun j h => by omega)
theorem lJ7_fill_23 {G : fz_G} {E0 : Nat → fz_E}  (x : Int32) : ∀ q i, i + q = 80 → ∀ a : Nat → Int32, (∀ j, j < i → a j = x) → fz_J G mJ7_fill_53178 rJ7_fill_53178 (fz_Z G E0 0 0 (fun r U => r = none ∧ ∃ a' : Nat → Int32, (∀ j, j < 80 → a' j = x) ∧ U = [(23, zi 0 1 80 (fun _ => a'))])) E0 0 0 5 [(2, zI (nI i)), (3, zI (nI 80)), (0, zR 23 0), (1, zI x)] [] [(23, zi 0 1 80 (fun _ => a))] := by
  intro q
  induction q with
  | zero =>
    intro i hi a ha
    have e : i = 80 := by omega
    subst e
    refine fz_iload_n dJ7_fill_53178_5 rfl ?_
    refine fz_iload_n dJ7_fill_53178_6 rfl ?_
    refine fz_icmp_ge (tgt := 20) dJ7_fill_53178_7 (by decide) (fun c => ?_) (fun c => ?_)
    · skip
      refine fz_vret dJ7_fill_53178_20 rfl (Nat.zero_le _) (Nat.zero_le _) ⟨rfl, a, ha, rfl⟩
    · exact absurd (nI_le (Nat.le_refl _) (by omega)) c
  | succ q ih =>
    intro i hi a ha
    refine fz_iload_n dJ7_fill_53178_5 rfl ?_
    refine fz_iload_n dJ7_fill_53178_6 rfl ?_
    refine fz_icmp_ge (tgt := 20) dJ7_fill_53178_7 (by decide) (fun c => ?_) (fun c => ?_)
    · exact absurd ((nI_leI (by omega) (by omega)).mp c) (by omega)
    · skip
      refine fz_aload_n dJ7_fill_53178_10 rfl ?_
      refine fz_iload_n dJ7_fill_53178_11 rfl ?_
      refine fz_iload_n dJ7_fill_53178_12 rfl ?_
      refine fz_iast1 dJ7_fill_53178_13 rfl rfl (vp_in_nI (by omega) (by omega)) ?_
      refine fz_incN dJ7_fill_53178_14 rfl (Nat.le_of_ble_eq_true rfl) ?_
      refine fz_goto (tgt := 5) dJ7_fill_53178_17 (by decide) ?_
      refine ih (i + 1) (by omega) _ (fun j hj => ?_)
      rw [nI_clamp (by omega)]
      by_cases h : j = i
      · rw [h, pk_us]
      · rw [pk_un h]
        exact ha j (by omega)
theorem tJ7_fill_23 {G : fz_G}  (x : Int32) (a : Nat → Int32) : fz_T G mJ7_fill_53178 rJ7_fill_53178 [zR 23 0, zI x] [(23, zi 0 1 80 (fun _ => a))] (fun r U => r = none ∧ ∃ a' : Nat → Int32, (∀ j, j < 80 → a' j = x) ∧ U = [(23, zi 0 1 80 (fun _ => a'))]) := by
  refine fz_T.of (by decide) (Nat.le_of_ble_eq_true rfl) (fun E0 => ?_)
  refine fz_iconst (v := nI 0) dJ7_fill_53178_0 (by decide) ?_
  refine fz_istore_n dJ7_fill_53178_1 (Nat.le_of_ble_eq_true rfl) ?_
  refine fz_aload_n dJ7_fill_53178_2 rfl ?_
  refine fz_alen_zi dJ7_fill_53178_3 rfl rfl (Nat.one_pos) rfl ?_
  refine fz_istore_n dJ7_fill_53178_4 (Nat.le_of_ble_eq_true rfl) ?_
  refine fz_pk [1, 0, 2, 3] rfl ?_
  exact lJ7_fill_23  x 80 0 (by omega) a (fun j h => by omega)
theorem lJ7_fill_4 {G : fz_G} {E0 : Nat → fz_E} (f : Nat → Nat → Int64) (g : Nat) (hg : g < 2) (x : Int64) : ∀ q i, i + q = 10 → ∀ a : Nat → Int64, (∀ j, j < i → a j = x) → fz_J G mJ7_fill_d0a16 rJ7_fill_d0a16 (fz_Z G E0 0 0 (fun r U => r = none ∧ ∃ a' : Nat → Int64, (∀ j, j < 10 → a' j = x) ∧ U = [(4, zl 1 2 10 (va_up f g a'))])) E0 0 0 6 [(3, zI (nI i)), (4, zI (nI 10)), (0, zR 4 g), (1, zL x)] [] [(4, zl 1 2 10 (va_up f g a))] := by
  intro q
  induction q with
  | zero =>
    intro i hi a ha
    have e : i = 10 := by omega
    subst e
    refine fz_iload_n dJ7_fill_d0a16_6 rfl ?_
    refine fz_iload dJ7_fill_d0a16_7 rfl ?_
    refine fz_icmp_ge (tgt := 22) dJ7_fill_d0a16_9 (by decide) (fun c => ?_) (fun c => ?_)
    · skip
      refine fz_vret dJ7_fill_d0a16_22 rfl (Nat.zero_le _) (Nat.zero_le _) ⟨rfl, a, ha, rfl⟩
    · exact absurd (nI_le (Nat.le_refl _) (by omega)) c
  | succ q ih =>
    intro i hi a ha
    refine fz_iload_n dJ7_fill_d0a16_6 rfl ?_
    refine fz_iload dJ7_fill_d0a16_7 rfl ?_
    refine fz_icmp_ge (tgt := 22) dJ7_fill_d0a16_9 (by decide) (fun c => ?_) (fun c => ?_)
    · exact absurd ((nI_leI (by omega) (by omega)).mp c) (by omega)
    · skip
      refine fz_aload_n dJ7_fill_d0a16_12 rfl ?_
      refine fz_iload_n dJ7_fill_d0a16_13 rfl ?_
      refine fz_lload_n dJ7_fill_d0a16_14 rfl ?_
      refine fz_lastu dJ7_fill_d0a16_15 rfl rfl (hg) (vp_in_nI (by omega) (by omega)) ?_
      refine fz_incN dJ7_fill_d0a16_16 rfl (Nat.le_of_ble_eq_true rfl) ?_
      refine fz_goto (tgt := 6) dJ7_fill_d0a16_19 (by decide) ?_
      refine ih (i + 1) (by omega) _ (fun j hj => ?_)
      rw [nI_clamp (by omega)]
      by_cases h : j = i
      · rw [h, pk_uLs]
      · rw [pk_uLn h]
        exact ha j (by omega)
theorem tJ7_fill_4 {G : fz_G} (f : Nat → Nat → Int64) (g : Nat) (hg : g < 2) (x : Int64) (a : Nat → Int64) : fz_T G mJ7_fill_d0a16 rJ7_fill_d0a16 [zR 4 g, zL x] [(4, zl 1 2 10 (va_up f g a))] (fun r U => r = none ∧ ∃ a' : Nat → Int64, (∀ j, j < 10 → a' j = x) ∧ U = [(4, zl 1 2 10 (va_up f g a'))]) := by
  refine fz_T.of (by decide) (Nat.le_of_ble_eq_true rfl) (fun E0 => ?_)
  refine fz_iconst (v := nI 0) dJ7_fill_d0a16_0 (by decide) ?_
  refine fz_istore_n dJ7_fill_d0a16_1 (Nat.le_of_ble_eq_true rfl) ?_
  refine fz_aload_n dJ7_fill_d0a16_2 rfl ?_
  refine fz_alen_zl dJ7_fill_d0a16_3 rfl rfl (hg) rfl ?_
  refine fz_istore dJ7_fill_d0a16_4 (Nat.le_of_ble_eq_true rfl) ?_
  refine fz_pk [1, 0, 2, 3] rfl ?_
  exact lJ7_fill_4 f g hg x 10 0 (by omega) a (fun j h => by omega)
