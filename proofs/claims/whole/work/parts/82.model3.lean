/-! THE MODEL: hasKind, beside, look, isApart -/
theorem lX11_hasKind {G : fz_G} {E0 : Nat → fz_E} (f dr : Nat → Int32) (cn : Nat) (kn : Nat → Nat) (h80 : cn ≤ 80) (hf : f 7 = nI cn) (hd : ∀ j, j < cn → dr j = nI (kn j) ∧ kn j < 10) (v : Nat) (hv : v < 10) : ∀ q i, i + q = cn → fz_J G mX11_hasKind rX11_hasKind (fz_Z G E0 0 0 (fun r U => r = some (zI (bI (hkd kn v cn))) ∧ U = [(30, eM f), (46, eDr dr)])) E0 0 0 4 [(3, zI (nI i)), (2, zI (bI (hkd kn v i))), (0, zR 30 0), (1, zI (nI v))] [] [(30, eM f), (46, eDr dr)] := by
  intro q
  induction q with
  | zero =>
    intro i hi
    have e : i = cn := by omega
    subst e
    refine fz_iload_n dX11_hasKind_4 rfl ?_
    refine fz_aload_n dX11_hasKind_5 rfl ?_
    refine fz_get dX11_hasKind_6 fX11_99 rfl (Nat.one_pos) rfl ?_
    rw [hf]
    refine fz_icmp_ge (tgt := 38) dX11_hasKind_9 (by decide) (fun c9 => ?_) (fun c9 => ?_)
    · skip
      refine fz_iload_n dX11_hasKind_38 rfl ?_
      refine fz_zret dX11_hasKind_39 rfl (by cases hkd kn v i <;> decide) (Nat.zero_le _) (Nat.zero_le _) ⟨rfl, rfl⟩
    · exact absurd (nI_le (Nat.le_refl _) (by omega)) c9
  | succ q ih =>
    intro i hi
    obtain ⟨d1, d2⟩ := hd i (by omega)
    have hst : hkd kn v (i + 1) = (hkd kn v i || (kn i == v)) := rfl
    refine fz_iload_n dX11_hasKind_4 rfl ?_
    refine fz_aload_n dX11_hasKind_5 rfl ?_
    refine fz_get dX11_hasKind_6 fX11_99 rfl (Nat.one_pos) rfl ?_
    rw [hf]
    refine fz_icmp_ge (tgt := 38) dX11_hasKind_9 (by decide) (fun c9 => ?_) (fun c9 => ?_)
    · exact absurd ((nI_leI (by omega) (by omega)).mp c9) (by omega)
    · skip
      refine fz_iload_n dX11_hasKind_12 rfl ?_
      have yes : hkd kn v (i + 1) = true → ∀ y : Int32, fz_J G mX11_hasKind rX11_hasKind (fz_Z G E0 0 0 (fun r U => r = some (zI (bI (hkd kn v cn))) ∧ U = [(30, eM f), (46, eDr dr)])) E0 0 0 26 [(3, zI (nI i)), (2, zI y), (0, zR 30 0), (1, zI (nI v))] [] [(30, eM f), (46, eDr dr)] := by
        intro he y
        refine fz_iconst (v := nI 1) dX11_hasKind_26 (by decide) ?_
        refine fz_goto (tgt := 31) dX11_hasKind_27 (by decide) ?_
        refine fz_istore_n dX11_hasKind_31 (Nat.le_of_ble_eq_true rfl) ?_
        refine fz_incN dX11_hasKind_32 rfl (Nat.le_of_ble_eq_true rfl) ?_
        refine fz_goto (tgt := 4) dX11_hasKind_35 (by decide) ?_
        have := ih (i + 1) (by omega)
        rw [he] at this
        exact this
      cases hv2 : hkd kn v i with
      | true =>
        refine fz_if_ne (tgt := 26) dX11_hasKind_13 (by decide) (fun c13 => ?_) (fun c13 => ?_)
        · exact yes (by rw [hst, hv2]; rfl) _
        · exact absurd c13 (by decide)
      | false =>
        refine fz_if_ne (tgt := 26) dX11_hasKind_13 (by decide) (fun c13 => ?_) (fun c13 => ?_)
        · exact absurd rfl c13
        · skip
          refine fz_aload_n dX11_hasKind_16 rfl ?_
          refine fz_get dX11_hasKind_17 fX11_20 rfl (Nat.one_pos) rfl ?_
          refine fz_iload_n dX11_hasKind_20 rfl ?_
          refine fz_iald dX11_hasKind_21 rfl rfl (Nat.one_pos) (vp_in_nI (by omega) (by omega)) ?_
          refine fz_iload_n dX11_hasKind_22 rfl ?_
          rw [nI_clamp (by omega), d1]
          refine fz_icmp_ne (tgt := 30) dX11_hasKind_23 (by decide) (fun c23 => ?_) (fun c23 => ?_)
          · have hne : ¬ kn i = v := fun z => c23 (by rw [z])
            refine fz_iconst (v := nI 0) dX11_hasKind_30 (by decide) ?_
            refine fz_istore_n dX11_hasKind_31 (Nat.le_of_ble_eq_true rfl) ?_
            refine fz_incN dX11_hasKind_32 rfl (Nat.le_of_ble_eq_true rfl) ?_
            refine fz_goto (tgt := 4) dX11_hasKind_35 (by decide) ?_
            have := ih (i + 1) (by omega)
            rw [hst, hv2] at this
            simp only [Bool.false_or, beq_eq_false_iff_ne.mpr hne] at this
            exact this
          · have he : kn i = v := (nI_eq (by omega) (by omega)).mp c23
            exact yes (by rw [hst, hv2, he]; simp) _
theorem tX11_hasKind {G : fz_G} (f dr : Nat → Int32) (cn : Nat) (kn : Nat → Nat) (h80 : cn ≤ 80) (hf : f 7 = nI cn) (hd : ∀ j, j < cn → dr j = nI (kn j) ∧ kn j < 10) (v : Nat) (hv : v < 10) : fz_T G mX11_hasKind rX11_hasKind [zR 30 0, zI (nI v)] [(30, eM f), (46, eDr dr)] (fun r U => r = some (zI (bI (hkd kn v cn))) ∧ U = [(30, eM f), (46, eDr dr)]) := by
  refine fz_T.of (by decide) (Nat.le_of_ble_eq_true rfl) (fun E0 => ?_)
  refine fz_iconst (v := nI 0) dX11_hasKind_0 (by decide) ?_
  refine fz_istore_n dX11_hasKind_1 (Nat.le_of_ble_eq_true rfl) ?_
  refine fz_iconst (v := nI 0) dX11_hasKind_2 (by decide) ?_
  refine fz_istore_n dX11_hasKind_3 (Nat.le_of_ble_eq_true rfl) ?_
  exact lX11_hasKind f dr cn kn h80 hf hd v hv cn 0 (by omega)
theorem tX11_beside {G : fz_G} (c m w cn : Nat) (hc : c < 80) (hm : m < 5) (h0 : 0 < w) (hw : w ≤ 10) (hcn : cn ≤ 80) : fz_T G mX11_beside rX11_beside [zI (nI c), zI (nI m), zI (nI w), zI (nI cn)] [] (fun r U => r = some (zI (oI (nx cn w c m))) ∧ U = []) := by
  refine fz_T.of (by decide) (Nat.le_of_ble_eq_true rfl) (fun E0 => ?_)
  have hw0 : ¬ nI w = 0 := fun z => by have := (nI_eq (by omega) (by omega)).mp (z.trans nI_0.symm); omega
  refine fz_iload_n dX11_beside_0 rfl ?_
  rcases (show m = 0 ∨ m = 1 ∨ m = 2 ∨ m = 3 ∨ m = 4 by omega) with rfl | rfl | rfl | rfl | rfl
  · refine fz_tableIn (off := 31) (tgt := 32) dX11_beside_1 (by decide) (by decide) (by decide) (by decide) ?_
    refine fz_iload_n dX11_beside_32 rfl ?_
    refine fz_iret dX11_beside_33 rfl (Nat.zero_le _) (Nat.zero_le _) ⟨rfl, rfl⟩
  · have e : nx cn w c 1 = if w ≤ c then some (c - w) else none := rfl
    rw [e]
    refine fz_tableIn (off := 33) (tgt := 34) dX11_beside_1 (by decide) (by decide) (by decide) (by decide) ?_
    refine fz_iload_n dX11_beside_34 rfl ?_
    refine fz_iload_n dX11_beside_35 rfl ?_
    refine fz_icmp_lt (tgt := 45) dX11_beside_36 (by decide) (fun c36 => ?_) (fun c36 => ?_)
    · have := (nI_ltI (by omega) (by omega)).mp c36
      rw [if_neg (by omega)]
      refine fz_iconst (v := -1) dX11_beside_45 (by decide) ?_
      refine fz_iret dX11_beside_46 rfl (Nat.zero_le _) (Nat.zero_le _) ⟨rfl, rfl⟩
    · have : w ≤ c := by
        rcases Nat.lt_or_ge c w with z | z
        · exact absurd ((nI_ltI (by omega) (by omega)).mpr z) c36
        · exact z
      rw [if_pos this]
      refine fz_iload_n dX11_beside_39 rfl ?_
      refine fz_iload_n dX11_beside_40 rfl ?_
      refine fz_isub dX11_beside_41 ?_
      rw [pk_sub this]
      refine fz_goto (tgt := 46) dX11_beside_42 (by decide) ?_
      refine fz_iret dX11_beside_46 rfl (Nat.zero_le _) (Nat.zero_le _) ⟨rfl, rfl⟩
  · have e : nx cn w c 2 = if c % w + 1 < w then some (c + 1) else none := rfl
    rw [e]
    have hmw : c % w < w := Nat.mod_lt _ h0
    refine fz_tableIn (off := 46) (tgt := 47) dX11_beside_1 (by decide) (by decide) (by decide) (by decide) ?_
    refine fz_iload_n dX11_beside_47 rfl ?_
    refine fz_iload_n dX11_beside_48 rfl ?_
    refine fz_irem dX11_beside_49 (hw0) ?_
    refine fz_top (y := nI (c % w)) (pk_rem (by omega) h0 (by omega)) ?_
    refine fz_iload_n dX11_beside_50 rfl ?_
    refine fz_iconst (v := nI 1) dX11_beside_51 (by decide) ?_
    refine fz_isub dX11_beside_52 ?_
    rw [show nI w - nI 1 = nI (w - 1) from pk_sub h0]
    refine fz_icmp_ge (tgt := 62) dX11_beside_53 (by decide) (fun c53 => ?_) (fun c53 => ?_)
    · have := (nI_leI (by omega) (by omega)).mp c53
      rw [if_neg (by omega)]
      refine fz_iconst (v := -1) dX11_beside_62 (by decide) ?_
      refine fz_iret dX11_beside_63 rfl (Nat.zero_le _) (Nat.zero_le _) ⟨rfl, rfl⟩
    · have : c % w < w - 1 := by
        rcases Nat.lt_or_ge (c % w) (w - 1) with z | z
        · exact z
        · exact absurd (nI_le z (by omega)) c53
      rw [if_pos (by omega)]
      refine fz_iload_n dX11_beside_56 rfl ?_
      refine fz_iconst (v := nI 1) dX11_beside_57 (by decide) ?_
      refine fz_iadd dX11_beside_58 ?_
      rw [nI_add]
      refine fz_goto (tgt := 63) dX11_beside_59 (by decide) ?_
      refine fz_iret dX11_beside_63 rfl (Nat.zero_le _) (Nat.zero_le _) ⟨rfl, rfl⟩
  · have e : nx cn w c 3 = if c + w < cn then some (c + w) else none := rfl
    rw [e]
    refine fz_tableIn (off := 63) (tgt := 64) dX11_beside_1 (by decide) (by decide) (by decide) (by decide) ?_
    refine fz_iload_n dX11_beside_64 rfl ?_
    refine fz_iload_n dX11_beside_65 rfl ?_
    refine fz_iadd dX11_beside_66 ?_
    rw [nI_add]
    refine fz_iload_n dX11_beside_67 rfl ?_
    refine fz_icmp_ge (tgt := 77) dX11_beside_68 (by decide) (fun c68 => ?_) (fun c68 => ?_)
    · have := (nI_leI (by omega) (by omega)).mp c68
      rw [if_neg (by omega)]
      refine fz_iconst (v := -1) dX11_beside_77 (by decide) ?_
      refine fz_iret dX11_beside_78 rfl (Nat.zero_le _) (Nat.zero_le _) ⟨rfl, rfl⟩
    · have : c + w < cn := by
        rcases Nat.lt_or_ge (c + w) cn with z | z
        · exact z
        · exact absurd (nI_le z (by omega)) c68
      rw [if_pos this]
      refine fz_iload_n dX11_beside_71 rfl ?_
      refine fz_iload_n dX11_beside_72 rfl ?_
      refine fz_iadd dX11_beside_73 ?_
      rw [nI_add]
      refine fz_goto (tgt := 78) dX11_beside_74 (by decide) ?_
      refine fz_iret dX11_beside_78 rfl (Nat.zero_le _) (Nat.zero_le _) ⟨rfl, rfl⟩
  · have e : nx cn w c 4 = if 0 < c % w then some (c - 1) else none := rfl
    rw [e]
    have hmw : c % w < w := Nat.mod_lt _ h0
    have hle : c % w ≤ c := Nat.mod_le _ _
    refine fz_tableOut (tgt := 79) dX11_beside_1 (tw_out (n := 4) (by omega) (Or.inr (by decide))) (by decide) ?_
    refine fz_iload_n dX11_beside_79 rfl ?_
    refine fz_iload_n dX11_beside_80 rfl ?_
    refine fz_irem dX11_beside_81 (hw0) ?_
    refine fz_top (y := nI (c % w)) (pk_rem (by omega) h0 (by omega)) ?_
    refine fz_if_le (tgt := 91) dX11_beside_82 (by decide) (fun c82 => ?_) (fun c82 => ?_)
    · have : c % w = 0 := by
        rcases Nat.eq_zero_or_pos (c % w) with z | z
        · exact z
        · exact absurd c82 (nI_nle z (by omega))
      rw [if_neg (by omega)]
      refine fz_iconst (v := -1) dX11_beside_91 (by decide) ?_
      refine fz_iret dX11_beside_92 rfl (Nat.zero_le _) (Nat.zero_le _) ⟨rfl, rfl⟩
    · have : 0 < c % w := by
        rcases Nat.eq_zero_or_pos (c % w) with z | z
        · exact absurd (by rw [z]; decide) c82
        · exact z
      rw [if_pos this]
      refine fz_iload_n dX11_beside_85 rfl ?_
      refine fz_iconst (v := nI 1) dX11_beside_86 (by decide) ?_
      refine fz_isub dX11_beside_87 ?_
      rw [show nI c - nI 1 = nI (c - 1) from pk_sub (by omega)]
      refine fz_goto (tgt := 92) dX11_beside_88 (by decide) ?_
      refine fz_iret dX11_beside_92 rfl (Nat.zero_le _) (Nat.zero_le _) ⟨rfl, rfl⟩
