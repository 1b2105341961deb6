/-! WaySearch: avoid, lookAtOthers -/
theorem inS_or1 {x : Int64} {a : Nat} (ha : a < 80) {i : Nat} (hi : i < 64) : bl (x ||| ((1 : Int64) <<< ((nI a).toInt64 &&& 63))) i = (bl x i || decide (i = a % 64)) := by
  rw [bl_or, bl_1shl (by omega) hi]
theorem X2_or {lo hi : Int64} {a : Nat} (ha : a < 80) {c : Nat} (hc : c < 128) : X2 (if a < 64 then lo ||| ((1 : Int64) <<< ((nI a).toInt64 &&& 63)) else lo) (if a < 64 then hi else hi ||| ((1 : Int64) <<< ((nI a).toInt64 &&& 63))) c = (X2 lo hi c || decide (c = a)) := by
  unfold X2
  by_cases h : a < 64
  · rw [if_pos h, if_pos h]
    by_cases h2 : c < 64
    · rw [if_pos h2, if_pos h2, inS_or1 ha h2, Nat.mod_eq_of_lt h]
    · have : ¬ c = a := by omega
      rw [if_neg h2, if_neg h2]; simp [this]
  · rw [if_neg h, if_neg h]
    by_cases h2 : c < 64
    · have : ¬ c = a := by omega
      rw [if_pos h2, if_pos h2]; simp [this]
    · rw [if_neg h2, if_neg h2, inS_or1 ha (by omega)]
      congr 1
      simp only [decide_eq_decide]
      omega
abbrev wAv (g : Nat) (sz wd : Nat → Int32) (st : Nat → Nat → Int32) (lo hi : Int64) (rb ts sh go : Int32) (al : Nat → Int64) : fz_W := [(2, eGr sz wd), (3, e5 st), (25, eWS g lo hi rb ts sh go), (27, eAl al)]
/-- the moves m' < m from a that lead to b are taken out -/
def avd (st : Nat → Int32) (a b m : Nat) (al al' : Nat → Int64) : Prop := ∀ m' c, m' < 5 → c < 128 → inS al' (2 * m') c = (inS al (2 * m') c && !(decide (1 ≤ m' ∧ m' < m) && (decide (c = a) && decide (nI a + st m' = nI b))))
theorem lX9_avoid {G : fz_G} {E0 : Nat → fz_E} (g : Nat) (hg : g < 2) (sz wd : Nat → Int32) (st : Nat → Nat → Int32) (lo hi : Int64) (rb ts sh go : Int32) (al : Nat → Int64) (a b : Nat) (ha : a < 80) :
    ∀ q m, 1 ≤ m → m + q = 5 → ∀ al1, avd (st g) a b m al al1 → fz_J G mX9_avoid rX9_avoid (fz_Z G E0 0 0 (fun r U => r = none ∧ ∃ al2, avd (st g) a b 5 al al2 ∧ U = wAv g sz wd st lo hi rb ts sh go al2)) E0 0 0 36 [(5, zI (nI m)), (3, zL ((1 : Int64) <<< ((nI a).toInt64 &&& 63))), (0, zR 25 0), (1, zI (nI b)), (2, zI (nI a))] [] (wAv g sz wd st lo hi rb ts sh go al1) := by
  intro q
  induction q with
  | zero =>
    intro m hm1 hm al1 h1
    have e : m = 5 := by omega
    subst e
    refine fz_iload dX9_avoid_36 rfl ?_
    refine fz_iconst (v := nI 5) dX9_avoid_38 (by decide) ?_
    refine fz_icmp_ge (tgt := 86) dX9_avoid_39 (by decide) (fun c39 => ?_) (fun c39 => ?_)
    · skip
      refine fz_vret dX9_avoid_86 rfl (Nat.zero_le _) (Nat.zero_le _) ⟨rfl, al1, h1, rfl⟩
    · exact absurd (nI_le (Nat.le_refl _) (by omega)) c39
  | succ q ih =>
    intro m hm1 hm al1 h1
    refine fz_iload dX9_avoid_36 rfl ?_
    refine fz_iconst (v := nI 5) dX9_avoid_38 (by decide) ?_
    refine fz_icmp_ge (tgt := 86) dX9_avoid_39 (by decide) (fun c39 => ?_) (fun c39 => ?_)
    · exact absurd ((nI_leI (by omega) (by omega)).mp c39) (by omega)
    · skip
      refine fz_iload_n dX9_avoid_42 rfl ?_
      refine fz_aload_n dX9_avoid_43 rfl ?_
      refine fz_get dX9_avoid_44 fX9_18 rfl (Nat.one_pos) rfl ?_
      refine fz_get dX9_avoid_47 fX9_105 rfl (hg) rfl ?_
      refine fz_iload dX9_avoid_50 rfl ?_
      refine fz_iald dX9_avoid_52 rfl rfl (hg) (vp_in_nI (by omega) (by omega)) ?_
      refine fz_iadd dX9_avoid_53 ?_
      refine fz_iload_n dX9_avoid_54 rfl ?_
      rw [nI_clamp (by omega)]
      refine fz_icmp_ne (tgt := 80) dX9_avoid_55 (by decide) (fun c55 => ?_) (fun c55 => ?_)
      · skip
        refine fz_incN dX9_avoid_80 rfl (Nat.le_of_ble_eq_true rfl) ?_
        refine fz_goto (tgt := 36) dX9_avoid_83 (by decide) ?_
        refine ih (m + 1) (by omega) (by omega) al1 (fun m' c hm' hc => ?_)
        rw [h1 m' c hm' hc]
        by_cases e : m' = m
        · subst e
          simp [c55]
        · congr 3
          simp only [decide_eq_decide]
          omega
      · skip
        refine fz_aload_n dX9_avoid_58 rfl ?_
        refine fz_get dX9_avoid_59 fX9_15 rfl (Nat.one_pos) rfl ?_
        refine fz_iconst (v := nI 2) dX9_avoid_62 (by decide) ?_
        refine fz_iload dX9_avoid_63 rfl ?_
        refine fz_imul dX9_avoid_65 ?_
        refine fz_iload_n dX9_avoid_66 rfl ?_
        refine fz_bipush (v := nI 6) dX9_avoid_67 (by decide) ?_
        refine fz_ishr dX9_avoid_69 ?_
        rw [shr6 ha]
        refine fz_iadd dX9_avoid_70 ?_
        rw [ix_om (by omega) ha]
        refine fz_dup2_11 dX9_avoid_71 rfl rfl ?_
        refine fz_lald dX9_avoid_72 rfl rfl (Nat.one_pos) (vp_in_nI (by omega) (by omega)) ?_
        rw [nI_clamp (by omega)]
        refine fz_lload_n dX9_avoid_73 rfl ?_
        refine fz_ldc2 dX9_avoid_74 nX9_109 ?_
        refine fz_lxor dX9_avoid_77 ?_
        refine fz_land dX9_avoid_78 ?_
        refine fz_last1 dX9_avoid_79 rfl rfl (vp_in_nI (by omega) (by omega)) ?_
        rw [nI_clamp (by omega)]
        refine fz_incN dX9_avoid_80 rfl (Nat.le_of_ble_eq_true rfl) ?_
        refine fz_goto (tgt := 36) dX9_avoid_83 (by decide) ?_
        refine ih (m + 1) (by omega) (by omega) _ (fun m' c hm' hc => ?_)
        unfold inS
        have h1c := h1 m' c hm' hc
        unfold inS at h1c
        by_cases hx : 2 * m' + c / 64 = 2 * m + a / 64
        · rw [hx, pk_uLs, bl_and, bl_not _ (by omega), bl_1shl (by omega) (by omega), ← hx, h1c]
          have e2 : m' = m := by omega
          subst e2
          by_cases hca : c = a
          · subst hca
            simp [c55, hm1]
          · have hca2 : ¬ c % 64 = a % 64 := by omega
            simp [hca, hca2]
        · rw [pk_uLn hx, h1c]
          by_cases e : m' = m
          · subst e
            have hca : ¬ c = a := fun z => hx (by rw [z])
            simp [hca]
          · congr 3
            simp only [decide_eq_decide]
            omega
theorem tX9_avoid {G : fz_G} (g : Nat) (hg : g < 2) (sz wd : Nat → Int32) (st : Nat → Nat → Int32) (lo hi : Int64) (rb ts sh go : Int32) (al : Nat → Int64) (a b : Nat) (ha : a < 80) : fz_T G mX9_avoid rX9_avoid [zR 25 0, zI (nI b), zI (nI a)] (wAv g sz wd st lo hi rb ts sh go al) (fun r U => r = none ∧ ∃ lo' hi' al', (∀ c, c < 128 → X2 lo' hi' c = (X2 lo hi c || decide (c = a))) ∧ avd (st g) a b 5 al al' ∧ U = wAv g sz wd st lo' hi' rb ts sh go al') := by
  refine fz_T.of (by decide) (Nat.le_of_ble_eq_true rfl) (fun E0 => ?_)
  have hx := fun (c : Nat) (hc : c < 128) => X2_or (lo := lo) (hi := hi) ha hc
  have h0 : avd (st g) a b 1 al al := fun m' c _ _ => by
    rw [decide_eq_false (by omega)]; simp
  have fin : ∀ lo' hi' : Int64, (∀ c, c < 128 → X2 lo' hi' c = (X2 lo hi c || decide (c = a))) → fz_J G mX9_avoid rX9_avoid (fz_Z G E0 rX9_avoid.cells rX9_avoid.slots (fun r U => r = none ∧ ∃ lo' hi' al', (∀ c, c < 128 → X2 lo' hi' c = (X2 lo hi c || decide (c = a))) ∧ avd (st g) a b 5 al al' ∧ U = wAv g sz wd st lo' hi' rb ts sh go al')) E0 0 0 36 [(5, zI (nI 1)), (3, zL ((1 : Int64) <<< ((nI a).toInt64 &&& 63))), (0, zR 25 0), (1, zI (nI b)), (2, zI (nI a))] [] (wAv g sz wd st lo' hi' rb ts sh go al) := by
    intro lo' hi' hxx
    have hl := lX9_avoid (G := G) (E0 := E0) g hg sz wd st lo' hi' rb ts sh go al a b ha 4 1 (by omega) (by omega) al h0
    intro p e s m args below meth c H locs la hC hR hS hll T hT X
    obtain ⟨t, a1, o, b1, b2, ⟨⟨r, V', c1, ⟨c2, al2, c3, c4⟩, c5⟩, c6⟩, b4⟩ := hl p e s m args below meth c H locs la hC hR hS hll T hT X
    exact ⟨t, a1, o, b1, b2, ⟨⟨r, V', c1, ⟨c2, lo', hi', al2, hxx, c3, c4⟩, c5⟩, c6⟩, b4⟩
  refine fz_lconst (v := 1) dX9_avoid_0 (by decide) ?_
  refine fz_iload_n dX9_avoid_1 rfl ?_
  refine fz_lshl dX9_avoid_2 ?_
  refine fz_lstore_n dX9_avoid_3 (Nat.le_of_ble_eq_true rfl) ?_
  refine fz_iload_n dX9_avoid_4 rfl ?_
  refine fz_bipush (v := nI 64) dX9_avoid_5 (by decide) ?_
  refine fz_icmp_ge (tgt := 23) dX9_avoid_7 (by decide) (fun c7 => ?_) (fun c7 => ?_)
  · have h64 : ¬ a < 64 := by have := (nI_leI (by omega) (by omega)).mp c7; omega
    simp only [if_neg h64] at hx
    refine fz_aload_n dX9_avoid_23 rfl ?_
    refine fz_dup dX9_avoid_24 rfl ?_
    refine fz_get dX9_avoid_25 fX9_99 rfl (Nat.one_pos) rfl ?_
    refine fz_lload_n dX9_avoid_28 rfl ?_
    refine fz_lor dX9_avoid_29 ?_
    refine fz_put1 dX9_avoid_30 fX9_99 rfl (Nat.le_of_ble_eq_true rfl) ⟨rfl, rfl⟩ ?_
    refine fz_iconst (v := nI 1) dX9_avoid_33 (by decide) ?_
    refine fz_istore dX9_avoid_34 (Nat.le_of_ble_eq_true rfl) ?_
    exact fin _ _ hx
  · have h64 : a < 64 := by
      rcases Nat.lt_or_ge a 64 with z | z
      · exact z
      · exact absurd (nI_le z (by omega)) c7
    simp only [if_pos h64] at hx
    refine fz_aload_n dX9_avoid_10 rfl ?_
    refine fz_dup dX9_avoid_11 rfl ?_
    refine fz_get dX9_avoid_12 fX9_95 rfl (Nat.one_pos) rfl ?_
    refine fz_lload_n dX9_avoid_15 rfl ?_
    refine fz_lor dX9_avoid_16 ?_
    refine fz_put1 dX9_avoid_17 fX9_95 rfl (Nat.le_of_ble_eq_true rfl) ⟨rfl, rfl⟩ ?_
    refine fz_goto (tgt := 33) dX9_avoid_20 (by decide) ?_
    refine fz_iconst (v := nI 1) dX9_avoid_33 (by decide) ?_
    refine fz_istore dX9_avoid_34 (Nat.le_of_ble_eq_true rfl) ?_
    exact fin _ _ hx
