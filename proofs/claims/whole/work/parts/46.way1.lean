/-! FleetController$WaySearch: sets of cells as bits -/
theorem fz_copyl {G : fz_G} {M : fz_M} {R : Room} {Z : List Frame → Array Value → State → State → Prop} {E0 : Nat → fz_E} {cs sl pc : Nat} {ls : List (Nat × fz_V)} {st : List fz_V} {V : fz_W} {idx k0 i0 k1 n0 l0 l1 : Nat} {f : Nat → Nat → Int64} {h : Nat → Int64} {sp dp n : Int32} (hd : decode M.2.1 pc = .ok (.invokestatic idx, 3)) (hw : ∀ w ∈ ([.methodLink M.1.cls idx arraycopyName, .native arraycopyName, .static arraycopyName, .initialized "java/lang/System"] : List Cond), w ∈ fz_tb) (hV0 : fz_lk V k0 = some (zl 1 n0 l0 f)) (hi0 : i0 < n0) (hV1 : fz_lk V k1 = some (zl 1 1 l1 (fun _ => h)))
    (h1 : ¬ sp < 0) (h2 : ¬ dp < 0) (h3 : ¬ n < 0) (h4 : sp.toNatClampNeg + n.toNatClampNeg ≤ l0) (h5 : dp.toNatClampNeg + n.toNatClampNeg ≤ l1) (hfr : 1 ≤ R.frames) (hlo : fz_wd st + (nativeFrameWords "java/lang/System" "arraycopy" 5 + 11) ≤ R.locals)
    (k : fz_J G M R Z E0 cs sl (pc + 3) ls st (fz_st V k1 (zl 1 1 l1 (fun _ => va_cpy (f i0) h sp.toNatClampNeg dp.toNatClampNeg n.toNatClampNeg)))) : fz_J G M R Z E0 cs sl pc ls (zI n :: zI dp :: zR k1 0 :: zI sp :: zR k0 i0 :: st) V := by
  intro p e s m args below meth c H locs la hC hR hS hl
  have ht := hC.2.2.2.2.2.1
  obtain ⟨L, g, hP, hD, hE, hJ⟩ := hR
  have e0 : fz_d V E0 k0 = zl 1 n0 l0 f := fz_d_lk hV0
  have e1 : fz_d V E0 k1 = zl 1 1 l1 (fun _ => h) := fz_d_lk hV1
  obtain ⟨a1, a2⟩ := hE k0 i0 (by rw [e0]; exact hi0)
  obtain ⟨b1, b2⟩ := hE k1 0 (by rw [e1]; exact Nat.one_pos)
  obtain ⟨q0, hq0⟩ := va_pl_get (X := []) (f := g) a1
  obtain ⟨q1, hq1⟩ := va_pl_get (X := []) (f := g) b1
  have hset := fun z : va_E => va_pl_set (X := []) (e := z) (A := fz_A G) hD b1 hq1
  rw [a2, e0] at hq0
  rw [b2, e1] at hq1
  refine va_copyl (D := G.2.1) (ws := va_pl L g) hC.1 hC.2.1 (hC.2.2.2.1.trans hl.1.symm) hC.2.2.2.2.1 (ht _ (hw _ (by simp))) (ht _ (hw _ (by simp))) (ht _ (hw _ (by simp))) (ht _ (hw _ (by simp))) hC.2.2.2.2.2.2.2.2.1 hP hD hS q0 q1 1 1 hq0 hq1 (fz_ty (ty := .long) rfl) (fz_ty (ty := .long) rfl) rfl h1 h2 h3 h4 h5 (fun i hi => rfl) hfr (by rw [fz_wd_sum]; exact hlo) hd (fun H1 locs1 hP1 hD1 hS1 => ?_)
  have hs1 := hset (.inl (G.2.2.1 1, l1, .inr (.inl (va_cpy (f i0) h sp.toNatClampNeg dp.toNatClampNeg n.toNatClampNeg))))
  have hs2 : (va_pl L g).set q1 (G.2.2.2.2 k1 0, .inl (G.2.2.1 1, l1, .inr (.inl (va_cpy (f i0) h sp.toNatClampNeg dp.toNatClampNeg n.toNatClampNeg)))) = va_pl L (va_up g (G.2.2.2.2 k1 0) (.inl (G.2.2.1 1, l1, .inr (.inl (va_cpy (f i0) h sp.toNatClampNeg dp.toNatClampNeg n.toNatClampNeg))))) := hs1
  rw [hs2] at hP1 hD1
  exact k p e s m args below meth c H1 locs1 la hC (fz_upd (x := zl 1 1 l1 (fun _ => va_cpy (f i0) h sp.toNatClampNeg dp.toNatClampNeg n.toNatClampNeg)) hV1 Nat.one_pos rfl (fun i' z1 z2 => absurd (Nat.lt_one_iff.mp z1) z2) hE hJ hP1 hD1) hS1 hl
abbrev eWS (g : Nat) (lo hi : Int64) (rb st sh go : Int32) : fz_E := zo 9 1 (fun _ => [zR 19 0, zR 26 0, zR 27 0, zL lo, zL hi, zR 2 g, zI rb, zI st, zI sh, zI go])
abbrev eRe (re : Nat → Int64) : fz_E := zl 1 1 4004 (fun _ => re)
abbrev eAl (al : Nat → Int64) : fz_E := zl 1 1 10 (fun _ => al)
theorem tX9_begin {G : fz_G} (g g' : Nat) (lo hi : Int64) (rb st sh go : Int32) : fz_T G mX9_begin rX9_begin [zR 25 0, zR 2 g'] [(25, eWS g lo hi rb st sh go)] (fun r U => r = none ∧ U = [(25, eWS g' lo hi rb st sh go)]) := by
  refine fz_T.of (by decide) (Nat.le_of_ble_eq_true rfl) (fun E0 => ?_)
  refine fz_aload_n dX9_begin_0 rfl ?_
  refine fz_aload_n dX9_begin_1 rfl ?_
  refine fz_put1 dX9_begin_2 fX9_18 rfl (Nat.le_of_ble_eq_true rfl) ⟨rfl, rfl⟩ ?_
  refine fz_vret dX9_begin_5 rfl (Nat.zero_le _) (Nat.zero_le _) ⟨rfl, rfl⟩
theorem lX9_empty {G : fz_G} {E0 : Nat → fz_E} (ws : fz_E) (k : Nat) (hk : k < 1001) (re : Nat → Int64) (hws : ∃ g lo hi rb st sh go, ws = eWS g lo hi rb st sh go) : ∀ q i, i + q = 4 → ∀ r1 : Nat → Int64, (∀ j, r1 j = if 4 * k ≤ j ∧ j < 4 * k + i then 0 else re j) → fz_J G mX9_empty rX9_empty (fz_Z G E0 0 0 (fun r U => r = none ∧ ∃ r2 : Nat → Int64, (∀ j, r2 j = if 4 * k ≤ j ∧ j < 4 * k + 4 then 0 else re j) ∧ U = [(25, ws), (26, eRe r2)])) E0 0 0 2 [(2, zI (nI i)), (0, zR 25 0), (1, zI (nI k))] [] [(25, ws), (26, eRe r1)] := by
  obtain ⟨g, lo, hi, rb, st, sh, go, rfl⟩ := hws
  intro q
  induction q with
  | zero =>
    intro i hi r1 h1
    have e : i = 4 := by omega
    subst e
    refine fz_iload_n dX9_empty_2 rfl ?_
    refine fz_iconst (v := nI 4) dX9_empty_3 (by decide) ?_
    refine fz_icmp_ge (tgt := 24) dX9_empty_4 (by decide) (fun c => ?_) (fun c => ?_)
    · skip
      refine fz_vret dX9_empty_24 rfl (Nat.zero_le _) (Nat.zero_le _) ⟨rfl, r1, h1, rfl⟩
    · exact absurd (nI_le (Nat.le_refl _) (by omega)) c
  | succ q ih =>
    intro i hi r1 h1
    refine fz_iload_n dX9_empty_2 rfl ?_
    refine fz_iconst (v := nI 4) dX9_empty_3 (by decide) ?_
    refine fz_icmp_ge (tgt := 24) dX9_empty_4 (by decide) (fun c => ?_) (fun c => ?_)
    · exact absurd ((nI_leI (by omega) (by omega)).mp c) (by omega)
    · skip
      refine fz_aload_n dX9_empty_7 rfl ?_
      refine fz_get dX9_empty_8 fX9_9 rfl (Nat.one_pos) rfl ?_
      refine fz_iconst (v := nI 4) dX9_empty_11 (by decide) ?_
      refine fz_iload_n dX9_empty_12 rfl ?_
      refine fz_imul dX9_empty_13 ?_
      refine fz_iload_n dX9_empty_14 rfl ?_
      refine fz_iadd dX9_empty_15 ?_
      rw [nI_mul, nI_add]
      refine fz_lconst (v := 0) dX9_empty_16 (by decide) ?_
      refine fz_last1 dX9_empty_17 rfl rfl (vp_in_nI (by omega) (by omega)) ?_
      refine fz_incN dX9_empty_18 rfl (Nat.le_of_ble_eq_true rfl) ?_
      refine fz_goto (tgt := 2) dX9_empty_21 (by decide) ?_
      refine ih (i + 1) (by omega) _ (fun j => ?_)
      rw [nI_clamp (by omega)]
      by_cases h : j = 4 * k + i
      · rw [h, pk_uLs, if_pos (by omega)]
      · rw [pk_uLn h, h1 j]
        by_cases h2 : 4 * k ≤ j ∧ j < 4 * k + i
        · rw [if_pos h2, if_pos (by omega)]
        · rw [if_neg h2, if_neg (by omega)]
theorem tX9_empty {G : fz_G} (g : Nat) (lo hi : Int64) (rb st sh go : Int32) (k : Nat) (hk : k < 1001) (re : Nat → Int64) : fz_T G mX9_empty rX9_empty [zR 25 0, zI (nI k)] [(25, eWS g lo hi rb st sh go), (26, eRe re)] (fun r U => r = none ∧ ∃ r2 : Nat → Int64, (∀ j, r2 j = if 4 * k ≤ j ∧ j < 4 * k + 4 then 0 else re j) ∧ U = [(25, eWS g lo hi rb st sh go), (26, eRe r2)]) := by
  refine fz_T.of (by decide) (Nat.le_of_ble_eq_true rfl) (fun E0 => ?_)
  refine fz_iconst (v := nI 0) dX9_empty_0 (by decide) ?_
  refine fz_istore_n dX9_empty_1 (Nat.le_of_ble_eq_true rfl) ?_
  exact lX9_empty _ k hk re ⟨g, lo, hi, rb, st, sh, go, rfl⟩ 4 0 rfl re (fun j => by rw [if_neg (by omega)])
theorem tX9_add {G : fz_G} (g : Nat) (lo hi : Int64) (rb st sh go : Int32) (at_ c : Nat) (ha : at_ + 1 < 4004) (hc : c < 80) (re : Nat → Int64) : fz_T G mX9_add rX9_add [zR 25 0, zI (nI at_), zI (nI c)] [(25, eWS g lo hi rb st sh go), (26, eRe re)] (fun r U => r = none ∧ U = [(25, eWS g lo hi rb st sh go), (26, eRe (vp_updL re (at_ + c / 64) (re (at_ + c / 64) ||| ((1 : Int64) <<< ((nI c).toInt64 &&& 63)))))]) := by
  refine fz_T.of (by decide) (Nat.le_of_ble_eq_true rfl) (fun E0 => ?_)
  refine fz_aload_n dX9_add_0 rfl ?_
  refine fz_get dX9_add_1 fX9_9 rfl (Nat.one_pos) rfl ?_
  refine fz_iload_n dX9_add_4 rfl ?_
  refine fz_iload_n dX9_add_5 rfl ?_
  refine fz_bipush (v := nI 6) dX9_add_6 (by decide) ?_
  refine fz_ishr dX9_add_8 ?_
  rw [shr6 hc]
  refine fz_iadd dX9_add_9 ?_
  rw [nI_add]
  refine fz_dup2_11 dX9_add_10 rfl rfl ?_
  refine fz_lald dX9_add_11 rfl rfl (Nat.one_pos) (vp_in_nI (by omega) (by omega)) ?_
  rw [nI_clamp (by omega)]
  refine fz_lconst (v := 1) dX9_add_12 (by decide) ?_
  refine fz_iload_n dX9_add_13 rfl ?_
  refine fz_lshl dX9_add_14 ?_
  refine fz_lor dX9_add_15 ?_
  refine fz_last1 dX9_add_16 rfl rfl (vp_in_nI (by omega) (by omega)) ?_
  rw [nI_clamp (by omega)]
  refine fz_vret dX9_add_17 rfl (Nat.zero_le _) (Nat.zero_le _) ⟨rfl, rfl⟩
/-- cell c is in the set that begins at at_ -/
def inS (re : Nat → Int64) (at_ c : Nat) : Bool := bl (re (at_ + c / 64)) (c % 64)
theorem tX9_holds {G : fz_G} (g : Nat) (lo hi : Int64) (rb st sh go : Int32) (at_ c : Nat) (ha : at_ + 1 < 4004) (hc : c < 80) (re : Nat → Int64) : fz_T G mX9_holds rX9_holds [zR 25 0, zI (nI at_), zI (nI c)] [(25, eWS g lo hi rb st sh go), (26, eRe re)] (fun r U => r = some (zI (bI (inS re at_ c))) ∧ U = [(25, eWS g lo hi rb st sh go), (26, eRe re)]) := by
  refine fz_T.of (by decide) (Nat.le_of_ble_eq_true rfl) (fun E0 => ?_)
  refine fz_aload_n dX9_holds_0 rfl ?_
  refine fz_get dX9_holds_1 fX9_9 rfl (Nat.one_pos) rfl ?_
  refine fz_iload_n dX9_holds_4 rfl ?_
  refine fz_iload_n dX9_holds_5 rfl ?_
  refine fz_bipush (v := nI 6) dX9_holds_6 (by decide) ?_
  refine fz_ishr dX9_holds_8 ?_
  rw [shr6 hc]
  refine fz_iadd dX9_holds_9 ?_
  rw [nI_add]
  refine fz_lald dX9_holds_10 rfl rfl (Nat.one_pos) (vp_in_nI (by omega) (by omega)) ?_
  refine fz_iload_n dX9_holds_11 rfl ?_
  refine fz_lushr dX9_holds_12 ?_
  refine fz_lconst (v := 1) dX9_holds_13 (by decide) ?_
  refine fz_land dX9_holds_14 ?_
  rw [nI_clamp (by omega)]
  refine fz_topL (bl_test _ (by omega)) ?_
  refine fz_lconst (v := 0) dX9_holds_15 (by decide) ?_
  refine fz_lcmp dX9_holds_16 ?_
  refine fz_if_eq (tgt := 24) dX9_holds_17 (by decide) (fun c17 => ?_) (fun c17 => ?_)
  · have c17 := (lg_cmp_eq _ _).mp c17
    refine fz_iconst (v := nI 0) dX9_holds_24 (by decide) ?_
    refine fz_zret dX9_holds_25 rfl (by decide) (Nat.zero_le _) (Nat.zero_le _) ⟨?_, rfl⟩
    split at c17
    · exact absurd c17 (by decide)
    · rename_i h
      unfold bI inS
      rw [if_neg h]; rfl
  · have c17 := fun z => c17 ((lg_cmp_eq _ _).mpr z)
    refine fz_iconst (v := nI 1) dX9_holds_20 (by decide) ?_
    refine fz_goto (tgt := 25) dX9_holds_21 (by decide) ?_
    refine fz_zret dX9_holds_25 rfl (by decide) (Nat.zero_le _) (Nat.zero_le _) ⟨?_, rfl⟩
    split at c17
    · rename_i h
      unfold bI inS
      rw [if_pos h]; rfl
    · exact absurd rfl c17
/-- two longs as a set of cells -/
def X2 (lo hi : Int64) (c : Nat) : Bool := if c < 64 then bl lo c else bl hi (c - 64)
theorem neg_b {b : Nat} (h : 0 < b) (hb : b ≤ 10) : (-(nI b) ≤ 0) ∧ -(-(nI b)) = nI b ∧ nI 64 + -(nI b) = nI (64 - b) := by
  refine ⟨?_, Int32.neg_neg, nI_addneg (by omega)⟩
  have h2 : ∀ b, b ≤ 10 → -(nI b) ≤ 0 := by decide +kernel
  exact h2 b hb
theorem tX9_shiftedLow_p {G : fz_G} (lo hi : Int64) (b : Nat) (h0 : 0 < b) (hb : b ≤ 10) : fz_T G mX9_shiftedLow rX9_shiftedLow [zL lo, zL hi, zI (nI b)] [] (fun r U => (∃ x : Int64, r = some (zL x) ∧ ∀ i, i < 64 → bl x i = (decide (b ≤ i) && X2 lo hi (i - b))) ∧ U = []) := by
  refine fz_T.of (by decide) (Nat.le_of_ble_eq_true rfl) (fun E0 => ?_)
  refine fz_iload dX9_shiftedLow_0 rfl ?_
  refine fz_if_le (tgt := 12) dX9_shiftedLow_2 (by decide) (fun c => ?_) (fun c => ?_)
  · exact absurd c (nI_nle h0 (by omega))
  · skip
    refine fz_lload_n dX9_shiftedLow_5 rfl ?_
    refine fz_iload dX9_shiftedLow_6 rfl ?_
    refine fz_lshl dX9_shiftedLow_8 ?_
    refine fz_goto (tgt := 25) dX9_shiftedLow_9 (by decide) ?_
    refine fz_lret dX9_shiftedLow_25 rfl (Nat.zero_le _) (Nat.zero_le _) ⟨⟨_, rfl, fun i hi => ?_⟩, rfl⟩
    rw [bl_shl _ (by omega) hi, Nat.mod_eq_of_lt (show b < 64 by omega)]
    unfold X2
    rw [if_pos (by omega)]
theorem tX9_shiftedLow_n {G : fz_G} (lo hi : Int64) (b : Nat) (h0 : 0 < b) (hb : b ≤ 10) : fz_T G mX9_shiftedLow rX9_shiftedLow [zL lo, zL hi, zI (-(nI b))] [] (fun r U => (∃ x : Int64, r = some (zL x) ∧ ∀ i, i < 64 → bl x i = X2 lo hi (i + b)) ∧ U = []) := by
  refine fz_T.of (by decide) (Nat.le_of_ble_eq_true rfl) (fun E0 => ?_)
  obtain ⟨n1, n2, n3⟩ := neg_b h0 hb
  refine fz_iload dX9_shiftedLow_0 rfl ?_
  refine fz_if_le (tgt := 12) dX9_shiftedLow_2 (by decide) (fun c => ?_) (fun c => ?_)
  · skip
    refine fz_lload_n dX9_shiftedLow_12 rfl ?_
    refine fz_iload dX9_shiftedLow_13 rfl ?_
    refine fz_ineg dX9_shiftedLow_15 ?_
    rw [n2]
    refine fz_lushr dX9_shiftedLow_16 ?_
    refine fz_lload_n dX9_shiftedLow_17 rfl ?_
    refine fz_bipush (v := nI 64) dX9_shiftedLow_18 (by decide) ?_
    refine fz_iload dX9_shiftedLow_20 rfl ?_
    refine fz_iadd dX9_shiftedLow_22 ?_
    rw [n3]
    refine fz_lshl dX9_shiftedLow_23 ?_
    refine fz_lor dX9_shiftedLow_24 ?_
    refine fz_lret dX9_shiftedLow_25 rfl (Nat.zero_le _) (Nat.zero_le _) ⟨⟨_, rfl, fun i hi => ?_⟩, rfl⟩
    rw [bl_or, bl_ushr _ (by omega), bl_shl _ (by omega) hi, Nat.mod_eq_of_lt (show b < 64 by omega), Nat.mod_eq_of_lt (show 64 - b < 64 by omega)]
    unfold X2
    by_cases h : i + b < 64
    · have h2 : ¬ 64 - b ≤ i := by omega
      rw [if_pos h, Nat.add_comm b i]; simp [h2]
    · have h2 : 64 - b ≤ i := by omega
      rw [if_neg h, bl_big (show 64 ≤ b + i by omega), show i - (64 - b) = i + b - 64 by omega]; simp [h2]
  · exact absurd n1 c
theorem tX9_shiftedHigh_p {G : fz_G} (lo hi : Int64) (b : Nat) (h0 : 0 < b) (hb : b ≤ 10) : fz_T G mX9_shiftedHigh rX9_shiftedHigh [zL lo, zL hi, zI (nI b)] [] (fun r U => (∃ x : Int64, r = some (zL x) ∧ ∀ i, i < 64 → bl x i = X2 lo hi (64 + i - b)) ∧ U = []) := by
  refine fz_T.of (by decide) (Nat.le_of_ble_eq_true rfl) (fun E0 => ?_)
  refine fz_iload dX9_shiftedHigh_0 rfl ?_
  refine fz_if_le (tgt := 20) dX9_shiftedHigh_2 (by decide) (fun c => ?_) (fun c => ?_)
  · exact absurd c (nI_nle h0 (by omega))
  · skip
    refine fz_lload_n dX9_shiftedHigh_5 rfl ?_
    refine fz_iload dX9_shiftedHigh_6 rfl ?_
    refine fz_lshl dX9_shiftedHigh_8 ?_
    refine fz_lload_n dX9_shiftedHigh_9 rfl ?_
    refine fz_bipush (v := nI 64) dX9_shiftedHigh_10 (by decide) ?_
    refine fz_iload dX9_shiftedHigh_12 rfl ?_
    refine fz_isub dX9_shiftedHigh_14 ?_
    rw [pk_sub (by omega)]
    refine fz_lushr dX9_shiftedHigh_15 ?_
    refine fz_lor dX9_shiftedHigh_16 ?_
    refine fz_goto (tgt := 25) dX9_shiftedHigh_17 (by decide) ?_
    refine fz_lret dX9_shiftedHigh_25 rfl (Nat.zero_le _) (Nat.zero_le _) ⟨⟨_, rfl, fun i hi => ?_⟩, rfl⟩
    rw [bl_or, bl_ushr _ (by omega), bl_shl _ (by omega) hi, Nat.mod_eq_of_lt (show b < 64 by omega), Nat.mod_eq_of_lt (show 64 - b < 64 by omega)]
    unfold X2
    by_cases h : 64 + i - b < 64
    · have h2 : ¬ b ≤ i := by omega
      rw [if_pos h, show 64 - b + i = 64 + i - b by omega]; simp [h2]
    · have h2 : b ≤ i := by omega
      rw [if_neg h, bl_big (show 64 ≤ 64 - b + i by omega), show 64 + i - b - 64 = i - b by omega]; simp [h2]
theorem tX9_shiftedHigh_n {G : fz_G} (lo hi : Int64) (b : Nat) (h0 : 0 < b) (hb : b ≤ 10) : fz_T G mX9_shiftedHigh rX9_shiftedHigh [zL lo, zL hi, zI (-(nI b))] [] (fun r U => (∃ x : Int64, r = some (zL x) ∧ ∀ i, i < 64 → bl x i = X2 lo hi (64 + i + b)) ∧ U = []) := by
  refine fz_T.of (by decide) (Nat.le_of_ble_eq_true rfl) (fun E0 => ?_)
  obtain ⟨n1, n2, n3⟩ := neg_b h0 hb
  refine fz_iload dX9_shiftedHigh_0 rfl ?_
  refine fz_if_le (tgt := 20) dX9_shiftedHigh_2 (by decide) (fun c => ?_) (fun c => ?_)
  · skip
    refine fz_lload_n dX9_shiftedHigh_20 rfl ?_
    refine fz_iload dX9_shiftedHigh_21 rfl ?_
    refine fz_ineg dX9_shiftedHigh_23 ?_
    rw [n2]
    refine fz_lushr dX9_shiftedHigh_24 ?_
    refine fz_lret dX9_shiftedHigh_25 rfl (Nat.zero_le _) (Nat.zero_le _) ⟨⟨_, rfl, fun i hi => ?_⟩, rfl⟩
    rw [bl_ushr _ (by omega), Nat.mod_eq_of_lt (show b < 64 by omega)]
    unfold X2
    rw [if_neg (by omega), show 64 + i + b - 64 = b + i by omega]
  · exact absurd n1 c
