/-! THE MODEL: cells and places; where robots are; mayGo, lastIn -/
theorem tX11_inn {G : fz_G} (x : Int32) (n : Nat) (hn : n < 2 ^ 30) : fz_T G mX11_in rX11_in [zI x, zI (nI 0), zI (nI n - nI 1)] [] (fun r U => r = some (zI (if x < 0 ∨ nI n ≤ x then 0 else 1)) ∧ U = []) := by
  rw [← in_n hn]
  exact tX11_in x (nI 0) (nI n - nI 1)
def kiR (cn : Nat) (kn : Nat → Nat) (ki : Nat → Int32) : Prop := ∀ j, j < cn → ki j = nI (kn j) ∧ kn j < 10
theorem tX11_cell {G : fz_G} (f ki : Nat → Int32) (cn : Nat) (kn : Nat → Nat) (h80 : cn ≤ 80) (hf3 : f 3 = nI cn) (hk : kiR cn kn ki) (x : Int32) : fz_T G mX11_cell rX11_cell [zR 30 0, zI x] [(30, eM f), (45, eKi ki)] (fun r U => r = some (zI (celK cn kn x)) ∧ U = [(30, eM f), (45, eKi ki)]) := by
  refine fz_T.of (by decide) (Nat.le_of_ble_eq_true rfl) (fun E0 => ?_)
  refine fz_iload_n dX11_cell_0 rfl ?_
  refine fz_iconst (v := nI 0) dX11_cell_1 (by decide) ?_
  refine fz_aload_n dX11_cell_2 rfl ?_
  refine fz_get dX11_cell_3 fX11_132 rfl (Nat.one_pos) rfl ?_
  rw [hf3]
  refine fz_iconst (v := nI 1) dX11_cell_6 (by decide) ?_
  refine fz_isub dX11_cell_7 ?_
  refine fz_callS (tX11_inn x cn (by omega)) dX11_cell_8 kX11_162 trivial (Nat.le_of_ble_eq_true rfl) (Nat.le_of_ble_eq_true rfl) (Nat.le_of_ble_eq_true rfl) (Nat.le_of_ble_eq_true rfl) (Nat.le_of_ble_eq_true rfl) rfl (fun r U hq => ?_)
  obtain ⟨rfl, rfl⟩ := hq
  refine fz_back rfl ?_
  rcases ix_cases x (n := cn) (by omega) with h | ⟨j, hj, rfl⟩
  · rw [if_pos h]
    refine fz_if_eq (tgt := 23) dX11_cell_11 (by decide) (fun c11 => ?_) (fun c11 => ?_)
    · skip
      refine fz_iconst (v := -1) dX11_cell_23 (by decide) ?_
      refine fz_iret dX11_cell_24 rfl (Nat.zero_le _) (Nat.zero_le _) ⟨by unfold celK; rw [if_pos h], rfl⟩
    · exact absurd rfl c11
  · rw [if_neg (ix_in hj (by omega))]
    refine fz_if_eq (tgt := 23) dX11_cell_11 (by decide) (fun c11 => ?_) (fun c11 => ?_)
    · exact absurd c11 (by decide)
    · skip
      refine fz_aload_n dX11_cell_14 rfl ?_
      refine fz_get dX11_cell_15 fX11_17 rfl (Nat.one_pos) rfl ?_
      refine fz_iload_n dX11_cell_18 rfl ?_
      refine fz_iald dX11_cell_19 rfl rfl (Nat.one_pos) (vp_in_nI (by omega) (by omega)) ?_
      refine fz_goto (tgt := 24) dX11_cell_20 (by decide) ?_
      rw [nI_clamp (by omega), (hk j hj).1]
      refine fz_iret dX11_cell_24 rfl (Nat.zero_le _) (Nat.zero_le _) ⟨by rw [celK_in hj h80], rfl⟩
theorem tX11_distance {G : fz_G} (f fa : Nat → Int32) (cn w : Nat) (kn : Nat → Nat) (h80 : cn ≤ 80) (hf3 : f 3 = nI cn) (hfa : faR cn w kn fa) (x y : Int32) : fz_T G mX11_distance rX11_distance [zR 30 0, zI x, zI y] [(30, eM f), (49, eFa fa)] (fun r U => r = some (zI (dstF cn w kn x y)) ∧ U = [(30, eM f), (49, eFa fa)]) := by
  refine fz_T.of (by decide) (Nat.le_of_ble_eq_true rfl) (fun E0 => ?_)
  refine fz_iload_n dX11_distance_0 rfl ?_
  refine fz_iconst (v := nI 0) dX11_distance_1 (by decide) ?_
  refine fz_aload_n dX11_distance_2 rfl ?_
  refine fz_get dX11_distance_3 fX11_132 rfl (Nat.one_pos) rfl ?_
  rw [hf3]
  refine fz_iconst (v := nI 1) dX11_distance_6 (by decide) ?_
  refine fz_isub dX11_distance_7 ?_
  refine fz_callS (tX11_inn x cn (by omega)) dX11_distance_8 kX11_162 trivial (Nat.le_of_ble_eq_true rfl) (Nat.le_of_ble_eq_true rfl) (Nat.le_of_ble_eq_true rfl) (Nat.le_of_ble_eq_true rfl) (Nat.le_of_ble_eq_true rfl) rfl (fun r U hq => ?_)
  obtain ⟨rfl, rfl⟩ := hq
  refine fz_back rfl ?_
  refine fz_wo (V' := [(30, eM f), (49, eFa fa)]) rfl ?_
  rcases ix_cases x (n := cn) (by omega) with h | ⟨i, hi, rfl⟩
  · rw [if_pos h]
    refine fz_if_eq (tgt := 42) dX11_distance_11 (by decide) (fun c11 => ?_) (fun c11 => ?_)
    · skip
      refine fz_bipush (v := -2) dX11_distance_42 (by decide) ?_
      refine fz_iret dX11_distance_44 rfl (Nat.zero_le _) (Nat.zero_le _) ⟨by unfold dstF; rw [if_pos (Or.inl h)], rfl⟩
    · exact absurd rfl c11
  · rw [if_neg (ix_in hi (by omega))]
    refine fz_if_eq (tgt := 42) dX11_distance_11 (by decide) (fun c11 => ?_) (fun c11 => ?_)
    · exact absurd c11 (by decide)
    · skip
      refine fz_iload_n dX11_distance_14 rfl ?_
      refine fz_iconst (v := nI 0) dX11_distance_15 (by decide) ?_
      refine fz_aload_n dX11_distance_16 rfl ?_
      refine fz_get dX11_distance_17 fX11_132 rfl (Nat.one_pos) rfl ?_
      rw [hf3]
      refine fz_iconst (v := nI 1) dX11_distance_20 (by decide) ?_
      refine fz_isub dX11_distance_21 ?_
      refine fz_callS (tX11_inn y cn (by omega)) dX11_distance_22 kX11_162 trivial (Nat.le_of_ble_eq_true rfl) (Nat.le_of_ble_eq_true rfl) (Nat.le_of_ble_eq_true rfl) (Nat.le_of_ble_eq_true rfl) (Nat.le_of_ble_eq_true rfl) rfl (fun r U hq => ?_)
      obtain ⟨rfl, rfl⟩ := hq
      refine fz_back rfl ?_
      refine fz_wo (V' := [(30, eM f), (49, eFa fa)]) rfl ?_
      rcases ix_cases y (n := cn) (by omega) with h | ⟨j, hj, rfl⟩
      · rw [if_pos h]
        refine fz_if_eq (tgt := 42) dX11_distance_25 (by decide) (fun c25 => ?_) (fun c25 => ?_)
        · skip
          refine fz_bipush (v := -2) dX11_distance_42 (by decide) ?_
          refine fz_iret dX11_distance_44 rfl (Nat.zero_le _) (Nat.zero_le _) ⟨by unfold dstF; rw [if_pos (Or.inr h)], rfl⟩
        · exact absurd rfl c25
      · rw [if_neg (ix_in hj (by omega))]
        refine fz_if_eq (tgt := 42) dX11_distance_25 (by decide) (fun c25 => ?_) (fun c25 => ?_)
        · exact absurd c25 (by decide)
        · have e : dstF cn w kn (nI i) (nI j) = dsF cn w kn i j := by
            unfold dstF
            rw [if_neg, nI_clamp (by omega), nI_clamp (by omega)]
            rintro (z | z)
            · exact ix_in hi (by omega) z
            · exact ix_in hj (by omega) z
          refine fz_aload_n dX11_distance_28 rfl ?_
          refine fz_get dX11_distance_29 fX11_23 rfl (Nat.one_pos) rfl ?_
          refine fz_bipush (v := nI 80) dX11_distance_32 (by decide) ?_
          refine fz_iload_n dX11_distance_34 rfl ?_
          refine fz_imul dX11_distance_35 ?_
          rw [nI_mul]
          refine fz_iload_n dX11_distance_36 rfl ?_
          refine fz_iadd dX11_distance_37 ?_
          rw [nI_add]
          refine fz_iald dX11_distance_38 rfl rfl (Nat.one_pos) (vp_in_nI (by omega) (by omega)) ?_
          refine fz_goto (tgt := 44) dX11_distance_39 (by decide) ?_
          rw [nI_clamp (by omega), hfa i j hi hj]
          refine fz_iret dX11_distance_44 rfl (Nat.zero_le _) (Nat.zero_le _) ⟨by rw [e], rfl⟩
theorem tX11_isKind {G : fz_G} (f ki : Nat → Int32) (cn : Nat) (kn : Nat → Nat) (h80 : cn ≤ 80) (hf3 : f 3 = nI cn) (hk : kiR cn kn ki) (x : Int32) (v : Nat) (hv : v < 10) : fz_T G mX11_isKind rX11_isKind [zR 30 0, zI x, zI (nI v)] [(30, eM f), (45, eKi ki)] (fun r U => r = some (zI (bI (decide (celK cn kn x = nI v)))) ∧ U = [(30, eM f), (45, eKi ki)]) := by
  refine fz_T.of (by decide) (Nat.le_of_ble_eq_true rfl) (fun E0 => ?_)
  refine fz_iload_n dX11_isKind_0 rfl ?_
  refine fz_iconst (v := nI 0) dX11_isKind_1 (by decide) ?_
  refine fz_aload_n dX11_isKind_2 rfl ?_
  refine fz_get dX11_isKind_3 fX11_132 rfl (Nat.one_pos) rfl ?_
  rw [hf3]
  refine fz_iconst (v := nI 1) dX11_isKind_6 (by decide) ?_
  refine fz_isub dX11_isKind_7 ?_
  refine fz_callS (tX11_inn x cn (by omega)) dX11_isKind_8 kX11_162 trivial (Nat.le_of_ble_eq_true rfl) (Nat.le_of_ble_eq_true rfl) (Nat.le_of_ble_eq_true rfl) (Nat.le_of_ble_eq_true rfl) (Nat.le_of_ble_eq_true rfl) rfl (fun r U hq => ?_)
  obtain ⟨rfl, rfl⟩ := hq
  refine fz_back rfl ?_
  rcases ix_cases x (n := cn) (by omega) with h | ⟨j, hj, rfl⟩
  · have e : decide (celK cn kn x = nI v) = false := decide_eq_false (by unfold celK; rw [if_pos h]; exact fun z => oI_ne (by omega) z.symm)
    rw [if_pos h, e]
    refine fz_if_eq (tgt := 28) dX11_isKind_11 (by decide) (fun c11 => ?_) (fun c11 => ?_)
    · skip
      refine fz_iconst (v := nI 0) dX11_isKind_28 (by decide) ?_
      refine fz_zret dX11_isKind_29 rfl (by decide) (Nat.zero_le _) (Nat.zero_le _) ⟨rfl, rfl⟩
    · exact absurd rfl c11
  · rw [if_neg (ix_in hj (by omega)), celK_in hj h80]
    refine fz_if_eq (tgt := 28) dX11_isKind_11 (by decide) (fun c11 => ?_) (fun c11 => ?_)
    · exact absurd c11 (by decide)
    · skip
      refine fz_aload_n dX11_isKind_14 rfl ?_
      refine fz_get dX11_isKind_15 fX11_17 rfl (Nat.one_pos) rfl ?_
      refine fz_iload_n dX11_isKind_18 rfl ?_
      refine fz_iald dX11_isKind_19 rfl rfl (Nat.one_pos) (vp_in_nI (by omega) (by omega)) ?_
      refine fz_iload_n dX11_isKind_20 rfl ?_
      rw [nI_clamp (by omega), (hk j hj).1]
      refine fz_icmp_ne (tgt := 28) dX11_isKind_21 (by decide) (fun c21 => ?_) (fun c21 => ?_)
      · rw [decide_eq_false c21]
        refine fz_iconst (v := nI 0) dX11_isKind_28 (by decide) ?_
        refine fz_zret dX11_isKind_29 rfl (by decide) (Nat.zero_le _) (Nat.zero_le _) ⟨rfl, rfl⟩
      · rw [decide_eq_true c21]
        refine fz_iconst (v := nI 1) dX11_isKind_24 (by decide) ?_
        refine fz_goto (tgt := 29) dX11_isKind_25 (by decide) ?_
        refine fz_zret dX11_isKind_29 rfl (by decide) (Nat.zero_le _) (Nat.zero_le _) ⟨rfl, rfl⟩
abbrev eWh (wh : Nat → Int32) : fz_E := zi 0 1 31200 (fun _ => wh)
/-- the model's paths: robot q's row is written up to E q -/
def mtR (E : Nat → Nat) (rn : Nat) (P : Nat → Nat → Nat) (te : Nat → Nat) (wh en : Nat → Int32) : Prop := ∀ q, q < rn → en q = nI (E q) ∧ te q ≤ E q ∧ E q < 5200 ∧ (∀ τ, τ ≤ E q → wh (5200 * q + τ) = nI (P q τ)) ∧ (∀ τ, te q ≤ τ → P q τ = P q (te q)) ∧ ∀ τ, P q τ < 80
abbrev wAt (f wh en : Nat → Int32) : fz_W := [(30, eM f), (53, eWh wh), (54, e6 en)]
theorem tX11_at {G : fz_G} (f wh en : Nat → Int32) (E : Nat → Nat) (rn : Nat) (hrn : rn ≤ 6) (P : Nat → Nat → Nat) (te : Nat → Nat) (h : mtR E rn P te wh en) (q τ : Nat) (hq : q < rn) (hτ : τ < 2 ^ 30) : fz_T G mX11_at rX11_at [zR 30 0, zI (nI q), zI (nI τ)] (wAt f wh en) (fun r U => r = some (zI (nI (P q τ))) ∧ U = wAt f wh en) := by
  obtain ⟨h1, h2, h3, h4, h5, h6⟩ := h q hq
  refine fz_T.of (by decide) (Nat.le_of_ble_eq_true rfl) (fun E0 => ?_)
  refine fz_aload_n dX11_at_0 rfl ?_
  refine fz_get dX11_at_1 fX11_30 rfl (Nat.one_pos) rfl ?_
  refine fz_sipush (v := nI 5200) dX11_at_4 (by decide) ?_
  refine fz_iload_n dX11_at_7 rfl ?_
  refine fz_imul dX11_at_8 ?_
  rw [nI_mul]
  refine fz_iload_n dX11_at_9 rfl ?_
  refine fz_aload_n dX11_at_10 rfl ?_
  refine fz_get dX11_at_11 fX11_33 rfl (Nat.one_pos) rfl ?_
  refine fz_iload_n dX11_at_14 rfl ?_
  refine fz_iald dX11_at_15 rfl rfl (Nat.one_pos) (vp_in_nI (by omega) (by omega)) ?_
  rw [nI_clamp (by omega), h1]
  refine fz_icmp_ge (tgt := 23) dX11_at_16 (by decide) (fun c16 => ?_) (fun c16 => ?_)
  · have hle := (nI_leI (by omega) (by omega)).mp c16
    refine fz_aload_n dX11_at_23 rfl ?_
    refine fz_get dX11_at_24 fX11_33 rfl (Nat.one_pos) rfl ?_
    refine fz_iload_n dX11_at_27 rfl ?_
    refine fz_iald dX11_at_28 rfl rfl (Nat.one_pos) (vp_in_nI (by omega) (by omega)) ?_
    rw [nI_clamp (by omega), h1]
    refine fz_iadd dX11_at_29 ?_
    rw [nI_add]
    refine fz_iald dX11_at_30 rfl rfl (Nat.one_pos) (vp_in_nI (by omega) (by omega)) ?_
    rw [nI_clamp (by omega), h4 _ (Nat.le_refl _), h5 _ h2, ← h5 τ (by omega)]
    refine fz_iret dX11_at_31 rfl (Nat.zero_le _) (Nat.zero_le _) ⟨rfl, rfl⟩
  · have hlt : τ < E q := by
      rcases Nat.lt_or_ge τ (E q) with z | z
      · exact z
      · exact absurd (nI_le z (by omega)) c16
    refine fz_iload_n dX11_at_19 rfl ?_
    refine fz_goto (tgt := 29) dX11_at_20 (by decide) ?_
    refine fz_iadd dX11_at_29 ?_
    rw [nI_add]
    refine fz_iald dX11_at_30 rfl rfl (Nat.one_pos) (vp_in_nI (by omega) (by omega)) ?_
    rw [nI_clamp (by omega), h4 _ (by omega)]
    refine fz_iret dX11_at_31 rfl (Nat.zero_le _) (Nat.zero_le _) ⟨rfl, rfl⟩
theorem tX11_endOf {G : fz_G} (f wh en : Nat → Int32) (E : Nat → Nat) (rn : Nat) (hrn : rn ≤ 6) (P : Nat → Nat → Nat) (te : Nat → Nat) (h : mtR E rn P te wh en) (q : Nat) (hq : q < rn) : fz_T G mX11_endOf rX11_endOf [zR 30 0, zI (nI q)] (wAt f wh en) (fun r U => r = some (zI (nI (P q (te q)))) ∧ U = wAt f wh en) := by
  obtain ⟨h1, h2, h3, h4, h5, h6⟩ := h q hq
  refine fz_T.of (by decide) (Nat.le_of_ble_eq_true rfl) (fun E0 => ?_)
  refine fz_aload_n dX11_endOf_0 rfl ?_
  refine fz_iload_n dX11_endOf_1 rfl ?_
  refine fz_aload_n dX11_endOf_2 rfl ?_
  refine fz_get dX11_endOf_3 fX11_33 rfl (Nat.one_pos) rfl ?_
  refine fz_iload_n dX11_endOf_6 rfl ?_
  refine fz_iald dX11_endOf_7 rfl rfl (Nat.one_pos) (vp_in_nI (by omega) (by omega)) ?_
  rw [nI_clamp (by omega), h1]
  refine fz_callV (tX11_at f wh en E rn hrn P te h q (E q) hq (by omega)) dX11_endOf_8 kX11_166 rfl (Nat.one_pos) ⟨rfl, rfl, rfl, trivial⟩ (Nat.le_of_ble_eq_true rfl) (Nat.le_of_ble_eq_true rfl) (Nat.le_of_ble_eq_true rfl) (Nat.le_of_ble_eq_true rfl) (Nat.le_of_ble_eq_true rfl) rfl (fun r U hq => ?_)
  obtain ⟨rfl, rfl⟩ := hq
  refine fz_back rfl ?_
  rw [h5 _ h2]
  refine fz_iret dX11_endOf_11 rfl (Nat.zero_le _) (Nat.zero_le _) ⟨rfl, rfl⟩
abbrev wGo (f ki wh en : Nat → Int32) : fz_W := [(30, eM f), (45, eKi ki), (53, eWh wh), (54, e6 en)]
/-- others before o that bar the move -/
def bar (P : Nat → Nat → Nat) (r τ c d : Nat) (o : Nat) : Bool := tkn P r τ d o || swp P r τ c d o
theorem bar_s (P : Nat → Nat → Nat) (r τ c d o : Nat) : bar P r τ c d (o + 1) = (bar P r τ c d o || (decide (¬ o = r) && (decide (P o (τ + 1) = d) || (decide (P o τ = d) && decide (P o (τ + 1) = c))))) := by
  unfold bar
  show ((tkn P r τ d o || (decide (¬ o = r) && decide (d = P o (τ + 1)))) || (swp P r τ c d o || (decide (¬ o = r) && (decide (c = P o (τ + 1)) && decide (d = P o τ))))) = _
  rw [decide_eq_decide.mpr (eq_comm (a := d) (b := P o (τ + 1))), decide_eq_decide.mpr (eq_comm (a := c) (b := P o (τ + 1))), decide_eq_decide.mpr (eq_comm (a := d) (b := P o τ))]
  cases tkn P r τ d o <;> cases swp P r τ c d o <;> cases decide (¬ o = r) <;> cases decide (P o (τ + 1) = d) <;> cases decide (P o (τ + 1) = c) <;> cases decide (P o τ = d) <;> rfl
theorem bar_mono {P : Nat → Nat → Nat} {r τ c d o : Nat} (h : bar P r τ c d o = true) : ∀ e, bar P r τ c d (o + e) = true
  | 0 => h
  | e + 1 => by
    show bar P r τ c d (o + e + 1) = true
    rw [bar_s, bar_mono h e]; rfl
theorem lX11_mayGo {G : fz_G} {E0 : Nat → fz_E} (f ki wh en : Nat → Int32) (E : Nat → Nat) (rn : Nat) (hrn : rn ≤ 6) (hf : f 12 = nI rn) (P : Nat → Nat → Nat) (te : Nat → Nat) (h : mtR E rn P te wh en) (r τ c d : Nat) (hr : r < 6) (hc : c < 80) (hd : d < 80) (hτ : τ < 2 ^ 29) :
    ∀ q o, o + q = rn → fz_J G mX11_mayGo rX11_mayGo (fz_Z G E0 rX11_mayGo.cells rX11_mayGo.slots (fun x U => x = some (zI (bI (!bar P r τ c d rn))) ∧ U = wGo f ki wh en)) E0 0 0 23 [(6, zI (nI o)), (5, zI (bI (!bar P r τ c d o))), (0, zR 30 0), (1, zI (nI r)), (2, zI (nI c)), (3, zI (nI d)), (4, zI (nI τ))] [] (wGo f ki wh en) := by
  intro q
  induction q with
  | zero =>
    intro o ho
    have e : o = rn := by omega
    subst e
    refine fz_iload dX11_mayGo_23 rfl ?_
    refine fz_aload_n dX11_mayGo_25 rfl ?_
    refine fz_get dX11_mayGo_26 fX11_144 rfl (Nat.one_pos) rfl ?_
    rw [hf]
    refine fz_icmp_ge (tgt := 96) dX11_mayGo_29 (by decide) (fun c29 => ?_) (fun c29 => ?_)
    · skip
      refine fz_iload dX11_mayGo_96 rfl ?_
      refine fz_zret dX11_mayGo_98 rfl (by cases bar P r τ c d o <;> decide) (Nat.zero_le _) (Nat.zero_le _) ⟨rfl, rfl⟩
    · exact absurd (nI_le (Nat.le_refl _) (by omega)) c29
  | succ q ih =>
    intro o ho
    obtain ⟨h1, h2, h3, h4, h5, h6⟩ := h o (by omega)
    have p1 := h6 τ
    have p2 := h6 (τ + 1)
    refine fz_iload dX11_mayGo_23 rfl ?_
    refine fz_aload_n dX11_mayGo_25 rfl ?_
    refine fz_get dX11_mayGo_26 fX11_144 rfl (Nat.one_pos) rfl ?_
    rw [hf]
    refine fz_icmp_ge (tgt := 96) dX11_mayGo_29 (by decide) (fun c29 => ?_) (fun c29 => ?_)
    · exact absurd ((nI_leI (by omega) (by omega)).mp c29) (by omega)
    · skip
      refine fz_iload dX11_mayGo_32 rfl ?_
      cases hv : bar P r τ c d o with
      | true =>
        refine fz_if_eq (tgt := 96) dX11_mayGo_34 (by decide) (fun c34 => ?_) (fun c34 => ?_)
        · skip
          refine fz_iload dX11_mayGo_96 rfl ?_
          have hb := bar_mono hv (rn - o)
          rw [show o + (rn - o) = rn by omega] at hb
          refine fz_zret dX11_mayGo_98 rfl (by decide) (Nat.zero_le _) (Nat.zero_le _) ⟨by rw [hb], rfl⟩
        · exact absurd (by decide) c34
      | false =>
        have yes : bar P r τ c d (o + 1) = false → ∀ y, fz_J G mX11_mayGo rX11_mayGo (fz_Z G E0 rX11_mayGo.cells rX11_mayGo.slots (fun x U => x = some (zI (bI (!bar P r τ c d rn))) ∧ U = wGo f ki wh en)) E0 0 0 83 [(6, zI (nI o)), (5, zI y), (0, zR 30 0), (1, zI (nI r)), (2, zI (nI c)), (3, zI (nI d)), (4, zI (nI τ))] [] (wGo f ki wh en) := by
          intro hb y
          refine fz_iconst (v := nI 1) dX11_mayGo_83 (by decide) ?_
          refine fz_goto (tgt := 88) dX11_mayGo_84 (by decide) ?_
          refine fz_istore dX11_mayGo_88 (Nat.le_of_ble_eq_true rfl) ?_
          refine fz_incN dX11_mayGo_90 rfl (Nat.le_of_ble_eq_true rfl) ?_
          refine fz_goto (tgt := 23) dX11_mayGo_93 (by decide) ?_
          have := ih (o + 1) (by omega)
          rw [hb] at this
          exact this
        have no : bar P r τ c d (o + 1) = true → ∀ y, fz_J G mX11_mayGo rX11_mayGo (fz_Z G E0 rX11_mayGo.cells rX11_mayGo.slots (fun x U => x = some (zI (bI (!bar P r τ c d rn))) ∧ U = wGo f ki wh en)) E0 0 0 87 [(6, zI (nI o)), (5, zI y), (0, zR 30 0), (1, zI (nI r)), (2, zI (nI c)), (3, zI (nI d)), (4, zI (nI τ))] [] (wGo f ki wh en) := by
          intro hb y
          refine fz_iconst (v := nI 0) dX11_mayGo_87 (by decide) ?_
          refine fz_istore dX11_mayGo_88 (Nat.le_of_ble_eq_true rfl) ?_
          refine fz_incN dX11_mayGo_90 rfl (Nat.le_of_ble_eq_true rfl) ?_
          refine fz_goto (tgt := 23) dX11_mayGo_93 (by decide) ?_
          have := ih (o + 1) (by omega)
          rw [hb] at this
          exact this
        refine fz_if_eq (tgt := 96) dX11_mayGo_34 (by decide) (fun c34 => ?_) (fun c34 => ?_)
        · exact absurd c34 (by decide)
        · skip
          refine fz_iload dX11_mayGo_37 rfl ?_
          refine fz_iload_n dX11_mayGo_39 rfl ?_
          refine fz_icmp_eq (tgt := 83) dX11_mayGo_40 (by decide) (fun c40 => ?_) (fun c40 => ?_)
          · have hor : o = r := (nI_eq (by omega) (by omega)).mp c40
            exact yes (by rw [bar_s, hv]; simp [hor]) _
          · have hor : ¬ o = r := fun z => c40 (by rw [z])
            refine fz_aload_n dX11_mayGo_43 rfl ?_
            refine fz_iload dX11_mayGo_44 rfl ?_
            refine fz_iload dX11_mayGo_46 rfl ?_
            refine fz_iconst (v := nI 1) dX11_mayGo_48 (by decide) ?_
            refine fz_iadd dX11_mayGo_49 ?_
            rw [nI_add]
            refine fz_callV (tX11_at f wh en E rn hrn P te h o (τ + 1) (by omega) (by omega)) dX11_mayGo_50 kX11_166 rfl (Nat.one_pos) ⟨rfl, rfl, rfl, trivial⟩ (Nat.le_of_ble_eq_true rfl) (Nat.le_of_ble_eq_true rfl) (Nat.le_of_ble_eq_true rfl) (Nat.le_of_ble_eq_true rfl) (Nat.le_of_ble_eq_true rfl) rfl (fun r U hq => ?_)
            obtain ⟨rfl, rfl⟩ := hq
            refine fz_back rfl ?_
            refine fz_wo (V' := wGo f ki wh en) rfl ?_
            refine fz_iload_n dX11_mayGo_53 rfl ?_
            refine fz_icmp_eq (tgt := 87) dX11_mayGo_54 (by decide) (fun c54 => ?_) (fun c54 => ?_)
            · have e1 : P o (τ + 1) = d := (nI_eq (by omega) (by omega)).mp c54
              exact no (by rw [bar_s, hv]; simp [hor, e1]) _
            · have e1 : ¬ P o (τ + 1) = d := fun z => c54 (by rw [z])
              refine fz_aload_n dX11_mayGo_57 rfl ?_
              refine fz_iload dX11_mayGo_58 rfl ?_
              refine fz_iload dX11_mayGo_60 rfl ?_
              refine fz_callV (tX11_at f wh en E rn hrn P te h o τ (by omega) (by omega)) dX11_mayGo_62 kX11_166 rfl (Nat.one_pos) ⟨rfl, rfl, rfl, trivial⟩ (Nat.le_of_ble_eq_true rfl) (Nat.le_of_ble_eq_true rfl) (Nat.le_of_ble_eq_true rfl) (Nat.le_of_ble_eq_true rfl) (Nat.le_of_ble_eq_true rfl) rfl (fun r U hq => ?_)
              obtain ⟨rfl, rfl⟩ := hq
              refine fz_back rfl ?_
              refine fz_wo (V' := wGo f ki wh en) rfl ?_
              refine fz_iload_n dX11_mayGo_65 rfl ?_
              refine fz_icmp_ne (tgt := 83) dX11_mayGo_66 (by decide) (fun c66 => ?_) (fun c66 => ?_)
              · have e2 : ¬ P o τ = d := fun z => c66 (by rw [z])
                exact yes (by rw [bar_s, hv]; simp [e1, e2]) _
              · have e2 : P o τ = d := (nI_eq (by omega) (by omega)).mp c66
                refine fz_aload_n dX11_mayGo_69 rfl ?_
                refine fz_iload dX11_mayGo_70 rfl ?_
                refine fz_iload dX11_mayGo_72 rfl ?_
                refine fz_iconst (v := nI 1) dX11_mayGo_74 (by decide) ?_
                refine fz_iadd dX11_mayGo_75 ?_
                rw [nI_add]
                refine fz_callV (tX11_at f wh en E rn hrn P te h o (τ + 1) (by omega) (by omega)) dX11_mayGo_76 kX11_166 rfl (Nat.one_pos) ⟨rfl, rfl, rfl, trivial⟩ (Nat.le_of_ble_eq_true rfl) (Nat.le_of_ble_eq_true rfl) (Nat.le_of_ble_eq_true rfl) (Nat.le_of_ble_eq_true rfl) (Nat.le_of_ble_eq_true rfl) rfl (fun r U hq => ?_)
                obtain ⟨rfl, rfl⟩ := hq
                refine fz_back rfl ?_
                refine fz_wo (V' := wGo f ki wh en) rfl ?_
                refine fz_iload_n dX11_mayGo_79 rfl ?_
                refine fz_icmp_eq (tgt := 87) dX11_mayGo_80 (by decide) (fun c80 => ?_) (fun c80 => ?_)
                · have e3 : P o (τ + 1) = c := (nI_eq (by omega) (by omega)).mp c80
                  exact no (by rw [bar_s, hv]; simp [hor, e2, e3]) _
                · have e3 : ¬ P o (τ + 1) = c := fun z => c80 (by rw [z])
                  exact yes (by rw [bar_s, hv]; simp [e1, e3]) _
/-- a move that can be made, as mayGo says it -/
theorem tX11_mayGo {G : fz_G} (f ki wh en : Nat → Int32) (E : Nat → Nat) (cn w rn : Nat) (kn : Nat → Nat) (h0 : 0 < w) (h80 : cn ≤ 80) (hh : ∃ h, cn = w * h) (hk : kiR cn kn ki) (hrn : rn ≤ 6) (hf : f 12 = nI rn) (P : Nat → Nat → Nat) (te : Nat → Nat) (h : mtR E rn P te wh en) (r τ c m : Nat) (hr : r < 6) (hc : c < cn) (hkc : ¬ kn c = 0) (hτ : τ < 2 ^ 29) :
    fz_T G mX11_mayGo rX11_mayGo [zR 30 0, zI (nI r), zI (nI c), zI (oI (nx cn w c m)), zI (nI τ)] (wGo f ki wh en) (fun x U => x = some (zI (bI (may cn w kn P rn r τ c m).isSome)) ∧ U = wGo f ki wh en) := by
  refine fz_T.of (by decide) (Nat.le_of_ble_eq_true rfl) (fun E0 => ?_)
  have nogo : may cn w kn P rn r τ c m = none → fz_J G mX11_mayGo rX11_mayGo (fz_Z G E0 rX11_mayGo.cells rX11_mayGo.slots (fun x U => x = some (zI (bI (may cn w kn P rn r τ c m).isSome)) ∧ U = wGo f ki wh en)) E0 0 0 17 [(0, zR 30 0), (1, zI (nI r)), (2, zI (nI c)), (3, zI (oI (nx cn w c m))), (4, zI (nI τ))] [] (wGo f ki wh en) := by
    intro hm
    rw [hm]
    refine fz_iconst (v := nI 0) dX11_mayGo_17 (by decide) ?_
    refine fz_istore dX11_mayGo_18 (Nat.le_of_ble_eq_true rfl) ?_
    refine fz_iconst (v := nI 0) dX11_mayGo_20 (by decide) ?_
    refine fz_istore dX11_mayGo_21 (Nat.le_of_ble_eq_true rfl) ?_
    refine fz_iload dX11_mayGo_23 rfl ?_
    refine fz_aload_n dX11_mayGo_25 rfl ?_
    refine fz_get dX11_mayGo_26 fX11_144 rfl (Nat.one_pos) rfl ?_
    rw [hf]
    refine fz_icmp_ge (tgt := 96) dX11_mayGo_29 (by decide) (fun c29 => ?_) (fun c29 => ?_)
    · skip
      refine fz_iload dX11_mayGo_96 rfl ?_
      refine fz_zret dX11_mayGo_98 rfl (by decide) (Nat.zero_le _) (Nat.zero_le _) ⟨rfl, rfl⟩
    · skip
      refine fz_iload dX11_mayGo_32 rfl ?_
      refine fz_if_eq (tgt := 96) dX11_mayGo_34 (by decide) (fun c34 => ?_) (fun c34 => ?_)
      · skip
        refine fz_iload dX11_mayGo_96 rfl ?_
        refine fz_zret dX11_mayGo_98 rfl (by decide) (Nat.zero_le _) (Nat.zero_le _) ⟨rfl, rfl⟩
      · exact absurd (by decide) c34
  refine fz_iload_n dX11_mayGo_0 rfl ?_
  cases hn : nx cn w c m with
  | none =>
    rw [hn] at nogo
    refine fz_if_lt (tgt := 17) dX11_mayGo_1 (by decide) (fun c1 => ?_) (fun c1 => ?_)
    · exact nogo (by unfold may; rw [hn])
    · exact absurd (by decide) c1
  | some d =>
    rw [hn] at nogo
    have hdl := nx_lt h0 hh hc hn
    obtain ⟨k1, k2⟩ := hk d hdl
    refine fz_if_lt (tgt := 17) dX11_mayGo_1 (by decide) (fun c1 => ?_) (fun c1 => ?_)
    · exact absurd c1 (nI_pos (by omega))
    · skip
      refine fz_aload_n dX11_mayGo_4 rfl ?_
      refine fz_get dX11_mayGo_5 fX11_17 rfl (Nat.one_pos) rfl ?_
      refine fz_iload_n dX11_mayGo_8 rfl ?_
      refine fz_top (y := nI d) rfl ?_
      refine fz_iald dX11_mayGo_9 rfl rfl (Nat.one_pos) (vp_in_nI (by omega) (by omega)) ?_
      rw [nI_clamp (by omega), k1]
      refine fz_if_eq (tgt := 17) dX11_mayGo_10 (by decide) (fun c10 => ?_) (fun c10 => ?_)
      · have hkd : kn d = 0 := (nI_eq (by omega) (by omega)).mp (c10.trans nI_0.symm)
        refine nogo ?_
        cases hv : may cn w kn P rn r τ c m with
        | none => rfl
        | some d' =>
          obtain ⟨b1, b2, _⟩ := may_spec.mp hv
          rw [hn] at b1
          cases b1
          exact absurd hkd (opb_kn b2 hn).2
      · have hkd : ¬ kn d = 0 := fun z => c10 (by rw [z]; exact nI_0)
        have em : (may cn w kn P rn r τ c m).isSome = !bar P r τ c d rn := by
          unfold may bar
          rw [hn, opb_of hn hkc hkd]
          show (if (true && (!tkn P r τ d rn && !swp P r τ c d rn)) = true then some d else none).isSome = _
          cases tkn P r τ d rn <;> cases swp P r τ c d rn <;> rfl
        rw [em]
        refine fz_iconst (v := nI 1) dX11_mayGo_13 (by decide) ?_
        refine fz_goto (tgt := 18) dX11_mayGo_14 (by decide) ?_
        refine fz_istore dX11_mayGo_18 (Nat.le_of_ble_eq_true rfl) ?_
        refine fz_iconst (v := nI 0) dX11_mayGo_20 (by decide) ?_
        refine fz_istore dX11_mayGo_21 (Nat.le_of_ble_eq_true rfl) ?_
        exact lX11_mayGo f ki wh en E rn hrn hf P te h r τ c d hr (by omega) (by omega) hτ rn 0 (by omega)
theorem tX11_state {G : fz_G} (k s c : Nat) (hs : s < 2) : fz_T G mX11_state rX11_state [zI (nI k), zI (nI s), zI (nI c)] [] (fun r U => r = some (zI (nI (160 * k + 80 * s + c))) ∧ U = []) := by
  refine fz_T.of (by decide) (Nat.le_of_ble_eq_true rfl) (fun E0 => ?_)
  refine fz_sipush (v := nI 160) dX11_state_0 (by decide) ?_
  refine fz_iload_n dX11_state_3 rfl ?_
  refine fz_imul dX11_state_4 ?_
  rw [nI_mul]
  refine fz_iload_n dX11_state_5 rfl ?_
  rcases (show s = 0 ∨ s = 1 by omega) with rfl | rfl
  · skip
    refine fz_if_eq (tgt := 14) dX11_state_6 (by decide) (fun c6 => ?_) (fun c6 => ?_)
    · skip
      refine fz_iconst (v := nI 0) dX11_state_14 (by decide) ?_
      refine fz_iadd dX11_state_15 ?_
      rw [nI_add]
      refine fz_iload_n dX11_state_16 rfl ?_
      refine fz_iadd dX11_state_17 ?_
      rw [nI_add]
      refine fz_iret dX11_state_18 rfl (Nat.zero_le _) (Nat.zero_le _) ⟨rfl, rfl⟩
    · exact absurd (by decide) c6
  · skip
    refine fz_if_eq (tgt := 14) dX11_state_6 (by decide) (fun c6 => ?_) (fun c6 => ?_)
    · exact absurd c6 (by decide)
    · skip
      refine fz_bipush (v := nI 80) dX11_state_9 (by decide) ?_
      refine fz_goto (tgt := 15) dX11_state_11 (by decide) ?_
      refine fz_iadd dX11_state_15 ?_
      rw [nI_add]
      refine fz_iload_n dX11_state_16 rfl ?_
      refine fz_iadd dX11_state_17 ?_
      rw [nI_add]
      refine fz_iret dX11_state_18 rfl (Nat.zero_le _) (Nat.zero_le _) ⟨rfl, rfl⟩
