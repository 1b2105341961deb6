/-! THE MAP'S MOVES: leadsOn, findOpenMoves -/
/-- the grid's numbers are the map's: cells, line length, kinds -/
def gK (cn w : Nat) (kn : Nat → Nat) (sz wd : Int32) (ki : Nat → Int32) : Prop := 0 < w ∧ w ≤ 10 ∧ cn ≤ 80 ∧ (∃ h, cn = w * h) ∧ sz = nI cn ∧ wd = nI w ∧ ∀ c, c < cn → ki c = nI (kn c) ∧ kn c ≤ 4
def gS (w : Nat) (st : Nat → Int32) : Prop := ∀ m, m < 5 → st m = stI w m
def gO (cn w : Nat) (kn : Nat → Nat) (op : Nat → Int64) : Prop := ∀ m j i, m < 5 → j < 2 → i < 64 → bl (op (2 * m + j)) i = (decide (64 * j + i < cn) && opb cn w kn (64 * j + i) m)
theorem nx_lt {cn w c m d : Nat} (h0 : 0 < w) (hh : ∃ h, cn = w * h) (hc : c < cn) (h : nx cn w c m = some d) : d < cn := by
  unfold nx at h
  split at h
  · cases h; exact hc
  · split at h
    · split at h
      · cases h; omega
      · cases h
    · split at h
      · split at h
        · rename_i _ _ _ h3
          cases h
          obtain ⟨q, rfl⟩ := hh
          have h1 : c / w < q := Nat.div_lt_of_lt_mul hc
          have h2 : w * (c / w) + c % w = c := Nat.div_add_mod c w
          have h4 : w * (c / w + 1) ≤ w * q := Nat.mul_le_mul_left w h1
          rw [Nat.mul_add] at h4
          omega
        · cases h
      · split at h
        · split at h
          · cases h; assumption
          · cases h
        · split at h
          · cases h; omega
          · cases h
theorem nI_addneg {a b : Nat} (h : b ≤ a) : nI a + -(nI b) = nI (a - b) := by
  rw [← Int32.sub_eq_add_neg]
  exact pk_sub h
theorem nI_neg1 {a : Nat} (h : 0 < a) : nI a + -1 = nI (a - 1) := by
  have := nI_addneg (a := a) (b := 1) h
  exact this
/-- where a move leads, in the grid's own numbers -/
theorem nx_st {cn w c m d : Nat} (h : nx cn w c m = some d) (hm : m < 5) : nI c + stI w m = nI d := by
  unfold nx at h
  unfold stI
  split at h
  · rename_i h1
    cases h
    rw [if_pos h1]
    exact Int32.add_zero _
  · rename_i h1
    rw [if_neg h1]
    split at h
    · rename_i h2
      rw [if_pos h2]
      split at h
      · rename_i h3
        cases h
        exact nI_addneg h3
      · cases h
    · rename_i h2
      rw [if_neg h2]
      split at h
      · rename_i h3
        rw [if_pos h3]
        split at h
        · cases h
          exact nI_1 c
        · cases h
      · rename_i h3
        rw [if_neg h3]
        split at h
        · rename_i h4
          rw [if_pos h4]
          split at h
          · cases h
            exact nI_add c w
          · cases h
        · rename_i h4
          rw [if_neg h4]
          split at h
          · rename_i h5
            cases h
            have : 0 < c := by
              rcases Nat.eq_zero_or_pos c with z | z
              · rw [z, Nat.zero_mod] at h5; omega
              · exact z
            exact nI_neg1 this
          · cases h
theorem lX1_leadsOn {G : fz_G} {E0 : Nat → fz_E} {ls : List (Nat × fz_V)} (g : Nat) (hg : g < 2) (sz wd : Nat → Int32) (st ki : Nat → Nat → Int32) (cn w : Nat) (kn : Nat → Nat) (hK : gK cn w kn (sz g) (wd g) (ki g)) (hS : gS w (st g)) (j m : Nat) (hj : j < cn) (hm : m < 5) (h0 : ¬ kn j = 0) (x : Int32)
    (hl : fz_lo ls 0 = some (zR 2 g) ∧ fz_lo ls 1 = some (zI (nI j)) ∧ fz_lo ls 2 = some (zI (nI m)))
    (hcol : ¬ (m = 2 ∧ ¬ j % w + 1 < w) ∧ ¬ (m = 4 ∧ j % w = 0)) :
    fz_J G mX1_leadsOn rX1_leadsOn (fz_Z G E0 rX1_leadsOn.cells rX1_leadsOn.slots (fun r U => r = some (zI (if opb cn w kn j m then 1 else 0)) ∧ U = [(2, eGr sz wd), (3, e5 st), (5, e8 ki)])) E0 0 0 46 ls [] [(2, eGr sz wd), (3, e5 st), (5, e8 ki)] := by
  obtain ⟨k1, k2, k3, k4, k5, k6, k7⟩ := hK
  obtain ⟨l0, l1, l2⟩ := hl
  refine fz_aload_n dX1_leadsOn_46 l0 ?_
  refine fz_iload_n dX1_leadsOn_47 l1 ?_
  refine fz_aload_n dX1_leadsOn_48 l0 ?_
  refine fz_get dX1_leadsOn_49 fX1_9 rfl (hg) rfl ?_
  refine fz_iload_n dX1_leadsOn_52 l2 ?_
  refine fz_iald dX1_leadsOn_53 rfl rfl (hg) (vp_in_nI hm (by omega)) ?_
  refine fz_iadd dX1_leadsOn_54 ?_
  rw [nI_clamp (by omega), hS m hm]
  cases hn : nx cn w j m with
  | some d =>
    have hd := nx_lt k1 k4 hj hn
    rw [nx_st hn hm]
    refine fz_callV (tX1_kindAt_in g hg sz wd ki cn k5 k3 d hd) dX1_leadsOn_55 kX1_70 rfl (hg) ⟨rfl, rfl, trivial⟩ (Nat.le_of_ble_eq_true rfl) (Nat.le_of_ble_eq_true rfl) (Nat.le_of_ble_eq_true rfl) (Nat.le_of_ble_eq_true rfl) (Nat.le_of_ble_eq_true rfl) rfl (fun r U hq => ?_)
    obtain ⟨rfl, rfl⟩ := hq
    refine fz_back rfl ?_
    rw [(k7 d hd).1]
    have ho : opb cn w kn j m = !(kn d == 0) := by unfold opb; rw [hn]; simp [h0]
    have hle := (k7 d hd).2
    refine fz_if_le (tgt := 65) dX1_leadsOn_58 (by decide) (fun c => ?_) (fun c => ?_)
    · have hz : kn d = 0 := by
        rcases Nat.eq_zero_or_pos (kn d) with z | z
        · exact z
        · exact absurd c (nI_nle z (by omega))
      refine fz_iconst (v := nI 0) dX1_leadsOn_65 (by decide) ?_
      refine fz_zret dX1_leadsOn_66 rfl (by decide) (Nat.zero_le _) (Nat.zero_le _) ⟨by rw [ho, hz]; rfl, rfl⟩
    · have hz : ¬ kn d = 0 := fun z => c (by rw [z, nI_0]; decide)
      refine fz_iconst (v := nI 1) dX1_leadsOn_61 (by decide) ?_
      refine fz_goto (tgt := 66) dX1_leadsOn_62 (by decide) ?_
      refine fz_zret dX1_leadsOn_66 rfl (by decide) (Nat.zero_le _) (Nat.zero_le _) ⟨by rw [ho]; simp [hz]; rfl, rfl⟩
  | none =>
    have ho : opb cn w kn j m = false := by unfold opb; rw [hn]; simp
    have hout : nI j + stI w m < 0 ∨ sz g ≤ nI j + stI w m := by
      unfold nx at hn
      unfold stI
      split at hn
      · cases hn
      · rename_i h1
        rw [if_neg h1]
        split at hn
        · rename_i h2
          rw [if_pos h2]
          split at hn
          · cases hn
          · rename_i h3
            refine Or.inl ?_
            rw [← Int32.sub_eq_add_neg]
            exact pk_sneg (by omega) (by omega)
        · rename_i h2
          rw [if_neg h2]
          split at hn
          · rename_i h3
            split at hn
            · cases hn
            · rename_i h4
              exact absurd ⟨h3, h4⟩ hcol.1
          · rename_i h3
            rw [if_neg h3]
            split at hn
            · rename_i h4
              rw [if_pos h4]
              split at hn
              · cases hn
              · rename_i h5
                refine Or.inr ?_
                rw [k5, nI_add]
                exact nI_le (by omega) (by omega)
            · rename_i h4
              split at hn
              · cases hn
              · rename_i h5
                exact absurd ⟨by omega, by omega⟩ hcol.2
    refine fz_callV (tX1_kindAt_out g hg sz wd ki _ hout) dX1_leadsOn_55 kX1_70 rfl (hg) ⟨rfl, rfl, trivial⟩ (Nat.le_of_ble_eq_true rfl) (Nat.le_of_ble_eq_true rfl) (Nat.le_of_ble_eq_true rfl) (Nat.le_of_ble_eq_true rfl) (Nat.le_of_ble_eq_true rfl) rfl (fun r U hq => ?_)
    obtain ⟨rfl, rfl⟩ := hq
    refine fz_back rfl ?_
    refine fz_if_le (tgt := 65) dX1_leadsOn_58 (by decide) (fun c => ?_) (fun c => ?_)
    · skip
      refine fz_iconst (v := nI 0) dX1_leadsOn_65 (by decide) ?_
      refine fz_zret dX1_leadsOn_66 rfl (by decide) (Nat.zero_le _) (Nat.zero_le _) ⟨by rw [ho]; rfl, rfl⟩
    · exact absurd (by decide) c
theorem tX1_leadsOn {G : fz_G} (g : Nat) (hg : g < 2) (sz wd : Nat → Int32) (st ki : Nat → Nat → Int32) (cn w : Nat) (kn : Nat → Nat) (hK : gK cn w kn (sz g) (wd g) (ki g)) (hS : gS w (st g)) (j m : Nat) (hj : j < cn) (hm : m < 5) :
    fz_T G mX1_leadsOn rX1_leadsOn [zR 2 g, zI (nI j), zI (nI m)] [(2, eGr sz wd), (3, e5 st), (5, e8 ki)] (fun r U => r = some (zI (if opb cn w kn j m then 1 else 0)) ∧ U = [(2, eGr sz wd), (3, e5 st), (5, e8 ki)]) := by
  refine fz_T.of (by decide) (Nat.le_of_ble_eq_true rfl) (fun E0 => ?_)
  have hK' := hK
  obtain ⟨k1, k2, k3, k4, k5, k6, k7⟩ := hK
  have hml : j % w < w := Nat.mod_lt _ k1
  refine fz_iload_n dX1_leadsOn_0 rfl ?_
  refine fz_aload_n dX1_leadsOn_1 rfl ?_
  refine fz_get dX1_leadsOn_2 fX1_36 rfl (hg) rfl ?_
  refine fz_iconst (v := nI 1) dX1_leadsOn_5 (by decide) ?_
  refine fz_max dX1_leadsOn_6 oX1_39 (Nat.le_of_ble_eq_true rfl) (Nat.le_of_ble_eq_true rfl) (Nat.zero_le _) (Nat.zero_le _) ?_
  rw [k6]
  refine fz_top (max_w k1 k2) ?_
  refine fz_irem dX1_leadsOn_9 (nI_ne0 k1 (by omega)) ?_
  refine fz_top (pk_rem (by omega) k1 (by omega)) ?_
  refine fz_istore_n dX1_leadsOn_10 (Nat.le_of_ble_eq_true rfl) ?_
  refine fz_aload_n dX1_leadsOn_11 rfl ?_
  refine fz_get dX1_leadsOn_12 fX1_19 rfl (hg) rfl ?_
  refine fz_iload_n dX1_leadsOn_15 rfl ?_
  refine fz_iald dX1_leadsOn_16 rfl rfl (hg) (vp_in_nI (by omega) (by omega)) ?_
  rw [nI_clamp (by omega), (k7 j hj).1]
  have hle := (k7 j hj).2
  refine fz_if_eq (tgt := 44) dX1_leadsOn_17 (by decide) (fun c17 => ?_) (fun c17 => ?_)
  · have hz : kn j = 0 := (nI_eq (by omega) (by omega)).mp c17
    refine fz_iconst (v := nI 0) dX1_leadsOn_44 (by decide) ?_
    refine fz_zret dX1_leadsOn_45 rfl (by decide) (Nat.zero_le _) (Nat.zero_le _) ⟨by unfold opb; rw [hz]; rfl, rfl⟩
  · have hz : ¬ kn j = 0 := fun z => c17 (by rw [z]; exact nI_0)
    refine fz_iload_n dX1_leadsOn_20 rfl ?_
    refine fz_iconst (v := nI 2) dX1_leadsOn_21 (by decide) ?_
    refine fz_icmp_ne (tgt := 35) dX1_leadsOn_22 (by decide) (fun c22 => ?_) (fun c22 => ?_)
    · have h2 : ¬ m = 2 := fun z => c22 (by rw [z])
      refine fz_iload_n dX1_leadsOn_35 rfl ?_
      refine fz_iconst (v := nI 4) dX1_leadsOn_36 (by decide) ?_
      refine fz_icmp_ne (tgt := 46) dX1_leadsOn_37 (by decide) (fun c37 => ?_) (fun c37 => ?_)
      · have h4 : ¬ m = 4 := fun z => c37 (by rw [z])
        exact lX1_leadsOn g hg sz wd st ki cn w kn hK' hS j m hj hm hz 0 ⟨rfl, rfl, rfl⟩ ⟨by omega, by omega⟩
      · have h4 : m = 4 := (nI_eq (by omega) (by omega)).mp c37
        refine fz_iload_n dX1_leadsOn_40 rfl ?_
        refine fz_if_ne (tgt := 46) dX1_leadsOn_41 (by decide) (fun c41 => ?_) (fun c41 => ?_)
        · have h5 : ¬ j % w = 0 := fun z => c41 (by rw [z]; exact nI_0)
          exact lX1_leadsOn g hg sz wd st ki cn w kn hK' hS j m hj hm hz 0 ⟨rfl, rfl, rfl⟩ ⟨by omega, by omega⟩
        · have h5 : j % w = 0 := (nI_eq (by omega) (by omega)).mp c41
          refine fz_iconst (v := nI 0) dX1_leadsOn_44 (by decide) ?_
          refine fz_zret dX1_leadsOn_45 rfl (by decide) (Nat.zero_le _) (Nat.zero_le _) ⟨by unfold opb nx; subst h4; simp [h5]; rfl, rfl⟩
    · have h2 : m = 2 := (nI_eq (by omega) (by omega)).mp c22
      refine fz_iload_n dX1_leadsOn_25 rfl ?_
      refine fz_aload_n dX1_leadsOn_26 rfl ?_
      refine fz_get dX1_leadsOn_27 fX1_36 rfl (hg) rfl ?_
      refine fz_iconst (v := nI 1) dX1_leadsOn_30 (by decide) ?_
      rw [k6]
      refine fz_isub dX1_leadsOn_31 ?_
      rw [pk_sub (by omega)]
      refine fz_icmp_eq (tgt := 44) dX1_leadsOn_32 (by decide) (fun c32 => ?_) (fun c32 => ?_)
      · have h5 : j % w = w - 1 := (nI_eq (by omega) (by omega)).mp c32
        refine fz_iconst (v := nI 0) dX1_leadsOn_44 (by decide) ?_
        have h6 : ¬ j % w + 1 < w := by omega
        refine fz_zret dX1_leadsOn_45 rfl (by decide) (Nat.zero_le _) (Nat.zero_le _) ⟨by unfold opb nx; subst h2; simp [h6]; rfl, rfl⟩
      · have h5 : ¬ j % w = w - 1 := fun z => c32 (by rw [z])
        refine fz_iload_n dX1_leadsOn_35 rfl ?_
        refine fz_iconst (v := nI 4) dX1_leadsOn_36 (by decide) ?_
        refine fz_icmp_ne (tgt := 46) dX1_leadsOn_37 (by decide) (fun c37 => ?_) (fun c37 => ?_)
        · exact lX1_leadsOn g hg sz wd st ki cn w kn hK' hS j m hj hm hz 0 ⟨rfl, rfl, rfl⟩ ⟨by omega, by omega⟩
        · have h4 : m = 4 := (nI_eq (by omega) (by omega)).mp c37
          omega
