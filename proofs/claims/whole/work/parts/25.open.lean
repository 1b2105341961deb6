/-! THE MAP'S MOVES AS BITS: findOpenMoves -/
/-- the bits of all moves from cells before c, and of those before m from c -/
def gOi (cn w : Nat) (kn : Nat → Nat) (c0 m0 : Nat) (o : Nat → Int64) : Prop := ∀ m j i, m < 5 → j < 2 → i < 64 → bl (o (2 * m + j)) i = (decide (64 * j + i < c0 ∨ (64 * j + i = c0 ∧ m < m0)) && opb cn w kn (64 * j + i) m)
theorem lX1_fom_20 {G : fz_G} {E0 : Nat → fz_E} {Z : List Frame → Array Value → State → State → Prop} (g : Nat) (hg : g < 2) (sz wd : Nat → Int32) (st ki : Nat → Nat → Int32) (op : Nat → Nat → Int64) (cn w : Nat) (kn : Nat → Nat) (hK : gK cn w kn (sz g) (wd g) (ki g)) (hS : gS w (st g)) (c : Nat) (hc : c < cn)
    (kk : ∀ o, gOi cn w kn c 5 o → fz_J G mX1_findOpenMoves rX1_findOpenMoves Z E0 0 0 59 [(2, zI (nI 5)), (1, zI (nI c)), (0, zR 2 g)] [] [(2, eGr sz wd), (3, e5 st), (4, eL (va_up op g o)), (5, e8 ki)]) :
    ∀ q m, m + q = 5 → ∀ o, gOi cn w kn c m o → fz_J G mX1_findOpenMoves rX1_findOpenMoves Z E0 0 0 20 [(2, zI (nI m)), (1, zI (nI c)), (0, zR 2 g)] [] [(2, eGr sz wd), (3, e5 st), (4, eL (va_up op g o)), (5, e8 ki)] := by
  intro q
  have hc80 : c < 80 := by have := hK.2.2.1; omega
  induction q with
  | zero =>
    intro m hm o ho
    have e : m = 5 := by omega
    subst e
    refine fz_iload_n dX1_findOpenMoves_20 rfl ?_
    refine fz_iconst (v := nI 5) dX1_findOpenMoves_21 (by decide) ?_
    refine fz_icmp_ge (tgt := 59) dX1_findOpenMoves_22 (by decide) (fun c22 => ?_) (fun c22 => ?_)
    · exact kk o ho
    · exact absurd (nI_le (Nat.le_refl _) (by omega)) c22
  | succ q ih =>
    intro m hm o ho
    refine fz_iload_n dX1_findOpenMoves_20 rfl ?_
    refine fz_iconst (v := nI 5) dX1_findOpenMoves_21 (by decide) ?_
    refine fz_icmp_ge (tgt := 59) dX1_findOpenMoves_22 (by decide) (fun c22 => ?_) (fun c22 => ?_)
    · exact absurd ((nI_leI (by omega) (by omega)).mp c22) (by omega)
    · skip
      refine fz_aload_n dX1_findOpenMoves_25 rfl ?_
      refine fz_iload_n dX1_findOpenMoves_26 rfl ?_
      refine fz_iload_n dX1_findOpenMoves_27 rfl ?_
      refine fz_callV (tX1_leadsOn g hg sz wd st ki cn w kn hK hS c m hc (by omega)) dX1_findOpenMoves_28 kX1_66 rfl (hg) ⟨rfl, rfl, rfl, trivial⟩ (Nat.le_of_ble_eq_true rfl) (Nat.le_of_ble_eq_true rfl) (Nat.le_of_ble_eq_true rfl) (Nat.le_of_ble_eq_true rfl) (Nat.le_of_ble_eq_true rfl) rfl (fun r U hq => ?_)
      obtain ⟨rfl, rfl⟩ := hq
      refine fz_back rfl ?_
      refine fz_wo (V' := [(2, eGr sz wd), (3, e5 st), (4, eL (va_up op g o)), (5, e8 ki)]) rfl ?_
      cases hb : opb cn w kn c m with
      | false =>
        refine fz_if_eq (tgt := 53) dX1_findOpenMoves_31 (by decide) (fun c31 => ?_) (fun c31 => ?_)
        · skip
          refine fz_incN dX1_findOpenMoves_53 rfl (Nat.le_of_ble_eq_true rfl) ?_
          refine fz_goto (tgt := 20) dX1_findOpenMoves_56 (by decide) ?_
          refine ih (m + 1) (by omega) o (fun m' j i h1 h2 h3 => ?_)
          rw [ho m' j i h1 h2 h3]
          by_cases hx : 64 * j + i = c ∧ m' = m
          · obtain ⟨hx1, hx2⟩ := hx
            subst hx2
            rw [hx1, hb]; simp
          · congr 1
            simp only [decide_eq_decide]
            omega
        · exact absurd rfl c31
      | true =>
        refine fz_if_eq (tgt := 53) dX1_findOpenMoves_31 (by decide) (fun c31 => ?_) (fun c31 => ?_)
        · exact absurd c31 (by decide)
        · skip
          refine fz_aload_n dX1_findOpenMoves_34 rfl ?_
          refine fz_get dX1_findOpenMoves_35 fX1_15 rfl (hg) rfl ?_
          refine fz_iconst (v := nI 2) dX1_findOpenMoves_38 (by decide) ?_
          refine fz_iload_n dX1_findOpenMoves_39 rfl ?_
          refine fz_imul dX1_findOpenMoves_40 ?_
          refine fz_iload_n dX1_findOpenMoves_41 rfl ?_
          refine fz_bipush (v := nI 6) dX1_findOpenMoves_42 (by decide) ?_
          refine fz_ishr dX1_findOpenMoves_44 ?_
          rw [shr6 hc80]
          refine fz_iadd dX1_findOpenMoves_45 ?_
          rw [ix_om (by omega) hc80]
          refine fz_dup2_11 dX1_findOpenMoves_46 rfl rfl ?_
          refine fz_laldu dX1_findOpenMoves_47 rfl rfl (hg) (vp_in_nI (by omega) (by omega)) ?_
          refine fz_lconst (v := 1) dX1_findOpenMoves_48 (by decide) ?_
          refine fz_iload_n dX1_findOpenMoves_49 rfl ?_
          refine fz_lshl dX1_findOpenMoves_50 ?_
          refine fz_lor dX1_findOpenMoves_51 ?_
          refine fz_lastu dX1_findOpenMoves_52 rfl rfl (hg) (vp_in_nI (by omega) (by omega)) ?_
          refine fz_incN dX1_findOpenMoves_53 rfl (Nat.le_of_ble_eq_true rfl) ?_
          refine fz_goto (tgt := 20) dX1_findOpenMoves_56 (by decide) ?_
          refine ih (m + 1) (by omega) _ (fun m' j i h1 h2 h3 => ?_)
          rw [nI_clamp (by omega)]
          by_cases hx : 2 * m' + j = 2 * m + c / 64
          · rw [hx, pk_uLs, bl_or, bl_1shl (by omega) h3, ← hx, ho m' j i h1 h2 h3]
            by_cases hi : i = c % 64
            · have e1 : 64 * j + i = c := by omega
              have e2 : m' = m := by omega
              rw [e1, e2, hb]
              simp [hi]
            · have e1 : ¬ 64 * j + i = c := by omega
              simp only [hi, decide_false, Bool.or_false, e1, false_and]
          · rw [pk_uLn hx, ho m' j i h1 h2 h3]
            congr 1
            simp only [decide_eq_decide]
            omega
theorem lX1_fom_10 {G : fz_G} {E0 : Nat → fz_E} (g : Nat) (hg : g < 2) (sz wd : Nat → Int32) (st ki : Nat → Nat → Int32) (op : Nat → Nat → Int64) (cn w : Nat) (kn : Nat → Nat) (hK : gK cn w kn (sz g) (wd g) (ki g)) (hS : gS w (st g)) :
    ∀ q c, c + q = cn → ∀ o, gOi cn w kn c 0 o → ∀ ls, fz_lo ls 1 = some (zI (nI c)) → fz_lo ls 0 = some (zR 2 g) → (∃ ps : List Nat, ∀ v, ps.filterMap (fun i => (fz_s1 ls 2 v)[i]?) = [(2, v), (1, zI (nI c)), (0, zR 2 g)]) → fz_J G mX1_findOpenMoves rX1_findOpenMoves (fz_Z G E0 0 0 (fun r U => r = none ∧ ∃ o', gO cn w kn o' ∧ U = [(2, eGr sz wd), (3, e5 st), (4, eL (va_up op g o')), (5, e8 ki)])) E0 0 0 10 ls [] [(2, eGr sz wd), (3, e5 st), (4, eL (va_up op g o)), (5, e8 ki)] := by
  intro q
  have hK' := hK
  obtain ⟨k1, k2, k3, k4, k5, k6, k7⟩ := hK
  induction q with
  | zero =>
    intro c hc o ho ls l1 l0 hps
    have e : c = cn := by omega
    subst e
    refine fz_iload_n dX1_findOpenMoves_10 l1 ?_
    refine fz_aload_n dX1_findOpenMoves_11 l0 ?_
    refine fz_get dX1_findOpenMoves_12 fX1_28 rfl (hg) rfl ?_
    rw [k5]
    refine fz_icmp_ge (tgt := 65) dX1_findOpenMoves_15 (by decide) (fun c15 => ?_) (fun c15 => ?_)
    · skip
      refine fz_vret dX1_findOpenMoves_65 rfl (Nat.zero_le _) (Nat.zero_le _) ⟨rfl, o, fun m j i h1 h2 h3 => by rw [ho m j i h1 h2 h3]; simp, rfl⟩
    · exact absurd (nI_le (Nat.le_refl _) (by omega)) c15
  | succ q ih =>
    intro c hc o ho ls l1 l0 hps
    obtain ⟨ps, hps⟩ := hps
    refine fz_iload_n dX1_findOpenMoves_10 l1 ?_
    refine fz_aload_n dX1_findOpenMoves_11 l0 ?_
    refine fz_get dX1_findOpenMoves_12 fX1_28 rfl (hg) rfl ?_
    rw [k5]
    refine fz_icmp_ge (tgt := 65) dX1_findOpenMoves_15 (by decide) (fun c15 => ?_) (fun c15 => ?_)
    · exact absurd ((nI_leI (by omega) (by omega)).mp c15) (by omega)
    · skip
      refine fz_iconst (v := nI 0) dX1_findOpenMoves_18 (by decide) ?_
      refine fz_istore_n dX1_findOpenMoves_19 (Nat.le_of_ble_eq_true rfl) ?_
      refine fz_pk ps (hps _) ?_
      refine lX1_fom_20 g hg sz wd st ki op cn w kn hK' hS c (by omega) (fun o2 ho2 => ?_) 5 0 rfl o ho
      refine fz_incN dX1_findOpenMoves_59 rfl (Nat.le_of_ble_eq_true rfl) ?_
      refine fz_goto (tgt := 10) dX1_findOpenMoves_62 (by decide) ?_
      refine ih (c + 1) (by omega) o2 (fun m j i h1 h2 h3 => ?_) _ rfl rfl ⟨[0, 1, 2], fun v => rfl⟩
      rw [ho2 m j i h1 h2 h3]
      congr 1
      simp only [decide_eq_decide]
      omega
theorem tX1_findOpenMoves {G : fz_G} (g : Nat) (hg : g < 2) (sz wd : Nat → Int32) (st ki : Nat → Nat → Int32) (op : Nat → Nat → Int64) (o : Nat → Int64) (cn w : Nat) (kn : Nat → Nat) (hK : gK cn w kn (sz g) (wd g) (ki g)) (hS : gS w (st g)) :
    fz_T G mX1_findOpenMoves rX1_findOpenMoves [zR 2 g] [(2, eGr sz wd), (3, e5 st), (4, eL (va_up op g o)), (5, e8 ki)] (fun r U => r = none ∧ ∃ o', gO cn w kn o' ∧ U = [(2, eGr sz wd), (3, e5 st), (4, eL (va_up op g o')), (5, e8 ki)]) := by
  refine fz_T.of (by decide) (Nat.le_of_ble_eq_true rfl) (fun E0 => ?_)
  refine fz_aload_n dX1_findOpenMoves_0 rfl ?_
  refine fz_get dX1_findOpenMoves_1 fX1_15 rfl (hg) rfl ?_
  refine fz_lconst (v := 0) dX1_findOpenMoves_4 (by decide) ?_
  refine fz_callS (tJ7_fill_4 op g hg 0 o) dX1_findOpenMoves_5 kX1_60 ⟨rfl, trivial⟩ (Nat.le_of_ble_eq_true rfl) (Nat.le_of_ble_eq_true rfl) (Nat.le_of_ble_eq_true rfl) (Nat.le_of_ble_eq_true rfl) (Nat.le_of_ble_eq_true rfl) rfl (fun r U hq => ?_)
  obtain ⟨rfl, o1, ho1, rfl⟩ := hq
  refine fz_back rfl ?_
  refine fz_wo (V' := [(2, eGr sz wd), (3, e5 st), (4, eL (va_up op g o1)), (5, e8 ki)]) rfl ?_
  refine fz_iconst (v := nI 0) dX1_findOpenMoves_8 (by decide) ?_
  refine fz_istore_n dX1_findOpenMoves_9 (Nat.le_of_ble_eq_true rfl) ?_
  refine lX1_fom_10 g hg sz wd st ki op cn w kn hK hS cn 0 (by omega) o1 (fun m j i h1 h2 h3 => ?_) _ rfl rfl ⟨[0, 1, 2], fun v => rfl⟩
  rw [ho1 _ (by omega), bl_0]
  simp
