/-! WaySearch: leastMove -/
/-- move m leads on from c, j ticks before the end -/
def oMv (cn w : Nat) (kn : Nat → Nat) (P : Nat → Nat → Nat) (rn r t : Nat) (sho : Option Nat) (s0 c0 goal L k s c m d : Nat) : Prop := may cn w kn P rn r (t + k) c m = some d ∧ Lw cn w kn P rn r t sho s0 c0 goal L (L - (k + 1)) (sd sho s d) d
theorem lX9_least {G : fz_G} {E0 : Nat → fz_E} (g : Nat) (hg : g < 2) (sz wd : Nat → Int32) (st : Nat → Nat → Int32) (lo hi : Int64) (re al : Nat → Int64) (op : Nat → Int64) (cn w : Nat) (kn : Nat → Nat) (P : Nat → Nat → Nat) (rn r t : Nat) (sho : Option Nat) (s0 c0 goal L k s c : Nat) (rb ts go : Int32)
    (h0 : 0 < w) (h80 : cn ≤ 80) (hh : ∃ h, cn = w * h) (hS : gS w (st g)) (hO : gO cn w kn op) (hP : ∀ q, q < rn → P q (t + k) < 2 ^ 31) (hs : seen P (st g) op r (t + k) rn lo hi al) (hc : c < cn) (hk1 : k < 1000) (hs2 : s < 2) (hL : Rw cn w kn P rn r t sho s0 c0 L 1 goal) (hk : k < L) (hsh : ∀ h, sho = some h → h < 80)
    (hT : ∀ s d, s < 2 → d < 128 → (xS re (4 * (k + 1) + 2 * s) d = true ↔ Lw cn w kn P rn r t sho s0 c0 goal L (L - (k + 1)) s d)) :
    ∀ q m, m + q = 5 → (∀ m' d, m' < m → ¬ oMv cn w kn P rn r t sho s0 c0 goal L k s c m' d) → (∃ m' d, m' < 5 ∧ oMv cn w kn P rn r t sho s0 c0 goal L k s c m' d) → fz_J G mX9_leastMove rX9_leastMove (fz_Z G E0 0 0 (fun x U => (∃ m d, m < 5 ∧ x = some (zI (nI m)) ∧ oMv cn w kn P rn r t sho s0 c0 goal L k s c m d ∧ ∀ m' d', m' < m → ¬ oMv cn w kn P rn r t sho s0 c0 goal L k s c m' d') ∧ U = wSp g sz wd st lo hi rb ts (oI sho) go re al)) E0 0 0 3 [(4, zI (nI m)), (0, zR 25 0), (1, zI (nI c)), (2, zI (nI s)), (3, zI (nI k))] [] (wSp g sz wd st lo hi rb ts (oI sho) go re al) := by
  intro q
  have hfree : ∀ s' e, Lw cn w kn P rn r t sho s0 c0 goal L (L - (k + 1)) s' e → tkn P r (t + k) e rn = false := by
    intro s' e h
    have h2 := Lw_R hL _ _ _ h
    rw [show L - (L - (k + 1)) = k + 1 by omega] at h2
    exact Rw_free h2
  induction q with
  | zero =>
    intro m hm hno hex
    obtain ⟨m', d, a, b⟩ := hex
    exact absurd b (hno m' d (by omega))
  | succ q ih =>
    intro m hm hno hex
    have hbit : inS al (2 * m) c = ((decide (c < cn) && opb cn w kn c m) && !blk P (st g) r (t + k) m c rn) := by
      rw [hs.2 m c (by omega) (by omega), gO_c hO (by omega) (by omega)]
    have out : ∀ (X5 X6 X7 : Int32), (∀ d, ¬ oMv cn w kn P rn r t sho s0 c0 goal L k s c m d) → fz_J G mX9_leastMove rX9_leastMove (fz_Z G E0 0 0 (fun x U => (∃ m d, m < 5 ∧ x = some (zI (nI m)) ∧ oMv cn w kn P rn r t sho s0 c0 goal L k s c m d ∧ ∀ m' d', m' < m → ¬ oMv cn w kn P rn r t sho s0 c0 goal L k s c m' d') ∧ U = wSp g sz wd st lo hi rb ts (oI sho) go re al)) E0 0 0 96 [(7, zI X7), (6, zI X6), (5, zI X5), (4, zI (nI m)), (0, zR 25 0), (1, zI (nI c)), (2, zI (nI s)), (3, zI (nI k))] [] (wSp g sz wd st lo hi rb ts (oI sho) go re al) := by
      intro X5 X6 X7 hn
      refine fz_incN dX9_leastMove_96 rfl (Nat.le_of_ble_eq_true rfl) ?_
      refine fz_goto (tgt := 3) dX9_leastMove_99 (by decide) ?_
      refine fz_pk [0, 4, 5, 6, 7] rfl ?_
      refine ih (m + 1) (by omega) (fun m' d h1 => ?_) hex
      by_cases e : m' = m
      · rw [e]; exact hn d
      · exact hno m' d (by omega)
    refine fz_iload dX9_leastMove_3 rfl ?_
    refine fz_iconst (v := nI 5) dX9_leastMove_5 (by decide) ?_
    refine fz_icmp_ge (tgt := 102) dX9_leastMove_6 (by decide) (fun c6 => ?_) (fun c6 => ?_)
    · exact absurd ((nI_leI (by omega) (by omega)).mp c6) (by omega)
    · skip
      refine fz_iload_n dX9_leastMove_9 rfl ?_
      refine fz_aload_n dX9_leastMove_10 rfl ?_
      refine fz_get dX9_leastMove_11 fX9_18 rfl (Nat.one_pos) rfl ?_
      refine fz_get dX9_leastMove_14 fX9_105 rfl (hg) rfl ?_
      refine fz_iload dX9_leastMove_17 rfl ?_
      refine fz_iald dX9_leastMove_19 rfl rfl (hg) (vp_in_nI (by omega) (by omega)) ?_
      rw [nI_clamp (by omega), hS m (by omega)]
      refine fz_iadd dX9_leastMove_20 ?_
      refine fz_istore dX9_leastMove_21 (Nat.le_of_ble_eq_true rfl) ?_
      refine fz_aload_n dX9_leastMove_23 rfl ?_
      refine fz_get dX9_leastMove_24 fX9_15 rfl (Nat.one_pos) rfl ?_
      refine fz_iconst (v := nI 2) dX9_leastMove_27 (by decide) ?_
      refine fz_iload dX9_leastMove_28 rfl ?_
      refine fz_imul dX9_leastMove_30 ?_
      refine fz_iload_n dX9_leastMove_31 rfl ?_
      refine fz_bipush (v := nI 6) dX9_leastMove_32 (by decide) ?_
      refine fz_ishr dX9_leastMove_34 ?_
      rw [shr6 (by omega)]
      refine fz_iadd dX9_leastMove_35 ?_
      rw [ix_om (by omega) (by omega)]
      refine fz_lald dX9_leastMove_36 rfl rfl (Nat.one_pos) (vp_in_nI (by omega) (by omega)) ?_
      refine fz_iload_n dX9_leastMove_37 rfl ?_
      refine fz_lushr dX9_leastMove_38 ?_
      refine fz_lconst (v := 1) dX9_leastMove_39 (by decide) ?_
      refine fz_land dX9_leastMove_40 ?_
      rw [nI_clamp (by omega)]
      refine fz_topL (bl_test _ (by omega)) ?_
      refine fz_lconst (v := 0) dX9_leastMove_41 (by decide) ?_
      refine fz_lcmp dX9_leastMove_42 ?_
      cases hv : inS al (2 * m) c with
      | false =>
        have hn : ∀ d, ¬ oMv cn w kn P rn r t sho s0 c0 goal L k s c m d := by
          intro d hd
          obtain ⟨b1, b2, b3, b4⟩ := may_spec.mp hd.1
          rw [hv] at hbit
          by_cases e : m = 0
          · subst e
            have hb0 : ∀ n, blk P (st g) r (t + k) 0 c n = false := by
              intro n
              induction n with
              | zero => rfl
              | succ n ihn =>
                show (blk P (st g) r (t + k) 0 c n || _) = false
                rw [ihn]; simp
            rw [hb0, b2] at hbit
            simp [hc] at hbit
          · rw [blk_swp hS (by omega) (by omega) b1 (by have := nx_lt h0 hh hc b1; omega) rn hP, b4, b2] at hbit
            simp [hc] at hbit
        have hv2 : bl (al (2 * m + c / 64)) (c % 64) = false := hv
        rw [hv2]
        refine fz_if_eq (tgt := 50) dX9_leastMove_43 (by decide) (fun c43 => ?_) (fun c43 => ?_)
        · skip
          refine fz_iconst (v := nI 0) dX9_leastMove_50 (by decide) ?_
          refine fz_istore dX9_leastMove_51 (Nat.le_of_ble_eq_true rfl) ?_
          refine fz_iload dX9_leastMove_53 rfl ?_
          refine fz_aload_n dX9_leastMove_55 rfl ?_
          refine fz_get dX9_leastMove_56 fX9_33 rfl (Nat.one_pos) rfl ?_
          refine fz_icmp_ne (tgt := 66) dX9_leastMove_59 (by decide) (fun c59 => ?_) (fun c59 => ?_)
          · skip
            refine fz_iload_n dX9_leastMove_66 rfl ?_
            refine fz_istore dX9_leastMove_67 (Nat.le_of_ble_eq_true rfl) ?_
            refine fz_iload dX9_leastMove_69 rfl ?_
            refine fz_if_eq (tgt := 96) dX9_leastMove_71 (by decide) (fun c71 => ?_) (fun c71 => ?_)
            · exact out _ _ _ hn
            · exact absurd rfl c71
          · skip
            refine fz_iconst (v := nI 1) dX9_leastMove_62 (by decide) ?_
            refine fz_goto (tgt := 67) dX9_leastMove_63 (by decide) ?_
            refine fz_istore dX9_leastMove_67 (Nat.le_of_ble_eq_true rfl) ?_
            refine fz_iload dX9_leastMove_69 rfl ?_
            refine fz_if_eq (tgt := 96) dX9_leastMove_71 (by decide) (fun c71 => ?_) (fun c71 => ?_)
            · exact out _ _ _ hn
            · exact absurd rfl c71
        · exact absurd ((lg_cmp_eq _ _).mpr rfl) c43
      | true =>
        rw [hv] at hbit
        have hbit := hbit.symm
        simp only [Bool.and_eq_true, decide_eq_true_eq, Bool.not_eq_true'] at hbit
        obtain ⟨⟨_, hop⟩, hbk⟩ := hbit
        obtain ⟨d, hd⟩ := opb_nx hop
        have hdl := nx_lt h0 hh hc hd
        rw [nx_st hd (by omega)]
        have hsd : sd sho s d < 2 := by unfold sd; split <;> omega
        have hTd := hT (sd sho s d) d hsd (by omega)
        have hmy : Lw cn w kn P rn r t sho s0 c0 goal L (L - (k + 1)) (sd sho s d) d → oMv cn w kn P rn r t sho s0 c0 goal L k s c m d := by
          intro hl
          refine ⟨may_spec.mpr ⟨hd, hop, hfree _ _ hl, ?_⟩, hl⟩
          by_cases e : m = 0
          · subst e
            have hd : some c = some d := hd
            cases hd
            cases hz : swp P r (t + k) c c rn with
            | false => rfl
            | true => have := hfree _ _ hl; rw [swp_tkn rn hz] at this; cases this
          · rw [← blk_swp hS (by omega) (by omega) hd (by omega) rn hP]
            exact hbk
        have hv2 : bl (al (2 * m + c / 64)) (c % 64) = true := hv
        rw [hv2]
        have fin : fz_J G mX9_leastMove rX9_leastMove (fz_Z G E0 0 0 (fun x U => (∃ m d, m < 5 ∧ x = some (zI (nI m)) ∧ oMv cn w kn P rn r t sho s0 c0 goal L k s c m d ∧ ∀ m' d', m' < m → ¬ oMv cn w kn P rn r t sho s0 c0 goal L k s c m' d') ∧ U = wSp g sz wd st lo hi rb ts (oI sho) go re al)) E0 0 0 69 [(7, zI (nI (sd sho s d))), (6, zI (nI 1)), (5, zI (nI d)), (4, zI (nI m)), (0, zR 25 0), (1, zI (nI c)), (2, zI (nI s)), (3, zI (nI k))] [] (wSp g sz wd st lo hi rb ts (oI sho) go re al) := by
          refine fz_iload dX9_leastMove_69 rfl ?_
          refine fz_if_eq (tgt := 96) dX9_leastMove_71 (by decide) (fun c71 => ?_) (fun c71 => ?_)
          · exact absurd c71 (by decide)
          · skip
            refine fz_aload_n dX9_leastMove_74 rfl ?_
            refine fz_iconst (v := nI 4) dX9_leastMove_75 (by decide) ?_
            refine fz_iload_n dX9_leastMove_76 rfl ?_
            refine fz_imul dX9_leastMove_77 ?_
            refine fz_iconst (v := nI 4) dX9_leastMove_78 (by decide) ?_
            refine fz_iadd dX9_leastMove_79 ?_
            refine fz_iconst (v := nI 2) dX9_leastMove_80 (by decide) ?_
            refine fz_iload dX9_leastMove_81 rfl ?_
            refine fz_imul dX9_leastMove_83 ?_
            rw [nI_mul, nI_mul, nI_add]
            refine fz_iadd dX9_leastMove_84 ?_
            refine fz_iload dX9_leastMove_85 rfl ?_
            rw [nI_add]
            refine fz_callV (tX9_holds g lo hi rb ts (oI sho) go (4 * k + 4 + 2 * sd sho s d) d (by omega) (by omega) re) dX9_leastMove_87 kX9_70 rfl (Nat.one_pos) ⟨rfl, rfl, trivial⟩ (Nat.le_of_ble_eq_true rfl) (Nat.le_of_ble_eq_true rfl) (Nat.le_of_ble_eq_true rfl) (Nat.le_of_ble_eq_true rfl) (Nat.le_of_ble_eq_true rfl) rfl (fun r U hq => ?_)
            obtain ⟨rfl, rfl⟩ := hq
            refine fz_back rfl ?_
            refine fz_wo (V' := wSp g sz wd st lo hi rb ts (oI sho) go re al) rfl ?_
            rw [← xS_inS re _ (by omega)]
            rw [show 4 * (k + 1) + 2 * sd sho s d = 4 * k + 4 + 2 * sd sho s d by omega] at hTd
            cases hx : xS re (4 * k + 4 + 2 * sd sho s d) d with
            | false =>
              refine fz_if_eq (tgt := 96) dX9_leastMove_90 (by decide) (fun c90 => ?_) (fun c90 => ?_)
              · refine out _ _ _ (fun d' hd' => ?_)
                have e1 := (may_spec.mp hd'.1).1
                rw [hd] at e1
                cases e1
                rw [hTd.mpr hd'.2] at hx
                cases hx
              · exact absurd rfl c90
            | true =>
              refine fz_if_eq (tgt := 96) dX9_leastMove_90 (by decide) (fun c90 => ?_) (fun c90 => ?_)
              · exact absurd c90 (by decide)
              · skip
                refine fz_iload dX9_leastMove_93 rfl ?_
                refine fz_iret dX9_leastMove_95 rfl (Nat.zero_le _) (Nat.zero_le _) ⟨⟨m, d, by omega, rfl, hmy (hTd.mp hx), hno⟩, rfl⟩
        refine fz_if_eq (tgt := 50) dX9_leastMove_43 (by decide) (fun c43 => ?_) (fun c43 => ?_)
        · exact absurd ((lg_cmp_eq _ _).mp c43) (by decide)
        · skip
          refine fz_iconst (v := nI 1) dX9_leastMove_46 (by decide) ?_
          refine fz_goto (tgt := 51) dX9_leastMove_47 (by decide) ?_
          refine fz_istore dX9_leastMove_51 (Nat.le_of_ble_eq_true rfl) ?_
          refine fz_iload dX9_leastMove_53 rfl ?_
          refine fz_aload_n dX9_leastMove_55 rfl ?_
          refine fz_get dX9_leastMove_56 fX9_33 rfl (Nat.one_pos) rfl ?_
          refine fz_icmp_ne (tgt := 66) dX9_leastMove_59 (by decide) (fun c59 => ?_) (fun c59 => ?_)
          · have e : sd sho s d = s := by
              unfold sd
              rw [if_neg]
              intro z
              rw [z] at c59
              exact c59 rfl
            rw [e] at fin
            refine fz_iload_n dX9_leastMove_66 rfl ?_
            refine fz_istore dX9_leastMove_67 (Nat.le_of_ble_eq_true rfl) ?_
            exact fin
          · have e : sd sho s d = 1 := by
              unfold sd
              rw [if_pos]
              cases sho with
              | none => exact absurd c59 (oI_ne (by omega))
              | some h =>
                have := hsh h rfl
                rw [(nI_eq (by omega) (by omega)).mp c59]
            rw [e] at fin
            refine fz_iconst (v := nI 1) dX9_leastMove_62 (by decide) ?_
            refine fz_goto (tgt := 67) dX9_leastMove_63 (by decide) ?_
            refine fz_istore dX9_leastMove_67 (Nat.le_of_ble_eq_true rfl) ?_
            exact fin
theorem tX9_leastMove {G : fz_G} (g : Nat) (hg : g < 2) (sz wd : Nat → Int32) (st : Nat → Nat → Int32) (lo hi : Int64) (re al : Nat → Int64) (op : Nat → Int64) (cn w : Nat) (kn : Nat → Nat) (P : Nat → Nat → Nat) (rn r t : Nat) (sho : Option Nat) (s0 c0 goal L k s c : Nat) (rb ts go : Int32)
    (h0 : 0 < w) (h80 : cn ≤ 80) (hh : ∃ h, cn = w * h) (hS : gS w (st g)) (hO : gO cn w kn op) (hP : ∀ q, q < rn → P q (t + k) < 2 ^ 31) (hs : seen P (st g) op r (t + k) rn lo hi al) (hc : c < cn) (hk1 : k < 1000) (hs2 : s < 2) (hL : Rw cn w kn P rn r t sho s0 c0 L 1 goal) (hk : k < L) (hsh : ∀ h, sho = some h → h < 80)
    (hT : ∀ s d, s < 2 → d < 128 → (xS re (4 * (k + 1) + 2 * s) d = true ↔ Lw cn w kn P rn r t sho s0 c0 goal L (L - (k + 1)) s d)) (hex : ∃ m' d, m' < 5 ∧ oMv cn w kn P rn r t sho s0 c0 goal L k s c m' d) :
    fz_T G mX9_leastMove rX9_leastMove [zR 25 0, zI (nI c), zI (nI s), zI (nI k)] (wSp g sz wd st lo hi rb ts (oI sho) go re al) (fun x U => (∃ m d, m < 5 ∧ x = some (zI (nI m)) ∧ oMv cn w kn P rn r t sho s0 c0 goal L k s c m d ∧ ∀ m' d', m' < m → ¬ oMv cn w kn P rn r t sho s0 c0 goal L k s c m' d') ∧ U = wSp g sz wd st lo hi rb ts (oI sho) go re al) := by
  refine fz_T.of (by decide) (Nat.le_of_ble_eq_true rfl) (fun E0 => ?_)
  refine fz_iconst (v := nI 0) dX9_leastMove_0 (by decide) ?_
  refine fz_istore dX9_leastMove_1 (Nat.le_of_ble_eq_true rfl) ?_
  exact lX9_least g hg sz wd st lo hi re al op cn w kn P rn r t sho s0 c0 goal L k s c rb ts go h0 h80 hh hS hO hP hs hc hk1 hs2 hL hk hsh hT 5 0 rfl (fun m' d h => by omega) hex
