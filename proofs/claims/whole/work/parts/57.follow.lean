/-! WaySearch: follow -/
theorem Lw_ex {cn w : Nat} {kn : Nat → Nat} {P : Nat → Nat → Nat} {rn r t : Nat} {sho : Option Nat} {s0 c0 goal L : Nat} (hL : Rw cn w kn P rn r t sho s0 c0 L 1 goal) : ∀ j, j ≤ L → ∃ s d, Lw cn w kn P rn r t sho s0 c0 goal L j s d ∧ Rw cn w kn P rn r t sho s0 c0 (L - j) s d
  | 0, _ => ⟨1, goal, ⟨rfl, rfl⟩, hL⟩
  | j + 1, hj => by
    obtain ⟨s, d, h1, h2⟩ := Lw_ex hL j (by omega)
    rw [show L - j = (L - (j + 1)) + 1 by omega] at h2
    obtain ⟨s', c, m, a1, a2, a3, a4⟩ := h2
    refine ⟨s', c, ⟨a2, m, d, a1, a3, ?_⟩, a2⟩
    rw [← a4]; exact h1
theorem Lw_top {cn w : Nat} {kn : Nat → Nat} {P : Nat → Nat → Nat} {rn r t : Nat} {sho : Option Nat} {s0 c0 goal L : Nat} (hL : Rw cn w kn P rn r t sho s0 c0 L 1 goal) : Lw cn w kn P rn r t sho s0 c0 goal L L s0 c0 := by
  obtain ⟨s, d, h1, h2⟩ := Lw_ex hL L (Nat.le_refl _)
  rw [Nat.sub_self] at h2
  obtain ⟨rfl, rfl⟩ := h2
  exact h1
/-- the way, tick by tick: the least moves that lead to the goal in time -/
def isW (cn w : Nat) (kn : Nat → Nat) (P : Nat → Nat → Nat) (rn r t : Nat) (sho : Option Nat) (s0 c0 goal L : Nat) (p sp : Nat → Nat) (k : Nat) : Prop := p 0 = c0 ∧ sp 0 = s0 ∧ ∀ j, j < k → ∃ m, m < 5 ∧ oMv cn w kn P rn r t sho s0 c0 goal L j (sp j) (p j) m (p (j + 1)) ∧ sp (j + 1) = sd sho (sp j) (p (j + 1)) ∧ ∀ m' d, m' < m → ¬ oMv cn w kn P rn r t sho s0 c0 goal L j (sp j) (p j) m' d
theorem isW_L {cn w : Nat} {kn : Nat → Nat} {P : Nat → Nat → Nat} {rn r t : Nat} {sho : Option Nat} {s0 c0 goal L : Nat} {p sp : Nat → Nat} {k : Nat} (hL : Rw cn w kn P rn r t sho s0 c0 L 1 goal) (h : isW cn w kn P rn r t sho s0 c0 goal L p sp k) : ∀ j, j ≤ k → Lw cn w kn P rn r t sho s0 c0 goal L (L - j) (sp j) (p j)
  | 0, _ => by
    rw [h.1, h.2.1]; exact Lw_top hL
  | j + 1, hj => by
    obtain ⟨m, a1, a2, a3, a4⟩ := h.2.2 j (by omega)
    rw [a3]; exact a2.2
def rwQ (rows : Nat → Int64) (r t k : Nat) (p : Nat → Nat) (rows' : Nat → Int64) : Prop := ∀ τ q, q < 6 → bt (rows' τ) q = if q = r ∧ t < τ ∧ τ ≤ t + k then p (τ - t) else bt (rows τ) q
theorem rwQ_cAt {rows rows' : Nat → Int64} {r t k : Nat} {p : Nat → Nat} {en et : Nat → Int32} (h : rwQ rows r t k p rows') (te : Nat) (hte : te ≤ t) (ht : t ≤ 4000) (her : et r = nI te) {q τ : Nat} (hq : q < 6) (hτ : τ < 5001) : cAt rows' en et q τ = cAt rows en et q τ := by
  unfold cAt
  split
  · rename_i hl
    rw [h τ q hq, if_neg]
    rintro ⟨rfl, h2, h3⟩
    rw [her] at hl
    have := (nI_ltI (by omega) (by omega)).mp hl
    omega
  · rfl
theorem rwQ_step {rows rows' : Nat → Int64} {r t k : Nat} {p : Nat → Nat} {d : Nat} (hr : r < 6) (hd : d < 256) (h : rwQ rows r t k p rows') : rwQ rows r t (k + 1) (fun j => if j = k + 1 then d else p j) (vp_updL rows' (t + k + 1) (wby (rows' (t + k + 1)) r d)) := by
  intro τ q hq
  by_cases e : τ = t + k + 1
  · subst e
    rw [pk_uLs, wby_bt _ (by omega) hd (by omega), h _ q hq]
    by_cases e2 : q = r
    · rw [if_pos e2, if_pos ⟨e2, by omega, by omega⟩]
      show d = if t + k + 1 - t = k + 1 then d else _
      rw [if_pos (by omega)]
    · rw [if_neg e2, if_neg (fun z => e2 z.1), if_neg (fun z => e2 z.1)]
  · rw [pk_uLn e, h τ q hq]
    by_cases e2 : q = r ∧ t < τ ∧ τ ≤ t + k
    · rw [if_pos e2, if_pos ⟨e2.1, e2.2.1, by omega⟩]
      show _ = if τ - t = k + 1 then d else _
      rw [if_neg (by omega)]
    · rw [if_neg e2, if_neg (fun z => e2 ⟨z.1, z.2.1, by omega⟩)]
abbrev wFo (g : Nat) (sz wd : Nat → Int32) (st : Nat → Nat → Int32) (op : Nat → Nat → Int64) (rn : Nat) (rows : Nat → Int64) (en et ow : Nat → Int32) (lo hi : Int64) (r t : Nat) (sh go : Int32) (re al : Nat → Int64) : fz_W := [(2, eGr sz wd), (3, e5 st), (4, eL op), (19, eTT (nI rn)), (20, eRw rows), (21, e6 en), (22, e6 et), (23, e80 ow), (25, eWS g lo hi (nI r) (nI t) sh go), (26, eRe re), (27, eAl al)]
/-- the sets behind the narrowing: what leads to the goal -/
def leA (cn w : Nat) (kn : Nat → Nat) (P : Nat → Nat → Nat) (rn r t : Nat) (sho : Option Nat) (s0 c0 goal L k : Nat) (re : Nat → Int64) : Prop := ∀ j, k < j → j ≤ L → ∀ s d, s < 2 → d < 128 → (xS re (4 * j + 2 * s) d = true ↔ Lw cn w kn P rn r t sho s0 c0 goal L (L - j) s d)
theorem lX9_follow {G : fz_G} {E0 : Nat → fz_E} (g : Nat) (hg : g < 2) (sz wd : Nat → Int32) (st : Nat → Nat → Int32) (op : Nat → Nat → Int64) (rn : Nat) (rows : Nat → Int64) (en et ow : Nat → Int32) (r t : Nat) (cn w : Nat) (kn : Nat → Nat) (P : Nat → Nat → Nat) (te : Nat → Nat) (sho : Option Nat) (s0 c0 goal : Nat) (hC : wyC cn w kn P te rn r t sho s0 c0 goal (st g) (op g) rows en et) (hter : te r ≤ t) (en0 : Nat) (hen : en r = nI en0) (hen0 : en0 < 80) (L : Nat) (hL1 : L < 1000) (hL : Rw cn w kn P rn r t sho s0 c0 L 1 goal) (re : Nat → Int64) (hle : leA cn w kn P rn r t sho s0 c0 goal L 0 re) :
    ∀ f k, k + f = L → ∀ lo hi al rows' p sp, isW cn w kn P rn r t sho s0 c0 goal L p sp k → rwQ rows r t k p rows' → fz_J G mX9_follow rX9_follow (fz_Z G E0 0 0 (fun x U => x = none ∧ ∃ lo hi al rows' p sp, isW cn w kn P rn r t sho s0 c0 goal L p sp L ∧ rwQ rows r t L p rows' ∧ U = wFo g sz wd st op rn rows' (upd en r (nI goal)) (upd et r (nI (t + L))) (upd (upd ow en0 (-1)) goal (nI r)) lo hi r t (oI sho) (nI goal) re al)) E0 0 0 9 [(6, zI (nI k)), (5, zI (nI (sp k))), (4, zI (nI (p k))), (0, zR 25 0), (3, zI (nI L))] [] (wFo g sz wd st op rn rows' en et ow lo hi r t (oI sho) (nI goal) re al) := by
  obtain ⟨h0, hw, h80, hh, hS, hO, hrn, hr, ht, hP, hP8, hc0, hk0, hs0, hsh, hgo, hte, het⟩ := hC
  intro f
  induction f with
  | zero =>
    intro k hk lo hi al rows' p sp hi1 hi2
    have e : k = L := by omega
    subst e
    refine fz_iload dX9_follow_9 rfl ?_
    refine fz_iload_n dX9_follow_11 rfl ?_
    refine fz_icmp_ge (tgt := 89) dX9_follow_12 (by decide) (fun c12 => ?_) (fun c12 => ?_)
    · skip
      refine fz_aload_n dX9_follow_89 rfl ?_
      refine fz_get dX9_follow_90 fX9_22 rfl (Nat.one_pos) rfl ?_
      refine fz_aload_n dX9_follow_93 rfl ?_
      refine fz_get dX9_follow_94 fX9_26 rfl (Nat.one_pos) rfl ?_
      refine fz_aload_n dX9_follow_97 rfl ?_
      refine fz_get dX9_follow_98 fX9_30 rfl (Nat.one_pos) rfl ?_
      refine fz_iload_n dX9_follow_101 rfl ?_
      refine fz_iadd dX9_follow_102 ?_
      rw [nI_add]
      refine fz_aload_n dX9_follow_103 rfl ?_
      refine fz_get dX9_follow_104 fX9_36 rfl (Nat.one_pos) rfl ?_
      refine fz_callV (tX8_setEnd (nI rn) en et ow r (t + k) goal en0 (by omega) hgo hen0 hen) dX9_follow_107 kX9_125 rfl (Nat.one_pos) ⟨rfl, rfl, rfl, rfl, trivial⟩ (Nat.le_of_ble_eq_true rfl) (Nat.le_of_ble_eq_true rfl) (Nat.le_of_ble_eq_true rfl) (Nat.le_of_ble_eq_true rfl) (Nat.le_of_ble_eq_true rfl) rfl (fun r U hq => ?_)
      obtain ⟨rfl, rfl⟩ := hq
      refine fz_back rfl ?_
      refine fz_vret dX9_follow_110 rfl (Nat.zero_le _) (Nat.zero_le _) ⟨rfl, lo, hi, al, rows', p, sp, hi1, hi2, rfl⟩
    · exact absurd (nI_le (Nat.le_refl _) (by omega)) c12
  | succ f ih =>
    intro k hk lo hi al rows' p sp hi1 hi2
    have hP' : ∀ r τ, r < rn → τ < 5001 → cAt rows' en et r τ = nI (P r τ) := fun q τ h1 h2 => by
      rw [rwQ_cAt hi2 (te r) hter ht (het r hr) (by omega) h2]; exact hP q τ h1 h2
    have hLk := isW_L hL hi1 k (Nat.le_refl _)
    have hRk := Lw_R hL _ _ _ hLk
    rw [show L - (L - k) = k by omega] at hRk
    obtain ⟨g1, g2, g3⟩ := Rw_in h0 hh hc0 hk0 hs0 k (sp k) (p k) hRk
    have hex : ∃ m' d, m' < 5 ∧ oMv cn w kn P rn r t sho s0 c0 goal L k (sp k) (p k) m' d := by
      rw [show L - k = (L - (k + 1)) + 1 by omega] at hLk
      obtain ⟨-, m, d, x1, x2, x3⟩ := hLk
      rw [show L - (L - (k + 1) + 1) = k by omega] at x2
      exact ⟨m, d, x1, x2, x3⟩
    refine fz_iload dX9_follow_9 rfl ?_
    refine fz_iload_n dX9_follow_11 rfl ?_
    refine fz_icmp_ge (tgt := 89) dX9_follow_12 (by decide) (fun c12 => ?_) (fun c12 => ?_)
    · exact absurd ((nI_leI (by omega) (by omega)).mp c12) (by omega)
    · skip
      refine fz_aload_n dX9_follow_15 rfl ?_
      refine fz_iload dX9_follow_16 rfl ?_
      refine fz_callV (tX9_lookAtOthers g hg sz wd st op rn rows' en et P hrn hP' hP8 r t k (by omega) (by omega) (oI sho) (nI goal) lo hi al) dX9_follow_18 kX9_57 rfl (Nat.one_pos) ⟨rfl, rfl, rfl, rfl, rfl, rfl, rfl, rfl, rfl, trivial⟩ (Nat.le_of_ble_eq_true rfl) (Nat.le_of_ble_eq_true rfl) (Nat.le_of_ble_eq_true rfl) (Nat.le_of_ble_eq_true rfl) (Nat.le_of_ble_eq_true rfl) rfl (fun r U hq => ?_)
      obtain ⟨rfl, lo2, hi2', al2, hs2, rfl⟩ := hq
      refine fz_back rfl ?_
      refine fz_wo (V' := wFo g sz wd st op rn rows' en et ow lo2 hi2' r t (oI sho) (nI goal) re al2) rfl ?_
      refine fz_iload dX9_follow_21 rfl ?_
      refine fz_aload_n dX9_follow_23 rfl ?_
      refine fz_get dX9_follow_24 fX9_18 rfl (Nat.one_pos) rfl ?_
      refine fz_get dX9_follow_27 fX9_105 rfl (hg) rfl ?_
      refine fz_aload_n dX9_follow_30 rfl ?_
      refine fz_iload dX9_follow_31 rfl ?_
      refine fz_iload dX9_follow_33 rfl ?_
      refine fz_iload dX9_follow_35 rfl ?_
      refine fz_callV (tX9_leastMove g hg sz wd st lo2 hi2' re al2 (op g) cn w kn P rn r t sho s0 c0 goal L k (sp k) (p k) (nI r) (nI t) (nI goal) h0 h80 hh hS hO (fun q hq => by have := hP8 q (t + k) hq; omega) hs2 g1 (by omega) g3 hL (by omega) hsh (fun s d a b => hle (k + 1) (by omega) (by omega) s d a b) hex) dX9_follow_37 kX9_118 rfl (Nat.one_pos) ⟨rfl, rfl, rfl, rfl, rfl, trivial⟩ (Nat.le_of_ble_eq_true rfl) (Nat.le_of_ble_eq_true rfl) (Nat.le_of_ble_eq_true rfl) (Nat.le_of_ble_eq_true rfl) (Nat.le_of_ble_eq_true rfl) rfl (fun r U hq => ?_)
      obtain ⟨⟨m, d, hm5, rfl, hok, hlst⟩, rfl⟩ := hq
      refine fz_back rfl ?_
      refine fz_wo (V' := wFo g sz wd st op rn rows' en et ow lo2 hi2' r t (oI sho) (nI goal) re al2) rfl ?_
      refine fz_iald dX9_follow_40 rfl rfl (hg) (vp_in_nI (by omega) (by omega)) ?_
      obtain ⟨b1, b2, b3, b4⟩ := may_spec.mp hok.1
      have hdl := nx_lt h0 hh g1 b1
      rw [nI_clamp (by omega), hS m hm5]
      refine fz_iadd dX9_follow_41 ?_
      rw [nx_st b1 hm5]
      have fin : fz_J G mX9_follow rX9_follow (fz_Z G E0 0 0 (fun x U => x = none ∧ ∃ lo hi al rows' p sp, isW cn w kn P rn r t sho s0 c0 goal L p sp L ∧ rwQ rows r t L p rows' ∧ U = wFo g sz wd st op rn rows' (upd en r (nI goal)) (upd et r (nI (t + L))) (upd (upd ow en0 (-1)) goal (nI r)) lo hi r t (oI sho) (nI goal) re al)) E0 0 0 61 [(5, zI (nI (sd sho (sp k) d))), (4, zI (nI d)), (6, zI (nI k)), (0, zR 25 0), (3, zI (nI L))] [] (wFo g sz wd st op rn rows' en et ow lo2 hi2' r t (oI sho) (nI goal) re al2) := by
        refine fz_aload_n dX9_follow_61 rfl ?_
        refine fz_get dX9_follow_62 fX9_22 rfl (Nat.one_pos) rfl ?_
        refine fz_aload_n dX9_follow_65 rfl ?_
        refine fz_get dX9_follow_66 fX9_26 rfl (Nat.one_pos) rfl ?_
        refine fz_aload_n dX9_follow_69 rfl ?_
        refine fz_get dX9_follow_70 fX9_30 rfl (Nat.one_pos) rfl ?_
        refine fz_iload dX9_follow_73 rfl ?_
        refine fz_iadd dX9_follow_75 ?_
        refine fz_iconst (v := nI 1) dX9_follow_76 (by decide) ?_
        refine fz_iadd dX9_follow_77 ?_
        rw [nI_add, nI_add]
        refine fz_iload dX9_follow_78 rfl ?_
        refine fz_callV (tX8_write (nI rn) rows' r (t + k + 1) d (by omega) (by omega)) dX9_follow_80 kX9_122 rfl (Nat.one_pos) ⟨rfl, rfl, trivial⟩ (Nat.le_of_ble_eq_true rfl) (Nat.le_of_ble_eq_true rfl) (Nat.le_of_ble_eq_true rfl) (Nat.le_of_ble_eq_true rfl) (Nat.le_of_ble_eq_true rfl) rfl (fun r U hq => ?_)
        obtain ⟨rfl, rfl⟩ := hq
        refine fz_back rfl ?_
        refine fz_wo (V' := wFo g sz wd st op rn (vp_updL rows' (t + k + 1) (wby (rows' (t + k + 1)) r d)) en et ow lo2 hi2' r t (oI sho) (nI goal) re al2) rfl ?_
        refine fz_incN dX9_follow_83 rfl (Nat.le_of_ble_eq_true rfl) ?_
        refine fz_goto (tgt := 9) dX9_follow_86 (by decide) ?_
        have key := ih (k + 1) (by omega) lo2 hi2' al2 _ (fun j => if j = k + 1 then d else p j) (fun j => if j = k + 1 then sd sho (sp k) d else sp j) ⟨?_, ?_, fun j hj => ?_⟩ (rwQ_step (by omega) (by omega) hi2)
        · simp only [if_pos rfl] at key
          refine fz_pk [0, 1, 2, 3, 4] rfl ?_
          exact key
        · show (if 0 = k + 1 then d else p 0) = c0
          rw [if_neg (by omega)]; exact hi1.1
        · show (if 0 = k + 1 then _ else sp 0) = s0
          rw [if_neg (by omega)]; exact hi1.2.1
        · by_cases e : j = k
          · subst e
            refine ⟨m, hm5, ?_, ?_, ?_⟩
            · simp only [if_neg (show ¬ j = j + 1 by omega), if_pos rfl]; exact hok
            · simp
            · simp only [if_neg (show ¬ j = j + 1 by omega)]; exact hlst
          · obtain ⟨m2, a1, a2, a3, a4⟩ := hi1.2.2 j (by omega)
            refine ⟨m2, a1, ?_, ?_, ?_⟩
            · simp only [if_neg (show ¬ j = k + 1 by omega), if_neg (show ¬ j + 1 = k + 1 by omega)]; exact a2
            · simp only [if_neg (show ¬ j = k + 1 by omega), if_neg (show ¬ j + 1 = k + 1 by omega)]; exact a3
            · simp only [if_neg (show ¬ j = k + 1 by omega)]; exact a4
      refine fz_istore dX9_follow_42 (Nat.le_of_ble_eq_true rfl) ?_
      refine fz_iload dX9_follow_44 rfl ?_
      refine fz_aload_n dX9_follow_46 rfl ?_
      refine fz_get dX9_follow_47 fX9_33 rfl (Nat.one_pos) rfl ?_
      refine fz_icmp_ne (tgt := 57) dX9_follow_50 (by decide) (fun c50 => ?_) (fun c50 => ?_)
      · have e : sd sho (sp k) d = sp k := by
          unfold sd
          rw [if_neg]
          intro z
          rw [z] at c50
          exact c50 rfl
        rw [e] at fin
        refine fz_iload dX9_follow_57 rfl ?_
        refine fz_istore dX9_follow_59 (Nat.le_of_ble_eq_true rfl) ?_
        refine fz_pk [0, 1, 2, 3, 4] rfl ?_
        exact fin
      · have e : sd sho (sp k) d = 1 := by
          unfold sd
          rw [if_pos]
          cases sho with
          | none => exact absurd c50 (oI_ne (by omega))
          | some h =>
            have := hsh h rfl
            rw [(nI_eq (by omega) (by omega)).mp c50]
        rw [e] at fin
        refine fz_iconst (v := nI 1) dX9_follow_53 (by decide) ?_
        refine fz_goto (tgt := 59) dX9_follow_54 (by decide) ?_
        refine fz_istore dX9_follow_59 (Nat.le_of_ble_eq_true rfl) ?_
        refine fz_pk [0, 1, 2, 3, 4] rfl ?_
        exact fin
theorem tX9_follow {G : fz_G} (g : Nat) (hg : g < 2) (sz wd : Nat → Int32) (st : Nat → Nat → Int32) (op : Nat → Nat → Int64) (rn : Nat) (rows : Nat → Int64) (en et ow : Nat → Int32) (r t : Nat) (cn w : Nat) (kn : Nat → Nat) (P : Nat → Nat → Nat) (te : Nat → Nat) (sho : Option Nat) (s0 c0 goal : Nat) (hC : wyC cn w kn P te rn r t sho s0 c0 goal (st g) (op g) rows en et) (hter : te r ≤ t) (en0 : Nat) (hen : en r = nI en0) (hen0 : en0 < 80) (L : Nat) (hL1 : L < 1000) (hL : Rw cn w kn P rn r t sho s0 c0 L 1 goal) (re : Nat → Int64) (hle : leA cn w kn P rn r t sho s0 c0 goal L 0 re) (lo hi : Int64) (al : Nat → Int64) :
    fz_T G mX9_follow rX9_follow [zR 25 0, zI (nI c0), zI (nI s0), zI (nI L)] (wFo g sz wd st op rn rows en et ow lo hi r t (oI sho) (nI goal) re al) (fun x U => x = none ∧ ∃ lo hi al rows' p sp, isW cn w kn P rn r t sho s0 c0 goal L p sp L ∧ rwQ rows r t L p rows' ∧ U = wFo g sz wd st op rn rows' (upd en r (nI goal)) (upd et r (nI (t + L))) (upd (upd ow en0 (-1)) goal (nI r)) lo hi r t (oI sho) (nI goal) re al) := by
  refine fz_T.of (by decide) (Nat.le_of_ble_eq_true rfl) (fun E0 => ?_)
  refine fz_iload_n dX9_follow_0 rfl ?_
  refine fz_istore dX9_follow_1 (Nat.le_of_ble_eq_true rfl) ?_
  refine fz_iload_n dX9_follow_3 rfl ?_
  refine fz_istore dX9_follow_4 (Nat.le_of_ble_eq_true rfl) ?_
  refine fz_iconst (v := nI 0) dX9_follow_6 (by decide) ?_
  refine fz_istore dX9_follow_7 (Nat.le_of_ble_eq_true rfl) ?_
  refine fz_pk [0, 1, 2, 3, 6] rfl ?_
  exact lX9_follow g hg sz wd st op rn rows en et ow r t cn w kn P te sho s0 c0 goal hC hter en0 hen hen0 L hL1 hL re hle L 0 (by omega) lo hi al rows (fun _ => c0) (fun _ => s0) ⟨rfl, rfl, fun j hj => by omega⟩ (fun τ q hq => by rw [if_neg]; rintro ⟨-, h2, h3⟩; omega)
