/-! THE MODEL: follow -/
abbrev wFm (f ki wh en le : Nat → Int32) : fz_W := [(30, eM f), (45, eKi ki), (53, eWh wh), (54, e6 en), (78, eRe2 le)]
/-- the where rows behind k ticks of the new way -/
def whQ (wh : Nat → Int32) (r t k : Nat) (p : Nat → Nat) (wh' : Nat → Int32) : Prop := ∀ q τ, q < 6 → τ < 5200 → wh' (5200 * q + τ) = if q = r ∧ t < τ ∧ τ ≤ t + k then nI (p (τ - t)) else wh (5200 * q + τ)
theorem whQ_mt {wh wh' : Nat → Int32} {r t k : Nat} {p : Nat → Nat} {E : Nat → Nat} {rn : Nat} {P : Nat → Nat → Nat} {te : Nat → Nat} {en : Nat → Int32} (hrn : rn ≤ 6) (hEr : E r ≤ t) (hw : whQ wh r t k p wh') (h : mtR E rn P te wh en) : mtR E rn P te wh' en := by
  intro q hq
  obtain ⟨h1, h2, h3, h4, h5, h6⟩ := h q hq
  refine ⟨h1, h2, h3, fun τ hτ => ?_, h5, h6⟩
  rw [hw q τ (by omega) (by omega), if_neg, h4 τ hτ]
  rintro ⟨rfl, z1, z2⟩
  omega
theorem whQ_step {wh wh' : Nat → Int32} {r t k : Nat} {p : Nat → Nat} {d : Nat} (hr : r < 6) (ht : t + k + 1 < 5200) (h : whQ wh r t k p wh') : whQ wh r t (k + 1) (fun j => if j = k + 1 then d else p j) (upd wh' (5200 * r + (t + k + 1)) (nI d)) := by
  intro q τ hq hτ
  by_cases e : q = r ∧ τ = t + k + 1
  · obtain ⟨rfl, rfl⟩ := e
    rw [pk_us, if_pos ⟨rfl, by omega, by omega⟩]
    congr 1
    show d = if t + k + 1 - t = k + 1 then d else _
    rw [if_pos (by omega)]
  · rw [pk_un (by omega), h q τ hq hτ]
    by_cases e2 : q = r ∧ t < τ ∧ τ ≤ t + k
    · rw [if_pos e2, if_pos ⟨e2.1, e2.2.1, by omega⟩]
      congr 1
      show _ = if τ - t = k + 1 then d else _
      rw [if_neg (by omega)]
    · rw [if_neg e2, if_neg (fun z => e2 ⟨z.1, z.2.1, by omega⟩)]
theorem lX11_follow_30 {G : fz_G} {E0 : Nat → fz_E} {Z : List Frame → Array Value → State → State → Prop} (f ki wh en le : Nat → Int32) (E : Nat → Nat) (cn w rn : Nat) (kn : Nat → Nat) (h0 : 0 < w) (hw : w ≤ 10) (h80 : cn ≤ 80) (hh : ∃ h, cn = w * h) (hk : kiR cn kn ki) (hrn : rn ≤ 6) (hf3 : f 3 = nI cn) (hf4 : f 4 = nI w) (hf12 : f 12 = nI rn) (P : Nat → Nat → Nat) (te : Nat → Nat) (h : mtR E rn P te wh en) (r t : Nat) (hr : r < 6) (hf11 : f 11 = nI t) (ht : t ≤ 4000) (sho : Option Nat) (hsh : ∀ x, sho = some x → x < 80) (s0 c0 goal L k s c : Nat) (hL1 : L < 1000) (hkL : k < L) (hc : c < cn) (hkc : ¬ kn c = 0) (hs : s < 2) (hQ : lvR le (k + 1) (Lw cn w kn P rn r t sho s0 c0 goal L (L - (k + 1)))) (x4 : Int32)
    (kk : ∀ m d (xs : List (Nat × fz_V)), m < 5 → oMv cn w kn P rn r t sho s0 c0 goal L k s c m d → (∀ m' d', m' < m → ¬ oMv cn w kn P rn r t sho s0 c0 goal L k s c m' d') → fz_J G mX11_follow rX11_follow Z E0 0 0 136 ((8, zI (nI d)) :: (7, zI (nI k)) :: (6, zI (nI s)) :: (5, zI (nI c)) :: (0, zR 30 0) :: (1, zI (nI r)) :: (2, zI (nI L)) :: (3, zI (oI sho)) :: (4, zI x4) :: xs) [] (wFm f ki wh en le)) :
    ∀ q m, m + q = 5 → (∀ m' d, m' < m → ¬ oMv cn w kn P rn r t sho s0 c0 goal L k s c m' d) → (∃ m' d, m' < 5 ∧ oMv cn w kn P rn r t sho s0 c0 goal L k s c m' d) → ∀ xs : List (Nat × fz_V), fz_J G mX11_follow rX11_follow Z E0 0 0 30 ((9, zI (nI m)) :: (8, zI (-1)) :: (7, zI (nI k)) :: (6, zI (nI s)) :: (5, zI (nI c)) :: (0, zR 30 0) :: (1, zI (nI r)) :: (2, zI (nI L)) :: (3, zI (oI sho)) :: (4, zI x4) :: xs) [] (wFm f ki wh en le) := by
  intro q
  induction q with
  | zero =>
    intro m hm hno hex xs
    obtain ⟨m', d, a, b⟩ := hex
    exact absurd b (hno m' d (by omega))
  | succ q ih =>
    intro m hm hno hex xs
    refine fz_pk [0, 1, 2, 3, 4, 5, 6, 7, 8, 9] rfl ?_
    refine fz_iload dX11_follow_30 rfl ?_
    refine fz_iconst (v := nI 5) dX11_follow_32 (by decide) ?_
    refine fz_icmp_ge (tgt := 136) dX11_follow_33 (by decide) (fun c33 => ?_) (fun c33 => ?_)
    · exact absurd ((nI_leI (by omega) (by omega)).mp c33) (by omega)
    · skip
      refine fz_iload dX11_follow_36 rfl ?_
      refine fz_if_ge (tgt := 136) dX11_follow_38 (by decide) (fun c38 => ?_) (fun c38 => ?_)
      · exact absurd c38 (by decide)
      · skip
        refine fz_iload dX11_follow_41 rfl ?_
        refine fz_iload dX11_follow_43 rfl ?_
        refine fz_aload_n dX11_follow_45 rfl ?_
        refine fz_get dX11_follow_46 fX11_135 rfl (Nat.one_pos) rfl ?_
        refine fz_aload_n dX11_follow_49 rfl ?_
        refine fz_get dX11_follow_50 fX11_132 rfl (Nat.one_pos) rfl ?_
        rw [hf3, hf4]
        refine fz_callS (tX11_beside c m w cn (by omega) (by omega) h0 hw h80) dX11_follow_53 kX11_113 trivial (Nat.le_of_ble_eq_true rfl) (Nat.le_of_ble_eq_true rfl) (Nat.le_of_ble_eq_true rfl) (Nat.le_of_ble_eq_true rfl) (Nat.le_of_ble_eq_true rfl) rfl (fun r U hq => ?_)
        obtain ⟨rfl, rfl⟩ := hq
        refine fz_back rfl ?_
        refine fz_wo (V' := wFm f ki wh en le) rfl ?_
        refine fz_istore dX11_follow_56 (Nat.le_of_ble_eq_true rfl) ?_
        refine fz_aload_n dX11_follow_58 rfl ?_
        refine fz_iload_n dX11_follow_59 rfl ?_
        refine fz_iload dX11_follow_60 rfl ?_
        refine fz_iload dX11_follow_62 rfl ?_
        refine fz_aload_n dX11_follow_64 rfl ?_
        refine fz_get dX11_follow_65 fX11_141 rfl (Nat.one_pos) rfl ?_
        rw [hf11]
        refine fz_iload dX11_follow_68 rfl ?_
        refine fz_iadd dX11_follow_70 ?_
        rw [nI_add]
        refine fz_callV (tX11_mayGo f ki wh en E cn w rn kn h0 h80 hh hk hrn hf12 P te h r (t + k) c m hr hc hkc (by omega)) dX11_follow_71 kX11_185 rfl (Nat.one_pos) ⟨rfl, rfl, rfl, rfl, trivial⟩ (Nat.le_of_ble_eq_true rfl) (Nat.le_of_ble_eq_true rfl) (Nat.le_of_ble_eq_true rfl) (Nat.le_of_ble_eq_true rfl) (Nat.le_of_ble_eq_true rfl) rfl (fun r U hq => ?_)
        obtain ⟨rfl, rfl⟩ := hq
        refine fz_back rfl ?_
        refine fz_wo (V' := wFm f ki wh en le) rfl ?_
        have no : (∀ d, ¬ oMv cn w kn P rn r t sho s0 c0 goal L k s c m d) → fz_J G mX11_follow rX11_follow Z E0 0 0 114 [(10, zI (oI (nx cn w c m))), (9, zI (nI m)), (8, zI (-1)), (7, zI (nI k)), (6, zI (nI s)), (5, zI (nI c)), (0, zR 30 0), (1, zI (nI r)), (2, zI (nI L)), (3, zI (oI sho)), (4, zI x4)] [] (wFm f ki wh en le) := by
          intro hn
          refine fz_iconst (v := nI 0) dX11_follow_114 (by decide) ?_
          refine fz_istore dX11_follow_115 (Nat.le_of_ble_eq_true rfl) ?_
          refine fz_iload dX11_follow_117 rfl ?_
          refine fz_if_eq (tgt := 127) dX11_follow_119 (by decide) (fun c119 => ?_) (fun c119 => ?_)
          · skip
            refine fz_iconst (v := -1) dX11_follow_127 (by decide) ?_
            refine fz_istore dX11_follow_128 (Nat.le_of_ble_eq_true rfl) ?_
            refine fz_incN dX11_follow_130 rfl (Nat.le_of_ble_eq_true rfl) ?_
            refine fz_goto (tgt := 30) dX11_follow_133 (by decide) ?_
            refine fz_pk [0, 1, 4, 5, 6, 7, 8, 9, 10, 11] rfl ?_
            refine ih (m + 1) (by omega) (fun m' d hm' => ?_) hex []
            by_cases e : m' = m
            · rw [e]; exact hn d
            · exact hno m' d (by omega)
          · exact absurd (by decide) c119
        cases hv : may cn w kn P rn r (t + k) c m with
        | none =>
          refine fz_if_eq (tgt := 114) dX11_follow_74 (by decide) (fun c74 => ?_) (fun c74 => ?_)
          · exact no (fun d hd => by rw [hd.1] at hv; cases hv)
          · exact absurd (by decide) c74
        | some d =>
          have hnx := (may_spec.mp hv).1
          have hdl := nx_lt h0 hh hc hnx
          have hsd : sd sho s d < 2 := sd_2 hs
          rw [hnx] at no
          have store : fz_J G mX11_follow rX11_follow Z E0 0 0 101 [(10, zI (nI d)), (9, zI (nI m)), (8, zI (-1)), (7, zI (nI k)), (6, zI (nI s)), (5, zI (nI c)), (0, zR 30 0), (1, zI (nI r)), (2, zI (nI L)), (3, zI (oI sho)), (4, zI x4)] [zI (nI (sd sho s d)), zI (nI (k + 1)), zR 78 0] (wFm f ki wh en le) := by
            refine fz_iload dX11_follow_101 rfl ?_
            refine fz_callS (tX11_state (k + 1) (sd sho s d) d hsd) dX11_follow_103 kX11_189 trivial (Nat.le_of_ble_eq_true rfl) (Nat.le_of_ble_eq_true rfl) (Nat.le_of_ble_eq_true rfl) (Nat.le_of_ble_eq_true rfl) (Nat.le_of_ble_eq_true rfl) rfl (fun r U hq => ?_)
            obtain ⟨rfl, rfl⟩ := hq
            refine fz_back rfl ?_
            refine fz_wo (V' := wFm f ki wh en le) rfl ?_
            refine fz_zald dX11_follow_106 rfl rfl (Nat.one_pos) (vp_in_nI (by omega) (by omega)) ?_
            rw [nI_clamp (by omega)]
            rcases hQ (sd sho s d) d hsd (by omega) with ⟨z1, z2⟩ | ⟨z1, z2⟩
            · rw [z1]
              refine fz_if_eq (tgt := 114) dX11_follow_107 (by decide) (fun c107 => ?_) (fun c107 => ?_)
              · exact absurd c107 (by decide)
              · skip
                refine fz_iconst (v := nI 1) dX11_follow_110 (by decide) ?_
                refine fz_goto (tgt := 115) dX11_follow_111 (by decide) ?_
                refine fz_istore dX11_follow_115 (Nat.le_of_ble_eq_true rfl) ?_
                refine fz_iload dX11_follow_117 rfl ?_
                refine fz_if_eq (tgt := 127) dX11_follow_119 (by decide) (fun c119 => ?_) (fun c119 => ?_)
                · exact absurd c119 (by decide)
                · skip
                  refine fz_iload dX11_follow_122 rfl ?_
                  refine fz_goto (tgt := 128) dX11_follow_124 (by decide) ?_
                  refine fz_istore dX11_follow_128 (Nat.le_of_ble_eq_true rfl) ?_
                  refine fz_incN dX11_follow_130 rfl (Nat.le_of_ble_eq_true rfl) ?_
                  refine fz_goto (tgt := 30) dX11_follow_133 (by decide) ?_
                  have hok : oMv cn w kn P rn r t sho s0 c0 goal L k s c m d := ⟨hv, z2⟩
                  refine fz_iload dX11_follow_30 rfl ?_
                  refine fz_iconst (v := nI 5) dX11_follow_32 (by decide) ?_
                  refine fz_icmp_ge (tgt := 136) dX11_follow_33 (by decide) (fun c33b => ?_) (fun c33b => ?_)
                  · refine fz_pk [1, 4, 5, 6, 7, 8, 9, 10, 11] rfl ?_
                    exact kk m d [] (by omega) hok hno
                  · skip
                    refine fz_iload dX11_follow_36 rfl ?_
                    refine fz_if_ge (tgt := 136) dX11_follow_38 (by decide) (fun c38b => ?_) (fun c38b => ?_)
                    · refine fz_pk [1, 4, 5, 6, 7, 8, 9, 10, 11] rfl ?_
                      exact kk m d [] (by omega) hok hno
                    · exact absurd (Int32.not_lt.mp (nI_pos (by omega))) c38b
            · rw [z1]
              refine fz_if_eq (tgt := 114) dX11_follow_107 (by decide) (fun c107 => ?_) (fun c107 => ?_)
              · refine no (fun d' hd' => ?_)
                have e := hd'.1
                rw [hv] at e
                cases e
                exact z2 hd'.2
              · exact absurd rfl c107
          refine fz_if_eq (tgt := 114) dX11_follow_74 (by decide) (fun c74 => ?_) (fun c74 => ?_)
          · exact absurd c74 (by show ¬ bI true = 0; decide)
          · skip
            refine fz_ls (ls' := [(10, zI (nI d)), (9, zI (nI m)), (8, zI (-1)), (7, zI (nI k)), (6, zI (nI s)), (5, zI (nI c)), (0, zR 30 0), (1, zI (nI r)), (2, zI (nI L)), (3, zI (oI sho)), (4, zI x4)]) (by rw [hnx]; rfl) ?_
            refine fz_aload_n dX11_follow_77 rfl ?_
            refine fz_get dX11_follow_78 fX11_91 rfl (Nat.one_pos) rfl ?_
            refine fz_iload dX11_follow_81 rfl ?_
            refine fz_iconst (v := nI 1) dX11_follow_83 (by decide) ?_
            refine fz_iadd dX11_follow_84 ?_
            rw [nI_add]
            refine fz_iload dX11_follow_85 rfl ?_
            refine fz_if_ne (tgt := 96) dX11_follow_87 (by decide) (fun c87 => ?_) (fun c87 => ?_)
            · have hs1 : s = 1 := by
                have : ¬ s = 0 := fun z => c87 (by rw [z]; exact nI_0)
                omega
              have e : sd sho s d = 1 := by unfold sd; split <;> omega
              rw [e] at store
              refine fz_iconst (v := nI 1) dX11_follow_96 (by decide) ?_
              refine fz_goto (tgt := 101) dX11_follow_97 (by decide) ?_
              exact store
            · have hs0' : s = 0 := (nI_eq (by omega) (by omega)).mp (c87.trans nI_0.symm)
              refine fz_iload dX11_follow_90 rfl ?_
              refine fz_iload_n dX11_follow_92 rfl ?_
              refine fz_icmp_ne (tgt := 100) dX11_follow_93 (by decide) (fun c93 => ?_) (fun c93 => ?_)
              · have e : sd sho s d = 0 := by
                  unfold sd
                  rw [if_neg (fun z => c93 (by rw [z]; rfl))]
                  exact hs0'
                rw [e] at store
                refine fz_iconst (v := nI 0) dX11_follow_100 (by decide) ?_
                exact store
              · have e : sd sho s d = 1 := by
                  unfold sd
                  rw [if_pos]
                  cases hsv : sho with
                  | none => rw [hsv] at c93; exact absurd c93 (oI_ne (by omega))
                  | some x =>
                    rw [hsv] at c93
                    have := hsh x hsv
                    rw [(nI_eq (by omega) (by omega)).mp c93]
                rw [e] at store
                refine fz_iconst (v := nI 1) dX11_follow_96 (by decide) ?_
                refine fz_goto (tgt := 101) dX11_follow_97 (by decide) ?_
                exact store
theorem lX11_follow_18 {G : fz_G} {E0 : Nat → fz_E} (f ki wh0 en le : Nat → Int32) (E : Nat → Nat) (cn w rn : Nat) (kn : Nat → Nat) (h0 : 0 < w) (hw : w ≤ 10) (h80 : cn ≤ 80) (hh : ∃ h, cn = w * h) (hk : kiR cn kn ki) (hrn : rn ≤ 6) (hf3 : f 3 = nI cn) (hf4 : f 4 = nI w) (hf12 : f 12 = nI rn) (P : Nat → Nat → Nat) (te : Nat → Nat) (h : mtR E rn P te wh0 en) (r t : Nat) (hr : r < rn) (hEr : E r ≤ t) (hf11 : f 11 = nI t) (ht : t ≤ 4000) (sho : Option Nat) (hsh : ∀ x, sho = some x → x < 80) (s0 c0 goal L : Nat) (hL1 : L < 1000) (hc0 : c0 < cn) (hk0 : ¬ kn c0 = 0) (hs0 : s0 < 2) (hL : Rw cn w kn P rn r t sho s0 c0 L 1 goal) (hle : ∀ k, k ≤ L → lvR le k (Lw cn w kn P rn r t sho s0 c0 goal L (L - k))) (x4 : Int32) :
    ∀ q k, k + q = L → ∀ wh p sp, isW cn w kn P rn r t sho s0 c0 goal L p sp k → whQ wh0 r t k p wh → ∀ xs : List (Nat × fz_V), fz_J G mX11_follow rX11_follow (fz_Z G E0 rX11_follow.cells rX11_follow.slots (fun x U => x = none ∧ ∃ wh p sp, isW cn w kn P rn r t sho s0 c0 goal L p sp L ∧ whQ wh0 r t L p wh ∧ U = wFm f ki wh (upd en r (nI (t + L))) le)) E0 0 0 18 ((7, zI (nI k)) :: (6, zI (nI (sp k))) :: (5, zI (nI (p k))) :: (0, zR 30 0) :: (1, zI (nI r)) :: (2, zI (nI L)) :: (3, zI (oI sho)) :: (4, zI x4) :: xs) [] (wFm f ki wh en le) := by
  intro q
  induction q with
  | zero =>
    intro k hkq wh p sp hi1 hi2 xs
    have e : k = L := by omega
    subst e
    refine fz_pk [0, 1, 2, 3, 4, 5, 6, 7] rfl ?_
    refine fz_iload dX11_follow_18 rfl ?_
    refine fz_iload_n dX11_follow_20 rfl ?_
    refine fz_icmp_ge (tgt := 186) dX11_follow_21 (by decide) (fun c21 => ?_) (fun c21 => ?_)
    · skip
      refine fz_aload_n dX11_follow_186 rfl ?_
      refine fz_get dX11_follow_187 fX11_33 rfl (Nat.one_pos) rfl ?_
      refine fz_iload_n dX11_follow_190 rfl ?_
      refine fz_aload_n dX11_follow_191 rfl ?_
      refine fz_get dX11_follow_192 fX11_141 rfl (Nat.one_pos) rfl ?_
      rw [hf11]
      refine fz_iload_n dX11_follow_195 rfl ?_
      refine fz_iadd dX11_follow_196 ?_
      rw [nI_add]
      refine fz_iast1 dX11_follow_197 rfl rfl (vp_in_nI (by omega) (by omega)) ?_
      rw [nI_clamp (by omega)]
      refine fz_vret dX11_follow_198 rfl (Nat.zero_le _) (Nat.zero_le _) ⟨rfl, wh, p, sp, hi1, hi2, rfl⟩
    · exact absurd (nI_le (Nat.le_refl _) (by omega)) c21
  | succ q ih =>
    intro k hkq wh p sp hi1 hi2 xs
    have hmt := whQ_mt hrn hEr hi2 h
    have hLk := isW_L hL hi1 k (Nat.le_refl _)
    have hRk := Lw_R hL _ _ _ hLk
    rw [show L - (L - k) = k by omega] at hRk
    obtain ⟨g1, g2, g3⟩ := Rw_in h0 hh hc0 hk0 hs0 k (sp k) (p k) hRk
    have hex : ∃ m' d, m' < 5 ∧ oMv cn w kn P rn r t sho s0 c0 goal L k (sp k) (p k) m' d := by
      rw [show L - k = (L - (k + 1)) + 1 by omega] at hLk
      obtain ⟨-, m, d, x1, x2, x3⟩ := hLk
      rw [show L - (L - (k + 1) + 1) = k by omega] at x2
      exact ⟨m, d, x1, x2, x3⟩
    refine fz_pk [0, 1, 2, 3, 4, 5, 6, 7] rfl ?_
    refine fz_iload dX11_follow_18 rfl ?_
    refine fz_iload_n dX11_follow_20 rfl ?_
    refine fz_icmp_ge (tgt := 186) dX11_follow_21 (by decide) (fun c21 => ?_) (fun c21 => ?_)
    · exact absurd ((nI_leI (by omega) (by omega)).mp c21) (by omega)
    · skip
      refine fz_iconst (v := -1) dX11_follow_24 (by decide) ?_
      refine fz_istore dX11_follow_25 (Nat.le_of_ble_eq_true rfl) ?_
      refine fz_iconst (v := nI 0) dX11_follow_27 (by decide) ?_
      refine fz_istore dX11_follow_28 (Nat.le_of_ble_eq_true rfl) ?_
      refine fz_pk [0, 1, 2, 3, 4, 5, 6, 7, 8, 9] rfl ?_
      refine lX11_follow_30 f ki wh en le E cn w rn kn h0 hw h80 hh hk hrn hf3 hf4 hf12 P te hmt r t (by omega) hf11 ht sho hsh s0 c0 goal L k (sp k) (p k) hL1 (by omega) g1 g2 g3 (hle (k + 1) (by omega)) x4 (fun m d xs hm5 hok hlst => ?_) 5 0 rfl (fun m' d hm' => by omega) hex []
      have hdl := nx_lt h0 hh g1 (may_spec.mp hok.1).1
      refine fz_pk [0, 1, 2, 3, 4, 5, 6, 7, 8] rfl ?_
      have fin : fz_J G mX11_follow rX11_follow (fz_Z G E0 rX11_follow.cells rX11_follow.slots (fun x U => x = none ∧ ∃ wh p sp, isW cn w kn P rn r t sho s0 c0 goal L p sp L ∧ whQ wh0 r t L p wh ∧ U = wFm f ki wh (upd en r (nI (t + L))) le)) E0 0 0 158 [(6, zI (nI (sd sho (sp k) d))), (5, zI (nI d)), (8, zI (nI d)), (7, zI (nI k)), (0, zR 30 0), (1, zI (nI r)), (2, zI (nI L)), (3, zI (oI sho)), (4, zI x4)] [] (wFm f ki wh en le) := by
        refine fz_aload_n dX11_follow_158 rfl ?_
        refine fz_get dX11_follow_159 fX11_30 rfl (Nat.one_pos) rfl ?_
        refine fz_sipush (v := nI 5200) dX11_follow_162 (by decide) ?_
        refine fz_iload_n dX11_follow_165 rfl ?_
        refine fz_imul dX11_follow_166 ?_
        refine fz_aload_n dX11_follow_167 rfl ?_
        refine fz_get dX11_follow_168 fX11_141 rfl (Nat.one_pos) rfl ?_
        rw [nI_mul, hf11]
        refine fz_iadd dX11_follow_171 ?_
        refine fz_iload dX11_follow_172 rfl ?_
        rw [nI_add]
        refine fz_iadd dX11_follow_174 ?_
        refine fz_iconst (v := nI 1) dX11_follow_175 (by decide) ?_
        rw [nI_add]
        refine fz_iadd dX11_follow_176 ?_
        rw [nI_add]
        refine fz_iload dX11_follow_177 rfl ?_
        refine fz_iast1 dX11_follow_179 rfl rfl (vp_in_nI (by omega) (by omega)) ?_
        rw [nI_clamp (by omega), show 5200 * r + t + k + 1 = 5200 * r + (t + k + 1) by omega]
        refine fz_incN dX11_follow_180 rfl (Nat.le_of_ble_eq_true rfl) ?_
        refine fz_goto (tgt := 18) dX11_follow_183 (by decide) ?_
        have key := ih (k + 1) (by omega) _ (fun j => if j = k + 1 then d else p j) (fun j => if j = k + 1 then sd sho (sp k) d else sp j) ⟨?_, ?_, fun j hj => ?_⟩ (whQ_step (by omega) (by omega) hi2) []
        · simp only [if_pos rfl] at key
          refine fz_pk [0, 1, 2, 4, 5, 6, 7, 8] rfl ?_
          exact key
        · show (if 0 = k + 1 then d else p 0) = c0
          rw [if_neg (by omega)]; exact hi1.1
        · show (if 0 = k + 1 then _ else sp 0) = s0
          rw [if_neg (by omega)]; exact hi1.2.1
        · by_cases e : j = k
          · subst e
            refine ⟨m, hm5, ?_, ?_, ?_⟩
            · simp only [if_neg (show ¬ j = j + 1 by omega), if_pos rfl]; exact hok
            · simp
            · simp only [if_neg (show ¬ j = j + 1 by omega)]; exact hlst
          · obtain ⟨m2, a1, a2, a3, a4⟩ := hi1.2.2 j (by omega)
            refine ⟨m2, a1, ?_, ?_, ?_⟩
            · simp only [if_neg (show ¬ j = k + 1 by omega), if_neg (show ¬ j + 1 = k + 1 by omega)]; exact a2
            · simp only [if_neg (show ¬ j = k + 1 by omega), if_neg (show ¬ j + 1 = k + 1 by omega)]; exact a3
            · simp only [if_neg (show ¬ j = k + 1 by omega)]; exact a4
      refine fz_iload dX11_follow_136 rfl ?_
      refine fz_istore dX11_follow_138 (Nat.le_of_ble_eq_true rfl) ?_
      refine fz_iload dX11_follow_140 rfl ?_
      refine fz_if_ne (tgt := 151) dX11_follow_142 (by decide) (fun c142 => ?_) (fun c142 => ?_)
      · have hs1 : sp k = 1 := by
          have : ¬ sp k = 0 := fun z => c142 (by rw [z]; exact nI_0)
          omega
        have e : sd sho (sp k) d = 1 := by unfold sd; split <;> omega
        rw [e] at fin
        refine fz_iconst (v := nI 1) dX11_follow_151 (by decide) ?_
        refine fz_goto (tgt := 156) dX11_follow_152 (by decide) ?_
        refine fz_istore dX11_follow_156 (Nat.le_of_ble_eq_true rfl) ?_
        refine fz_pk [0, 1, 2, 3, 4, 5, 6, 7, 8] rfl ?_
        exact fin
      · have hs0' : sp k = 0 := (nI_eq (by omega) (by omega)).mp (c142.trans nI_0.symm)
        refine fz_iload dX11_follow_145 rfl ?_
        refine fz_iload_n dX11_follow_147 rfl ?_
        refine fz_icmp_ne (tgt := 155) dX11_follow_148 (by decide) (fun c148 => ?_) (fun c148 => ?_)
        · have e : sd sho (sp k) d = 0 := by
            unfold sd
            rw [if_neg (fun z => c148 (by rw [z]; rfl))]
            exact hs0'
          rw [e] at fin
          refine fz_iconst (v := nI 0) dX11_follow_155 (by decide) ?_
          refine fz_istore dX11_follow_156 (Nat.le_of_ble_eq_true rfl) ?_
          refine fz_pk [0, 1, 2, 3, 4, 5, 6, 7, 8] rfl ?_
          exact fin
        · have e : sd sho (sp k) d = 1 := by
            unfold sd
            rw [if_pos]
            cases hsv : sho with
            | none => rw [hsv] at c148; exact absurd c148 (oI_ne (by omega))
            | some x =>
              rw [hsv] at c148
              have := hsh x hsv
              rw [(nI_eq (by omega) (by omega)).mp c148]
          rw [e] at fin
          refine fz_iconst (v := nI 1) dX11_follow_151 (by decide) ?_
          refine fz_goto (tgt := 156) dX11_follow_152 (by decide) ?_
          refine fz_istore dX11_follow_156 (Nat.le_of_ble_eq_true rfl) ?_
          refine fz_pk [0, 1, 2, 3, 4, 5, 6, 7, 8] rfl ?_
          exact fin
theorem tX11_follow {G : fz_G} (f ki wh0 en le : Nat → Int32) (E : Nat → Nat) (cn w rn : Nat) (kn : Nat → Nat) (h0 : 0 < w) (hw : w ≤ 10) (h80 : cn ≤ 80) (hh : ∃ h, cn = w * h) (hk : kiR cn kn ki) (hrn : rn ≤ 6) (hf3 : f 3 = nI cn) (hf4 : f 4 = nI w) (hf12 : f 12 = nI rn) (P : Nat → Nat → Nat) (te : Nat → Nat) (h : mtR E rn P te wh0 en) (r t : Nat) (hr : r < rn) (hEr : E r ≤ t) (hf11 : f 11 = nI t) (ht : t ≤ 4000) (sho : Option Nat) (hsh : ∀ x, sho = some x → x < 80) (s0 c0 goal L : Nat) (hPc : P r t = c0) (hL1 : L < 1000) (hc0 : c0 < cn) (hk0 : ¬ kn c0 = 0) (hs0 : s0 < 2) (hL : Rw cn w kn P rn r t sho s0 c0 L 1 goal) (hle : ∀ k, k ≤ L → lvR le k (Lw cn w kn P rn r t sho s0 c0 goal L (L - k))) :
    fz_T G mX11_follow rX11_follow [zR 30 0, zI (nI r), zI (nI L), zI (oI sho), zI (nI s0)] (wFm f ki wh0 en le) (fun x U => x = none ∧ ∃ wh p sp, isW cn w kn P rn r t sho s0 c0 goal L p sp L ∧ whQ wh0 r t L p wh ∧ U = wFm f ki wh (upd en r (nI (t + L))) le) := by
  refine fz_T.of (by decide) (Nat.le_of_ble_eq_true rfl) (fun E0 => ?_)
  refine fz_aload_n dX11_follow_0 rfl ?_
  refine fz_iload_n dX11_follow_1 rfl ?_
  refine fz_aload_n dX11_follow_2 rfl ?_
  refine fz_get dX11_follow_3 fX11_141 rfl (Nat.one_pos) rfl ?_
  rw [hf11]
  refine fz_callV (tX11_at f wh0 en E rn hrn P te h r t hr (by omega)) dX11_follow_6 kX11_166 rfl (Nat.one_pos) ⟨rfl, rfl, rfl, trivial⟩ (Nat.le_of_ble_eq_true rfl) (Nat.le_of_ble_eq_true rfl) (Nat.le_of_ble_eq_true rfl) (Nat.le_of_ble_eq_true rfl) (Nat.le_of_ble_eq_true rfl) rfl (fun r U hq => ?_)
  obtain ⟨rfl, rfl⟩ := hq
  refine fz_back rfl ?_
  rw [hPc]
  refine fz_wo (V' := wFm f ki wh0 en le) rfl ?_
  refine fz_istore dX11_follow_9 (Nat.le_of_ble_eq_true rfl) ?_
  refine fz_iload dX11_follow_11 rfl ?_
  refine fz_istore dX11_follow_13 (Nat.le_of_ble_eq_true rfl) ?_
  refine fz_iconst (v := nI 0) dX11_follow_15 (by decide) ?_
  refine fz_istore dX11_follow_16 (Nat.le_of_ble_eq_true rfl) ?_
  refine fz_pk [0, 1, 2, 3, 4, 5, 6, 7] rfl ?_
  exact lX11_follow_18 f ki wh0 en le E cn w rn kn h0 hw h80 hh hk hrn hf3 hf4 hf12 P te h r t hr hEr hf11 ht sho hsh s0 c0 goal L hL1 hc0 hk0 hs0 hL hle _ L 0 (by omega) wh0 (fun _ => c0) (fun _ => s0) ⟨rfl, rfl, fun j hj => by omega⟩ (fun q τ hq hτ => by rw [if_neg]; rintro ⟨-, z1, z2⟩; omega) []
