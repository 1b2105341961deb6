/-! THE MODEL: trace -/
abbrev wTr (f ki wh en re le : Nat → Int32) : fz_W := [(30, eM f), (45, eKi ki), (53, eWh wh), (54, e6 en), (77, eRe2 re), (78, eRe2 le)]
theorem bR_01 {x : Int32} {p : Prop} (h : bR x p) : x = 1 ∨ x = 0 := h.imp And.left And.left
theorem bR_nar {x : Int32} {p : Prop} (h : bR x p) : vp_nar .boolean x = x := by
  rcases bR_01 h with z | z <;> rw [z] <;> decide
/-- one of the moves before m leads on -/
def trP (cn w : Nat) (kn : Nat → Nat) (P : Nat → Nat → Nat) (rn r τ : Nat) (sho : Option Nat) (Q : Nat → Nat → Prop) (s c m : Nat) : Prop := ∃ m' d, m' < m ∧ may cn w kn P rn r τ c m' = some d ∧ Q (sd sho s d) d
theorem sd_2 {sho : Option Nat} {s d : Nat} (h : s < 2) : sd sho s d < 2 := by unfold sd; split <;> omega
theorem lX11_trace_24 {G : fz_G} {E0 : Nat → fz_E} {Z : List Frame → Array Value → State → State → Prop} (f ki wh en re le : Nat → Int32) (E : Nat → Nat) (cn w rn : Nat) (kn : Nat → Nat) (h0 : 0 < w) (hw : w ≤ 10) (h80 : cn ≤ 80) (hh : ∃ h, cn = w * h) (hk : kiR cn kn ki) (hrn : rn ≤ 6) (hf3 : f 3 = nI cn) (hf4 : f 4 = nI w) (hf12 : f 12 = nI rn) (P : Nat → Nat → Nat) (te : Nat → Nat) (h : mtR E rn P te wh en) (r t k : Nat) (hr : r < 6) (hf11 : f 11 = nI t) (ht : t ≤ 4000) (hk1 : k < 1000) (sho : Option Nat) (hsh : ∀ x, sho = some x → x < 80) (R Q : Nat → Nat → Prop) (hR : ∀ s c, R s c → c < cn ∧ ¬ kn c = 0) (hlv : lvR re k R) (hQ : lvR le (k + 1) Q) (s c : Nat) (hs : s < 2) (hc : c < 80)
    (kk : ∀ (x6 : Int32) x7 (x8 : List (Nat × fz_V)), bR x6 (R s c ∧ trP cn w kn P rn r (t + k) sho Q s c 5) → fz_J G mX11_trace rX11_trace Z E0 0 0 133 [(7, zI x7), (6, zI x6), (5, zI (nI c)), (4, zI (nI (80 * s + c))), (0, zR 30 0), (1, zI (nI r)), (2, zI (nI k)), (3, zI (oI sho))] [] (wTr f ki wh en re le)) :
    ∀ q m, m + q = 5 → ∀ x6, bR x6 (R s c ∧ trP cn w kn P rn r (t + k) sho Q s c m) → ∀ x8 : List (Nat × fz_V), fz_J G mX11_trace rX11_trace Z E0 0 0 24 ((7, zI (nI m)) :: (6, zI x6) :: (5, zI (nI c)) :: (4, zI (nI (80 * s + c))) :: (0, zR 30 0) :: (1, zI (nI r)) :: (2, zI (nI k)) :: (3, zI (oI sho)) :: x8) [] (wTr f ki wh en re le) := by
  intro q
  induction q with
  | zero =>
    intro m hm x6 hx x8
    have e : m = 5 := by omega
    subst e
    refine fz_pk [0, 1, 2, 3, 4, 5, 6, 7] rfl ?_
    refine fz_iload dX11_trace_24 rfl ?_
    refine fz_iconst (v := nI 5) dX11_trace_26 (by decide) ?_
    refine fz_icmp_ge (tgt := 133) dX11_trace_27 (by decide) (fun c27 => ?_) (fun c27 => ?_)
    · exact kk x6 _ [] hx
    · exact absurd (nI_le (Nat.le_refl _) (by omega)) c27
  | succ q ih =>
    intro m hm x6 hx x8
    refine fz_pk [0, 1, 2, 3, 4, 5, 6, 7] rfl ?_
    refine fz_iload dX11_trace_24 rfl ?_
    refine fz_iconst (v := nI 5) dX11_trace_26 (by decide) ?_
    refine fz_icmp_ge (tgt := 133) dX11_trace_27 (by decide) (fun c27 => ?_) (fun c27 => ?_)
    · exact absurd ((nI_leI (by omega) (by omega)).mp c27) (by omega)
    · skip
      refine fz_aload_n dX11_trace_30 rfl ?_
      refine fz_get dX11_trace_31 fX11_88 rfl (Nat.one_pos) rfl ?_
      refine fz_sipush (v := nI 160) dX11_trace_34 (by decide) ?_
      refine fz_iload_n dX11_trace_37 rfl ?_
      refine fz_imul dX11_trace_38 ?_
      refine fz_iload dX11_trace_39 rfl ?_
      rw [nI_mul]
      refine fz_iadd dX11_trace_41 ?_
      rw [nI_add]
      refine fz_zald dX11_trace_42 rfl rfl (Nat.one_pos) (vp_in_nI (by omega) (by omega)) ?_
      rw [nI_clamp (by omega)]
      have hb := hlv s c hs hc
      rw [show 160 * k + 80 * s + c = 160 * k + (80 * s + c) by omega] at hb
      rcases hb with ⟨e1, hRc⟩ | ⟨e0, hRc⟩
      · obtain ⟨hcn, hkc⟩ := hR s c hRc
        rw [e1]
        refine fz_if_eq (tgt := 133) dX11_trace_43 (by decide) (fun c43 => ?_) (fun c43 => ?_)
        · exact absurd c43 (by decide)
        · skip
          refine fz_iload dX11_trace_46 rfl ?_
          refine fz_iload dX11_trace_48 rfl ?_
          refine fz_aload_n dX11_trace_50 rfl ?_
          refine fz_get dX11_trace_51 fX11_135 rfl (Nat.one_pos) rfl ?_
          refine fz_aload_n dX11_trace_54 rfl ?_
          refine fz_get dX11_trace_55 fX11_132 rfl (Nat.one_pos) rfl ?_
          rw [hf3, hf4]
          refine fz_callS (tX11_beside c m w cn (by omega) (by omega) h0 hw h80) dX11_trace_58 kX11_113 trivial (Nat.le_of_ble_eq_true rfl) (Nat.le_of_ble_eq_true rfl) (Nat.le_of_ble_eq_true rfl) (Nat.le_of_ble_eq_true rfl) (Nat.le_of_ble_eq_true rfl) rfl (fun r U hq => ?_)
          obtain ⟨rfl, rfl⟩ := hq
          refine fz_back rfl ?_
          refine fz_wo (V' := wTr f ki wh en re le) rfl ?_
          refine fz_istore dX11_trace_61 (Nat.le_of_ble_eq_true rfl) ?_
          refine fz_iload dX11_trace_63 rfl ?_
          have yes : trP cn w kn P rn r (t + k) sho Q s c (m + 1) → ∀ y x8, fz_J G mX11_trace rX11_trace Z E0 0 0 120 [(8, zI x8), (7, zI (nI m)), (6, zI y), (5, zI (nI c)), (4, zI (nI (80 * s + c))), (0, zR 30 0), (1, zI (nI r)), (2, zI (nI k)), (3, zI (oI sho))] [] (wTr f ki wh en re le) := by
            intro hy y x8
            refine fz_iconst (v := nI 1) dX11_trace_120 (by decide) ?_
            refine fz_goto (tgt := 125) dX11_trace_121 (by decide) ?_
            refine fz_istore dX11_trace_125 (Nat.le_of_ble_eq_true rfl) ?_
            refine fz_incN dX11_trace_127 rfl (Nat.le_of_ble_eq_true rfl) ?_
            refine fz_goto (tgt := 24) dX11_trace_130 (by decide) ?_
            refine fz_pk [0, 1, 3, 4, 5, 6, 7, 8] rfl ?_
            exact ih (m + 1) (by omega) _ (Or.inl ⟨rfl, hRc, hy⟩) []
          have no : ¬ trP cn w kn P rn r (t + k) sho Q s c (m + 1) → ∀ y x8, fz_J G mX11_trace rX11_trace Z E0 0 0 124 [(8, zI x8), (7, zI (nI m)), (6, zI y), (5, zI (nI c)), (4, zI (nI (80 * s + c))), (0, zR 30 0), (1, zI (nI r)), (2, zI (nI k)), (3, zI (oI sho))] [] (wTr f ki wh en re le) := by
            intro hy y x8
            refine fz_iconst (v := nI 0) dX11_trace_124 (by decide) ?_
            refine fz_istore dX11_trace_125 (Nat.le_of_ble_eq_true rfl) ?_
            refine fz_incN dX11_trace_127 rfl (Nat.le_of_ble_eq_true rfl) ?_
            refine fz_goto (tgt := 24) dX11_trace_130 (by decide) ?_
            refine fz_pk [0, 1, 3, 4, 5, 6, 7, 8] rfl ?_
            exact ih (m + 1) (by omega) _ (Or.inr ⟨rfl, fun z => hy z.2⟩) []
          rcases hx with ⟨hx1, hx2⟩ | ⟨hx1, hx2⟩
          · subst hx1
            refine fz_if_ne (tgt := 120) dX11_trace_65 (by decide) (fun c65 => ?_) (fun c65 => ?_)
            · obtain ⟨-, m', d, a1, a2, a3⟩ := hx2
              exact yes ⟨m', d, by omega, a2, a3⟩ _ _
            · exact absurd c65 (by decide)
          · subst hx1
            have hnm : ¬ trP cn w kn P rn r (t + k) sho Q s c m := fun z => hx2 ⟨hRc, z⟩
            refine fz_if_ne (tgt := 120) dX11_trace_65 (by decide) (fun c65 => ?_) (fun c65 => ?_)
            · exact absurd rfl c65
            · skip
              refine fz_aload_n dX11_trace_68 rfl ?_
              refine fz_iload_n dX11_trace_69 rfl ?_
              refine fz_iload dX11_trace_70 rfl ?_
              refine fz_iload dX11_trace_72 rfl ?_
              refine fz_aload_n dX11_trace_74 rfl ?_
              refine fz_get dX11_trace_75 fX11_141 rfl (Nat.one_pos) rfl ?_
              rw [hf11]
              refine fz_iload_n dX11_trace_78 rfl ?_
              refine fz_iadd dX11_trace_79 ?_
              rw [nI_add]
              refine fz_callV (tX11_mayGo f ki wh en E cn w rn kn h0 h80 hh hk hrn hf12 P te h r (t + k) c m hr hcn hkc (by omega)) dX11_trace_80 kX11_185 rfl (Nat.one_pos) ⟨rfl, rfl, rfl, rfl, trivial⟩ (Nat.le_of_ble_eq_true rfl) (Nat.le_of_ble_eq_true rfl) (Nat.le_of_ble_eq_true rfl) (Nat.le_of_ble_eq_true rfl) (Nat.le_of_ble_eq_true rfl) rfl (fun r U hq => ?_)
              obtain ⟨rfl, rfl⟩ := hq
              refine fz_back rfl ?_
              refine fz_wo (V' := wTr f ki wh en re le) rfl ?_
              cases hv : may cn w kn P rn r (t + k) c m with
              | none =>
                refine fz_if_eq (tgt := 124) dX11_trace_83 (by decide) (fun c83 => ?_) (fun c83 => ?_)
                · refine no (fun ⟨m', d, a1, a2, a3⟩ => ?_) _ _
                  by_cases z : m' = m
                  · rw [z, hv] at a2; cases a2
                  · exact hnm ⟨m', d, by omega, a2, a3⟩
                · exact absurd (by decide) c83
              | some d =>
                have hnx := (may_spec.mp hv).1
                have hdl := nx_lt h0 hh hcn hnx
                have hsd : sd sho s d < 2 := sd_2 hs
                have store : fz_J G mX11_trace rX11_trace Z E0 0 0 111 [(8, zI (nI d)), (7, zI (nI m)), (6, zI 0), (5, zI (nI c)), (4, zI (nI (80 * s + c))), (0, zR 30 0), (1, zI (nI r)), (2, zI (nI k)), (3, zI (oI sho))] [zI (nI (sd sho s d)), zI (nI (k + 1)), zR 78 0] (wTr f ki wh en re le) := by
                  refine fz_iload dX11_trace_111 rfl ?_
                  refine fz_callS (tX11_state (k + 1) (sd sho s d) d hsd) dX11_trace_113 kX11_189 trivial (Nat.le_of_ble_eq_true rfl) (Nat.le_of_ble_eq_true rfl) (Nat.le_of_ble_eq_true rfl) (Nat.le_of_ble_eq_true rfl) (Nat.le_of_ble_eq_true rfl) rfl (fun r U hq => ?_)
                  obtain ⟨rfl, rfl⟩ := hq
                  refine fz_back rfl ?_
                  refine fz_wo (V' := wTr f ki wh en re le) rfl ?_
                  refine fz_zald dX11_trace_116 rfl rfl (Nat.one_pos) (vp_in_nI (by omega) (by omega)) ?_
                  rw [nI_clamp (by omega)]
                  rcases hQ (sd sho s d) d hsd (by omega) with ⟨z1, z2⟩ | ⟨z1, z2⟩
                  · rw [z1]
                    refine fz_if_eq (tgt := 124) dX11_trace_117 (by decide) (fun c117 => ?_) (fun c117 => ?_)
                    · exact absurd c117 (by decide)
                    · exact yes ⟨m, d, by omega, hv, z2⟩ _ _
                  · rw [z1]
                    refine fz_if_eq (tgt := 124) dX11_trace_117 (by decide) (fun c117 => ?_) (fun c117 => ?_)
                    · refine no (fun ⟨m', d', a1, a2, a3⟩ => ?_) _ _
                      by_cases y : m' = m
                      · rw [y, hv] at a2
                        cases a2
                        exact z2 a3
                      · exact hnm ⟨m', d', by omega, a2, a3⟩
                    · exact absurd rfl c117
                refine fz_if_eq (tgt := 124) dX11_trace_83 (by decide) (fun c83 => ?_) (fun c83 => ?_)
                · exact absurd c83 (by show ¬ bI true = 0; decide)
                · skip
                  refine fz_ls (ls' := [(8, zI (nI d)), (7, zI (nI m)), (6, zI 0), (5, zI (nI c)), (4, zI (nI (80 * s + c))), (0, zR 30 0), (1, zI (nI r)), (2, zI (nI k)), (3, zI (oI sho))]) (by rw [hnx]; rfl) ?_
                  refine fz_aload_n dX11_trace_86 rfl ?_
                  refine fz_get dX11_trace_87 fX11_91 rfl (Nat.one_pos) rfl ?_
                  refine fz_iload_n dX11_trace_90 rfl ?_
                  refine fz_iconst (v := nI 1) dX11_trace_91 (by decide) ?_
                  refine fz_iadd dX11_trace_92 ?_
                  rw [nI_add]
                  refine fz_iload dX11_trace_93 rfl ?_
                  refine fz_bipush (v := nI 80) dX11_trace_95 (by decide) ?_
                  refine fz_icmp_ge (tgt := 106) dX11_trace_97 (by decide) (fun c97 => ?_) (fun c97 => ?_)
                  · have hs1 : s = 1 := by have := (nI_leI (by omega) (by omega)).mp c97; omega
                    have e : sd sho s d = 1 := by unfold sd; split <;> omega
                    rw [e] at store
                    refine fz_iconst (v := nI 1) dX11_trace_106 (by decide) ?_
                    refine fz_goto (tgt := 111) dX11_trace_107 (by decide) ?_
                    exact store
                  · have hs0 : s = 0 := by
                      rcases Nat.eq_zero_or_pos s with z | z
                      · exact z
                      · exact absurd (nI_le (by omega) (by omega)) c97
                    refine fz_iload dX11_trace_100 rfl ?_
                    refine fz_iload_n dX11_trace_102 rfl ?_
                    refine fz_icmp_ne (tgt := 110) dX11_trace_103 (by decide) (fun c103 => ?_) (fun c103 => ?_)
                    · have e : sd sho s d = 0 := by
                        unfold sd
                        rw [if_neg (fun z => c103 (by rw [z]; rfl))]
                        exact hs0
                      rw [e] at store
                      refine fz_iconst (v := nI 0) dX11_trace_110 (by decide) ?_
                      exact store
                    · have e : sd sho s d = 1 := by
                        unfold sd
                        rw [if_pos]
                        cases hsv : sho with
                        | none => rw [hsv] at c103; exact absurd c103 (oI_ne (by omega))
                        | some x =>
                          rw [hsv] at c103
                          have := hsh x hsv
                          rw [(nI_eq (by omega) (by omega)).mp c103]
                      rw [e] at store
                      refine fz_iconst (v := nI 1) dX11_trace_106 (by decide) ?_
                      refine fz_goto (tgt := 111) dX11_trace_107 (by decide) ?_
                      exact store
      · rw [e0]
        refine fz_if_eq (tgt := 133) dX11_trace_43 (by decide) (fun c43 => ?_) (fun c43 => ?_)
        · refine kk x6 _ [] ?_
          rcases hx with z | z
          · exact absurd z.2.1 hRc
          · exact Or.inr ⟨z.1, fun y => hRc y.1⟩
        · exact absurd rfl c43
theorem lX11_trace_3 {G : fz_G} {E0 : Nat → fz_E} (f ki wh en re le0 : Nat → Int32) (E : Nat → Nat) (cn w rn : Nat) (kn : Nat → Nat) (h0 : 0 < w) (hw : w ≤ 10) (h80 : cn ≤ 80) (hh : ∃ h, cn = w * h) (hk : kiR cn kn ki) (hrn : rn ≤ 6) (hf3 : f 3 = nI cn) (hf4 : f 4 = nI w) (hf12 : f 12 = nI rn) (P : Nat → Nat → Nat) (te : Nat → Nat) (h : mtR E rn P te wh en) (r t k : Nat) (hr : r < 6) (hf11 : f 11 = nI t) (ht : t ≤ 4000) (hk1 : k < 1000) (sho : Option Nat) (hsh : ∀ x, sho = some x → x < 80) (R Q : Nat → Nat → Prop) (hR : ∀ s c, R s c → c < cn ∧ ¬ kn c = 0) (hlv : lvR re k R) (hQ : lvR le0 (k + 1) Q) :
    ∀ q i, i + q = 160 → ∀ le, (∀ j, ¬ (160 * k ≤ j ∧ j < 160 * (k + 1)) → le j = le0 j) → (∀ s c, s < 2 → c < 80 → 80 * s + c < i → bR (le (160 * k + 80 * s + c)) (R s c ∧ trP cn w kn P rn r (t + k) sho Q s c 5)) → ∀ x5 : List (Nat × fz_V), fz_J G mX11_trace rX11_trace (fz_Z G E0 rX11_trace.cells rX11_trace.slots (fun x U => x = none ∧ ∃ le, (∀ j, ¬ (160 * k ≤ j ∧ j < 160 * (k + 1)) → le j = le0 j) ∧ lvR le k (fun s c => R s c ∧ trP cn w kn P rn r (t + k) sho Q s c 5) ∧ U = wTr f ki wh en re le)) E0 0 0 3 ((4, zI (nI i)) :: (0, zR 30 0) :: (1, zI (nI r)) :: (2, zI (nI k)) :: (3, zI (oI sho)) :: x5) [] (wTr f ki wh en re le) := by
  intro q
  induction q with
  | zero =>
    intro i hi le h1 h2 x5
    have e : i = 160 := by omega
    subst e
    refine fz_pk [0, 1, 2, 3, 4] rfl ?_
    refine fz_iload dX11_trace_3 rfl ?_
    refine fz_sipush (v := nI 160) dX11_trace_5 (by decide) ?_
    refine fz_icmp_ge (tgt := 154) dX11_trace_8 (by decide) (fun c8 => ?_) (fun c8 => ?_)
    · skip
      refine fz_vret dX11_trace_154 rfl (Nat.zero_le _) (Nat.zero_le _) ⟨rfl, le, h1, fun s c hs hc => h2 s c hs hc (by omega), rfl⟩
    · exact absurd (by decide) c8
  | succ q ih =>
    intro i hi le h1 h2 x5
    refine fz_pk [0, 1, 2, 3, 4] rfl ?_
    refine fz_iload dX11_trace_3 rfl ?_
    refine fz_sipush (v := nI 160) dX11_trace_5 (by decide) ?_
    refine fz_icmp_ge (tgt := 154) dX11_trace_8 (by decide) (fun c8 => ?_) (fun c8 => ?_)
    · exact absurd ((nI_leI (by omega) (by omega)).mp c8) (by omega)
    · skip
      refine fz_iload dX11_trace_11 rfl ?_
      refine fz_bipush (v := nI 80) dX11_trace_13 (by decide) ?_
      refine fz_irem dX11_trace_15 (by decide) ?_
      refine fz_top (y := nI (i % 80)) (pk_rem (by omega) (by omega) (by omega)) ?_
      refine fz_istore dX11_trace_16 (Nat.le_of_ble_eq_true rfl) ?_
      refine fz_iconst (v := nI 0) dX11_trace_18 (by decide) ?_
      refine fz_istore dX11_trace_19 (Nat.le_of_ble_eq_true rfl) ?_
      refine fz_iconst (v := nI 0) dX11_trace_21 (by decide) ?_
      refine fz_istore dX11_trace_22 (Nat.le_of_ble_eq_true rfl) ?_
      have hi2 : 80 * (i / 80) + i % 80 = i := by omega
      have hQ2 : lvR le (k + 1) Q := fun s c hs hc => by rw [h1 _ (by omega)]; exact hQ s c hs hc
      have key := lX11_trace_24 (G := G) (E0 := E0) (Z := fz_Z G E0 rX11_trace.cells rX11_trace.slots (fun x U => x = none ∧ ∃ le, (∀ j, ¬ (160 * k ≤ j ∧ j < 160 * (k + 1)) → le j = le0 j) ∧ lvR le k (fun s c => R s c ∧ trP cn w kn P rn r (t + k) sho Q s c 5) ∧ U = wTr f ki wh en re le)) f ki wh en re le E cn w rn kn h0 hw h80 hh hk hrn hf3 hf4 hf12 P te h r t k hr hf11 ht hk1 sho hsh R Q hR hlv hQ2 (i / 80) (i % 80) (by omega) (by omega) (fun x6 x7 x8 hx => ?_) 5 0 rfl (nI 0) (Or.inr ⟨rfl, fun ⟨_, m', d, a1, _⟩ => by omega⟩) []
      · rw [hi2] at key
        exact key
      · rw [hi2]
        refine fz_aload_n dX11_trace_133 rfl ?_
        refine fz_get dX11_trace_134 fX11_91 rfl (Nat.one_pos) rfl ?_
        refine fz_sipush (v := nI 160) dX11_trace_137 (by decide) ?_
        refine fz_iload_n dX11_trace_140 rfl ?_
        refine fz_imul dX11_trace_141 ?_
        rw [nI_mul]
        refine fz_iload dX11_trace_142 rfl ?_
        refine fz_iadd dX11_trace_144 ?_
        rw [nI_add]
        refine fz_iload dX11_trace_145 rfl ?_
        refine fz_zast1 dX11_trace_147 rfl rfl (vp_in_nI (by omega) (by omega)) ?_
        rw [nI_clamp (by omega), bR_nar hx]
        refine fz_incN dX11_trace_148 rfl (Nat.le_of_ble_eq_true rfl) ?_
        refine fz_goto (tgt := 3) dX11_trace_151 (by decide) ?_
        refine fz_pk [0, 4, 5, 6, 7] rfl ?_
        refine ih (i + 1) (by omega) _ (fun j hj => ?_) (fun s c hs hc hsc => ?_) []
        · rw [pk_un (by omega)]; exact h1 j hj
        · by_cases e : 80 * s + c = i
          · have e1 : s = i / 80 := by omega
            have e2 : c = i % 80 := by omega
            rw [show 160 * k + 80 * s + c = 160 * k + i by omega, pk_us, e1, e2]
            exact hx
          · rw [pk_un (by omega)]; exact h2 s c hs hc (by omega)
theorem tX11_trace {G : fz_G} (f ki wh en re le0 : Nat → Int32) (E : Nat → Nat) (cn w rn : Nat) (kn : Nat → Nat) (h0 : 0 < w) (hw : w ≤ 10) (h80 : cn ≤ 80) (hh : ∃ h, cn = w * h) (hk : kiR cn kn ki) (hrn : rn ≤ 6) (hf3 : f 3 = nI cn) (hf4 : f 4 = nI w) (hf12 : f 12 = nI rn) (P : Nat → Nat → Nat) (te : Nat → Nat) (h : mtR E rn P te wh en) (r t k : Nat) (hr : r < 6) (hf11 : f 11 = nI t) (ht : t ≤ 4000) (hk1 : k < 1000) (sho : Option Nat) (hsh : ∀ x, sho = some x → x < 80) (s0 c0 goal L : Nat) (hkL : k < L) (hc0 : c0 < cn) (hk0 : ¬ kn c0 = 0) (hs0 : s0 < 2) (hlv : lvR re k (Rw cn w kn P rn r t sho s0 c0 k)) (hQ : lvR le0 (k + 1) (Lw cn w kn P rn r t sho s0 c0 goal L (L - (k + 1)))) :
    fz_T G mX11_trace rX11_trace [zR 30 0, zI (nI r), zI (nI k), zI (oI sho)] (wTr f ki wh en re le0) (fun x U => x = none ∧ ∃ le, (∀ j, ¬ (160 * k ≤ j ∧ j < 160 * (k + 1)) → le j = le0 j) ∧ lvR le k (Lw cn w kn P rn r t sho s0 c0 goal L (L - k)) ∧ U = wTr f ki wh en re le) := by
  have hin := fun s c hR => Rw_in (P := P) (rn := rn) (r := r) (t := t) (sho := sho) h0 hh hc0 hk0 hs0 k s c hR
  refine fz_T.of (by decide) (Nat.le_of_ble_eq_true rfl) (fun E0 => ?_)
  refine fz_iconst (v := nI 0) dX11_trace_0 (by decide) ?_
  refine fz_istore dX11_trace_1 (Nat.le_of_ble_eq_true rfl) ?_
  refine fz_Jm (lX11_trace_3 f ki wh en re le0 E cn w rn kn h0 hw h80 hh hk hrn hf3 hf4 hf12 P te h r t k hr hf11 ht hk1 sho hsh _ _ (fun s c hR => ⟨(hin s c hR).1, (hin s c hR).2.1⟩) hlv hQ 160 0 rfl le0 (fun j _ => rfl) (fun s c _ _ hsc => by omega) []) ?_
  rintro x U ⟨rfl, le, h1, h2, rfl⟩
  refine ⟨rfl, le, h1, fun s c hs hc => bR_c (h2 s c hs hc) ?_, rfl⟩
  rw [show L - k = (L - (k + 1)) + 1 by omega]
  show _ ↔ (Rw cn w kn P rn r t sho s0 c0 (L - ((L - (k + 1)) + 1)) s c ∧ ∃ m e, m < 5 ∧ may cn w kn P rn r (t + (L - ((L - (k + 1)) + 1))) c m = some e ∧ _)
  rw [show L - ((L - (k + 1)) + 1) = k by omega]
  exact Iff.rfl
