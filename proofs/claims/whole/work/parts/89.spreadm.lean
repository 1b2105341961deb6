/-! THE MODEL: spread, trace -/
abbrev eRe2 (re : Nat → Int32) : fz_E := zi 2 1 160160 (fun _ => re)
/-- a number that says whether -/
def bR (x : Int32) (p : Prop) : Prop := (x = 1 ∧ p) ∨ (x = 0 ∧ ¬ p)
theorem bR_c {x : Int32} {p q : Prop} (h : bR x p) (hpq : p ↔ q) : bR x q := h.imp (fun z => ⟨z.1, hpq.mp z.2⟩) (fun z => ⟨z.1, fun y => z.2 (hpq.mpr y)⟩)
abbrev wSm (f ki wh en re : Nat → Int32) : fz_W := [(30, eM f), (45, eKi ki), (53, eWh wh), (54, e6 en), (77, eRe2 re)]
/-- the level's sets in the array -/
def lvR (re : Nat → Int32) (k : Nat) (R : Nat → Nat → Prop) : Prop := ∀ s c, s < 2 → c < 80 → bR (re (160 * k + 80 * s + c)) (R s c)
/-- what the states before number i, and of number i the moves before m, give a tick later -/
def spP (cn w : Nat) (kn : Nat → Nat) (P : Nat → Nat → Nat) (rn r τ : Nat) (sho : Option Nat) (R : Nat → Nat → Prop) (i m : Nat) (s d : Nat) : Prop := ∃ s' c m', s' < 2 ∧ c < 80 ∧ m' < 5 ∧ (80 * s' + c < i ∨ (80 * s' + c = i ∧ m' < m)) ∧ R s' c ∧ may cn w kn P rn r τ c m' = some d ∧ s = sd sho s' d
theorem lX11_spread_56 {G : fz_G} {E0 : Nat → fz_E} {Z : List Frame → Array Value → State → State → Prop} (f ki wh en re0 : Nat → Int32) (E : Nat → Nat) (cn w rn : Nat) (kn : Nat → Nat) (h0 : 0 < w) (hw : w ≤ 10) (h80 : cn ≤ 80) (hh : ∃ h, cn = w * h) (hk : kiR cn kn ki) (hrn : rn ≤ 6) (hf3 : f 3 = nI cn) (hf4 : f 4 = nI w) (hf12 : f 12 = nI rn) (P : Nat → Nat → Nat) (te : Nat → Nat) (h : mtR E rn P te wh en) (r t k : Nat) (hr : r < 6) (hf11 : f 11 = nI t) (ht : t ≤ 4000) (hk1 : k < 1000) (sho : Option Nat) (hsh : ∀ x, sho = some x → x < 80) (R : Nat → Nat → Prop) (hR : ∀ s c, R s c → c < cn ∧ ¬ kn c = 0) (s c : Nat) (hs : s < 2) (hc : c < 80)
    (kk : ∀ re, (∀ j, ¬ (160 * (k + 1) ≤ j ∧ j < 160 * (k + 2)) → re j = re0 j) → lvR re (k + 1) (spP cn w kn P rn r (t + k) sho R (80 * s + c + 1) 0) → fz_J G mX11_spread rX11_spread Z E0 0 0 38 [(4, zI (nI (80 * s + c + 1))), (0, zR 30 0), (1, zI (nI r)), (2, zI (nI k)), (3, zI (oI sho))] [] (wSm f ki wh en re)) (hlv : lvR re0 k R) :
    ∀ q m, m + q = 5 → ∀ re, (∀ j, ¬ (160 * (k + 1) ≤ j ∧ j < 160 * (k + 2)) → re j = re0 j) → lvR re (k + 1) (spP cn w kn P rn r (t + k) sho R (80 * s + c) m) → ∀ x7 : List (Nat × fz_V), fz_J G mX11_spread rX11_spread Z E0 0 0 56 ((6, zI (nI m)) :: (5, zI (nI c)) :: (4, zI (nI (80 * s + c))) :: (0, zR 30 0) :: (1, zI (nI r)) :: (2, zI (nI k)) :: (3, zI (oI sho)) :: x7) [] (wSm f ki wh en re) := by
  intro q
  have fin : ∀ m re, (∀ j, ¬ (160 * (k + 1) ≤ j ∧ j < 160 * (k + 2)) → re j = re0 j) → lvR re (k + 1) (spP cn w kn P rn r (t + k) sho R (80 * s + c) m) → (5 ≤ m ∨ ¬ R s c) → fz_J G mX11_spread rX11_spread Z E0 0 0 151 [(6, zI (nI m)), (5, zI (nI c)), (4, zI (nI (80 * s + c))), (0, zR 30 0), (1, zI (nI r)), (2, zI (nI k)), (3, zI (oI sho))] [] (wSm f ki wh en re) := by
    intro m re h1 h2 h3
    refine fz_incN dX11_spread_151 rfl (Nat.le_of_ble_eq_true rfl) ?_
    refine fz_goto (tgt := 38) dX11_spread_154 (by decide) ?_
    refine fz_pk [0, 3, 4, 5, 6] rfl ?_
    refine kk re h1 (fun s2 d hs2 hd => bR_c (h2 s2 d hs2 hd) ⟨?_, ?_⟩)
    · rintro ⟨s', c', m', a1, a2, a3, a4, a5, a6, a7⟩
      exact ⟨s', c', m', a1, a2, a3, Or.inl (by omega), a5, a6, a7⟩
    · rintro ⟨s', c', m', a1, a2, a3, a4, a5, a6, a7⟩
      refine ⟨s', c', m', a1, a2, a3, ?_, a5, a6, a7⟩
      by_cases z : 80 * s' + c' < 80 * s + c
      · exact Or.inl z
      · have e1 : s' = s := by omega
        have e2 : c' = c := by omega
        subst e1 e2
        rcases h3 with y | y
        · exact Or.inr ⟨rfl, by omega⟩
        · exact absurd a5 y
  induction q with
  | zero =>
    intro m hm re h1 h2 x7
    have e : m = 5 := by omega
    subst e
    refine fz_pk [0, 1, 2, 3, 4, 5, 6] rfl ?_
    refine fz_iload dX11_spread_56 rfl ?_
    refine fz_iconst (v := nI 5) dX11_spread_58 (by decide) ?_
    refine fz_icmp_ge (tgt := 151) dX11_spread_59 (by decide) (fun c59 => ?_) (fun c59 => ?_)
    · exact fin 5 re h1 h2 (Or.inl (Nat.le_refl _))
    · exact absurd (nI_le (Nat.le_refl _) (by omega)) c59
  | succ q ih =>
    intro m hm re h1 h2 x7
    refine fz_pk [0, 1, 2, 3, 4, 5, 6] rfl ?_
    refine fz_iload dX11_spread_56 rfl ?_
    refine fz_iconst (v := nI 5) dX11_spread_58 (by decide) ?_
    refine fz_icmp_ge (tgt := 151) dX11_spread_59 (by decide) (fun c59 => ?_) (fun c59 => ?_)
    · exact absurd ((nI_leI (by omega) (by omega)).mp c59) (by omega)
    · skip
      refine fz_aload_n dX11_spread_62 rfl ?_
      refine fz_get dX11_spread_63 fX11_88 rfl (Nat.one_pos) rfl ?_
      refine fz_sipush (v := nI 160) dX11_spread_66 (by decide) ?_
      refine fz_iload_n dX11_spread_69 rfl ?_
      refine fz_imul dX11_spread_70 ?_
      refine fz_iload dX11_spread_71 rfl ?_
      rw [nI_mul]
      refine fz_iadd dX11_spread_73 ?_
      rw [nI_add]
      refine fz_zald dX11_spread_74 rfl rfl (Nat.one_pos) (vp_in_nI (by omega) (by omega)) ?_
      rw [nI_clamp (by omega), h1 _ (by omega)]
      have hb := hlv s c hs hc
      rw [show 160 * k + 80 * s + c = 160 * k + (80 * s + c) by omega] at hb
      rcases hb with ⟨e1, hRc⟩ | ⟨e0, hRc⟩
      · obtain ⟨hcn, hkc⟩ := hR s c hRc
        rw [e1]
        refine fz_if_eq (tgt := 151) dX11_spread_75 (by decide) (fun c75 => ?_) (fun c75 => ?_)
        · exact absurd c75 (by decide)
        · skip
          refine fz_iload dX11_spread_78 rfl ?_
          refine fz_iload dX11_spread_80 rfl ?_
          refine fz_aload_n dX11_spread_82 rfl ?_
          refine fz_get dX11_spread_83 fX11_135 rfl (Nat.one_pos) rfl ?_
          refine fz_aload_n dX11_spread_86 rfl ?_
          refine fz_get dX11_spread_87 fX11_132 rfl (Nat.one_pos) rfl ?_
          rw [hf3, hf4]
          refine fz_callS (tX11_beside c m w cn (by omega) (by omega) h0 hw h80) dX11_spread_90 kX11_113 trivial (Nat.le_of_ble_eq_true rfl) (Nat.le_of_ble_eq_true rfl) (Nat.le_of_ble_eq_true rfl) (Nat.le_of_ble_eq_true rfl) (Nat.le_of_ble_eq_true rfl) rfl (fun r U hq => ?_)
          obtain ⟨rfl, rfl⟩ := hq
          refine fz_back rfl ?_
          refine fz_wo (V' := wSm f ki wh en re) rfl ?_
          refine fz_istore dX11_spread_93 (Nat.le_of_ble_eq_true rfl) ?_
          refine fz_aload_n dX11_spread_95 rfl ?_
          refine fz_iload_n dX11_spread_96 rfl ?_
          refine fz_iload dX11_spread_97 rfl ?_
          refine fz_iload dX11_spread_99 rfl ?_
          refine fz_aload_n dX11_spread_101 rfl ?_
          refine fz_get dX11_spread_102 fX11_141 rfl (Nat.one_pos) rfl ?_
          rw [hf11]
          refine fz_iload_n dX11_spread_105 rfl ?_
          refine fz_iadd dX11_spread_106 ?_
          rw [nI_add]
          refine fz_callV (tX11_mayGo f ki wh en E cn w rn kn h0 h80 hh hk hrn hf12 P te h r (t + k) c m hr hcn hkc (by omega)) dX11_spread_107 kX11_185 rfl (Nat.one_pos) ⟨rfl, rfl, rfl, rfl, trivial⟩ (Nat.le_of_ble_eq_true rfl) (Nat.le_of_ble_eq_true rfl) (Nat.le_of_ble_eq_true rfl) (Nat.le_of_ble_eq_true rfl) (Nat.le_of_ble_eq_true rfl) rfl (fun r U hq => ?_)
          obtain ⟨rfl, rfl⟩ := hq
          refine fz_back rfl ?_
          refine fz_wo (V' := wSm f ki wh en re) rfl ?_
          have next : ∀ re, (∀ j, ¬ (160 * (k + 1) ≤ j ∧ j < 160 * (k + 2)) → re j = re0 j) → lvR re (k + 1) (spP cn w kn P rn r (t + k) sho R (80 * s + c) (m + 1)) → fz_J G mX11_spread rX11_spread Z E0 0 0 145 [(7, zI (oI (nx cn w c m))), (6, zI (nI m)), (5, zI (nI c)), (4, zI (nI (80 * s + c))), (0, zR 30 0), (1, zI (nI r)), (2, zI (nI k)), (3, zI (oI sho))] [] (wSm f ki wh en re) := by
            intro re g1 g2
            refine fz_incN dX11_spread_145 rfl (Nat.le_of_ble_eq_true rfl) ?_
            refine fz_goto (tgt := 56) dX11_spread_148 (by decide) ?_
            refine fz_pk [0, 2, 3, 4, 5, 6, 7] rfl ?_
            exact ih (m + 1) (by omega) re g1 g2 []
          cases hv : may cn w kn P rn r (t + k) c m with
          | none =>
            refine fz_if_eq (tgt := 145) dX11_spread_110 (by decide) (fun c110 => ?_) (fun c110 => ?_)
            · refine next re h1 (fun s2 d hs2 hd => bR_c (h2 s2 d hs2 hd) ⟨?_, ?_⟩)
              · rintro ⟨s', c', m', a1, a2, a3, a4, a5, a6, a7⟩
                exact ⟨s', c', m', a1, a2, a3, by omega, a5, a6, a7⟩
              · rintro ⟨s', c', m', a1, a2, a3, a4, a5, a6, a7⟩
                refine ⟨s', c', m', a1, a2, a3, ?_, a5, a6, a7⟩
                by_cases z : 80 * s' + c' = 80 * s + c ∧ m' = m
                · have e1 : s' = s := by omega
                  have e2 : c' = c := by omega
                  subst e1 e2
                  rw [z.2, hv] at a6; cases a6
                · omega
            · exact absurd (by decide) c110
          | some d =>
            have hnx := (may_spec.mp hv).1
            have hdl := nx_lt h0 hh hcn hnx
            have hsd : sd sho s d < 2 := by unfold sd; split <;> omega
            have store : fz_J G mX11_spread rX11_spread Z E0 0 0 138 [(7, zI (nI d)), (6, zI (nI m)), (5, zI (nI c)), (4, zI (nI (80 * s + c))), (0, zR 30 0), (1, zI (nI r)), (2, zI (nI k)), (3, zI (oI sho))] [zI (nI (sd sho s d)), zI (nI (k + 1)), zR 77 0] (wSm f ki wh en re) := by
              refine fz_iload dX11_spread_138 rfl ?_
              refine fz_callS (tX11_state (k + 1) (sd sho s d) d hsd) dX11_spread_140 kX11_189 trivial (Nat.le_of_ble_eq_true rfl) (Nat.le_of_ble_eq_true rfl) (Nat.le_of_ble_eq_true rfl) (Nat.le_of_ble_eq_true rfl) (Nat.le_of_ble_eq_true rfl) rfl (fun r U hq => ?_)
              obtain ⟨rfl, rfl⟩ := hq
              refine fz_back rfl ?_
              refine fz_wo (V' := wSm f ki wh en re) rfl ?_
              refine fz_iconst (v := nI 1) dX11_spread_143 (by decide) ?_
              refine fz_zast1 dX11_spread_144 rfl rfl (vp_in_nI (by omega) (by omega)) ?_
              rw [nI_clamp (by omega), nar1]
              rw [hnx] at next
              refine next _ (fun j hj => ?_) (fun s2 d2 hs2 hd2 => ?_)
              · rw [pk_un (by omega)]; exact h1 j hj
              · by_cases e : s2 = sd sho s d ∧ d2 = d
                · obtain ⟨rfl, rfl⟩ := e
                  rw [pk_us]
                  exact Or.inl ⟨rfl, s, c, m, hs, hc, by omega, Or.inr ⟨rfl, by omega⟩, hRc, hv, rfl⟩
                · rw [pk_un (by omega)]
                  refine bR_c (h2 s2 d2 hs2 hd2) ⟨?_, ?_⟩
                  · rintro ⟨s', c', m', a1, a2, a3, a4, a5, a6, a7⟩
                    exact ⟨s', c', m', a1, a2, a3, by omega, a5, a6, a7⟩
                  · rintro ⟨s', c', m', a1, a2, a3, a4, a5, a6, a7⟩
                    refine ⟨s', c', m', a1, a2, a3, ?_, a5, a6, a7⟩
                    by_cases z : 80 * s' + c' = 80 * s + c ∧ m' = m
                    · have e1 : s' = s := by omega
                      have e2 : c' = c := by omega
                      subst e1 e2
                      rw [z.2, hv] at a6
                      cases a6
                      exact absurd ⟨a7, rfl⟩ e
                    · omega
            refine fz_if_eq (tgt := 145) dX11_spread_110 (by decide) (fun c110 => ?_) (fun c110 => ?_)
            · exact absurd c110 (by show ¬ bI true = 0; decide)
            · skip
              refine fz_ls (ls' := [(7, zI (nI d)), (6, zI (nI m)), (5, zI (nI c)), (4, zI (nI (80 * s + c))), (0, zR 30 0), (1, zI (nI r)), (2, zI (nI k)), (3, zI (oI sho))]) (by rw [hnx]; rfl) ?_
              refine fz_aload_n dX11_spread_113 rfl ?_
              refine fz_get dX11_spread_114 fX11_88 rfl (Nat.one_pos) rfl ?_
              refine fz_iload_n dX11_spread_117 rfl ?_
              refine fz_iconst (v := nI 1) dX11_spread_118 (by decide) ?_
              refine fz_iadd dX11_spread_119 ?_
              rw [nI_add]
              refine fz_iload dX11_spread_120 rfl ?_
              refine fz_bipush (v := nI 80) dX11_spread_122 (by decide) ?_
              refine fz_icmp_ge (tgt := 133) dX11_spread_124 (by decide) (fun c124 => ?_) (fun c124 => ?_)
              · have hs1 : s = 1 := by have := (nI_leI (by omega) (by omega)).mp c124; omega
                have e : sd sho s d = 1 := by unfold sd; split <;> omega
                rw [e] at store
                refine fz_iconst (v := nI 1) dX11_spread_133 (by decide) ?_
                refine fz_goto (tgt := 138) dX11_spread_134 (by decide) ?_
                exact store
              · have hs0 : s = 0 := by
                  rcases Nat.eq_zero_or_pos s with z | z
                  · exact z
                  · exact absurd (nI_le (by omega) (by omega)) c124
                refine fz_iload dX11_spread_127 rfl ?_
                refine fz_iload_n dX11_spread_129 rfl ?_
                refine fz_icmp_ne (tgt := 137) dX11_spread_130 (by decide) (fun c130 => ?_) (fun c130 => ?_)
                · have e : sd sho s d = 0 := by
                    unfold sd
                    rw [if_neg (fun z => c130 (by rw [z]; rfl))]
                    exact hs0
                  rw [e] at store
                  refine fz_iconst (v := nI 0) dX11_spread_137 (by decide) ?_
                  exact store
                · have e : sd sho s d = 1 := by
                    unfold sd
                    rw [if_pos]
                    cases hsv : sho with
                    | none => rw [hsv] at c130; exact absurd c130 (oI_ne (by omega))
                    | some x =>
                      rw [hsv] at c130
                      have := hsh x hsv
                      rw [(nI_eq (by omega) (by omega)).mp c130]
                  rw [e] at store
                  refine fz_iconst (v := nI 1) dX11_spread_133 (by decide) ?_
                  refine fz_goto (tgt := 138) dX11_spread_134 (by decide) ?_
                  exact store
      · rw [e0]
        refine fz_if_eq (tgt := 151) dX11_spread_75 (by decide) (fun c75 => ?_) (fun c75 => ?_)
        · exact fin m re h1 h2 (Or.inr hRc)
        · exact absurd rfl c75
theorem lX11_spread_38 {G : fz_G} {E0 : Nat → fz_E} {Z : List Frame → Array Value → State → State → Prop} (f ki wh en re0 : Nat → Int32) (E : Nat → Nat) (cn w rn : Nat) (kn : Nat → Nat) (h0 : 0 < w) (hw : w ≤ 10) (h80 : cn ≤ 80) (hh : ∃ h, cn = w * h) (hk : kiR cn kn ki) (hrn : rn ≤ 6) (hf3 : f 3 = nI cn) (hf4 : f 4 = nI w) (hf12 : f 12 = nI rn) (P : Nat → Nat → Nat) (te : Nat → Nat) (h : mtR E rn P te wh en) (r t k : Nat) (hr : r < 6) (hf11 : f 11 = nI t) (ht : t ≤ 4000) (hk1 : k < 1000) (sho : Option Nat) (hsh : ∀ x, sho = some x → x < 80) (R : Nat → Nat → Prop) (hR : ∀ s c, R s c → c < cn ∧ ¬ kn c = 0) (hlv : lvR re0 k R)
    (kk : ∀ re, (∀ j, ¬ (160 * (k + 1) ≤ j ∧ j < 160 * (k + 2)) → re j = re0 j) → lvR re (k + 1) (spP cn w kn P rn r (t + k) sho R 160 0) → fz_J G mX11_spread rX11_spread Z E0 0 0 157 [(4, zI (nI 160)), (0, zR 30 0), (1, zI (nI r)), (2, zI (nI k)), (3, zI (oI sho))] [] (wSm f ki wh en re)) :
    ∀ q i, i + q = 160 → ∀ re, (∀ j, ¬ (160 * (k + 1) ≤ j ∧ j < 160 * (k + 2)) → re j = re0 j) → lvR re (k + 1) (spP cn w kn P rn r (t + k) sho R i 0) → fz_J G mX11_spread rX11_spread Z E0 0 0 38 [(4, zI (nI i)), (0, zR 30 0), (1, zI (nI r)), (2, zI (nI k)), (3, zI (oI sho))] [] (wSm f ki wh en re) := by
  intro q
  induction q with
  | zero =>
    intro i hi re h1 h2
    have e : i = 160 := by omega
    subst e
    refine fz_iload dX11_spread_38 rfl ?_
    refine fz_sipush (v := nI 160) dX11_spread_40 (by decide) ?_
    refine fz_icmp_ge (tgt := 157) dX11_spread_43 (by decide) (fun c43 => ?_) (fun c43 => ?_)
    · exact kk re h1 h2
    · exact absurd (by decide) c43
  | succ q ih =>
    intro i hi re h1 h2
    refine fz_iload dX11_spread_38 rfl ?_
    refine fz_sipush (v := nI 160) dX11_spread_40 (by decide) ?_
    refine fz_icmp_ge (tgt := 157) dX11_spread_43 (by decide) (fun c43 => ?_) (fun c43 => ?_)
    · exact absurd ((nI_leI (by omega) (by omega)).mp c43) (by omega)
    · skip
      refine fz_iload dX11_spread_46 rfl ?_
      refine fz_bipush (v := nI 80) dX11_spread_48 (by decide) ?_
      refine fz_irem dX11_spread_50 (by decide) ?_
      refine fz_top (y := nI (i % 80)) (pk_rem (by omega) (by omega) (by omega)) ?_
      refine fz_istore dX11_spread_51 (Nat.le_of_ble_eq_true rfl) ?_
      refine fz_iconst (v := nI 0) dX11_spread_53 (by decide) ?_
      refine fz_istore dX11_spread_54 (Nat.le_of_ble_eq_true rfl) ?_
      have hi2 : 80 * (i / 80) + i % 80 = i := by omega
      have key := lX11_spread_56 f ki wh en re0 E cn w rn kn h0 hw h80 hh hk hrn hf3 hf4 hf12 P te h r t k hr hf11 ht hk1 sho hsh R hR (i / 80) (i % 80) (by omega) (by omega) (fun re g1 g2 => by rw [hi2] at g2 ⊢; exact ih (i + 1) (by omega) re g1 g2) hlv 5 0 rfl re h1 (by rw [hi2]; exact h2) []
      rw [hi2] at key
      exact key
theorem lX11_spread_9 {G : fz_G} {E0 : Nat → fz_E} {Z : List Frame → Array Value → State → State → Prop} (f ki wh en re0 : Nat → Int32) (r k : Nat) (hk1 : k < 1000) (x3 : Int32)
    (kk : ∀ re, (∀ j, ¬ (160 * (k + 1) ≤ j ∧ j < 160 * (k + 2)) → re j = re0 j) → (∀ j, 160 * (k + 1) ≤ j → j < 160 * (k + 2) → re j = 0) → fz_J G mX11_spread rX11_spread Z E0 0 0 35 [(4, zI (nI (160 * (k + 2)))), (0, zR 30 0), (1, zI (nI r)), (2, zI (nI k)), (3, zI x3)] [] (wSm f ki wh en re)) :
    ∀ q i, 160 * (k + 1) ≤ i → i + q = 160 * (k + 2) → ∀ re, (∀ j, ¬ (160 * (k + 1) ≤ j ∧ j < 160 * (k + 2)) → re j = re0 j) → (∀ j, 160 * (k + 1) ≤ j → j < i → re j = 0) → fz_J G mX11_spread rX11_spread Z E0 0 0 9 [(4, zI (nI i)), (0, zR 30 0), (1, zI (nI r)), (2, zI (nI k)), (3, zI x3)] [] (wSm f ki wh en re) := by
  intro q
  induction q with
  | zero =>
    intro i hi hiq re h1 h2
    have e : i = 160 * (k + 2) := by omega
    subst e
    refine fz_iload dX11_spread_9 rfl ?_
    refine fz_sipush (v := nI 160) dX11_spread_11 (by decide) ?_
    refine fz_iload_n dX11_spread_14 rfl ?_
    refine fz_iconst (v := nI 2) dX11_spread_15 (by decide) ?_
    refine fz_iadd dX11_spread_16 ?_
    rw [nI_add]
    refine fz_imul dX11_spread_17 ?_
    rw [nI_mul]
    refine fz_icmp_ge (tgt := 35) dX11_spread_18 (by decide) (fun c18 => ?_) (fun c18 => ?_)
    · exact kk re h1 h2
    · exact absurd (nI_le (Nat.le_refl _) (by omega)) c18
  | succ q ih =>
    intro i hi hiq re h1 h2
    refine fz_iload dX11_spread_9 rfl ?_
    refine fz_sipush (v := nI 160) dX11_spread_11 (by decide) ?_
    refine fz_iload_n dX11_spread_14 rfl ?_
    refine fz_iconst (v := nI 2) dX11_spread_15 (by decide) ?_
    refine fz_iadd dX11_spread_16 ?_
    rw [nI_add]
    refine fz_imul dX11_spread_17 ?_
    rw [nI_mul]
    refine fz_icmp_ge (tgt := 35) dX11_spread_18 (by decide) (fun c18 => ?_) (fun c18 => ?_)
    · exact absurd ((nI_leI (by omega) (by omega)).mp c18) (by omega)
    · skip
      refine fz_aload_n dX11_spread_21 rfl ?_
      refine fz_get dX11_spread_22 fX11_88 rfl (Nat.one_pos) rfl ?_
      refine fz_iload dX11_spread_25 rfl ?_
      refine fz_iconst (v := nI 0) dX11_spread_27 (by decide) ?_
      refine fz_zast1 dX11_spread_28 rfl rfl (vp_in_nI (by omega) (by omega)) ?_
      rw [nI_clamp (by omega), nar0]
      refine fz_incN dX11_spread_29 rfl (Nat.le_of_ble_eq_true rfl) ?_
      refine fz_goto (tgt := 9) dX11_spread_32 (by decide) ?_
      refine ih (i + 1) (by omega) (by omega) _ (fun j hj => ?_) (fun j hj1 hj2 => ?_)
      · rw [pk_un (by omega)]; exact h1 j hj
      · by_cases e : j = i
        · rw [e, pk_us]
        · rw [pk_un e]; exact h2 j hj1 (by omega)
theorem tX11_spread {G : fz_G} (f ki wh en re0 : Nat → Int32) (E : Nat → Nat) (cn w rn : Nat) (kn : Nat → Nat) (h0 : 0 < w) (hw : w ≤ 10) (h80 : cn ≤ 80) (hh : ∃ h, cn = w * h) (hk : kiR cn kn ki) (hrn : rn ≤ 6) (hf3 : f 3 = nI cn) (hf4 : f 4 = nI w) (hf12 : f 12 = nI rn) (P : Nat → Nat → Nat) (te : Nat → Nat) (h : mtR E rn P te wh en) (r t k : Nat) (hr : r < 6) (hf11 : f 11 = nI t) (ht : t ≤ 4000) (hk1 : k < 1000) (sho : Option Nat) (hsh : ∀ x, sho = some x → x < 80) (s0 c0 : Nat) (hc0 : c0 < cn) (hk0 : ¬ kn c0 = 0) (hs0 : s0 < 2) (hlv : lvR re0 k (Rw cn w kn P rn r t sho s0 c0 k)) :
    fz_T G mX11_spread rX11_spread [zR 30 0, zI (nI r), zI (nI k), zI (oI sho)] (wSm f ki wh en re0) (fun x U => x = none ∧ ∃ re, (∀ j, ¬ (160 * (k + 1) ≤ j ∧ j < 160 * (k + 2)) → re j = re0 j) ∧ lvR re (k + 1) (Rw cn w kn P rn r t sho s0 c0 (k + 1)) ∧ U = wSm f ki wh en re) := by
  refine fz_T.of (by decide) (Nat.le_of_ble_eq_true rfl) (fun E0 => ?_)
  refine fz_sipush (v := nI 160) dX11_spread_0 (by decide) ?_
  refine fz_iload_n dX11_spread_3 rfl ?_
  refine fz_iconst (v := nI 1) dX11_spread_4 (by decide) ?_
  refine fz_iadd dX11_spread_5 ?_
  rw [nI_add]
  refine fz_imul dX11_spread_6 ?_
  refine fz_istore dX11_spread_7 (Nat.le_of_ble_eq_true rfl) ?_
  rw [nI_mul]
  have hin := fun s c hR => Rw_in (P := P) (rn := rn) (r := r) (t := t) (sho := sho) h0 hh hc0 hk0 hs0 k s c hR
  refine lX11_spread_9 f ki wh en re0 r k hk1 _ (fun re h1 h2 => ?_) 160 _ (Nat.le_refl _) (by omega) re0 (fun j _ => rfl) (fun j hj1 hj2 => by omega)
  refine fz_iconst (v := nI 0) dX11_spread_35 (by decide) ?_
  refine fz_istore dX11_spread_36 (Nat.le_of_ble_eq_true rfl) ?_
  have hlv2 : lvR re k (Rw cn w kn P rn r t sho s0 c0 k) := fun s c hs hc => by rw [h1 _ (by omega)]; exact hlv s c hs hc
  refine lX11_spread_38 f ki wh en re E cn w rn kn h0 hw h80 hh hk hrn hf3 hf4 hf12 P te h r t k hr hf11 ht hk1 sho hsh _ (fun s c hR => ⟨(hin s c hR).1, (hin s c hR).2.1⟩) hlv2 (fun re2 g1 g2 => ?_) 160 0 rfl re (fun j _ => rfl) (fun s d hs hd => ?_)
  · refine fz_vret dX11_spread_157 rfl (Nat.zero_le _) (Nat.zero_le _) ⟨rfl, re2, fun j hj => (g1 j hj).trans (h1 j hj), fun s d hs hd => bR_c (g2 s d hs hd) ⟨?_, ?_⟩, rfl⟩
    · rintro ⟨s', c', m', a1, a2, a3, a4, a5, a6, a7⟩
      exact ⟨s', c', m', a3, a5, a6, a7⟩
    · rintro ⟨s', c', m', a3, a5, a6, a7⟩
      obtain ⟨b1, b2, b3⟩ := hin s' c' a5
      exact ⟨s', c', m', b3, by omega, a3, Or.inl (by omega), a5, a6, a7⟩
  · rw [h2 _ (by omega) (by omega)]
    refine Or.inr ⟨rfl, ?_⟩
    rintro ⟨s', c', m', a1, a2, a3, a4, a5⟩
    omega
