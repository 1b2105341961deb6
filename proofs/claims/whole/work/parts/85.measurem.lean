/-! THE MODEL: measure -/
abbrev eKi (ki : Nat → Int32) : fz_E := zi 0 1 80 (fun _ => ki)
abbrev eFa (fa : Nat → Int32) : fz_E := zi 0 1 6400 (fun _ => fa)
abbrev wMs (f ki fa : Nat → Int32) : fz_W := [(30, eM f), (45, eKi ki), (49, eFa fa)]
/-- the row of a in far, the other rows as they were -/
def rwF (cn a : Nat) (fa0 : Nat → Int32) (F fa : Nat → Int32) : Prop := (∀ x, x < cn → fa (80 * a + x) = F x) ∧ ∀ i, ¬ (80 * a ≤ i ∧ i < 80 * a + cn) → fa i = fa0 i
theorem rwF_up {cn a : Nat} {fa0 F fa : Nat → Int32} {x : Nat} {v : Int32} (hx : x < cn) (h : rwF cn a fa0 F fa) : rwF cn a fa0 (upd F x v) (upd fa (80 * a + x) v) := by
  refine ⟨fun y hy => ?_, fun i hi => ?_⟩
  · by_cases e : y = x
    · rw [e, pk_us, pk_us]
    · rw [pk_un e, pk_un (by omega)]; exact h.1 y hy
  · rw [pk_un (by omega)]; exact h.2 i hi
theorem lX11_measure_71 {G : fz_G} {E0 : Nat → fz_E} {Z : List Frame → Array Value → State → State → Prop} (f ki fa0 : Nat → Int32) (cn w : Nat) (kn : Nat → Nat) (h0 : 0 < w) (hw : w ≤ 10) (h80 : cn ≤ 80) (hh : ∃ h, cn = w * h) (hf3 : f 3 = nI cn) (hf4 : f 4 = nI w) (hd : ∀ j, j < cn → ki j = nI (kn j) ∧ kn j < 10) (a : Nat) (ha : a < cn) (d : Nat) (hd1 : d < 1000) (u0 c : Nat) (hc : c < cn)
    (kk : ∀ F fa mo, rwF cn a fa0 F fa → cnt (fun x => decide (F x = -1)) cn ≤ u0 → msI cn w kn a d (c + 1) 1 F mo u0 → fz_J G mX11_measure rX11_measure Z E0 0 0 59 [(4, zI (nI (c + 1))), (3, zI (nI d)), (2, zI (nI mo)), (0, zR 30 0), (1, zI (nI a))] [] (wMs f ki fa)) :
    ∀ q m, 1 ≤ m → m + q = 5 → ∀ F fa mo, rwF cn a fa0 F fa → cnt (fun x => decide (F x = -1)) cn ≤ u0 → msI cn w kn a d c m F mo u0 → ∀ x6 : List (Nat × fz_V), fz_J G mX11_measure rX11_measure Z E0 0 0 71 ((5, zI (nI m)) :: (4, zI (nI c)) :: (3, zI (nI d)) :: (2, zI (nI mo)) :: (0, zR 30 0) :: (1, zI (nI a)) :: x6) [] (wMs f ki fa) := by
  intro q
  have out : ∀ m F fa mo, rwF cn a fa0 F fa → cnt (fun x => decide (F x = -1)) cn ≤ u0 → msI cn w kn a d c m F mo u0 → (5 ≤ m ∨ ¬ dsw cn w kn (exT true kn a) a c = some d) → fz_J G mX11_measure rX11_measure Z E0 0 0 163 [(5, zI (nI m)), (4, zI (nI c)), (3, zI (nI d)), (2, zI (nI mo)), (0, zR 30 0), (1, zI (nI a))] [] (wMs f ki fa) := by
    intro m F fa mo h1 h2 h3 h4
    refine fz_incN dX11_measure_163 rfl (Nat.le_of_ble_eq_true rfl) ?_
    refine fz_goto (tgt := 59) dX11_measure_166 (by decide) ?_
    refine fz_pk [0, 2, 3, 4, 5] rfl ?_
    exact kk F fa mo h1 h2 (msI_next h3 h4)
  induction q with
  | zero =>
    intro m hm1 hm F fa mo hr hu hI x6
    have e : m = 5 := by omega
    subst e
    refine fz_pk [0, 1, 2, 3, 4, 5] rfl ?_
    refine fz_iload dX11_measure_71 rfl ?_
    refine fz_iconst (v := nI 5) dX11_measure_73 (by decide) ?_
    refine fz_icmp_ge (tgt := 163) dX11_measure_74 (by decide) (fun c74 => ?_) (fun c74 => ?_)
    · exact out 5 F fa mo hr hu hI (Or.inl (Nat.le_refl _))
    · exact absurd (nI_le (Nat.le_refl _) (by omega)) c74
  | succ q ih =>
    intro m hm1 hm F fa mo hr hu hI x6
    refine fz_pk [0, 1, 2, 3, 4, 5] rfl ?_
    refine fz_iload dX11_measure_71 rfl ?_
    refine fz_iconst (v := nI 5) dX11_measure_73 (by decide) ?_
    refine fz_icmp_ge (tgt := 163) dX11_measure_74 (by decide) (fun c74 => ?_) (fun c74 => ?_)
    · exact absurd ((nI_leI (by omega) (by omega)).mp c74) (by omega)
    · skip
      refine fz_aload_n dX11_measure_77 rfl ?_
      refine fz_get dX11_measure_78 fX11_23 rfl (Nat.one_pos) rfl ?_
      refine fz_bipush (v := nI 80) dX11_measure_81 (by decide) ?_
      refine fz_iload_n dX11_measure_83 rfl ?_
      refine fz_imul dX11_measure_84 ?_
      refine fz_iload dX11_measure_85 rfl ?_
      rw [nI_mul]
      refine fz_iadd dX11_measure_87 ?_
      rw [nI_add]
      refine fz_iald dX11_measure_88 rfl rfl (Nat.one_pos) (vp_in_nI (by omega) (by omega)) ?_
      refine fz_iload_n dX11_measure_89 rfl ?_
      rw [nI_clamp (by omega), hr.1 c hc]
      refine fz_icmp_ne (tgt := 163) dX11_measure_90 (by decide) (fun c90 => ?_) (fun c90 => ?_)
      · refine out m F fa mo hr hu hI (Or.inr (fun hD => c90 ?_))
        exact hI.1 c d hc hD (Nat.le_refl _)
      · have hD := msI_val hI hd1 hc c90
        have next : ∀ F fa mo (x6 : Int32), rwF cn a fa0 F fa → cnt (fun x => decide (F x = -1)) cn ≤ u0 → msI cn w kn a d c (m + 1) F mo u0 → fz_J G mX11_measure rX11_measure Z E0 0 0 157 [(6, zI x6), (5, zI (nI m)), (4, zI (nI c)), (3, zI (nI d)), (2, zI (nI mo)), (0, zR 30 0), (1, zI (nI a))] [] (wMs f ki fa) := by
          intro F fa mo x6 g1 g2 g3
          refine fz_incN dX11_measure_157 rfl (Nat.le_of_ble_eq_true rfl) ?_
          refine fz_goto (tgt := 71) dX11_measure_160 (by decide) ?_
          refine fz_pk [0, 2, 3, 4, 5, 6] rfl ?_
          exact ih (m + 1) (by omega) (by omega) F fa mo g1 g2 g3 []
        refine fz_iload dX11_measure_93 rfl ?_
        refine fz_iload dX11_measure_95 rfl ?_
        refine fz_aload_n dX11_measure_97 rfl ?_
        refine fz_get dX11_measure_98 fX11_135 rfl (Nat.one_pos) rfl ?_
        refine fz_aload_n dX11_measure_101 rfl ?_
        refine fz_get dX11_measure_102 fX11_132 rfl (Nat.one_pos) rfl ?_
        rw [hf3, hf4]
        refine fz_callS (tX11_beside c m w cn (by omega) (by omega) h0 hw h80) dX11_measure_105 kX11_113 trivial (Nat.le_of_ble_eq_true rfl) (Nat.le_of_ble_eq_true rfl) (Nat.le_of_ble_eq_true rfl) (Nat.le_of_ble_eq_true rfl) (Nat.le_of_ble_eq_true rfl) rfl (fun r U hq => ?_)
        obtain ⟨rfl, rfl⟩ := hq
        refine fz_back rfl ?_
        refine fz_wo (V' := wMs f ki fa) rfl ?_
        refine fz_istore dX11_measure_108 (Nat.le_of_ble_eq_true rfl) ?_
        refine fz_iload dX11_measure_110 rfl ?_
        cases hn : nx cn w c m with
        | none =>
          refine fz_if_lt (tgt := 157) dX11_measure_112 (by decide) (fun c112 => ?_) (fun c112 => ?_)
          · exact next F fa mo _ hr hu (msI_skip hI (fun x hx => by rw [hn] at hx; cases hx))
          · exact absurd (by decide) c112
        | some x =>
          have hxl := nx_lt h0 hh hc hn
          obtain ⟨d1, d2⟩ := hd x hxl
          refine fz_if_lt (tgt := 157) dX11_measure_112 (by decide) (fun c112 => ?_) (fun c112 => ?_)
          · exact absurd c112 (nI_pos (by omega))
          · skip
            refine fz_aload_n dX11_measure_115 rfl ?_
            refine fz_get dX11_measure_116 fX11_17 rfl (Nat.one_pos) rfl ?_
            refine fz_iload dX11_measure_119 rfl ?_
            refine fz_top (y := nI x) rfl ?_
            refine fz_iald dX11_measure_121 rfl rfl (Nat.one_pos) (vp_in_nI (by omega) (by omega)) ?_
            rw [nI_clamp (by omega), d1]
            refine fz_if_eq (tgt := 157) dX11_measure_122 (by decide) (fun c122 => ?_) (fun c122 => ?_)
            · have hk0 : kn x = 0 := (nI_eq (by omega) (by omega)).mp (c122.trans nI_0.symm)
              exact next F fa mo _ hr hu (msI_skip hI (fun y hy hk => by rw [hn] at hy; cases hy; exact absurd hk0 hk))
            · have hk0 : ¬ kn x = 0 := fun z => c122 (by rw [z]; exact nI_0)
              refine fz_aload_n dX11_measure_125 rfl ?_
              refine fz_get dX11_measure_126 fX11_23 rfl (Nat.one_pos) rfl ?_
              refine fz_bipush (v := nI 80) dX11_measure_129 (by decide) ?_
              refine fz_iload_n dX11_measure_131 rfl ?_
              refine fz_imul dX11_measure_132 ?_
              rw [nI_mul]
              refine fz_iload dX11_measure_133 rfl ?_
              refine fz_top (y := nI x) rfl ?_
              refine fz_iadd dX11_measure_135 ?_
              rw [nI_add]
              refine fz_iald dX11_measure_136 rfl rfl (Nat.one_pos) (vp_in_nI (by omega) (by omega)) ?_
              rw [nI_clamp (by omega), hr.1 x hxl]
              refine fz_if_ge (tgt := 157) dX11_measure_137 (by decide) (fun c137 => ?_) (fun c137 => ?_)
              · refine next F fa mo _ hr hu (msI_skip hI (fun y hy hk hF => ?_))
                rw [hn] at hy
                cases hy
                rw [hF] at c137
                exact absurd c137 (by decide)
              · have hF : F x = -1 := by
                  by_cases hk : ∃ k, dsw cn w kn (exT true kn a) a x = some k ∧ k ≤ d
                  · obtain ⟨k, g1, g2⟩ := hk
                    rw [hI.1 x k hxl g1 g2] at c137
                    exact absurd (Int32.not_lt.mp (nI_pos (by omega))) c137
                  · rcases hI.2.1 x hxl (fun k hk2 => by
                      rcases Nat.lt_or_ge d k with z | z
                      · exact z
                      · exact absurd ⟨k, hk2, z⟩ hk) with z | z
                    · exact z
                    · rw [z.1] at c137
                      exact absurd (Int32.not_lt.mp (nI_pos (by omega))) c137
                refine fz_aload_n dX11_measure_140 rfl ?_
                refine fz_get dX11_measure_141 fX11_23 rfl (Nat.one_pos) rfl ?_
                refine fz_bipush (v := nI 80) dX11_measure_144 (by decide) ?_
                refine fz_iload_n dX11_measure_146 rfl ?_
                refine fz_imul dX11_measure_147 ?_
                rw [nI_mul]
                refine fz_iload dX11_measure_148 rfl ?_
                refine fz_top (y := nI x) rfl ?_
                refine fz_iadd dX11_measure_150 ?_
                rw [nI_add]
                refine fz_iload_n dX11_measure_151 rfl ?_
                refine fz_iconst (v := nI 1) dX11_measure_152 (by decide) ?_
                refine fz_iadd dX11_measure_153 ?_
                rw [nI_add]
                refine fz_iast1 dX11_measure_154 rfl rfl (vp_in_nI (by omega) (by omega)) ?_
                rw [nI_clamp (by omega)]
                refine fz_iconst (v := nI 1) dX11_measure_155 (by decide) ?_
                refine fz_istore_n dX11_measure_156 (Nat.le_of_ble_eq_true rfl) ?_
                refine fz_pk [1, 2, 3, 4, 0, 5, 6] rfl ?_
                have hA := msI_add h0 hh ha hd1 hI hu hD hm1 (by omega) hn hk0 hF
                refine next _ _ 1 _ (rwF_up hxl hr) ?_ hA
                rcases hA.2.2.2 with ⟨z, _⟩ | ⟨_, z⟩
                · omega
                · omega
theorem lX11_measure_59 {G : fz_G} {E0 : Nat → fz_E} {Z : List Frame → Array Value → State → State → Prop} (f ki fa0 : Nat → Int32) (cn w : Nat) (kn : Nat → Nat) (h0 : 0 < w) (hw : w ≤ 10) (h80 : cn ≤ 80) (hh : ∃ h, cn = w * h) (hf3 : f 3 = nI cn) (hf4 : f 4 = nI w) (hd : ∀ j, j < cn → ki j = nI (kn j) ∧ kn j < 10) (a : Nat) (ha : a < cn) (d : Nat) (hd1 : d < 1000) (u0 : Nat)
    (kk : ∀ F fa mo, rwF cn a fa0 F fa → msI cn w kn a d cn 1 F mo u0 → fz_J G mX11_measure rX11_measure Z E0 0 0 50 [(3, zI (nI (d + 1))), (2, zI (nI mo)), (0, zR 30 0), (1, zI (nI a))] [] (wMs f ki fa)) :
    ∀ q c, c + q = cn → ∀ F fa mo, rwF cn a fa0 F fa → cnt (fun x => decide (F x = -1)) cn ≤ u0 → msI cn w kn a d c 1 F mo u0 → fz_J G mX11_measure rX11_measure Z E0 0 0 59 [(4, zI (nI c)), (3, zI (nI d)), (2, zI (nI mo)), (0, zR 30 0), (1, zI (nI a))] [] (wMs f ki fa) := by
  intro q
  induction q with
  | zero =>
    intro c hc F fa mo hr hu hI
    have e : c = cn := by omega
    subst e
    refine fz_iload dX11_measure_59 rfl ?_
    refine fz_aload_n dX11_measure_61 rfl ?_
    refine fz_get dX11_measure_62 fX11_132 rfl (Nat.one_pos) rfl ?_
    rw [hf3]
    refine fz_icmp_ge (tgt := 169) dX11_measure_65 (by decide) (fun c65 => ?_) (fun c65 => ?_)
    · skip
      refine fz_incN dX11_measure_169 rfl (Nat.le_of_ble_eq_true rfl) ?_
      refine fz_goto (tgt := 50) dX11_measure_172 (by decide) ?_
      refine fz_pk [0, 2, 3, 4] rfl ?_
      exact kk F fa mo hr hI
    · exact absurd (nI_le (Nat.le_refl _) (by omega)) c65
  | succ q ih =>
    intro c hc F fa mo hr hu hI
    refine fz_iload dX11_measure_59 rfl ?_
    refine fz_aload_n dX11_measure_61 rfl ?_
    refine fz_get dX11_measure_62 fX11_132 rfl (Nat.one_pos) rfl ?_
    rw [hf3]
    refine fz_icmp_ge (tgt := 169) dX11_measure_65 (by decide) (fun c65 => ?_) (fun c65 => ?_)
    · exact absurd ((nI_leI (by omega) (by omega)).mp c65) (by omega)
    · skip
      refine fz_iconst (v := nI 1) dX11_measure_68 (by decide) ?_
      refine fz_istore dX11_measure_69 (Nat.le_of_ble_eq_true rfl) ?_
      exact lX11_measure_71 f ki fa0 cn w kn h0 hw h80 hh hf3 hf4 hd a ha d hd1 u0 c (by omega) (fun F fa mo g1 g2 g3 => ih (c + 1) (by omega) F fa mo g1 g2 g3) 4 1 (by omega) (by omega) F fa mo hr hu hI []
theorem lX11_measure_50 {G : fz_G} {E0 : Nat → fz_E} (f ki fa0 : Nat → Int32) (cn w : Nat) (kn : Nat → Nat) (h0 : 0 < w) (hw : w ≤ 10) (h80 : cn ≤ 80) (hh : ∃ h, cn = w * h) (hf3 : f 3 = nI cn) (hf4 : f 4 = nI w) (hd : ∀ j, j < cn → ki j = nI (kn j) ∧ kn j < 10) (a : Nat) (ha : a < cn) :
    ∀ q d, d + q ≤ 900 → ∀ F fa, cnt (fun x => decide (F x = -1)) cn ≤ q → rwF cn a fa0 F fa → msX cn w kn a d F → fz_J G mX11_measure rX11_measure (fz_Z G E0 rX11_measure.cells rX11_measure.slots (fun r U => r = none ∧ ∃ fa, rwF cn a fa0 (fun x => dsF cn w kn a x) fa ∧ U = wMs f ki fa)) E0 0 0 50 [(3, zI (nI d)), (2, zI (nI 1)), (0, zR 30 0), (1, zI (nI a))] [] (wMs f ki fa) := by
  intro q
  have pass : ∀ d F fa, d < 1000 → rwF cn a fa0 F fa → msX cn w kn a d F → (∀ F' fa', rwF cn a fa0 F' fa' → msX cn w kn a (d + 1) F' → cnt (fun x => decide (F' x = -1)) cn < cnt (fun x => decide (F x = -1)) cn → fz_J G mX11_measure rX11_measure (fz_Z G E0 rX11_measure.cells rX11_measure.slots (fun r U => r = none ∧ ∃ fa, rwF cn a fa0 (fun x => dsF cn w kn a x) fa ∧ U = wMs f ki fa)) E0 0 0 50 [(3, zI (nI (d + 1))), (2, zI (nI 1)), (0, zR 30 0), (1, zI (nI a))] [] (wMs f ki fa')) → fz_J G mX11_measure rX11_measure (fz_Z G E0 rX11_measure.cells rX11_measure.slots (fun r U => r = none ∧ ∃ fa, rwF cn a fa0 (fun x => dsF cn w kn a x) fa ∧ U = wMs f ki fa)) E0 0 0 50 [(3, zI (nI d)), (2, zI (nI 1)), (0, zR 30 0), (1, zI (nI a))] [] (wMs f ki fa) := by
    intro d F fa hd1 hr hX hmore
    refine fz_iload_n dX11_measure_50 rfl ?_
    refine fz_if_eq (tgt := 175) dX11_measure_51 (by decide) (fun c51 => ?_) (fun c51 => ?_)
    · exact absurd c51 (by decide)
    · skip
      refine fz_iconst (v := nI 0) dX11_measure_54 (by decide) ?_
      refine fz_istore_n dX11_measure_55 (Nat.le_of_ble_eq_true rfl) ?_
      refine fz_iconst (v := nI 0) dX11_measure_56 (by decide) ?_
      refine fz_istore dX11_measure_57 (Nat.le_of_ble_eq_true rfl) ?_
      refine fz_pk [0, 2, 1, 3, 4] rfl ?_
      refine lX11_measure_59 f ki fa0 cn w kn h0 hw h80 hh hf3 hf4 hd a ha d hd1 (cnt (fun x => decide (F x = -1)) cn) (fun F' fa' mo g1 g2 => ?_) cn 0 (by omega) F fa 0 hr (Nat.le_refl _) ⟨hX.1, fun x hx hk => Or.inl (hX.2 x hx hk), fun c' m' x hcm => ?_, Or.inl ⟨rfl, hX.2⟩⟩
      · rcases msI_end h0 hh ha g2 with ⟨rfl, h2⟩ | ⟨rfl, h2, h3⟩
        · skip
          refine fz_iload_n dX11_measure_50 rfl ?_
          refine fz_if_eq (tgt := 175) dX11_measure_51 (by decide) (fun c51b => ?_) (fun c51b => ?_)
          · skip
            refine fz_vret dX11_measure_175 rfl (Nat.zero_le _) (Nat.zero_le _) ⟨rfl, fa', ⟨fun x hx => by rw [g1.1 x hx, h2 x hx], g1.2⟩, rfl⟩
          · exact absurd (by decide) c51b
        · exact hmore F' fa' g1 h2 h3
      · intro h1
        omega
  induction q with
  | zero =>
    intro d hdq F fa hu hr hX
    exact pass d F fa (by omega) hr hX (fun F' fa' g1 g2 g3 => by omega)
  | succ q ih =>
    intro d hdq F fa hu hr hX
    exact pass d F fa (by omega) hr hX (fun F' fa' g1 g2 g3 => ih (d + 1) (by omega) F' fa' (by omega) g1 g2)
theorem lX11_measure_2 {G : fz_G} {E0 : Nat → fz_E} {Z : List Frame → Array Value → State → State → Prop} (f ki fa0 : Nat → Int32) (cn : Nat) (kn : Nat → Nat) (h80 : cn ≤ 80) (hf3 : f 3 = nI cn) (hd : ∀ j, j < cn → ki j = nI (kn j) ∧ kn j < 10) (a : Nat) (ha : a < cn) (kk : ∀ fa, rwF cn a fa0 (fun x => if x = a ∧ ¬ kn a = 0 then nI 0 else -1) fa → fz_J G mX11_measure rX11_measure Z E0 0 0 46 [(2, zI (nI cn)), (0, zR 30 0), (1, zI (nI a))] [] (wMs f ki fa)) :
    ∀ q c, c + q = cn → ∀ fa : Nat → Int32, (∀ x, x < c → fa (80 * a + x) = if x = a ∧ ¬ kn a = 0 then nI 0 else -1) → (∀ i, ¬ (80 * a ≤ i ∧ i < 80 * a + cn) → fa i = fa0 i) → fz_J G mX11_measure rX11_measure Z E0 0 0 2 [(2, zI (nI c)), (0, zR 30 0), (1, zI (nI a))] [] (wMs f ki fa) := by
  intro q
  induction q with
  | zero =>
    intro c hc fa h1 h2
    have e : c = cn := by omega
    subst e
    refine fz_iload_n dX11_measure_2 rfl ?_
    refine fz_aload_n dX11_measure_3 rfl ?_
    refine fz_get dX11_measure_4 fX11_132 rfl (Nat.one_pos) rfl ?_
    rw [hf3]
    refine fz_icmp_ge (tgt := 46) dX11_measure_7 (by decide) (fun c7 => ?_) (fun c7 => ?_)
    · exact kk fa ⟨h1, h2⟩
    · exact absurd (nI_le (Nat.le_refl _) (by omega)) c7
  | succ q ih =>
    intro c hc fa h1 h2
    obtain ⟨d1, d2⟩ := hd c (by omega)
    have step : ∀ v : Int32, v = (if c = a ∧ ¬ kn a = 0 then nI 0 else -1) → fz_J G mX11_measure rX11_measure Z E0 0 0 39 [(2, zI (nI c)), (0, zR 30 0), (1, zI (nI a))] [zI v, zI (nI (80 * a + c)), zR 49 0] (wMs f ki fa) := by
      intro v hv
      refine fz_iast1 dX11_measure_39 rfl rfl (vp_in_nI (by omega) (by omega)) ?_
      rw [nI_clamp (by omega)]
      refine fz_incN dX11_measure_40 rfl (Nat.le_of_ble_eq_true rfl) ?_
      refine fz_goto (tgt := 2) dX11_measure_43 (by decide) ?_
      refine ih (c + 1) (by omega) _ (fun x hx => ?_) (fun i hi => ?_)
      · by_cases e : x = c
        · rw [e, pk_us]; exact hv
        · rw [pk_un (by omega)]; exact h1 x (by omega)
      · rw [pk_un (by omega)]; exact h2 i hi
    refine fz_iload_n dX11_measure_2 rfl ?_
    refine fz_aload_n dX11_measure_3 rfl ?_
    refine fz_get dX11_measure_4 fX11_132 rfl (Nat.one_pos) rfl ?_
    rw [hf3]
    refine fz_icmp_ge (tgt := 46) dX11_measure_7 (by decide) (fun c7 => ?_) (fun c7 => ?_)
    · exact absurd ((nI_leI (by omega) (by omega)).mp c7) (by omega)
    · skip
      refine fz_aload_n dX11_measure_10 rfl ?_
      refine fz_get dX11_measure_11 fX11_23 rfl (Nat.one_pos) rfl ?_
      refine fz_bipush (v := nI 80) dX11_measure_14 (by decide) ?_
      refine fz_iload_n dX11_measure_16 rfl ?_
      refine fz_imul dX11_measure_17 ?_
      rw [nI_mul]
      refine fz_iload_n dX11_measure_18 rfl ?_
      refine fz_iadd dX11_measure_19 ?_
      rw [nI_add]
      refine fz_iload_n dX11_measure_20 rfl ?_
      refine fz_iload_n dX11_measure_21 rfl ?_
      refine fz_icmp_ne (tgt := 38) dX11_measure_22 (by decide) (fun c22 => ?_) (fun c22 => ?_)
      · have hca : ¬ c = a := fun z => c22 (by rw [z])
        refine fz_iconst (v := -1) dX11_measure_38 (by decide) ?_
        exact step _ (by rw [if_neg (fun z => hca z.1)])
      · have hca : c = a := (nI_eq (by omega) (by omega)).mp c22
        refine fz_aload_n dX11_measure_25 rfl ?_
        refine fz_get dX11_measure_26 fX11_17 rfl (Nat.one_pos) rfl ?_
        refine fz_iload_n dX11_measure_29 rfl ?_
        refine fz_iald dX11_measure_30 rfl rfl (Nat.one_pos) (vp_in_nI (by omega) (by omega)) ?_
        rw [nI_clamp (by omega), d1]
        refine fz_if_eq (tgt := 38) dX11_measure_31 (by decide) (fun c31 => ?_) (fun c31 => ?_)
        · have hk0 : kn c = 0 := (nI_eq (by omega) (by omega)).mp (c31.trans nI_0.symm)
          refine fz_iconst (v := -1) dX11_measure_38 (by decide) ?_
          exact step _ (by rw [if_neg (fun z => z.2 (by rw [← hca]; exact hk0))])
        · have hk0 : ¬ kn c = 0 := fun z => c31 (by rw [z]; exact nI_0)
          refine fz_iconst (v := nI 0) dX11_measure_34 (by decide) ?_
          refine fz_goto (tgt := 39) dX11_measure_35 (by decide) ?_
          exact step _ (by rw [if_pos ⟨hca, by rw [← hca]; exact hk0⟩])
theorem tX11_measure {G : fz_G} (f ki fa0 : Nat → Int32) (cn w : Nat) (kn : Nat → Nat) (h0 : 0 < w) (hw : w ≤ 10) (h80 : cn ≤ 80) (hh : ∃ h, cn = w * h) (hf3 : f 3 = nI cn) (hf4 : f 4 = nI w) (hd : ∀ j, j < cn → ki j = nI (kn j) ∧ kn j < 10) (a : Nat) (ha : a < cn) :
    fz_T G mX11_measure rX11_measure [zR 30 0, zI (nI a)] (wMs f ki fa0) (fun r U => r = none ∧ ∃ fa, rwF cn a fa0 (fun x => dsF cn w kn a x) fa ∧ U = wMs f ki fa) := by
  refine fz_T.of (by decide) (Nat.le_of_ble_eq_true rfl) (fun E0 => ?_)
  refine fz_iconst (v := nI 0) dX11_measure_0 (by decide) ?_
  refine fz_istore_n dX11_measure_1 (Nat.le_of_ble_eq_true rfl) ?_
  refine lX11_measure_2 f ki fa0 cn kn h80 hf3 hd a ha (fun fa hr => ?_) cn 0 (by omega) fa0 (fun x hx => by omega) (fun i _ => rfl)
  refine fz_iconst (v := nI 1) dX11_measure_46 (by decide) ?_
  refine fz_istore_n dX11_measure_47 (Nat.le_of_ble_eq_true rfl) ?_
  refine fz_iconst (v := nI 0) dX11_measure_48 (by decide) ?_
  refine fz_istore_n dX11_measure_49 (Nat.le_of_ble_eq_true rfl) ?_
  have hcl : cnt (fun x => decide ((fun x => if x = a ∧ ¬ kn a = 0 then nI 0 else (-1 : Int32)) x = -1)) cn ≤ cn := cnt_le _ _
  refine lX11_measure_50 f ki fa0 cn w kn h0 hw h80 hh hf3 hf4 hd a ha cn 0 (by omega) _ fa hcl hr ⟨fun x k hx hk hk0 => ?_, fun x hx hk => ?_⟩
  · have e : k = 0 := by omega
    subst e
    obtain ⟨e1, e2⟩ := D_0.mp hk
    show (if x = a ∧ ¬ kn a = 0 then nI 0 else -1) = nI 0
    rw [if_pos ⟨e2, e1⟩]
  · show (if x = a ∧ ¬ kn a = 0 then nI 0 else -1) = -1
    rw [if_neg]
    rintro ⟨e1, e2⟩
    have := hk 0 (D_0.mpr ⟨e2, e1⟩)
    omega
