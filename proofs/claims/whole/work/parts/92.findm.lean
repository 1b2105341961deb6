/-! THE MODEL: findWay -/
theorem lX11_find_39 {G : fz_G} {E0 : Nat → fz_E} {Z : List Frame → Array Value → State → State → Prop} (f ki wh en le : Nat → Int32) (s0 c0 : Nat) (hs0 : s0 < 2) (hc0 : c0 < 80) (ls : List (Nat × fz_V))
    (x1 x2 x3 x5 : fz_V) (kk : ∀ re, lvR re 0 (fun s d => s = s0 ∧ d = c0) → fz_J G mX11_findWay rX11_findWay Z E0 0 0 78 [(7, zI (nI 160)), (6, zI (nI s0)), (5, x5), (4, zI (nI c0)), (0, zR 30 0), (1, x1), (2, x2), (3, x3)] [] (wTr f ki wh en re le)) :
    ∀ q i, i + q = 160 → ∀ re : Nat → Int32, (∀ s d, s < 2 → d < 80 → 80 * s + d < i → bR (re (160 * 0 + 80 * s + d)) (s = s0 ∧ d = c0)) → fz_J G mX11_findWay rX11_findWay Z E0 0 0 39 [(7, zI (nI i)), (6, zI (nI s0)), (5, x5), (4, zI (nI c0)), (0, zR 30 0), (1, x1), (2, x2), (3, x3)] [] (wTr f ki wh en re le) := by
  intro q
  induction q with
  | zero =>
    intro i hi re h
    have e : i = 160 := by omega
    subst e
    refine fz_iload dX11_findWay_39 rfl ?_
    refine fz_sipush (v := nI 160) dX11_findWay_41 (by decide) ?_
    refine fz_icmp_ge (tgt := 78) dX11_findWay_44 (by decide) (fun c44 => ?_) (fun c44 => ?_)
    · exact kk re (fun s d hs hd => h s d hs hd (by omega))
    · exact absurd (by decide) c44
  | succ q ih =>
    intro i hi re h
    have step : ∀ v : Int32, bR v (i = 80 * s0 + c0) → fz_J G mX11_findWay rX11_findWay Z E0 0 0 71 [(7, zI (nI i)), (6, zI (nI s0)), (5, x5), (4, zI (nI c0)), (0, zR 30 0), (1, x1), (2, x2), (3, x3)] [zI v, zI (nI i), zR 77 0] (wTr f ki wh en re le) := by
      intro v hv
      refine fz_zast1 dX11_findWay_71 rfl rfl (vp_in_nI (by omega) (by omega)) ?_
      rw [nI_clamp (by omega), bR_nar hv]
      refine fz_incN dX11_findWay_72 rfl (Nat.le_of_ble_eq_true rfl) ?_
      refine fz_goto (tgt := 39) dX11_findWay_75 (by decide) ?_
      refine ih (i + 1) (by omega) _ (fun s d hs hd hsd => ?_)
      by_cases e : 80 * s + d = i
      · rw [show 160 * 0 + 80 * s + d = i by omega, pk_us]
        exact bR_c hv (by omega)
      · rw [pk_un (by omega)]; exact h s d hs hd (by omega)
    refine fz_iload dX11_findWay_39 rfl ?_
    refine fz_sipush (v := nI 160) dX11_findWay_41 (by decide) ?_
    refine fz_icmp_ge (tgt := 78) dX11_findWay_44 (by decide) (fun c44 => ?_) (fun c44 => ?_)
    · exact absurd ((nI_leI (by omega) (by omega)).mp c44) (by omega)
    · skip
      refine fz_aload_n dX11_findWay_47 rfl ?_
      refine fz_get dX11_findWay_48 fX11_88 rfl (Nat.one_pos) rfl ?_
      refine fz_iload dX11_findWay_51 rfl ?_
      refine fz_iload dX11_findWay_53 rfl ?_
      refine fz_iconst (v := nI 0) dX11_findWay_55 (by decide) ?_
      refine fz_iload dX11_findWay_56 rfl ?_
      refine fz_iload dX11_findWay_58 rfl ?_
      refine fz_callS (tX11_state 0 s0 c0 hs0) dX11_findWay_60 kX11_189 trivial (Nat.le_of_ble_eq_true rfl) (Nat.le_of_ble_eq_true rfl) (Nat.le_of_ble_eq_true rfl) (Nat.le_of_ble_eq_true rfl) (Nat.le_of_ble_eq_true rfl) rfl (fun r U hq => ?_)
      obtain ⟨rfl, rfl⟩ := hq
      refine fz_back rfl ?_
      refine fz_wo (V' := wTr f ki wh en re le) rfl ?_
      refine fz_icmp_ne (tgt := 70) dX11_findWay_63 (by decide) (fun c63 => ?_) (fun c63 => ?_)
      · have hne : ¬ i = 80 * s0 + c0 := fun z => c63 (by rw [z]; congr 1; omega)
        refine fz_iconst (v := nI 0) dX11_findWay_70 (by decide) ?_
        exact step _ (Or.inr ⟨rfl, hne⟩)
      · have he := (nI_eq (by omega) (by omega)).mp c63
        refine fz_iconst (v := nI 1) dX11_findWay_66 (by decide) ?_
        refine fz_goto (tgt := 71) dX11_findWay_67 (by decide) ?_
        exact step _ (Or.inl ⟨rfl, by omega⟩)
theorem lX11_find_142 {G : fz_G} {E0 : Nat → fz_E} {Z : List Frame → Array Value → State → State → Prop} (f ki wh en re : Nat → Int32) (L goal : Nat) (hL : L < 1000) (hg : goal < 80) (x0 x1 x2 x4 x5 x6 : fz_V)
    (kk : ∀ le, lvR le L (fun s d => s = 1 ∧ d = goal) → fz_J G mX11_findWay rX11_findWay Z E0 0 0 184 [(8, zI (nI 160)), (7, zI (nI L)), (6, x6), (5, x5), (4, x4), (0, zR 30 0), (1, x1), (2, x2), (3, zI (nI goal))] [] (wTr f ki wh en re le)) :
    ∀ q i, i + q = 160 → ∀ le : Nat → Int32, (∀ s d, s < 2 → d < 80 → 80 * s + d < i → bR (le (160 * L + 80 * s + d)) (s = 1 ∧ d = goal)) → fz_J G mX11_findWay rX11_findWay Z E0 0 0 142 [(8, zI (nI i)), (7, zI (nI L)), (6, x6), (5, x5), (4, x4), (0, zR 30 0), (1, x1), (2, x2), (3, zI (nI goal))] [] (wTr f ki wh en re le) := by
  intro q
  induction q with
  | zero =>
    intro i hi le h
    have e : i = 160 := by omega
    subst e
    refine fz_iload dX11_findWay_142 rfl ?_
    refine fz_sipush (v := nI 160) dX11_findWay_144 (by decide) ?_
    refine fz_icmp_ge (tgt := 184) dX11_findWay_147 (by decide) (fun c147 => ?_) (fun c147 => ?_)
    · exact kk le (fun s d hs hd => h s d hs hd (by omega))
    · exact absurd (by decide) c147
  | succ q ih =>
    intro i hi le h
    have step : ∀ v : Int32, bR v (i = 80 + goal) → fz_J G mX11_findWay rX11_findWay Z E0 0 0 177 [(8, zI (nI i)), (7, zI (nI L)), (6, x6), (5, x5), (4, x4), (0, zR 30 0), (1, x1), (2, x2), (3, zI (nI goal))] [zI v, zI (nI (160 * L + i)), zR 78 0] (wTr f ki wh en re le) := by
      intro v hv
      refine fz_zast1 dX11_findWay_177 rfl rfl (vp_in_nI (by omega) (by omega)) ?_
      rw [nI_clamp (by omega), bR_nar hv]
      refine fz_incN dX11_findWay_178 rfl (Nat.le_of_ble_eq_true rfl) ?_
      refine fz_goto (tgt := 142) dX11_findWay_181 (by decide) ?_
      refine ih (i + 1) (by omega) _ (fun s d hs hd hsd => ?_)
      by_cases e : 80 * s + d = i
      · rw [show 160 * L + 80 * s + d = 160 * L + i by omega, pk_us]
        exact bR_c hv (by omega)
      · rw [pk_un (by omega)]; exact h s d hs hd (by omega)
    refine fz_iload dX11_findWay_142 rfl ?_
    refine fz_sipush (v := nI 160) dX11_findWay_144 (by decide) ?_
    refine fz_icmp_ge (tgt := 184) dX11_findWay_147 (by decide) (fun c147 => ?_) (fun c147 => ?_)
    · exact absurd ((nI_leI (by omega) (by omega)).mp c147) (by omega)
    · skip
      refine fz_aload_n dX11_findWay_150 rfl ?_
      refine fz_get dX11_findWay_151 fX11_91 rfl (Nat.one_pos) rfl ?_
      refine fz_sipush (v := nI 160) dX11_findWay_154 (by decide) ?_
      refine fz_iload dX11_findWay_157 rfl ?_
      refine fz_imul dX11_findWay_159 ?_
      rw [nI_mul]
      refine fz_iload dX11_findWay_160 rfl ?_
      refine fz_iadd dX11_findWay_162 ?_
      rw [nI_add]
      refine fz_iload dX11_findWay_163 rfl ?_
      refine fz_bipush (v := nI 80) dX11_findWay_165 (by decide) ?_
      refine fz_iload_n dX11_findWay_167 rfl ?_
      refine fz_iadd dX11_findWay_168 ?_
      rw [nI_add]
      refine fz_icmp_ne (tgt := 176) dX11_findWay_169 (by decide) (fun c169 => ?_) (fun c169 => ?_)
      · have hne : ¬ i = 80 + goal := fun z => c169 (by rw [z])
        refine fz_iconst (v := nI 0) dX11_findWay_176 (by decide) ?_
        exact step _ (Or.inr ⟨rfl, hne⟩)
      · have he := (nI_eq (by omega) (by omega)).mp c169
        refine fz_iconst (v := nI 1) dX11_findWay_172 (by decide) ?_
        refine fz_goto (tgt := 177) dX11_findWay_173 (by decide) ?_
        exact step _ (Or.inl ⟨rfl, he⟩)
/-- what findWay leaves -/
def fwQ (cn w : Nat) (kn : Nat → Nat) (P : Nat → Nat → Nat) (te : Nat → Nat) (rn r t : Nat) (sho : Option Nat) (goal : Nat) (f wh en : Nat → Int32) (wy lg : Nat) (f' wh' en' : Nat → Int32) : Prop := ∃ L p, isWy cn w kn P te rn r t sho goal L p ∧ whQ wh r t L p wh' ∧ en' = upd en r (nI (t + L)) ∧ f' = upd (upd f 20 (nI (wy + 1))) 21 (nI (max lg L))
theorem lX11_find_190 {G : fz_G} {E0 : Nat → fz_E} {Z : List Frame → Array Value → State → State → Prop} (f ki wh en re : Nat → Int32) (E : Nat → Nat) (cn w rn : Nat) (kn : Nat → Nat) (h0 : 0 < w) (hw : w ≤ 10) (h80 : cn ≤ 80) (hh : ∃ h, cn = w * h) (hk : kiR cn kn ki) (hrn : rn ≤ 6) (hf3 : f 3 = nI cn) (hf4 : f 4 = nI w) (hf12 : f 12 = nI rn) (P : Nat → Nat → Nat) (te : Nat → Nat) (h : mtR E rn P te wh en) (r t : Nat) (hr : r < rn) (hf11 : f 11 = nI t) (ht : t ≤ 4000) (sho : Option Nat) (hsh : ∀ x, sho = some x → x < 80) (s0 c0 goal L : Nat) (hL1 : L < 1000) (hc0 : c0 < cn) (hk0 : ¬ kn c0 = 0) (hs0 : s0 < 2) (hlv : ∀ k, k ≤ L → lvR re k (Rw cn w kn P rn r t sho s0 c0 k)) (x4 x5 x6 : fz_V)
    (kk : ∀ le x8, (∀ k, k ≤ L → lvR le k (Lw cn w kn P rn r t sho s0 c0 goal L (L - k))) → fz_J G mX11_findWay rX11_findWay Z E0 0 0 209 [(8, x8), (7, zI (nI L)), (6, x6), (5, x5), (4, x4), (0, zR 30 0), (1, zI (nI r)), (2, zI (oI sho)), (3, zI (nI goal))] [] (wTr f ki wh en re le)) :
    ∀ y, y ≤ L → ∀ le, (∀ k, y ≤ k → k ≤ L → lvR le k (Lw cn w kn P rn r t sho s0 c0 goal L (L - k))) → fz_J G mX11_findWay rX11_findWay Z E0 0 0 190 [(8, zI (nI y - nI 1)), (7, zI (nI L)), (6, x6), (5, x5), (4, x4), (0, zR 30 0), (1, zI (nI r)), (2, zI (oI sho)), (3, zI (nI goal))] [] (wTr f ki wh en re le) := by
  intro y
  induction y with
  | zero =>
    intro hy le hle
    refine fz_iload dX11_findWay_190 rfl ?_
    refine fz_if_lt (tgt := 209) dX11_findWay_192 (by decide) (fun c192 => ?_) (fun c192 => ?_)
    · exact kk le _ (fun k hk => hle k (by omega) hk)
    · exact absurd (by decide) c192
  | succ y ih =>
    intro hy le hle
    rw [nI_sub1]
    refine fz_iload dX11_findWay_190 rfl ?_
    refine fz_if_lt (tgt := 209) dX11_findWay_192 (by decide) (fun c192 => ?_) (fun c192 => ?_)
    · exact absurd c192 (nI_pos (by omega))
    · skip
      refine fz_aload_n dX11_findWay_195 rfl ?_
      refine fz_iload_n dX11_findWay_196 rfl ?_
      refine fz_iload dX11_findWay_197 rfl ?_
      refine fz_iload_n dX11_findWay_199 rfl ?_
      refine fz_callV (tX11_trace f ki wh en re le E cn w rn kn h0 hw h80 hh hk hrn hf3 hf4 hf12 P te h r t y (by omega) hf11 ht (by omega) sho hsh s0 c0 goal L (by omega) hc0 hk0 hs0 (hlv y (by omega)) (hle (y + 1) (by omega) hy)) dX11_findWay_200 kX11_200 rfl (Nat.one_pos) ⟨rfl, rfl, rfl, rfl, rfl, rfl, trivial⟩ (Nat.le_of_ble_eq_true rfl) (Nat.le_of_ble_eq_true rfl) (Nat.le_of_ble_eq_true rfl) (Nat.le_of_ble_eq_true rfl) (Nat.le_of_ble_eq_true rfl) rfl (fun r U hq => ?_)
      obtain ⟨rfl, le', g1, g2, rfl⟩ := hq
      refine fz_back rfl ?_
      refine fz_wo (V' := wTr f ki wh en re le') rfl ?_
      have hdec : nI y + Int32.ofInt (-1) = nI y - nI 1 := by
        rw [Int32.sub_eq_add_neg]
        congr 1
      refine fz_iinc dX11_findWay_203 rfl (Nat.le_of_ble_eq_true rfl) ?_
      rw [hdec]
      refine fz_goto (tgt := 190) dX11_findWay_206 (by decide) ?_
      refine ih (by omega) le' (fun k hk1 hk2 => ?_)
      by_cases e : k = y
      · rw [e]; exact g2
      · intro s c hs hc
        rw [g1 _ (by omega)]
        exact hle k (by omega) hk2 s c hs hc
theorem lX11_find_81 {G : fz_G} {E0 : Nat → fz_E} {Z : List Frame → Array Value → State → State → Prop} (f ki wh en le : Nat → Int32) (E : Nat → Nat) (cn w rn : Nat) (kn : Nat → Nat) (h0 : 0 < w) (hw : w ≤ 10) (h80 : cn ≤ 80) (hh : ∃ h, cn = w * h) (hk : kiR cn kn ki) (hrn : rn ≤ 6) (hf3 : f 3 = nI cn) (hf4 : f 4 = nI w) (hf12 : f 12 = nI rn) (P : Nat → Nat → Nat) (te : Nat → Nat) (h : mtR E rn P te wh en) (r t : Nat) (hr : r < rn) (hf11 : f 11 = nI t) (ht : t ≤ 4000) (sho : Option Nat) (hsh : ∀ x, sho = some x → x < 80) (s0 c0 goal : Nat) (hgo : goal < 80) (hc0 : c0 < cn) (hk0 : ¬ kn c0 = 0) (hs0 : s0 < 2) (la : Int32) (hla : ∀ n, n ≤ 1000 → (la < nI (t + n) ↔ clr P te rn r t goal n)) (Lx : Nat) (hLx : Lx < 1000) (hokx : okL cn w kn P te rn r t sho s0 c0 goal Lx) (x4 : fz_V) (x6 : Int32)
    (kk : ∀ L re, L < 1000 → okL cn w kn P te rn r t sho s0 c0 goal L → (∀ j, j < L → ¬ okL cn w kn P te rn r t sho s0 c0 goal j) → (∀ k, k ≤ L → lvR re k (Rw cn w kn P rn r t sho s0 c0 k)) → fz_J G mX11_findWay rX11_findWay Z E0 0 0 130 [(7, zI (nI L)), (6, zI x6), (5, zI la), (4, x4), (0, zR 30 0), (1, zI (nI r)), (2, zI (oI sho)), (3, zI (nI goal))] [] (wTr f ki wh en re le)) :
    ∀ q n, n + q = Lx + 1 → (∀ j, j < n → ¬ okL cn w kn P te rn r t sho s0 c0 goal j) → ∀ re, (∀ k, k ≤ n → lvR re k (Rw cn w kn P rn r t sho s0 c0 k)) → fz_J G mX11_findWay rX11_findWay Z E0 0 0 81 [(7, zI (nI n)), (6, zI x6), (5, zI la), (4, x4), (0, zR 30 0), (1, zI (nI r)), (2, zI (oI sho)), (3, zI (nI goal))] [] (wTr f ki wh en re le) := by
  intro q
  induction q with
  | zero =>
    intro n hn hno re hre
    exact absurd hokx (hno Lx (by omega))
  | succ q ih =>
    intro n hn hno re hre
    have next : ¬ okL cn w kn P te rn r t sho s0 c0 goal n → fz_J G mX11_findWay rX11_findWay Z E0 0 0 116 [(7, zI (nI n)), (6, zI x6), (5, zI la), (4, x4), (0, zR 30 0), (1, zI (nI r)), (2, zI (oI sho)), (3, zI (nI goal))] [] (wTr f ki wh en re le) := by
      intro hno2
      refine fz_aload_n dX11_findWay_116 rfl ?_
      refine fz_iload_n dX11_findWay_117 rfl ?_
      refine fz_iload dX11_findWay_118 rfl ?_
      refine fz_iload_n dX11_findWay_120 rfl ?_
      refine fz_callV (tX11_spread f ki wh en re E cn w rn kn h0 hw h80 hh hk hrn hf3 hf4 hf12 P te h r t n (by omega) hf11 ht (by omega) sho hsh s0 c0 hc0 hk0 hs0 (hre n (Nat.le_refl _))) dX11_findWay_121 kX11_196 rfl (Nat.one_pos) ⟨rfl, rfl, rfl, rfl, rfl, trivial⟩ (Nat.le_of_ble_eq_true rfl) (Nat.le_of_ble_eq_true rfl) (Nat.le_of_ble_eq_true rfl) (Nat.le_of_ble_eq_true rfl) (Nat.le_of_ble_eq_true rfl) rfl (fun r U hq => ?_)
      obtain ⟨rfl, re', g1, g2, rfl⟩ := hq
      refine fz_back rfl ?_
      refine fz_wo (V' := wTr f ki wh en re' le) rfl ?_
      refine fz_incN dX11_findWay_124 rfl (Nat.le_of_ble_eq_true rfl) ?_
      refine fz_goto (tgt := 81) dX11_findWay_127 (by decide) ?_
      refine ih (n + 1) (by omega) (fun j hj => ?_) re' (fun k hk => ?_)
      · by_cases e : j = n
        · rw [e]; exact hno2
        · exact hno j (by omega)
      · by_cases e : k = n + 1
        · rw [e]; exact g2
        · intro s c hs hc
          rw [g1 _ (by omega)]
          exact hre k (by omega) s c hs hc
    refine fz_iload dX11_findWay_81 rfl ?_
    refine fz_sipush (v := nI 1000) dX11_findWay_83 (by decide) ?_
    refine fz_icmp_ge (tgt := 130) dX11_findWay_86 (by decide) (fun c86 => ?_) (fun c86 => ?_)
    · exact absurd ((nI_leI (by omega) (by omega)).mp c86) (by omega)
    · skip
      refine fz_aload_n dX11_findWay_89 rfl ?_
      refine fz_get dX11_findWay_90 fX11_88 rfl (Nat.one_pos) rfl ?_
      refine fz_iload dX11_findWay_93 rfl ?_
      refine fz_iconst (v := nI 1) dX11_findWay_95 (by decide) ?_
      refine fz_iload_n dX11_findWay_96 rfl ?_
      refine fz_callS (tX11_state n 1 goal (by omega)) dX11_findWay_97 kX11_189 trivial (Nat.le_of_ble_eq_true rfl) (Nat.le_of_ble_eq_true rfl) (Nat.le_of_ble_eq_true rfl) (Nat.le_of_ble_eq_true rfl) (Nat.le_of_ble_eq_true rfl) rfl (fun r U hq => ?_)
      obtain ⟨rfl, rfl⟩ := hq
      refine fz_back rfl ?_
      refine fz_wo (V' := wTr f ki wh en re le) rfl ?_
      refine fz_zald dX11_findWay_100 rfl rfl (Nat.one_pos) (vp_in_nI (by omega) (by omega)) ?_
      rw [nI_clamp (by omega)]
      rcases hre n (Nat.le_refl _) 1 goal (by omega) hgo with ⟨z1, z2⟩ | ⟨z1, z2⟩
      · rw [z1]
        refine fz_if_eq (tgt := 116) dX11_findWay_101 (by decide) (fun c101 => ?_) (fun c101 => ?_)
        · exact absurd c101 (by decide)
        · skip
          refine fz_aload_n dX11_findWay_104 rfl ?_
          refine fz_get dX11_findWay_105 fX11_141 rfl (Nat.one_pos) rfl ?_
          rw [hf11]
          refine fz_iload dX11_findWay_108 rfl ?_
          refine fz_iadd dX11_findWay_110 ?_
          refine fz_iload dX11_findWay_111 rfl ?_
          rw [nI_add]
          refine fz_icmp_gt (tgt := 130) dX11_findWay_113 (by decide) (fun c113 => ?_) (fun c113 => ?_)
          · exact kk n re (by omega) ⟨(hla n (by omega)).mp c113, z2⟩ hno hre
          · exact next (fun z => c113 ((hla n (by omega)).mpr z.1))
      · rw [z1]
        refine fz_if_eq (tgt := 116) dX11_findWay_101 (by decide) (fun c101 => ?_) (fun c101 => ?_)
        · exact next (fun z => z2 z.2)
        · exact absurd rfl c101
theorem tX11_findWay {G : fz_G} (f ki wh en re le : Nat → Int32) (E : Nat → Nat) (cn w rn : Nat) (kn : Nat → Nat) (h0 : 0 < w) (hw : w ≤ 10) (h80 : cn ≤ 80) (hh : ∃ h, cn = w * h) (hk : kiR cn kn ki) (hrn : rn ≤ 6) (hf3 : f 3 = nI cn) (hf4 : f 4 = nI w) (hf12 : f 12 = nI rn) (P : Nat → Nat → Nat) (te : Nat → Nat) (h : mtR E rn P te wh en) (r t : Nat) (hr : r < rn) (hEr : E r ≤ t) (hf11 : f 11 = nI t) (ht : t ≤ 4000) (sho : Option Nat) (hsh : ∀ x, sho = some x → x < 80) (goal wy lg : Nat) (hlg : lg < 1000) (hf20 : f 20 = nI wy) (hf21 : f 21 = nI lg) (hgo : goal < 80) (hc0 : P r t < cn) (hk0 : ¬ kn (P r t) = 0) (hE : eoB P te r goal rn = false) (hex : ∃ L, L < 1000 ∧ okL cn w kn P te rn r t sho (s0f sho (P r t)) (P r t) goal L) :
    fz_T G mX11_findWay rX11_findWay [zR 30 0, zI (nI r), zI (oI sho), zI (nI goal)] (wTr f ki wh en re le) (fun x U => x = none ∧ ∃ f' wh' en' re' le', fwQ cn w kn P te rn r t sho goal f wh en wy lg f' wh' en' ∧ U = wTr f' ki wh' en' re' le') := by
  obtain ⟨Lx, hLx, hokx⟩ := hex
  have hs0 := s0f_lt sho (P r t)
  refine fz_T.of (by decide) (Nat.le_of_ble_eq_true rfl) (fun E0 => ?_)
  refine fz_aload_n dX11_findWay_0 rfl ?_
  refine fz_iload_n dX11_findWay_1 rfl ?_
  refine fz_aload_n dX11_findWay_2 rfl ?_
  refine fz_get dX11_findWay_3 fX11_141 rfl (Nat.one_pos) rfl ?_
  rw [hf11]
  refine fz_callV (tX11_at f wh en E rn hrn P te h r t hr (by omega)) dX11_findWay_6 kX11_166 rfl (Nat.one_pos) ⟨rfl, rfl, rfl, trivial⟩ (Nat.le_of_ble_eq_true rfl) (Nat.le_of_ble_eq_true rfl) (Nat.le_of_ble_eq_true rfl) (Nat.le_of_ble_eq_true rfl) (Nat.le_of_ble_eq_true rfl) rfl (fun r U hq => ?_)
  obtain ⟨rfl, rfl⟩ := hq
  refine fz_back rfl ?_
  refine fz_wo (V' := wTr f ki wh en re le) rfl ?_
  refine fz_istore dX11_findWay_9 (Nat.le_of_ble_eq_true rfl) ?_
  refine fz_aload_n dX11_findWay_11 rfl ?_
  refine fz_iload_n dX11_findWay_12 rfl ?_
  refine fz_iload_n dX11_findWay_13 rfl ?_
  refine fz_callV (tX11_lastIn f wh en E rn hrn hf12 P te h r t goal hf11 ht (by omega) hgo hE) dX11_findWay_14 kX11_193 rfl (Nat.one_pos) ⟨rfl, rfl, rfl, trivial⟩ (Nat.le_of_ble_eq_true rfl) (Nat.le_of_ble_eq_true rfl) (Nat.le_of_ble_eq_true rfl) (Nat.le_of_ble_eq_true rfl) (Nat.le_of_ble_eq_true rfl) rfl (fun r U hq => ?_)
  obtain ⟨⟨la, rfl, hla⟩, rfl⟩ := hq
  refine fz_back rfl ?_
  refine fz_wo (V' := wTr f ki wh en re le) rfl ?_
  refine fz_istore dX11_findWay_17 (Nat.le_of_ble_eq_true rfl) ?_
  refine fz_iload_n dX11_findWay_19 rfl ?_
  have main : fz_J G mX11_findWay rX11_findWay (fz_Z G E0 rX11_findWay.cells rX11_findWay.slots (fun x U => x = none ∧ ∃ f' wh' en' re' le', fwQ cn w kn P te rn r t sho goal f wh en wy lg f' wh' en' ∧ U = wTr f' ki wh' en' re' le')) E0 0 0 34 [(5, zI la), (4, zI (nI (P r t))), (0, zR 30 0), (1, zI (nI r)), (2, zI (oI sho)), (3, zI (nI goal))] [zI (nI (s0f sho (P r t)))] (wTr f ki wh en re le) := by
    refine fz_istore dX11_findWay_34 (Nat.le_of_ble_eq_true rfl) ?_
    refine fz_iconst (v := nI 0) dX11_findWay_36 (by decide) ?_
    refine fz_istore dX11_findWay_37 (Nat.le_of_ble_eq_true rfl) ?_
    refine lX11_find_39 f ki wh en le (s0f sho (P r t)) (P r t) hs0 (by omega) [] _ _ _ _ (fun re1 hre1 => ?_) 160 0 rfl re (fun s d _ _ hsd => by omega)
    refine fz_iconst (v := nI 0) dX11_findWay_78 (by decide) ?_
    refine fz_istore dX11_findWay_79 (Nat.le_of_ble_eq_true rfl) ?_
    refine lX11_find_81 f ki wh en le E cn w rn kn h0 hw h80 hh hk hrn hf3 hf4 hf12 P te h r t hr hf11 ht sho hsh (s0f sho (P r t)) (P r t) goal hgo hc0 hk0 hs0 la hla Lx hLx hokx _ _ (fun L re2 hL1 hok hmin hre2 => ?_) (Lx + 1) 0 (by omega) (fun j hj => by omega) re1 (fun k hk => by have e : k = 0 := (by omega); subst e; exact hre1)
    refine fz_iload dX11_findWay_130 rfl ?_
    refine fz_sipush (v := nI 1000) dX11_findWay_132 (by decide) ?_
    refine fz_icmp_ne (tgt := 139) dX11_findWay_135 (by decide) (fun c135 => ?_) (fun c135 => ?_)
    · skip
      refine fz_iconst (v := nI 0) dX11_findWay_139 (by decide) ?_
      refine fz_istore dX11_findWay_140 (Nat.le_of_ble_eq_true rfl) ?_
      refine lX11_find_142 f ki wh en re2 L goal hL1 hgo (zR 30 0) _ _ _ _ _ (fun le1 hle1 => ?_) 160 0 rfl le (fun s d _ _ hsd => by omega)
      refine fz_iload dX11_findWay_184 rfl ?_
      refine fz_iconst (v := nI 1) dX11_findWay_186 (by decide) ?_
      refine fz_isub dX11_findWay_187 ?_
      refine fz_istore dX11_findWay_188 (Nat.le_of_ble_eq_true rfl) ?_
      refine fz_pk [0, 1, 2, 3, 4, 5, 6, 7, 8] rfl ?_
      refine lX11_find_190 f ki wh en re2 E cn w rn kn h0 hw h80 hh hk hrn hf3 hf4 hf12 P te h r t hr hf11 ht sho hsh (s0f sho (P r t)) (P r t) goal L hL1 hc0 hk0 hs0 hre2 _ _ _ (fun le2 x8 hle2 => ?_) L (Nat.le_refl _) le1 (fun k hk1 hk2 => by have e : k = L := (by omega); subst e; rw [Nat.sub_self]; exact hle1)
      refine fz_aload_n dX11_findWay_209 rfl ?_
      refine fz_iload_n dX11_findWay_210 rfl ?_
      refine fz_iload dX11_findWay_211 rfl ?_
      refine fz_iload_n dX11_findWay_213 rfl ?_
      refine fz_iload dX11_findWay_214 rfl ?_
      refine fz_callV (tX11_follow f ki wh en le2 E cn w rn kn h0 hw h80 hh hk hrn hf3 hf4 hf12 P te h r t hr hEr hf11 ht sho hsh (s0f sho (P r t)) (P r t) goal L rfl hL1 hc0 hk0 hs0 hok.2 hle2) dX11_findWay_216 kX11_203 rfl (Nat.one_pos) ⟨rfl, rfl, rfl, rfl, rfl, trivial⟩ (Nat.le_of_ble_eq_true rfl) (Nat.le_of_ble_eq_true rfl) (Nat.le_of_ble_eq_true rfl) (Nat.le_of_ble_eq_true rfl) (Nat.le_of_ble_eq_true rfl) rfl (fun r U hq => ?_)
      obtain ⟨rfl, wh', p, sp, hw1, hw2, rfl⟩ := hq
      refine fz_back rfl ?_
      refine fz_wo (V' := wTr f ki wh' (upd en r (nI (t + L))) re2 le2) rfl ?_
      refine fz_aload_n dX11_findWay_219 rfl ?_
      refine fz_dup dX11_findWay_220 rfl ?_
      refine fz_get dX11_findWay_221 fX11_156 rfl (Nat.one_pos) rfl ?_
      refine fz_iconst (v := nI 1) dX11_findWay_224 (by decide) ?_
      rw [hf20]
      refine fz_iadd dX11_findWay_225 ?_
      rw [nI_add]
      refine fz_putM dX11_findWay_226 fX11_156 (by decide) rfl ⟨rfl, rfl⟩ ?_
      refine fz_aload_n dX11_findWay_229 rfl ?_
      refine fz_iload dX11_findWay_230 rfl ?_
      refine fz_aload_n dX11_findWay_232 rfl ?_
      refine fz_get dX11_findWay_233 fX11_159 rfl (Nat.one_pos) rfl ?_
      rw [upk (by decide), hf21]
      have fin : fz_J G mX11_findWay rX11_findWay (fz_Z G E0 rX11_findWay.cells rX11_findWay.slots (fun x U => x = none ∧ ∃ f' wh' en' re' le', fwQ cn w kn P te rn r t sho goal f wh en wy lg f' wh' en' ∧ U = wTr f' ki wh' en' re' le')) E0 0 0 248 [(8, x8), (7, zI (nI L)), (6, zI (nI (s0f sho (P r t)))), (5, zI la), (4, zI (nI (P r t))), (0, zR 30 0), (1, zI (nI r)), (2, zI (oI sho)), (3, zI (nI goal))] [zI (nI (max lg L)), zR 30 0] (wTr (upd f 20 (nI (wy + 1))) ki wh' (upd en r (nI (t + L))) re2 le2) := by
        refine fz_putM dX11_findWay_248 fX11_159 (by decide) rfl ⟨rfl, rfl⟩ ?_
        refine fz_vret dX11_findWay_251 rfl (Nat.zero_le _) (Nat.zero_le _) ⟨rfl, _, wh', _, re2, le2, ⟨L, p, ⟨hL1, hok, hmin, sp, hw1⟩, hw2, rfl, rfl⟩, rfl⟩
      refine fz_icmp_le (tgt := 244) dX11_findWay_236 (by decide) (fun c236 => ?_) (fun c236 => ?_)
      · have hle := (nI_leI (by omega) (by omega)).mp c236
        rw [Nat.max_eq_left hle] at fin
        refine fz_aload_n dX11_findWay_244 rfl ?_
        refine fz_get dX11_findWay_245 fX11_159 rfl (Nat.one_pos) rfl ?_
        rw [upk (by decide), hf21]
        exact fin
      · have hlt : lg ≤ L := by
          rcases Nat.lt_or_ge lg L with z | z
          · omega
          · exact absurd (nI_le z (by omega)) c236
        rw [Nat.max_eq_right hlt] at fin
        refine fz_iload dX11_findWay_239 rfl ?_
        refine fz_goto (tgt := 248) dX11_findWay_241 (by decide) ?_
        exact fin
    · exact absurd ((nI_eq (by omega) (by omega)).mp c135) (by omega)
  cases hsv : sho with
  | none =>
    rw [hsv] at main
    refine fz_if_lt (tgt := 29) dX11_findWay_20 (by decide) (fun c20 => ?_) (fun c20 => ?_)
    · skip
      refine fz_iconst (v := nI 1) dX11_findWay_29 (by decide) ?_
      refine fz_goto (tgt := 34) dX11_findWay_30 (by decide) ?_
      exact main
    · exact absurd (by decide) c20
  | some x =>
    have hx := hsh x hsv
    rw [hsv] at main
    refine fz_if_lt (tgt := 29) dX11_findWay_20 (by decide) (fun c20 => ?_) (fun c20 => ?_)
    · exact absurd c20 (nI_pos (by omega))
    · skip
      refine fz_iload dX11_findWay_23 rfl ?_
      refine fz_iload_n dX11_findWay_25 rfl ?_
      refine fz_icmp_ne (tgt := 33) dX11_findWay_26 (by decide) (fun c26 => ?_) (fun c26 => ?_)
      · have e : s0f (some x) (P r t) = 0 := by
          unfold s0f
          rw [if_neg]
          rintro (z | z)
          · cases z
          · cases z; exact c26 rfl
        rw [e] at main
        refine fz_iconst (v := nI 0) dX11_findWay_33 (by decide) ?_
        exact main
      · have e : s0f (some x) (P r t) = 1 := by
          unfold s0f
          rw [if_pos]
          right
          rw [(nI_eq (by omega) (by omega)).mp c26]
        rw [e] at main
        refine fz_iconst (v := nI 1) dX11_findWay_29 (by decide) ?_
        refine fz_goto (tgt := 34) dX11_findWay_30 (by decide) ?_
        exact main
