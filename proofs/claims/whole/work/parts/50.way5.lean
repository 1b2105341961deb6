/-! WaySearch: spread, its end -/
/-- the cells reached a tick later, not looking at the shelf -/
def nxS (w : Nat) (lo hi : Int64) (re al : Nat → Int64) (at_ d : Nat) : Bool := (xS re at_ d || acc w (xA re al at_) d 5) && !X2 lo hi d
def spI (w : Nat) (lo hi : Int64) (re al : Nat → Int64) (k s : Nat) (r1 : Nat → Int64) : Prop := (∀ j, ¬ (4 * k + 4 ≤ j ∧ j < 4 * k + 4 + 2 * s) → r1 j = re j) ∧ ∀ s', s' < s → ∀ d, d < 128 → xS r1 (4 * k + 4 + 2 * s') d = nxS w lo hi re al (4 * k + 2 * s') d
theorem upL2_ne {f : Nat → Int64} {a b j : Nat} {x y : Int64} (h1 : j ≠ a) (h2 : j ≠ b) : vp_updL (vp_updL f a x) b y j = f j := by rw [pk_uLn h2, pk_uLn h1]
theorem lX9_spread_2 {G : fz_G} {E0 : Nat → fz_E} {Z : List Frame → Array Value → State → State → Prop} (g : Nat) (hg : g < 2) (sz wd : Nat → Int32) (st : Nat → Nat → Int32) (lo hi : Int64) (rb ts sh go : Int32) (re al : Nat → Int64) (w k : Nat) (h0 : 0 < w) (hw : w ≤ 10) (hS : gS w (st g)) (hk : k < 1000)
    (kk : ∀ r2, spI w lo hi re al k 2 r2 → fz_J G mX9_spread rX9_spread Z E0 0 0 176 [(2, zI (nI 2)), (0, zR 25 0), (1, zI (nI k))] [] (wSp g sz wd st lo hi rb ts sh go r2 al)) :
    ∀ q s, s + q = 2 → ∀ r1, spI w lo hi re al k s r1 → fz_J G mX9_spread rX9_spread Z E0 0 0 2 [(2, zI (nI s)), (0, zR 25 0), (1, zI (nI k))] [] (wSp g sz wd st lo hi rb ts sh go r1 al) := by
  intro q
  induction q with
  | zero =>
    intro s hs r1 h1
    have e : s = 2 := by omega
    subst e
    refine fz_iload_n dX9_spread_2 rfl ?_
    refine fz_iconst (v := nI 2) dX9_spread_3 (by decide) ?_
    refine fz_icmp_ge (tgt := 176) dX9_spread_4 (by decide) (fun c4 => ?_) (fun c4 => ?_)
    · exact kk r1 h1
    · exact absurd (nI_le (Nat.le_refl _) (by omega)) c4
  | succ q ih =>
    intro s hs r1 h1
    have e1 : r1 (4 * k + 2 * s) = re (4 * k + 2 * s) := h1.1 _ (by omega)
    have e2 : r1 (4 * k + 2 * s + 1) = re (4 * k + 2 * s + 1) := h1.1 _ (by omega)
    refine fz_iload_n dX9_spread_2 rfl ?_
    refine fz_iconst (v := nI 2) dX9_spread_3 (by decide) ?_
    refine fz_icmp_ge (tgt := 176) dX9_spread_4 (by decide) (fun c4 => ?_) (fun c4 => ?_)
    · exact absurd ((nI_leI (by omega) (by omega)).mp c4) (by omega)
    · skip
      refine fz_iconst (v := nI 4) dX9_spread_7 (by decide) ?_
      refine fz_iload_n dX9_spread_8 rfl ?_
      refine fz_imul dX9_spread_9 ?_
      refine fz_iconst (v := nI 2) dX9_spread_10 (by decide) ?_
      refine fz_iload_n dX9_spread_11 rfl ?_
      refine fz_imul dX9_spread_12 ?_
      refine fz_iadd dX9_spread_13 ?_
      rw [nI_mul, nI_mul, nI_add]
      refine fz_istore_n dX9_spread_14 (Nat.le_of_ble_eq_true rfl) ?_
      refine fz_aload_n dX9_spread_15 rfl ?_
      refine fz_get dX9_spread_16 fX9_9 rfl (Nat.one_pos) rfl ?_
      refine fz_iload_n dX9_spread_19 rfl ?_
      refine fz_lald dX9_spread_20 rfl rfl (Nat.one_pos) (vp_in_nI (by omega) (by omega)) ?_
      refine fz_lstore dX9_spread_21 (Nat.le_of_ble_eq_true rfl) ?_
      refine fz_aload_n dX9_spread_23 rfl ?_
      refine fz_get dX9_spread_24 fX9_9 rfl (Nat.one_pos) rfl ?_
      refine fz_iload_n dX9_spread_27 rfl ?_
      refine fz_iconst (v := nI 1) dX9_spread_28 (by decide) ?_
      refine fz_iadd dX9_spread_29 ?_
      rw [nI_clamp (by omega), nI_add]
      refine fz_lald dX9_spread_30 rfl rfl (Nat.one_pos) (vp_in_nI (by omega) (by omega)) ?_
      refine fz_lstore dX9_spread_31 (Nat.le_of_ble_eq_true rfl) ?_
      refine fz_iconst (v := nI 1) dX9_spread_33 (by decide) ?_
      refine fz_istore dX9_spread_34 (Nat.le_of_ble_eq_true rfl) ?_
      rw [nI_clamp (by omega)]
      refine lX9_spread_36 g hg sz wd st lo hi rb ts sh go r1 al w k s (4 * k + 2 * s) h0 hw hS (by omega) (fun x y hxy => ?_) 4 1 (by omega) (by omega) _ _ (fun d hd => ?_)
      · skip
        refine fz_aload_n dX9_spread_132 rfl ?_
        refine fz_get dX9_spread_133 fX9_9 rfl (Nat.one_pos) rfl ?_
        refine fz_iload_n dX9_spread_136 rfl ?_
        refine fz_iconst (v := nI 4) dX9_spread_137 (by decide) ?_
        refine fz_iadd dX9_spread_138 ?_
        rw [nI_add]
        refine fz_lload dX9_spread_139 rfl ?_
        refine fz_aload_n dX9_spread_141 rfl ?_
        refine fz_get dX9_spread_142 fX9_95 rfl (Nat.one_pos) rfl ?_
        refine fz_ldc2 dX9_spread_145 nX9_109 ?_
        refine fz_lxor dX9_spread_148 ?_
        refine fz_land dX9_spread_149 ?_
        refine fz_last1 dX9_spread_150 rfl rfl (vp_in_nI (by omega) (by omega)) ?_
        refine fz_aload_n dX9_spread_151 rfl ?_
        refine fz_get dX9_spread_152 fX9_9 rfl (Nat.one_pos) rfl ?_
        refine fz_iload_n dX9_spread_155 rfl ?_
        refine fz_iconst (v := nI 5) dX9_spread_156 (by decide) ?_
        refine fz_iadd dX9_spread_157 ?_
        rw [nI_clamp (by omega), nI_add]
        refine fz_lload dX9_spread_158 rfl ?_
        refine fz_aload_n dX9_spread_160 rfl ?_
        refine fz_get dX9_spread_161 fX9_99 rfl (Nat.one_pos) rfl ?_
        refine fz_ldc2 dX9_spread_164 nX9_109 ?_
        refine fz_lxor dX9_spread_167 ?_
        refine fz_land dX9_spread_168 ?_
        refine fz_last1 dX9_spread_169 rfl rfl (vp_in_nI (by omega) (by omega)) ?_
        rw [nI_clamp (by omega)]
        refine fz_incN dX9_spread_170 rfl (Nat.le_of_ble_eq_true rfl) ?_
        refine fz_goto (tgt := 2) dX9_spread_173 (by decide) ?_
        refine fz_pk [0, 5, 6] rfl ?_
        refine ih (s + 1) (by omega) _ ⟨fun j hj => ?_, fun s' hs' d hd => ?_⟩
        · rw [upL2_ne (by omega) (by omega)]
          exact h1.1 j (by omega)
        · by_cases es : s' = s
          · subst es
            have f1 : vp_updL (vp_updL r1 (4 * k + 2 * s' + 4) (x &&& (lo ^^^ (-1)))) (4 * k + 2 * s' + 5) (y &&& (hi ^^^ (-1))) (4 * k + 4 + 2 * s') = x &&& (lo ^^^ (-1)) := by
              rw [pk_uLn (by omega), show 4 * k + 4 + 2 * s' = 4 * k + 2 * s' + 4 by omega, pk_uLs]
            have f2 : vp_updL (vp_updL r1 (4 * k + 2 * s' + 4) (x &&& (lo ^^^ (-1)))) (4 * k + 2 * s' + 5) (y &&& (hi ^^^ (-1))) (4 * k + 4 + 2 * s' + 1) = y &&& (hi ^^^ (-1)) := by
              rw [show 4 * k + 4 + 2 * s' + 1 = 4 * k + 2 * s' + 5 by omega, pk_uLs]
            show X2 _ _ d = _
            rw [f1, f2, X2_andnot _ _ _ _ hd, hxy d hd]
            unfold nxS xS
            have f3 : xA r1 al (4 * k + 2 * s') = xA re al (4 * k + 2 * s') := by
              funext m c
              show X2 _ _ _ = X2 _ _ _
              rw [e1, e2]
            rw [e1, e2, f3]
          · show X2 _ _ d = _
            rw [upL2_ne (by omega) (by omega), upL2_ne (by omega) (by omega)]
            exact h1.2 s' (by omega) d hd
      · show _ = (_ || (false || _))
        simp
/-- the cells reached a tick later, without the shelf and with it -/
def rcS (w : Nat) (lo hi : Int64) (re al : Nat → Int64) (k : Nat) (sho : Option Nat) (s d : Nat) : Bool := match sho with
  | none => nxS w lo hi re al (4 * k + 2 * s) d
  | some h => if s = 0 then (nxS w lo hi re al (4 * k) d && !decide (d = h)) else (nxS w lo hi re al (4 * k + 2) d || (nxS w lo hi re al (4 * k) h && decide (d = h)))
theorem rcS_0 (w : Nat) (lo hi : Int64) (re al : Nat → Int64) (k h d : Nat) : rcS w lo hi re al k (some h) 0 d = (nxS w lo hi re al (4 * k) d && !decide (d = h)) := rfl
theorem rcS_1 (w : Nat) (lo hi : Int64) (re al : Nat → Int64) (k h d : Nat) : rcS w lo hi re al k (some h) 1 d = (nxS w lo hi re al (4 * k + 2) d || (nxS w lo hi re al (4 * k) h && decide (d = h))) := rfl
theorem xS_inS (re : Nat → Int64) (at_ : Nat) {c : Nat} (hc : c < 128) : xS re at_ c = inS re at_ c := X2_inS re at_ hc
/-- what a spread leaves -/
def spQ (w : Nat) (lo hi : Int64) (re al : Nat → Int64) (k : Nat) (sho : Option Nat) (r2 : Nat → Int64) : Prop := (∀ j, ¬ (4 * k + 4 ≤ j ∧ j < 4 * k + 8) → r2 j = re j) ∧ ∀ s d, s < 2 → d < 128 → xS r2 (4 * k + 4 + 2 * s) d = rcS w lo hi re al k sho s d
theorem tX9_spread {G : fz_G} (g : Nat) (hg : g < 2) (sz wd : Nat → Int32) (st : Nat → Nat → Int32) (lo hi : Int64) (rb ts go : Int32) (sho : Option Nat) (hsh : ∀ h, sho = some h → h < 80) (re al : Nat → Int64) (w k : Nat) (h0 : 0 < w) (hw : w ≤ 10) (hS : gS w (st g)) (hk : k < 1000) : fz_T G mX9_spread rX9_spread [zR 25 0, zI (nI k)] (wSp g sz wd st lo hi rb ts (oI sho) go re al) (fun r U => r = none ∧ ∃ r2, spQ w lo hi re al k sho r2 ∧ U = wSp g sz wd st lo hi rb ts (oI sho) go r2 al) := by
  refine fz_T.of (by decide) (Nat.le_of_ble_eq_true rfl) (fun E0 => ?_)
  refine fz_iconst (v := nI 0) dX9_spread_0 (by decide) ?_
  refine fz_istore_n dX9_spread_1 (Nat.le_of_ble_eq_true rfl) ?_
  refine lX9_spread_2 g hg sz wd st lo hi rb ts (oI sho) go re al w k h0 hw hS hk (fun r2 h2 => ?_) 2 0 rfl re ⟨fun j _ => rfl, fun s' hs' => by omega⟩
  have hb : ∀ s d, s < 2 → d < 128 → xS r2 (4 * k + 4 + 2 * s) d = nxS w lo hi re al (4 * k + 2 * s) d := fun s d hs hd => h2.2 s hs d hd
  have ho : ∀ j, ¬ (4 * k + 4 ≤ j ∧ j < 4 * k + 8) → r2 j = re j := fun j hj => h2.1 j (by omega)
  refine fz_aload_n dX9_spread_176 rfl ?_
  refine fz_get dX9_spread_177 fX9_33 rfl (Nat.one_pos) rfl ?_
  refine fz_iconst (v := -1) dX9_spread_180 (by decide) ?_
  cases sho with
  | none =>
    refine fz_icmp_eq (tgt := 245) dX9_spread_181 (by decide) (fun c181 => ?_) (fun c181 => ?_)
    · skip
      refine fz_vret dX9_spread_245 rfl (Nat.zero_le _) (Nat.zero_le _) ⟨rfl, r2, ⟨ho, hb⟩, rfl⟩
    · exact absurd rfl c181
  | some h =>
    have hh := hsh h rfl
    refine fz_icmp_eq (tgt := 245) dX9_spread_181 (by decide) (fun c181 => ?_) (fun c181 => ?_)
    · exact absurd c181 (oI_ne (by omega))
    · skip
      refine fz_aload_n dX9_spread_184 rfl ?_
      refine fz_iconst (v := nI 4) dX9_spread_185 (by decide) ?_
      refine fz_iload_n dX9_spread_186 rfl ?_
      refine fz_imul dX9_spread_187 ?_
      refine fz_iconst (v := nI 4) dX9_spread_188 (by decide) ?_
      refine fz_iadd dX9_spread_189 ?_
      refine fz_aload_n dX9_spread_190 rfl ?_
      refine fz_get dX9_spread_191 fX9_33 rfl (Nat.one_pos) rfl ?_
      rw [nI_mul, nI_add]
      refine fz_top (y := nI h) rfl ?_
      refine fz_callV (tX9_holds g lo hi rb ts (nI h) go (4 * k + 4) h (by omega) hh r2) dX9_spread_194 kX9_70 rfl (Nat.one_pos) ⟨rfl, rfl, trivial⟩ (Nat.le_of_ble_eq_true rfl) (Nat.le_of_ble_eq_true rfl) (Nat.le_of_ble_eq_true rfl) (Nat.le_of_ble_eq_true rfl) (Nat.le_of_ble_eq_true rfl) rfl (fun r U hq => ?_)
      obtain ⟨rfl, rfl⟩ := hq
      refine fz_back rfl ?_
      refine fz_wo (V' := wSp g sz wd st lo hi rb ts (nI h) go r2 al) rfl ?_
      rw [← X2_inS r2 _ (by omega)]
      have hN : X2 (r2 (4 * k + 4)) (r2 (4 * k + 4 + 1)) h = nxS w lo hi re al (4 * k) h := hb 0 h (by omega) (by omega)
      rw [hN]
      cases hv : nxS w lo hi re al (4 * k) h with
      | false =>
        refine fz_if_eq (tgt := 245) dX9_spread_197 (by decide) (fun c197 => ?_) (fun c197 => ?_)
        · refine fz_vret dX9_spread_245 rfl (Nat.zero_le _) (Nat.zero_le _) ⟨rfl, r2, ⟨ho, fun s d hs hd => ?_⟩, rfl⟩
          rw [hb s d hs hd]
          by_cases es : s = 0
          · subst es
            rw [rcS_0]
            by_cases ed : d = h
            · subst ed
              show nxS w lo hi re al (4 * k) d = _
              rw [hv]; rfl
            · show nxS w lo hi re al (4 * k) d = _
              simp [ed]
          · have : s = 1 := by omega
            subst this
            rw [rcS_1]
            show nxS w lo hi re al (4 * k + 2) d = (nxS w lo hi re al (4 * k + 2) d || (nxS w lo hi re al (4 * k) h && _))
            rw [hv]; simp
        · exact absurd rfl c197
      | true =>
        refine fz_if_eq (tgt := 245) dX9_spread_197 (by decide) (fun c197 => ?_) (fun c197 => ?_)
        · exact absurd c197 (by decide)
        · skip
          refine fz_aload_n dX9_spread_200 rfl ?_
          refine fz_get dX9_spread_201 fX9_9 rfl (Nat.one_pos) rfl ?_
          refine fz_iconst (v := nI 4) dX9_spread_204 (by decide) ?_
          refine fz_iload_n dX9_spread_205 rfl ?_
          refine fz_imul dX9_spread_206 ?_
          refine fz_iconst (v := nI 4) dX9_spread_207 (by decide) ?_
          refine fz_iadd dX9_spread_208 ?_
          refine fz_aload_n dX9_spread_209 rfl ?_
          refine fz_get dX9_spread_210 fX9_33 rfl (Nat.one_pos) rfl ?_
          refine fz_bipush (v := nI 6) dX9_spread_213 (by decide) ?_
          refine fz_ishr dX9_spread_215 ?_
          rw [nI_mul, nI_add, shr6 hh]
          refine fz_iadd dX9_spread_216 ?_
          rw [nI_add]
          refine fz_dup2_11 dX9_spread_217 rfl rfl ?_
          refine fz_lald dX9_spread_218 rfl rfl (Nat.one_pos) (vp_in_nI (by omega) (by omega)) ?_
          rw [nI_clamp (by omega)]
          refine fz_lconst (v := 1) dX9_spread_219 (by decide) ?_
          refine fz_aload_n dX9_spread_220 rfl ?_
          refine fz_get dX9_spread_221 fX9_33 rfl (Nat.one_pos) rfl ?_
          refine fz_lshl dX9_spread_224 ?_
          refine fz_ldc2 dX9_spread_225 nX9_109 ?_
          refine fz_lxor dX9_spread_228 ?_
          refine fz_land dX9_spread_229 ?_
          refine fz_last1 dX9_spread_230 rfl rfl (vp_in_nI (by omega) (by omega)) ?_
          rw [nI_clamp (by omega)]
          refine fz_aload_n dX9_spread_231 rfl ?_
          refine fz_iconst (v := nI 4) dX9_spread_232 (by decide) ?_
          refine fz_iload_n dX9_spread_233 rfl ?_
          refine fz_imul dX9_spread_234 ?_
          refine fz_bipush (v := nI 6) dX9_spread_235 (by decide) ?_
          refine fz_iadd dX9_spread_237 ?_
          refine fz_aload_n dX9_spread_238 rfl ?_
          refine fz_get dX9_spread_239 fX9_33 rfl (Nat.one_pos) rfl ?_
          rw [nI_mul, nI_add]
          refine fz_callV (tX9_add g lo hi rb ts (nI h) go (4 * k + 6) h (by omega) hh _) dX9_spread_242 kX9_49 rfl (Nat.one_pos) ⟨rfl, rfl, trivial⟩ (Nat.le_of_ble_eq_true rfl) (Nat.le_of_ble_eq_true rfl) (Nat.le_of_ble_eq_true rfl) (Nat.le_of_ble_eq_true rfl) (Nat.le_of_ble_eq_true rfl) rfl (fun r U hq => ?_)
          obtain ⟨rfl, rfl⟩ := hq
          refine fz_back rfl ?_
          refine fz_vret dX9_spread_245 rfl (Nat.zero_le _) (Nat.zero_le _) ⟨rfl, _, ⟨fun j hj => ?_, fun s d hs hd => ?_⟩, rfl⟩
          · rw [upL2_ne (by omega) (by omega)]
            exact ho j hj
          · rw [xS_inS _ _ hd]
            have hbd := hb s d hs hd
            rw [xS_inS _ _ hd] at hbd
            unfold inS at hbd ⊢
            by_cases es : s = 0
            · subst es
              rw [rcS_0, pk_uLn (by omega)]
              by_cases hx : 4 * k + 4 + 2 * 0 + d / 64 = 4 * k + 4 + h / 64
              · rw [hx, pk_uLs, bl_and, bl_not _ (by omega), bl_1shl (by omega) (by omega), ← hx, hbd]
                by_cases ed : d = h
                · subst ed; simp
                · have : ¬ d % 64 = h % 64 := by omega
                  simp [ed, this]
              · rw [pk_uLn hx, hbd]
                have : ¬ d = h := fun z => hx (by rw [z])
                simp [this]
            · have : s = 1 := by omega
              subst this
              rw [rcS_1, hv, Bool.true_and]
              by_cases hx : 4 * k + 4 + 2 * 1 + d / 64 = 4 * k + 6 + h / 64
              · rw [hx, pk_uLs, bl_or, bl_1shl (by omega) (by omega), pk_uLn (by omega), ← hx, hbd]
                congr 1
                simp only [decide_eq_decide]
                omega
              · rw [pk_uLn hx, pk_uLn (by omega), hbd]
                have : ¬ d = h := fun z => hx (by rw [z])
                simp [this]
