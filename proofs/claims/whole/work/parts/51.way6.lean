/-! WaySearch: narrow -/
def inv (m : Nat) : Nat := if m = 1 then 3 else if m = 2 then 4 else if m = 3 then 1 else 2
theorem inv_in {m : Nat} : 1 ≤ inv m ∧ inv m < 5 := by
  unfold inv
  repeat' split
  all_goals omega
theorem neg_st (w : Nat) {m : Nat} (h1 : 1 ≤ m) (h5 : m < 5) : -(stI w m) = stI w (inv m) := by
  rcases (show m = 1 ∨ m = 2 ∨ m = 3 ∨ m = 4 by omega) with rfl | rfl | rfl | rfl
  · exact Int32.neg_neg
  · show -(1 : Int32) = -1
    decide
  · rfl
  · show -(-1 : Int32) = 1
    decide
/-- the cells from which the moves before m lead into X, as far as they are allowed -/
def bck (w : Nat) (X : Nat → Bool) (A : Nat → Nat → Bool) (d : Nat) : Nat → Bool
  | 0 => false
  | m + 1 => bck w X A d m || (decide (1 ≤ m) && (shf w (inv m) X d && A m d))
abbrev aS (al : Nat → Int64) (m c : Nat) : Bool := X2 (al (2 * m)) (al (2 * m + 1)) c
theorem lX9_narrow_126 {G : fz_G} {E0 : Nat → fz_E} {Z : List Frame → Array Value → State → State → Prop} (g : Nat) (hg : g < 2) (sz wd : Nat → Int32) (st : Nat → Nat → Int32) (lo hi : Int64) (rb ts sh go : Int32) (re al : Nat → Int64) (w k s at_ : Nat) (h0 : 0 < w) (hw : w ≤ 10) (hS : gS w (st g)) (tl th : Int64)
    (kk : ∀ x y : Int64, (∀ d, d < 128 → X2 x y d = (X2 tl th d || bck w (X2 tl th) (aS al) d 5)) → fz_J G mX9_narrow rX9_narrow Z E0 0 0 206 [(12, zI (nI 5)), (10, zL y), (8, zL x), (6, zL th), (4, zL tl), (3, zI (nI at_)), (2, zI (nI s)), (0, zR 25 0), (1, zI (nI k))] [] (wSp g sz wd st lo hi rb ts sh go re al)) :
    ∀ q m, 1 ≤ m → m + q = 5 → ∀ x y : Int64, (∀ d, d < 128 → X2 x y d = (X2 tl th d || bck w (X2 tl th) (aS al) d m)) → fz_J G mX9_narrow rX9_narrow Z E0 0 0 126 [(12, zI (nI m)), (10, zL y), (8, zL x), (6, zL th), (4, zL tl), (3, zI (nI at_)), (2, zI (nI s)), (0, zR 25 0), (1, zI (nI k))] [] (wSp g sz wd st lo hi rb ts sh go re al) := by
  intro q
  induction q with
  | zero =>
    intro m hm1 hm x y hx
    have e : m = 5 := by omega
    subst e
    refine fz_iload dX9_narrow_126 rfl ?_
    refine fz_iconst (v := nI 5) dX9_narrow_128 (by decide) ?_
    refine fz_icmp_ge (tgt := 206) dX9_narrow_129 (by decide) (fun c129 => ?_) (fun c129 => ?_)
    · exact kk x y hx
    · exact absurd (nI_le (Nat.le_refl _) (by omega)) c129
  | succ q ih =>
    intro m hm1 hm x y hx
    refine fz_iload dX9_narrow_126 rfl ?_
    refine fz_iconst (v := nI 5) dX9_narrow_128 (by decide) ?_
    refine fz_icmp_ge (tgt := 206) dX9_narrow_129 (by decide) (fun c129 => ?_) (fun c129 => ?_)
    · exact absurd ((nI_leI (by omega) (by omega)).mp c129) (by omega)
    · skip
      refine fz_lload dX9_narrow_132 rfl ?_
      refine fz_lload dX9_narrow_134 rfl ?_
      refine fz_lload dX9_narrow_136 rfl ?_
      refine fz_aload_n dX9_narrow_138 rfl ?_
      refine fz_get dX9_narrow_139 fX9_18 rfl (Nat.one_pos) rfl ?_
      refine fz_get dX9_narrow_142 fX9_105 rfl (hg) rfl ?_
      refine fz_iload dX9_narrow_145 rfl ?_
      refine fz_iald dX9_narrow_147 rfl rfl (hg) (vp_in_nI (by omega) (by omega)) ?_
      rw [nI_clamp (by omega), hS m (by omega)]
      refine fz_ineg dX9_narrow_148 ?_
      rw [neg_st w hm1 (by omega)]
      refine fz_callS (tX9_shLow tl th w (inv m) h0 hw inv_in.1 inv_in.2) dX9_narrow_149 kX9_111 trivial (Nat.le_of_ble_eq_true rfl) (Nat.le_of_ble_eq_true rfl) (Nat.le_of_ble_eq_true rfl) (Nat.le_of_ble_eq_true rfl) (Nat.le_of_ble_eq_true rfl) rfl (fun r U hq => ?_)
      obtain ⟨⟨x2, rfl, hx2⟩, rfl⟩ := hq
      refine fz_back rfl ?_
      refine fz_aload_n dX9_narrow_152 rfl ?_
      refine fz_get dX9_narrow_153 fX9_15 rfl (Nat.one_pos) rfl ?_
      refine fz_iconst (v := nI 2) dX9_narrow_156 (by decide) ?_
      refine fz_iload dX9_narrow_157 rfl ?_
      refine fz_imul dX9_narrow_159 ?_
      rw [nI_mul]
      refine fz_lald dX9_narrow_160 rfl rfl (Nat.one_pos) (vp_in_nI (by omega) (by omega)) ?_
      refine fz_land dX9_narrow_161 ?_
      refine fz_lor dX9_narrow_162 ?_
      refine fz_lstore dX9_narrow_163 (Nat.le_of_ble_eq_true rfl) ?_
      refine fz_lload dX9_narrow_165 rfl ?_
      refine fz_lload dX9_narrow_167 rfl ?_
      refine fz_lload dX9_narrow_169 rfl ?_
      refine fz_aload_n dX9_narrow_171 rfl ?_
      refine fz_get dX9_narrow_172 fX9_18 rfl (Nat.one_pos) rfl ?_
      refine fz_get dX9_narrow_175 fX9_105 rfl (hg) rfl ?_
      refine fz_iload dX9_narrow_178 rfl ?_
      refine fz_iald dX9_narrow_180 rfl rfl (hg) (vp_in_nI (by omega) (by omega)) ?_
      rw [nI_clamp (by omega), nI_clamp (by omega), hS m (by omega)]
      refine fz_ineg dX9_narrow_181 ?_
      rw [neg_st w hm1 (by omega)]
      refine fz_callS (tX9_shHigh tl th w (inv m) h0 hw inv_in.1 inv_in.2) dX9_narrow_182 kX9_115 trivial (Nat.le_of_ble_eq_true rfl) (Nat.le_of_ble_eq_true rfl) (Nat.le_of_ble_eq_true rfl) (Nat.le_of_ble_eq_true rfl) (Nat.le_of_ble_eq_true rfl) rfl (fun r U hq => ?_)
      obtain ⟨⟨y2, rfl, hy2⟩, rfl⟩ := hq
      refine fz_back rfl ?_
      refine fz_aload_n dX9_narrow_185 rfl ?_
      refine fz_get dX9_narrow_186 fX9_15 rfl (Nat.one_pos) rfl ?_
      refine fz_iconst (v := nI 2) dX9_narrow_189 (by decide) ?_
      refine fz_iload dX9_narrow_190 rfl ?_
      refine fz_imul dX9_narrow_192 ?_
      refine fz_iconst (v := nI 1) dX9_narrow_193 (by decide) ?_
      refine fz_iadd dX9_narrow_194 ?_
      rw [nI_mul, nI_add]
      refine fz_lald dX9_narrow_195 rfl rfl (Nat.one_pos) (vp_in_nI (by omega) (by omega)) ?_
      refine fz_land dX9_narrow_196 ?_
      refine fz_lor dX9_narrow_197 ?_
      refine fz_lstore dX9_narrow_198 (Nat.le_of_ble_eq_true rfl) ?_
      refine fz_incN dX9_narrow_200 rfl (Nat.le_of_ble_eq_true rfl) ?_
      refine fz_goto (tgt := 126) dX9_narrow_203 (by decide) ?_
      rw [nI_clamp (by omega)]
      refine ih (m + 1) (by omega) (by omega) (x ||| (x2 &&& al (2 * m))) (y ||| (y2 &&& al (2 * m + 1))) (fun d hd => ?_)
      rw [X2_or2, X2_and, hx d hd, X2_bits (f := shf w (inv m) (X2 tl th)) hx2 hy2 hd]
      show _ = (_ || (bck w (X2 tl th) (aS al) d m || _))
      rw [decide_eq_true hm1, Bool.true_and, Bool.or_assoc]
/-- the cells that lead on a tick later: side 0 may come to the shelf -/
def toS (re : Nat → Int64) (k : Nat) (sho : Option Nat) (s d : Nat) : Bool := if s = 0 then (xS re (4 * k + 4) d || (match sho with
  | none => false
  | some h => decide (d = h) && xS re (4 * k + 6) h)) else xS re (4 * k + 6) d
def nwS (w : Nat) (re al : Nat → Int64) (k : Nat) (sho : Option Nat) (s d : Nat) : Bool := xS re (4 * k + 2 * s) d && (toS re k sho s d || bck w (fun c => decide (c < 128) && toS re k sho s c) (aS al) d 5)
def nwI (w : Nat) (re al : Nat → Int64) (k : Nat) (sho : Option Nat) (s : Nat) (r1 : Nat → Int64) : Prop := (∀ j, ¬ (4 * k ≤ j ∧ j < 4 * k + 2 * s) → r1 j = re j) ∧ ∀ s', s' < s → ∀ d, d < 128 → xS r1 (4 * k + 2 * s') d = nwS w re al k sho s' d
theorem lX9_narrow_115 {G : fz_G} {E0 : Nat → fz_E} {Z : List Frame → Array Value → State → State → Prop} (g : Nat) (hg : g < 2) (sz wd : Nat → Int32) (st : Nat → Nat → Int32) (lo hi : Int64) (rb ts sh go : Int32) (r1 al : Nat → Int64) (w k s : Nat) (h0 : 0 < w) (hw : w ≤ 10) (hS : gS w (st g)) (hk : k < 1000) (hs : s < 2) (tl th : Int64)
    (kk : ∀ x y : Int64, (∀ d, d < 128 → X2 x y d = (X2 tl th d || bck w (X2 tl th) (aS al) d 5)) → fz_J G mX9_narrow rX9_narrow Z E0 0 0 2 [(2, zI (nI (s + 1))), (0, zR 25 0), (1, zI (nI k))] [] (wSp g sz wd st lo hi rb ts sh go (vp_updL (vp_updL r1 (4 * k + 2 * s) (r1 (4 * k + 2 * s) &&& x)) (4 * k + 2 * s + 1) (r1 (4 * k + 2 * s + 1) &&& y)) al)) :
    fz_J G mX9_narrow rX9_narrow Z E0 0 0 115 [(6, zL th), (4, zL tl), (3, zI (nI (4 * k + 2 * s))), (2, zI (nI s)), (0, zR 25 0), (1, zI (nI k))] [] (wSp g sz wd st lo hi rb ts sh go r1 al) := by
  refine fz_lload dX9_narrow_115 rfl ?_
  refine fz_lstore dX9_narrow_117 (Nat.le_of_ble_eq_true rfl) ?_
  refine fz_lload dX9_narrow_119 rfl ?_
  refine fz_lstore dX9_narrow_121 (Nat.le_of_ble_eq_true rfl) ?_
  refine fz_iconst (v := nI 1) dX9_narrow_123 (by decide) ?_
  refine fz_istore dX9_narrow_124 (Nat.le_of_ble_eq_true rfl) ?_
  refine lX9_narrow_126 g hg sz wd st lo hi rb ts sh go r1 al w k s (4 * k + 2 * s) h0 hw hS tl th (fun x y hxy => ?_) 4 1 (by omega) (by omega) tl th (fun d hd => ?_)
  · skip
    refine fz_aload_n dX9_narrow_206 rfl ?_
    refine fz_get dX9_narrow_207 fX9_9 rfl (Nat.one_pos) rfl ?_
    refine fz_iload_n dX9_narrow_210 rfl ?_
    refine fz_dup2_11 dX9_narrow_211 rfl rfl ?_
    refine fz_lald dX9_narrow_212 rfl rfl (Nat.one_pos) (vp_in_nI (by omega) (by omega)) ?_
    rw [nI_clamp (by omega)]
    refine fz_lload dX9_narrow_213 rfl ?_
    refine fz_land dX9_narrow_215 ?_
    refine fz_last1 dX9_narrow_216 rfl rfl (vp_in_nI (by omega) (by omega)) ?_
    refine fz_aload_n dX9_narrow_217 rfl ?_
    refine fz_get dX9_narrow_218 fX9_9 rfl (Nat.one_pos) rfl ?_
    refine fz_iload_n dX9_narrow_221 rfl ?_
    refine fz_iconst (v := nI 1) dX9_narrow_222 (by decide) ?_
    refine fz_iadd dX9_narrow_223 ?_
    rw [nI_clamp (by omega), nI_add]
    refine fz_dup2_11 dX9_narrow_224 rfl rfl ?_
    refine fz_lald dX9_narrow_225 rfl rfl (Nat.one_pos) (vp_in_nI (by omega) (by omega)) ?_
    rw [nI_clamp (by omega), pk_uLn (by omega)]
    refine fz_lload dX9_narrow_226 rfl ?_
    refine fz_land dX9_narrow_228 ?_
    refine fz_last1 dX9_narrow_229 rfl rfl (vp_in_nI (by omega) (by omega)) ?_
    rw [nI_clamp (by omega)]
    refine fz_incN dX9_narrow_230 rfl (Nat.le_of_ble_eq_true rfl) ?_
    refine fz_goto (tgt := 2) dX9_narrow_233 (by decide) ?_
    refine fz_pk [0, 7, 8] rfl ?_
    exact kk x y hxy
  · show _ = (_ || (false || _))
    simp
theorem shf_congr {w m : Nat} {X Y : Nat → Bool} (h : ∀ c, X c = Y c) (d : Nat) : shf w m X d = shf w m Y d := by
  rw [show X = Y from funext h]
theorem lX9_narrow_2 {G : fz_G} {E0 : Nat → fz_E} (g : Nat) (hg : g < 2) (sz wd : Nat → Int32) (st : Nat → Nat → Int32) (lo hi : Int64) (rb ts go : Int32) (sho : Option Nat) (hsh : ∀ h, sho = some h → h < 80) (re al : Nat → Int64) (w k : Nat) (h0 : 0 < w) (hw : w ≤ 10) (hS : gS w (st g)) (hk : k < 1000) :
    ∀ q s, s + q = 2 → ∀ r1, nwI w re al k sho s r1 → fz_J G mX9_narrow rX9_narrow (fz_Z G E0 0 0 (fun r U => r = none ∧ ∃ r2, nwI w re al k sho 2 r2 ∧ U = wSp g sz wd st lo hi rb ts (oI sho) go r2 al)) E0 0 0 2 [(2, zI (nI s)), (0, zR 25 0), (1, zI (nI k))] [] (wSp g sz wd st lo hi rb ts (oI sho) go r1 al) := by
  intro q
  induction q with
  | zero =>
    intro s hs r1 h1
    have e : s = 2 := by omega
    subst e
    refine fz_iload_n dX9_narrow_2 rfl ?_
    refine fz_iconst (v := nI 2) dX9_narrow_3 (by decide) ?_
    refine fz_icmp_ge (tgt := 236) dX9_narrow_4 (by decide) (fun c4 => ?_) (fun c4 => ?_)
    · skip
      refine fz_vret dX9_narrow_236 rfl (Nat.zero_le _) (Nat.zero_le _) ⟨rfl, r1, h1, rfl⟩
    · exact absurd (nI_le (Nat.le_refl _) (by omega)) c4
  | succ q ih =>
    intro s hs r1 h1
    have g1 : r1 (4 * k + 2 * s) = re (4 * k + 2 * s) := h1.1 _ (by omega)
    have g2 : r1 (4 * k + 2 * s + 1) = re (4 * k + 2 * s + 1) := h1.1 _ (by omega)
    have g3 : r1 (4 * k + 2 * s + 4) = re (4 * k + 2 * s + 4) := h1.1 _ (by omega)
    have g4 : r1 (4 * k + 2 * s + 5) = re (4 * k + 2 * s + 5) := h1.1 _ (by omega)
    have step : ∀ tl th : Int64, (∀ d, d < 128 → X2 tl th d = toS re k sho s d) → fz_J G mX9_narrow rX9_narrow (fz_Z G E0 0 0 (fun r U => r = none ∧ ∃ r2, nwI w re al k sho 2 r2 ∧ U = wSp g sz wd st lo hi rb ts (oI sho) go r2 al)) E0 0 0 115 [(6, zL th), (4, zL tl), (3, zI (nI (4 * k + 2 * s))), (2, zI (nI s)), (0, zR 25 0), (1, zI (nI k))] [] (wSp g sz wd st lo hi rb ts (oI sho) go r1 al) := by
      intro tl th ht
      refine lX9_narrow_115 g hg sz wd st lo hi rb ts (oI sho) go r1 al w k s h0 hw hS hk (by omega) tl th (fun x y hxy => ?_)
      refine ih (s + 1) (by omega) _ ⟨fun j hj => ?_, fun s' hs' d hd => ?_⟩
      · rw [upL2_ne (by omega) (by omega)]
        exact h1.1 j (by omega)
      · by_cases es : s' = s
        · subst es
          show X2 _ _ d = _
          rw [pk_uLn (show 4 * k + 2 * s' ≠ 4 * k + 2 * s' + 1 by omega), pk_uLs, pk_uLs, X2_and, hxy d hd, ht d hd, g1, g2]
          have hf : X2 tl th = fun c => decide (c < 128) && toS re k sho s' c := by
            funext c
            by_cases hc : c < 128
            · rw [ht c hc]; simp [hc]
            · rw [X2_big _ _ (by omega)]; simp [hc]
          rw [hf]
          rfl
        · show X2 _ _ d = _
          rw [upL2_ne (by omega) (by omega), upL2_ne (by omega) (by omega)]
          exact h1.2 s' (by omega) d hd
    refine fz_iload_n dX9_narrow_2 rfl ?_
    refine fz_iconst (v := nI 2) dX9_narrow_3 (by decide) ?_
    refine fz_icmp_ge (tgt := 236) dX9_narrow_4 (by decide) (fun c4 => ?_) (fun c4 => ?_)
    · exact absurd ((nI_leI (by omega) (by omega)).mp c4) (by omega)
    · skip
      refine fz_iconst (v := nI 4) dX9_narrow_7 (by decide) ?_
      refine fz_iload_n dX9_narrow_8 rfl ?_
      refine fz_imul dX9_narrow_9 ?_
      refine fz_iconst (v := nI 2) dX9_narrow_10 (by decide) ?_
      refine fz_iload_n dX9_narrow_11 rfl ?_
      refine fz_imul dX9_narrow_12 ?_
      refine fz_iadd dX9_narrow_13 ?_
      rw [nI_mul, nI_mul, nI_add]
      refine fz_istore_n dX9_narrow_14 (Nat.le_of_ble_eq_true rfl) ?_
      refine fz_aload_n dX9_narrow_15 rfl ?_
      refine fz_get dX9_narrow_16 fX9_9 rfl (Nat.one_pos) rfl ?_
      refine fz_iload_n dX9_narrow_19 rfl ?_
      refine fz_iconst (v := nI 4) dX9_narrow_20 (by decide) ?_
      refine fz_iadd dX9_narrow_21 ?_
      rw [nI_add]
      refine fz_lald dX9_narrow_22 rfl rfl (Nat.one_pos) (vp_in_nI (by omega) (by omega)) ?_
      refine fz_lstore dX9_narrow_23 (Nat.le_of_ble_eq_true rfl) ?_
      refine fz_aload_n dX9_narrow_25 rfl ?_
      refine fz_get dX9_narrow_26 fX9_9 rfl (Nat.one_pos) rfl ?_
      refine fz_iload_n dX9_narrow_29 rfl ?_
      refine fz_iconst (v := nI 5) dX9_narrow_30 (by decide) ?_
      refine fz_iadd dX9_narrow_31 ?_
      rw [nI_clamp (by omega), nI_add]
      refine fz_lald dX9_narrow_32 rfl rfl (Nat.one_pos) (vp_in_nI (by omega) (by omega)) ?_
      refine fz_lstore dX9_narrow_33 (Nat.le_of_ble_eq_true rfl) ?_
      refine fz_iload_n dX9_narrow_35 rfl ?_
      rw [nI_clamp (by omega), g3, g4]
      refine fz_if_ne (tgt := 115) dX9_narrow_36 (by decide) (fun c36 => ?_) (fun c36 => ?_)
      · have hs1 : ¬ s = 0 := fun z => c36 (by rw [z]; exact nI_0)
        have hs2 : s = 1 := by omega
        subst hs2
        exact step _ _ (fun d hd => rfl)
      · have hs0 : s = 0 := (nI_eq (by omega) (by omega)).mp c36
        subst hs0
        refine fz_aload_n dX9_narrow_39 rfl ?_
        refine fz_get dX9_narrow_40 fX9_33 rfl (Nat.one_pos) rfl ?_
        refine fz_iconst (v := -1) dX9_narrow_43 (by decide) ?_
        cases sho with
        | none =>
          refine fz_icmp_eq (tgt := 115) dX9_narrow_44 (by decide) (fun c44 => ?_) (fun c44 => ?_)
          · refine step _ _ (fun d hd => ?_)
            show _ = (_ || false)
            rw [Bool.or_false]
          · exact absurd rfl c44
        | some h =>
          have hh := hsh h rfl
          have g5 : r1 (4 * k + 6 + h / 64) = re (4 * k + 6 + h / 64) := h1.1 _ (by omega)
          have hxh : xS re (4 * k + 6) h = bl (re (4 * k + 6 + h / 64)) (h % 64) := xS_inS re (4 * k + 6) (show h < 128 by omega)
          refine fz_icmp_eq (tgt := 115) dX9_narrow_44 (by decide) (fun c44 => ?_) (fun c44 => ?_)
          · exact absurd c44 (oI_ne (by omega))
          · skip
            refine fz_aload_n dX9_narrow_47 rfl ?_
            refine fz_get dX9_narrow_48 fX9_9 rfl (Nat.one_pos) rfl ?_
            refine fz_iconst (v := nI 4) dX9_narrow_51 (by decide) ?_
            refine fz_iload_n dX9_narrow_52 rfl ?_
            refine fz_imul dX9_narrow_53 ?_
            refine fz_bipush (v := nI 6) dX9_narrow_54 (by decide) ?_
            refine fz_iadd dX9_narrow_56 ?_
            refine fz_aload_n dX9_narrow_57 rfl ?_
            refine fz_get dX9_narrow_58 fX9_33 rfl (Nat.one_pos) rfl ?_
            rw [nI_mul, nI_add]
            refine fz_bipush (v := nI 6) dX9_narrow_61 (by decide) ?_
            refine fz_ishr dX9_narrow_63 ?_
            refine fz_top (y := nI (h / 64)) (shr6 hh) ?_
            refine fz_iadd dX9_narrow_64 ?_
            rw [nI_add]
            refine fz_lald dX9_narrow_65 rfl rfl (Nat.one_pos) (vp_in_nI (by omega) (by omega)) ?_
            refine fz_lconst (v := 1) dX9_narrow_66 (by decide) ?_
            refine fz_aload_n dX9_narrow_67 rfl ?_
            refine fz_get dX9_narrow_68 fX9_33 rfl (Nat.one_pos) rfl ?_
            refine fz_lshl dX9_narrow_71 ?_
            refine fz_land dX9_narrow_72 ?_
            rw [nI_clamp (by omega), g5]
            have hen : ∀ i, i < 64 → bl (re (4 * k + 6 + h / 64) &&& ((1 : Int64) <<< ((nI h).toInt64 &&& 63))) i = (xS re (4 * k + 6) h && decide (i = h % 64)) := by
              intro i hi
              rw [bl_and, bl_1shl (by omega) hi, hxh]
              by_cases e : i = h % 64
              · subst e; simp
              · simp [e]
            refine fz_lstore dX9_narrow_73 (Nat.le_of_ble_eq_true rfl) ?_
            refine fz_lload dX9_narrow_75 rfl ?_
            refine fz_aload_n dX9_narrow_77 rfl ?_
            refine fz_get dX9_narrow_78 fX9_33 rfl (Nat.one_pos) rfl ?_
            refine fz_bipush (v := nI 64) dX9_narrow_81 (by decide) ?_
            refine fz_icmp_ge (tgt := 91) dX9_narrow_83 (by decide) (fun c83 => ?_) (fun c83 => ?_)
            · have h64 : 64 ≤ h := (nI_leI (by omega) (by omega)).mp c83
              refine fz_lconst (v := 0) dX9_narrow_91 (by decide) ?_
              refine fz_lor dX9_narrow_92 ?_
              refine fz_lstore dX9_narrow_93 (Nat.le_of_ble_eq_true rfl) ?_
              refine fz_lload dX9_narrow_95 rfl ?_
              refine fz_aload_n dX9_narrow_97 rfl ?_
              refine fz_get dX9_narrow_98 fX9_33 rfl (Nat.one_pos) rfl ?_
              refine fz_bipush (v := nI 64) dX9_narrow_101 (by decide) ?_
              refine fz_icmp_ge (tgt := 110) dX9_narrow_103 (by decide) (fun c103 => ?_) (fun c103 => ?_)
              · skip
                refine fz_lload dX9_narrow_110 rfl ?_
                refine fz_lor dX9_narrow_112 ?_
                refine fz_lstore dX9_narrow_113 (Nat.le_of_ble_eq_true rfl) ?_
                refine fz_pk [0, 1, 3, 4, 5, 6] rfl ?_
                refine step _ _ (fun d hd => ?_)
                rw [X2_or2]
                show (xS re (4 * k + 4) d || _) = (xS re (4 * k + 4) d || (decide (d = h) && xS re (4 * k + 6) h))
                congr 1
                unfold X2
                by_cases hd6 : d < 64
                · have : ¬ d = h := by omega
                  rw [if_pos hd6, bl_0]; simp [this]
                · rw [if_neg hd6, show oI (some h) = nI h from rfl, hen (d - 64) (by omega), Bool.and_comm]
                  congr 1
                  simp only [decide_eq_decide]
                  omega
              · exact absurd (nI_le h64 (by omega)) c103
            · have h64 : h < 64 := by
                rcases Nat.lt_or_ge h 64 with z | z
                · exact z
                · exact absurd (nI_le z (by omega)) c83
              refine fz_lload dX9_narrow_86 rfl ?_
              refine fz_goto (tgt := 92) dX9_narrow_88 (by decide) ?_
              refine fz_lor dX9_narrow_92 ?_
              refine fz_lstore dX9_narrow_93 (Nat.le_of_ble_eq_true rfl) ?_
              refine fz_lload dX9_narrow_95 rfl ?_
              refine fz_aload_n dX9_narrow_97 rfl ?_
              refine fz_get dX9_narrow_98 fX9_33 rfl (Nat.one_pos) rfl ?_
              refine fz_bipush (v := nI 64) dX9_narrow_101 (by decide) ?_
              refine fz_icmp_ge (tgt := 110) dX9_narrow_103 (by decide) (fun c103 => ?_) (fun c103 => ?_)
              · exact absurd ((nI_leI (by omega) (by omega)).mp c103) (by omega)
              · skip
                refine fz_lconst (v := 0) dX9_narrow_106 (by decide) ?_
                refine fz_goto (tgt := 112) dX9_narrow_107 (by decide) ?_
                refine fz_lor dX9_narrow_112 ?_
                refine fz_lstore dX9_narrow_113 (Nat.le_of_ble_eq_true rfl) ?_
                refine fz_pk [0, 1, 3, 4, 5, 6] rfl ?_
                refine step _ _ (fun d hd => ?_)
                rw [X2_or2]
                show (xS re (4 * k + 4) d || _) = (xS re (4 * k + 4) d || (decide (d = h) && xS re (4 * k + 6) h))
                congr 1
                unfold X2
                by_cases hd6 : d < 64
                · rw [if_pos hd6, show oI (some h) = nI h from rfl, hen d hd6, Bool.and_comm]
                  congr 1
                  simp only [decide_eq_decide]
                  omega
                · have : ¬ d = h := by omega
                  rw [if_neg hd6, bl_0]; simp [this]
theorem tX9_narrow {G : fz_G} (g : Nat) (hg : g < 2) (sz wd : Nat → Int32) (st : Nat → Nat → Int32) (lo hi : Int64) (rb ts go : Int32) (sho : Option Nat) (hsh : ∀ h, sho = some h → h < 80) (re al : Nat → Int64) (w k : Nat) (h0 : 0 < w) (hw : w ≤ 10) (hS : gS w (st g)) (hk : k < 1000) : fz_T G mX9_narrow rX9_narrow [zR 25 0, zI (nI k)] (wSp g sz wd st lo hi rb ts (oI sho) go re al) (fun r U => r = none ∧ ∃ r2, nwI w re al k sho 2 r2 ∧ U = wSp g sz wd st lo hi rb ts (oI sho) go r2 al) := by
  refine fz_T.of (by decide) (Nat.le_of_ble_eq_true rfl) (fun E0 => ?_)
  refine fz_iconst (v := nI 0) dX9_narrow_0 (by decide) ?_
  refine fz_istore_n dX9_narrow_1 (Nat.le_of_ble_eq_true rfl) ?_
  exact lX9_narrow_2 g hg sz wd st lo hi rb ts go sho hsh re al w k h0 hw hS hk 2 0 rfl re ⟨fun j _ => rfl, fun s' hs' => by omega⟩
