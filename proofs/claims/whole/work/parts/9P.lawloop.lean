/-! THE LAW'S CASES AND ITS LOOP. Printed by our own program (law.py). -/
theorem inA_Z {σ : zS} (h : inA σ) : inZ σ := by
  obtain ⟨tx, n, fp, cn, w, kn, on, tn, rn, s⟩ := σ
  exact h.1
theorem inA_t0 {σ : zS} (h : inA σ) : tmF σ.2.2.2.2.2.2.2.2.2 = 0 → ∀ q, q < σ.2.2.2.2.2.2.2.2.1 → σ.2.2.2.2.2.2.2.2.2.2.2.2.1 q = 0 := by
  obtain ⟨tx, n, fp, cn, w, kn, on, tn, rn, s⟩ := σ
  exact h.2.2.2.2
theorem inA_w {σ : zS} (h : inA σ) : 0 < σ.2.2.2.1 → σ.2.2.2.2.1 ≤ 10 := by
  obtain ⟨tx, n, fp, cn, w, kn, on, tn, rn, s⟩ := σ
  exact fun z => (h.2.2.2.1 z).1
theorem inA_te {σ : zS} (h : inA σ) : ∀ q, q < σ.2.2.2.2.2.2.2.2.1 → σ.2.2.2.2.2.2.2.2.2.2.2.2.1 q ≤ tmF σ.2.2.2.2.2.2.2.2.2 + 1000 := by
  obtain ⟨tx, n, fp, cn, w, kn, on, tn, rn, s⟩ := σ
  intro q hq
  have hq : q < rn := hq
  have hcn := cn_pos h.1.2.1 hq
  have := te_6 h.1.1.2.2.1 (h.2.2.2.1 hcn).2.2 q hq
  show s.2.2.2.1 q ≤ tmF s + 1000
  omega
theorem inA_X {σ : zS} (h : inA σ) : allX σ := by
  rcases Nat.eq_zero_or_pos σ.2.2.2.2.2.2.2.2.1 with z | z
  · obtain ⟨tx, n, fp, cn, w, kn, on, tn, rn, s⟩ := σ
    have z : rn = 0 := z
    subst z
    exact fun i _ j hj => absurd hj (Nat.not_lt_zero j)
  · exact allX_of h z
abbrev lsL (i : Nat) : List (Nat × fz_V) := [(3, zI (nI i)), (2, zR 30 0), (1, zR 1 0), (0, zR 99 0)]
section LWC
variable {G : fz_G} {nm : String} {E0 : Nat → fz_E} {B b L : Nat} {xs : Nat → Int32}
theorem lw_type (hB : G.2.2.2.1 = B) (hb : G.2.2.2.2 99 0 = b) (hL : L ≤ 2560) (i : Nat) (hi : i + 5 ≤ L) (σ : zS) (Vx Vm : fz_W) (hI : inA σ) (hX : clR σ Vx) (hM : mdR σ Vm) (kk : ∀ σ' Vx' Vm', inA σ' → clR σ' Vx' → mdR σ' Vm' → fz_J G (mLw nm) room_1 (lwZ B b L xs) E0 193 370295 597 (lsL i) [] (Vx' ++ Vm')) : fz_J G (mLw nm) room_1 (lwZ B b L xs) E0 193 370295 116 (lsL i) [] (Vx ++ Vm) := by
  refine fz_aload_n dL_law_116 rfl ?_
  refine fz_aload_n dL_law_117 rfl ?_
  refine fz_iload_n dL_law_118 rfl ?_
  refine fz_iconst (v := nI 1) dL_law_119 (by decide) ?_
  refine fz_iadd dL_law_120 ?_
  rw [nI_add]
  refine lw_ild (j := i + 1) hB hb (by omega) hL dL_law_121 ?_
  refine fz_i2l dL_law_122 ?_
  refine fz_bipush (v := nI 32) dL_law_123 (by decide) ?_
  refine fz_lshl dL_law_125 ?_
  refine fz_aload_n dL_law_126 rfl ?_
  refine fz_iload_n dL_law_127 rfl ?_
  refine fz_iconst (v := nI 2) dL_law_128 (by decide) ?_
  refine fz_iadd dL_law_129 ?_
  rw [nI_add]
  refine lw_ild (j := i + 2) hB hb (by omega) hL dL_law_130 ?_
  refine fz_i2l dL_law_131 ?_
  refine fz_ldc2 dL_law_132 nL_13 ?_
  refine fz_land dL_law_135 ?_
  refine fz_lor dL_law_136 ?_
  refine lw_cX (tX10_type σ Vx hX _) hX dL_law_137 kL_15 rfl rfl (Nat.le_of_ble_eq_true rfl) (Nat.le_of_ble_eq_true rfl) (Nat.le_of_ble_eq_true rfl) rfl (fun Vx' hX' => ?_)
  refine fz_aload_n dL_law_140 rfl ?_
  refine fz_aload_n dL_law_141 rfl ?_
  refine fz_iload_n dL_law_142 rfl ?_
  refine fz_iconst (v := nI 1) dL_law_143 (by decide) ?_
  refine fz_iadd dL_law_144 ?_
  rw [nI_add]
  refine lw_ild (j := i + 1) hB hb (by omega) hL dL_law_145 ?_
  refine fz_i2l dL_law_146 ?_
  refine fz_bipush (v := nI 32) dL_law_147 (by decide) ?_
  refine fz_lshl dL_law_149 ?_
  refine fz_aload_n dL_law_150 rfl ?_
  refine fz_iload_n dL_law_151 rfl ?_
  refine fz_iconst (v := nI 2) dL_law_152 (by decide) ?_
  refine fz_iadd dL_law_153 ?_
  rw [nI_add]
  refine lw_ild (j := i + 2) hB hb (by omega) hL dL_law_154 ?_
  refine fz_i2l dL_law_155 ?_
  refine fz_ldc2 dL_law_156 nL_13 ?_
  refine fz_land dL_law_159 ?_
  refine fz_lor dL_law_160 ?_
  refine lw_cM (md_type σ Vm hM _) (clR_ky hX') hM dL_law_161 kL_19 rfl rfl (Nat.le_of_ble_eq_true rfl) (Nat.le_of_ble_eq_true rfl) (Nat.le_of_ble_eq_true rfl) rfl (fun Vm' hM' => ?_)
  refine fz_icmp_eq (tgt := 597) dL_law_164 (by decide) (fun _ => ?_) (fun z => absurd rfl z)
  exact kk _ Vx' Vm' (inA_typ hI _) hX' hM'
theorem lw_erase (hB : G.2.2.2.1 = B) (hb : G.2.2.2.2 99 0 = b) (hL : L ≤ 2560) (i : Nat) (hi : i + 5 ≤ L) (σ : zS) (Vx Vm : fz_W) (hI : inA σ) (hX : clR σ Vx) (hM : mdR σ Vm) (kk : ∀ σ' Vx' Vm', inA σ' → clR σ' Vx' → mdR σ' Vm' → fz_J G (mLw nm) room_1 (lwZ B b L xs) E0 193 370295 597 (lsL i) [] (Vx' ++ Vm')) : fz_J G (mLw nm) room_1 (lwZ B b L xs) E0 193 370295 169 (lsL i) [] (Vx ++ Vm) := by
  refine fz_aload_n dL_law_169 rfl ?_
  refine lw_cX (tX10_erase σ Vx hX) hX dL_law_170 kL_20 rfl rfl (Nat.le_of_ble_eq_true rfl) (Nat.le_of_ble_eq_true rfl) (Nat.le_of_ble_eq_true rfl) rfl (fun Vx' hX' => ?_)
  refine fz_aload_n dL_law_173 rfl ?_
  refine lw_cM (md_erase σ Vm hM) (clR_ky hX') hM dL_law_174 kL_24 rfl rfl (Nat.le_of_ble_eq_true rfl) (Nat.le_of_ble_eq_true rfl) (Nat.le_of_ble_eq_true rfl) rfl (fun Vm' hM' => ?_)
  refine fz_icmp_eq (tgt := 597) dL_law_177 (by decide) (fun _ => ?_) (fun z => absurd rfl z)
  exact kk _ Vx' Vm' (inA_era hI) hX' hM'
theorem lw_read (hB : G.2.2.2.1 = B) (hb : G.2.2.2.2 99 0 = b) (hL : L ≤ 2560) (i : Nat) (hi : i + 5 ≤ L) (σ : zS) (Vx Vm : fz_W) (hI : inA σ) (hX : clR σ Vx) (hM : mdR σ Vm) (kk : ∀ σ' Vx' Vm', inA σ' → clR σ' Vx' → mdR σ' Vm' → fz_J G (mLw nm) room_1 (lwZ B b L xs) E0 193 370295 597 (lsL i) [] (Vx' ++ Vm')) : fz_J G (mLw nm) room_1 (lwZ B b L xs) E0 193 370295 182 (lsL i) [] (Vx ++ Vm) := by
  refine fz_aload_n dL_law_182 rfl ?_
  refine lw_cX (tX10_read σ Vx hX) hX dL_law_183 kL_25 rfl rfl (Nat.le_of_ble_eq_true rfl) (Nat.le_of_ble_eq_true rfl) (Nat.le_of_ble_eq_true rfl) rfl (fun Vx' hX' => ?_)
  refine fz_aload_n dL_law_186 rfl ?_
  refine lw_cM (md_read σ Vm hM) (clR_ky hX') hM dL_law_187 kL_28 rfl rfl (Nat.le_of_ble_eq_true rfl) (Nat.le_of_ble_eq_true rfl) (Nat.le_of_ble_eq_true rfl) rfl (fun Vm' hM' => ?_)
  refine fz_icmp_eq (tgt := 597) dL_law_190 (by decide) (fun _ => ?_) (fun z => absurd rfl z)
  exact kk _ Vx' Vm' (inA_rd hI) hX' hM'
theorem lw_place (hB : G.2.2.2.1 = B) (hb : G.2.2.2.2 99 0 = b) (hL : L ≤ 2560) (i : Nat) (hi : i + 5 ≤ L) (σ : zS) (Vx Vm : fz_W) (hI : inA σ) (hX : clR σ Vx) (hM : mdR σ Vm) (kk : ∀ σ' Vx' Vm', inA σ' → clR σ' Vx' → mdR σ' Vm' → fz_J G (mLw nm) room_1 (lwZ B b L xs) E0 193 370295 597 (lsL i) [] (Vx' ++ Vm')) : fz_J G (mLw nm) room_1 (lwZ B b L xs) E0 193 370295 195 (lsL i) [] (Vx ++ Vm) := by
  refine fz_aload_n dL_law_195 rfl ?_
  refine lw_cX (tX10_place σ Vx hX) hX dL_law_196 kL_29 rfl rfl (Nat.le_of_ble_eq_true rfl) (Nat.le_of_ble_eq_true rfl) (Nat.le_of_ble_eq_true rfl) rfl (fun Vx' hX' => ?_)
  refine fz_aload_n dL_law_199 rfl ?_
  refine lw_cM (md_place σ Vm hM) (clR_ky hX') hM dL_law_200 kL_32 rfl rfl (Nat.le_of_ble_eq_true rfl) (Nat.le_of_ble_eq_true rfl) (Nat.le_of_ble_eq_true rfl) rfl (fun Vm' hM' => ?_)
  refine fz_icmp_eq (tgt := 597) dL_law_203 (by decide) (fun _ => ?_) (fun z => absurd rfl z)
  exact kk _ Vx' Vm' (hI) hX' hM'
theorem lw_cell (hB : G.2.2.2.1 = B) (hb : G.2.2.2.2 99 0 = b) (hL : L ≤ 2560) (i : Nat) (hi : i + 5 ≤ L) (σ : zS) (Vx Vm : fz_W) (hI : inA σ) (hX : clR σ Vx) (hM : mdR σ Vm) (kk : ∀ σ' Vx' Vm', inA σ' → clR σ' Vx' → mdR σ' Vm' → fz_J G (mLw nm) room_1 (lwZ B b L xs) E0 193 370295 597 (lsL i) [] (Vx' ++ Vm')) : fz_J G (mLw nm) room_1 (lwZ B b L xs) E0 193 370295 208 (lsL i) [] (Vx ++ Vm) := by
  refine fz_aload_n dL_law_208 rfl ?_
  refine fz_aload_n dL_law_209 rfl ?_
  refine fz_iload_n dL_law_210 rfl ?_
  refine fz_iconst (v := nI 1) dL_law_211 (by decide) ?_
  refine fz_iadd dL_law_212 ?_
  rw [nI_add]
  refine lw_ild (j := i + 1) hB hb (by omega) hL dL_law_213 ?_
  refine lw_cX (tX10_cell σ Vx hX _) hX dL_law_214 kL_33 rfl rfl (Nat.le_of_ble_eq_true rfl) (Nat.le_of_ble_eq_true rfl) (Nat.le_of_ble_eq_true rfl) rfl (fun Vx' hX' => ?_)
  refine fz_aload_n dL_law_217 rfl ?_
  refine fz_aload_n dL_law_218 rfl ?_
  refine fz_iload_n dL_law_219 rfl ?_
  refine fz_iconst (v := nI 1) dL_law_220 (by decide) ?_
  refine fz_iadd dL_law_221 ?_
  rw [nI_add]
  refine lw_ild (j := i + 1) hB hb (by omega) hL dL_law_222 ?_
  refine lw_cM (md_cell σ Vm hM _) (clR_ky hX') hM dL_law_223 kL_37 rfl rfl (Nat.le_of_ble_eq_true rfl) (Nat.le_of_ble_eq_true rfl) (Nat.le_of_ble_eq_true rfl) rfl (fun Vm' hM' => ?_)
  refine fz_icmp_eq (tgt := 597) dL_law_226 (by decide) (fun _ => ?_) (fun z => absurd rfl z)
  exact kk _ Vx' Vm' (hI) hX' hM'
theorem lw_distance (hB : G.2.2.2.1 = B) (hb : G.2.2.2.2 99 0 = b) (hL : L ≤ 2560) (i : Nat) (hi : i + 5 ≤ L) (σ : zS) (Vx Vm : fz_W) (hI : inA σ) (hX : clR σ Vx) (hM : mdR σ Vm) (kk : ∀ σ' Vx' Vm', inA σ' → clR σ' Vx' → mdR σ' Vm' → fz_J G (mLw nm) room_1 (lwZ B b L xs) E0 193 370295 597 (lsL i) [] (Vx' ++ Vm')) : fz_J G (mLw nm) room_1 (lwZ B b L xs) E0 193 370295 231 (lsL i) [] (Vx ++ Vm) := by
  refine fz_aload_n dL_law_231 rfl ?_
  refine fz_aload_n dL_law_232 rfl ?_
  refine fz_iload_n dL_law_233 rfl ?_
  refine fz_iconst (v := nI 1) dL_law_234 (by decide) ?_
  refine fz_iadd dL_law_235 ?_
  rw [nI_add]
  refine lw_ild (j := i + 1) hB hb (by omega) hL dL_law_236 ?_
  refine fz_aload_n dL_law_237 rfl ?_
  refine fz_iload_n dL_law_238 rfl ?_
  refine fz_iconst (v := nI 2) dL_law_239 (by decide) ?_
  refine fz_iadd dL_law_240 ?_
  rw [nI_add]
  refine lw_ild (j := i + 2) hB hb (by omega) hL dL_law_241 ?_
  refine lw_cX (tX10_distance σ Vx hX _ _) hX dL_law_242 kL_38 rfl rfl (Nat.le_of_ble_eq_true rfl) (Nat.le_of_ble_eq_true rfl) (Nat.le_of_ble_eq_true rfl) rfl (fun Vx' hX' => ?_)
  refine fz_aload_n dL_law_245 rfl ?_
  refine fz_aload_n dL_law_246 rfl ?_
  refine fz_iload_n dL_law_247 rfl ?_
  refine fz_iconst (v := nI 1) dL_law_248 (by decide) ?_
  refine fz_iadd dL_law_249 ?_
  rw [nI_add]
  refine lw_ild (j := i + 1) hB hb (by omega) hL dL_law_250 ?_
  refine fz_aload_n dL_law_251 rfl ?_
  refine fz_iload_n dL_law_252 rfl ?_
  refine fz_iconst (v := nI 2) dL_law_253 (by decide) ?_
  refine fz_iadd dL_law_254 ?_
  rw [nI_add]
  refine lw_ild (j := i + 2) hB hb (by omega) hL dL_law_255 ?_
  refine lw_cM (md_distance σ Vm hM _ _) (clR_ky hX') hM dL_law_256 kL_42 rfl rfl (Nat.le_of_ble_eq_true rfl) (Nat.le_of_ble_eq_true rfl) (Nat.le_of_ble_eq_true rfl) rfl (fun Vm' hM' => ?_)
  refine fz_icmp_eq (tgt := 597) dL_law_259 (by decide) (fun _ => ?_) (fun z => absurd rfl z)
  exact kk _ Vx' Vm' (hI) hX' hM'
theorem lw_robot (hB : G.2.2.2.1 = B) (hb : G.2.2.2.2 99 0 = b) (hL : L ≤ 2560) (i : Nat) (hi : i + 5 ≤ L) (σ : zS) (Vx Vm : fz_W) (hI : inA σ) (hX : clR σ Vx) (hM : mdR σ Vm) (kk : ∀ σ' Vx' Vm', inA σ' → clR σ' Vx' → mdR σ' Vm' → fz_J G (mLw nm) room_1 (lwZ B b L xs) E0 193 370295 597 (lsL i) [] (Vx' ++ Vm')) : fz_J G (mLw nm) room_1 (lwZ B b L xs) E0 193 370295 264 (lsL i) [] (Vx ++ Vm) := by
  refine fz_aload_n dL_law_264 rfl ?_
  refine fz_aload_n dL_law_265 rfl ?_
  refine fz_iload_n dL_law_266 rfl ?_
  refine fz_iconst (v := nI 1) dL_law_267 (by decide) ?_
  refine fz_iadd dL_law_268 ?_
  rw [nI_add]
  refine lw_ild (j := i + 1) hB hb (by omega) hL dL_law_269 ?_
  refine lw_cX (tX10_robot σ Vx (inA_Z hI) hX _) hX dL_law_270 kL_43 rfl rfl (Nat.le_of_ble_eq_true rfl) (Nat.le_of_ble_eq_true rfl) (Nat.le_of_ble_eq_true rfl) rfl (fun Vx' hX' => ?_)
  refine fz_aload_n dL_law_273 rfl ?_
  refine fz_aload_n dL_law_274 rfl ?_
  refine fz_iload_n dL_law_275 rfl ?_
  refine fz_iconst (v := nI 1) dL_law_276 (by decide) ?_
  refine fz_iadd dL_law_277 ?_
  rw [nI_add]
  refine lw_ild (j := i + 1) hB hb (by omega) hL dL_law_278 ?_
  refine lw_cM (md_robot σ Vm (inA_Z hI) (inA_t0 hI) hM _) (clR_ky hX') hM dL_law_279 kL_46 rfl rfl (Nat.le_of_ble_eq_true rfl) (Nat.le_of_ble_eq_true rfl) (Nat.le_of_ble_eq_true rfl) rfl (fun Vm' hM' => ?_)
  refine fz_icmp_eq (tgt := 597) dL_law_282 (by decide) (fun _ => ?_) (fun z => absurd rfl z)
  exact kk _ Vx' Vm' (inA_rob hI _) hX' hM'
theorem lw_order (hB : G.2.2.2.1 = B) (hb : G.2.2.2.2 99 0 = b) (hL : L ≤ 2560) (i : Nat) (hi : i + 5 ≤ L) (σ : zS) (Vx Vm : fz_W) (hI : inA σ) (hX : clR σ Vx) (hM : mdR σ Vm) (kk : ∀ σ' Vx' Vm', inA σ' → clR σ' Vx' → mdR σ' Vm' → fz_J G (mLw nm) room_1 (lwZ B b L xs) E0 193 370295 597 (lsL i) [] (Vx' ++ Vm')) : fz_J G (mLw nm) room_1 (lwZ B b L xs) E0 193 370295 287 (lsL i) [] (Vx ++ Vm) := by
  refine fz_aload_n dL_law_287 rfl ?_
  refine fz_aload_n dL_law_288 rfl ?_
  refine fz_iload_n dL_law_289 rfl ?_
  refine fz_iconst (v := nI 1) dL_law_290 (by decide) ?_
  refine fz_iadd dL_law_291 ?_
  rw [nI_add]
  refine lw_ild (j := i + 1) hB hb (by omega) hL dL_law_292 ?_
  refine fz_aload_n dL_law_293 rfl ?_
  refine fz_iload_n dL_law_294 rfl ?_
  refine fz_iconst (v := nI 2) dL_law_295 (by decide) ?_
  refine fz_iadd dL_law_296 ?_
  rw [nI_add]
  refine lw_ild (j := i + 2) hB hb (by omega) hL dL_law_297 ?_
  refine fz_aload_n dL_law_298 rfl ?_
  refine fz_iload_n dL_law_299 rfl ?_
  refine fz_iconst (v := nI 3) dL_law_300 (by decide) ?_
  refine fz_iadd dL_law_301 ?_
  rw [nI_add]
  refine lw_ild (j := i + 3) hB hb (by omega) hL dL_law_302 ?_
  refine fz_aload_n dL_law_303 rfl ?_
  refine fz_iload_n dL_law_304 rfl ?_
  refine fz_iconst (v := nI 4) dL_law_305 (by decide) ?_
  refine fz_iadd dL_law_306 ?_
  rw [nI_add]
  refine lw_ild (j := i + 4) hB hb (by omega) hL dL_law_307 ?_
  refine lw_cX (tX10_order σ Vx (inA_Z hI) hX _ _ _ _) hX dL_law_308 kL_47 rfl rfl (Nat.le_of_ble_eq_true rfl) (Nat.le_of_ble_eq_true rfl) (Nat.le_of_ble_eq_true rfl) rfl (fun Vx' hX' => ?_)
  refine fz_aload_n dL_law_311 rfl ?_
  refine fz_aload_n dL_law_312 rfl ?_
  refine fz_iload_n dL_law_313 rfl ?_
  refine fz_iconst (v := nI 1) dL_law_314 (by decide) ?_
  refine fz_iadd dL_law_315 ?_
  rw [nI_add]
  refine lw_ild (j := i + 1) hB hb (by omega) hL dL_law_316 ?_
  refine fz_aload_n dL_law_317 rfl ?_
  refine fz_iload_n dL_law_318 rfl ?_
  refine fz_iconst (v := nI 2) dL_law_319 (by decide) ?_
  refine fz_iadd dL_law_320 ?_
  rw [nI_add]
  refine lw_ild (j := i + 2) hB hb (by omega) hL dL_law_321 ?_
  refine fz_aload_n dL_law_322 rfl ?_
  refine fz_iload_n dL_law_323 rfl ?_
  refine fz_iconst (v := nI 3) dL_law_324 (by decide) ?_
  refine fz_iadd dL_law_325 ?_
  rw [nI_add]
  refine lw_ild (j := i + 3) hB hb (by omega) hL dL_law_326 ?_
  refine fz_aload_n dL_law_327 rfl ?_
  refine fz_iload_n dL_law_328 rfl ?_
  refine fz_iconst (v := nI 4) dL_law_329 (by decide) ?_
  refine fz_iadd dL_law_330 ?_
  rw [nI_add]
  refine lw_ild (j := i + 4) hB hb (by omega) hL dL_law_331 ?_
  refine lw_cM (md_order σ Vm (inA_Z hI) hM _ _ _ _) (clR_ky hX') hM dL_law_332 kL_51 rfl rfl (Nat.le_of_ble_eq_true rfl) (Nat.le_of_ble_eq_true rfl) (Nat.le_of_ble_eq_true rfl) rfl (fun Vm' hM' => ?_)
  refine fz_icmp_eq (tgt := 597) dL_law_335 (by decide) (fun _ => ?_) (fun z => absurd rfl z)
  exact kk _ Vx' Vm' (inA_ord hI _ _ _ _) hX' hM'
theorem lw_cancel (hB : G.2.2.2.1 = B) (hb : G.2.2.2.2 99 0 = b) (hL : L ≤ 2560) (i : Nat) (hi : i + 5 ≤ L) (σ : zS) (Vx Vm : fz_W) (hI : inA σ) (hX : clR σ Vx) (hM : mdR σ Vm) (kk : ∀ σ' Vx' Vm', inA σ' → clR σ' Vx' → mdR σ' Vm' → fz_J G (mLw nm) room_1 (lwZ B b L xs) E0 193 370295 597 (lsL i) [] (Vx' ++ Vm')) : fz_J G (mLw nm) room_1 (lwZ B b L xs) E0 193 370295 340 (lsL i) [] (Vx ++ Vm) := by
  refine fz_aload_n dL_law_340 rfl ?_
  refine fz_aload_n dL_law_341 rfl ?_
  refine fz_iload_n dL_law_342 rfl ?_
  refine fz_iconst (v := nI 1) dL_law_343 (by decide) ?_
  refine fz_iadd dL_law_344 ?_
  rw [nI_add]
  refine lw_ild (j := i + 1) hB hb (by omega) hL dL_law_345 ?_
  refine lw_cX (tX10_cancel σ Vx (inA_Z hI) hX _) hX dL_law_346 kL_52 rfl rfl (Nat.le_of_ble_eq_true rfl) (Nat.le_of_ble_eq_true rfl) (Nat.le_of_ble_eq_true rfl) rfl (fun Vx' hX' => ?_)
  refine fz_aload_n dL_law_349 rfl ?_
  refine fz_aload_n dL_law_350 rfl ?_
  refine fz_iload_n dL_law_351 rfl ?_
  refine fz_iconst (v := nI 1) dL_law_352 (by decide) ?_
  refine fz_iadd dL_law_353 ?_
  rw [nI_add]
  refine lw_ild (j := i + 1) hB hb (by omega) hL dL_law_354 ?_
  refine lw_cM (md_cancel σ Vm (inA_Z hI) hM _) (clR_ky hX') hM dL_law_355 kL_55 rfl rfl (Nat.le_of_ble_eq_true rfl) (Nat.le_of_ble_eq_true rfl) (Nat.le_of_ble_eq_true rfl) rfl (fun Vm' hM' => ?_)
  refine fz_icmp_eq (tgt := 597) dL_law_358 (by decide) (fun _ => ?_) (fun z => absurd rfl z)
  exact kk _ Vx' Vm' (inA_can hI _) hX' hM'
theorem lw_tick (hB : G.2.2.2.1 = B) (hb : G.2.2.2.2 99 0 = b) (hL : L ≤ 2560) (i : Nat) (hi : i + 5 ≤ L) (σ : zS) (Vx Vm : fz_W) (hI : inA σ) (hX : clR σ Vx) (hM : mdR σ Vm) (kk : ∀ σ' Vx' Vm', inA σ' → clR σ' Vx' → mdR σ' Vm' → fz_J G (mLw nm) room_1 (lwZ B b L xs) E0 193 370295 597 (lsL i) [] (Vx' ++ Vm')) : fz_J G (mLw nm) room_1 (lwZ B b L xs) E0 193 370295 363 (lsL i) [] (Vx ++ Vm) := by
  refine fz_aload_n dL_law_363 rfl ?_
  refine fz_aload_n dL_law_364 rfl ?_
  refine fz_iload_n dL_law_365 rfl ?_
  refine fz_iconst (v := nI 1) dL_law_366 (by decide) ?_
  refine fz_iadd dL_law_367 ?_
  rw [nI_add]
  refine lw_ild (j := i + 1) hB hb (by omega) hL dL_law_368 ?_
  refine lw_cX (tX10_tick σ Vx (inA_Z hI) hX _) hX dL_law_369 kL_56 rfl rfl (Nat.le_of_ble_eq_true rfl) (Nat.le_of_ble_eq_true rfl) (Nat.le_of_ble_eq_true rfl) rfl (fun Vx' hX' => ?_)
  refine fz_aload_n dL_law_372 rfl ?_
  refine fz_aload_n dL_law_373 rfl ?_
  refine fz_iload_n dL_law_374 rfl ?_
  refine fz_iconst (v := nI 1) dL_law_375 (by decide) ?_
  refine fz_iadd dL_law_376 ?_
  rw [nI_add]
  refine lw_ild (j := i + 1) hB hb (by omega) hL dL_law_377 ?_
  refine lw_cM (tX11_tick σ Vm (inA_Z hI) (inA_X hI) (inA_w hI) hM _) (clR_ky hX') hM dL_law_378 kL_59 rfl rfl (Nat.le_of_ble_eq_true rfl) (Nat.le_of_ble_eq_true rfl) (Nat.le_of_ble_eq_true rfl) rfl (fun Vm' hM' => ?_)
  refine fz_icmp_eq (tgt := 597) dL_law_381 (by decide) (fun _ => ?_) (fun z => absurd rfl z)
  exact kk _ Vx' Vm' (inA_tic hI _) hX' hM'
theorem lw_settle (hB : G.2.2.2.1 = B) (hb : G.2.2.2.2 99 0 = b) (hL : L ≤ 2560) (i : Nat) (hi : i + 5 ≤ L) (σ : zS) (Vx Vm : fz_W) (hI : inA σ) (hX : clR σ Vx) (hM : mdR σ Vm) (kk : ∀ σ' Vx' Vm', inA σ' → clR σ' Vx' → mdR σ' Vm' → fz_J G (mLw nm) room_1 (lwZ B b L xs) E0 193 370295 597 (lsL i) [] (Vx' ++ Vm')) : fz_J G (mLw nm) room_1 (lwZ B b L xs) E0 193 370295 386 (lsL i) [] (Vx ++ Vm) := by
  refine fz_aload_n dL_law_386 rfl ?_
  refine fz_aload_n dL_law_387 rfl ?_
  refine fz_iload_n dL_law_388 rfl ?_
  refine fz_iconst (v := nI 1) dL_law_389 (by decide) ?_
  refine fz_iadd dL_law_390 ?_
  rw [nI_add]
  refine lw_ild (j := i + 1) hB hb (by omega) hL dL_law_391 ?_
  refine lw_cX (tX10_settle σ Vx (inA_Z hI) hX _) hX dL_law_392 kL_60 rfl rfl (Nat.le_of_ble_eq_true rfl) (Nat.le_of_ble_eq_true rfl) (Nat.le_of_ble_eq_true rfl) rfl (fun Vx' hX' => ?_)
  refine fz_aload_n dL_law_395 rfl ?_
  refine fz_aload_n dL_law_396 rfl ?_
  refine fz_iload_n dL_law_397 rfl ?_
  refine fz_iconst (v := nI 1) dL_law_398 (by decide) ?_
  refine fz_iadd dL_law_399 ?_
  rw [nI_add]
  refine lw_ild (j := i + 1) hB hb (by omega) hL dL_law_400 ?_
  refine lw_cM (tX11_settle σ Vm (inA_Z hI) (inA_X hI) (inA_w hI) hM _) (clR_ky hX') hM dL_law_401 kL_63 rfl rfl (Nat.le_of_ble_eq_true rfl) (Nat.le_of_ble_eq_true rfl) (Nat.le_of_ble_eq_true rfl) rfl (fun Vm' hM' => ?_)
  refine fz_icmp_eq (tgt := 597) dL_law_404 (by decide) (fun _ => ?_) (fun z => absurd rfl z)
  exact kk _ Vx' Vm' (inA_set hI _) hX' hM'
theorem lw_robotOf (hB : G.2.2.2.1 = B) (hb : G.2.2.2.2 99 0 = b) (hL : L ≤ 2560) (i : Nat) (hi : i + 5 ≤ L) (σ : zS) (Vx Vm : fz_W) (hI : inA σ) (hX : clR σ Vx) (hM : mdR σ Vm) (kk : ∀ σ' Vx' Vm', inA σ' → clR σ' Vx' → mdR σ' Vm' → fz_J G (mLw nm) room_1 (lwZ B b L xs) E0 193 370295 597 (lsL i) [] (Vx' ++ Vm')) : fz_J G (mLw nm) room_1 (lwZ B b L xs) E0 193 370295 409 (lsL i) [] (Vx ++ Vm) := by
  refine fz_aload_n dL_law_409 rfl ?_
  refine fz_aload_n dL_law_410 rfl ?_
  refine fz_iload_n dL_law_411 rfl ?_
  refine fz_iconst (v := nI 1) dL_law_412 (by decide) ?_
  refine fz_iadd dL_law_413 ?_
  rw [nI_add]
  refine lw_ild (j := i + 1) hB hb (by omega) hL dL_law_414 ?_
  refine fz_aload_n dL_law_415 rfl ?_
  refine fz_iload_n dL_law_416 rfl ?_
  refine fz_iconst (v := nI 2) dL_law_417 (by decide) ?_
  refine fz_iadd dL_law_418 ?_
  rw [nI_add]
  refine lw_ild (j := i + 2) hB hb (by omega) hL dL_law_419 ?_
  refine lw_cX (tX10_robotOf σ Vx (inA_Z hI) hX _ _) hX dL_law_420 kL_64 rfl rfl (Nat.le_of_ble_eq_true rfl) (Nat.le_of_ble_eq_true rfl) (Nat.le_of_ble_eq_true rfl) rfl (fun Vx' hX' => ?_)
  refine fz_aload_n dL_law_423 rfl ?_
  refine fz_aload_n dL_law_424 rfl ?_
  refine fz_iload_n dL_law_425 rfl ?_
  refine fz_iconst (v := nI 1) dL_law_426 (by decide) ?_
  refine fz_iadd dL_law_427 ?_
  rw [nI_add]
  refine lw_ild (j := i + 1) hB hb (by omega) hL dL_law_428 ?_
  refine fz_aload_n dL_law_429 rfl ?_
  refine fz_iload_n dL_law_430 rfl ?_
  refine fz_iconst (v := nI 2) dL_law_431 (by decide) ?_
  refine fz_iadd dL_law_432 ?_
  rw [nI_add]
  refine lw_ild (j := i + 2) hB hb (by omega) hL dL_law_433 ?_
  refine lw_cM (md_robotOf σ Vm (inA_Z hI) hM _ _) (clR_ky hX') hM dL_law_434 kL_67 rfl rfl (Nat.le_of_ble_eq_true rfl) (Nat.le_of_ble_eq_true rfl) (Nat.le_of_ble_eq_true rfl) rfl (fun Vm' hM' => ?_)
  refine fz_icmp_eq (tgt := 597) dL_law_437 (by decide) (fun _ => ?_) (fun z => absurd rfl z)
  exact kk _ Vx' Vm' (hI) hX' hM'
theorem lw_ahead (hB : G.2.2.2.1 = B) (hb : G.2.2.2.2 99 0 = b) (hL : L ≤ 2560) (i : Nat) (hi : i + 5 ≤ L) (σ : zS) (Vx Vm : fz_W) (hI : inA σ) (hX : clR σ Vx) (hM : mdR σ Vm) (kk : ∀ σ' Vx' Vm', inA σ' → clR σ' Vx' → mdR σ' Vm' → fz_J G (mLw nm) room_1 (lwZ B b L xs) E0 193 370295 597 (lsL i) [] (Vx' ++ Vm')) : fz_J G (mLw nm) room_1 (lwZ B b L xs) E0 193 370295 442 (lsL i) [] (Vx ++ Vm) := by
  refine fz_aload_n dL_law_442 rfl ?_
  refine fz_aload_n dL_law_443 rfl ?_
  refine fz_iload_n dL_law_444 rfl ?_
  refine fz_iconst (v := nI 1) dL_law_445 (by decide) ?_
  refine fz_iadd dL_law_446 ?_
  rw [nI_add]
  refine lw_ild (j := i + 1) hB hb (by omega) hL dL_law_447 ?_
  refine fz_aload_n dL_law_448 rfl ?_
  refine fz_iload_n dL_law_449 rfl ?_
  refine fz_iconst (v := nI 2) dL_law_450 (by decide) ?_
  refine fz_iadd dL_law_451 ?_
  rw [nI_add]
  refine lw_ild (j := i + 2) hB hb (by omega) hL dL_law_452 ?_
  refine lw_cX (tX10_ahead σ Vx (inA_Z hI) hX _ _) hX dL_law_453 kL_68 rfl rfl (Nat.le_of_ble_eq_true rfl) (Nat.le_of_ble_eq_true rfl) (Nat.le_of_ble_eq_true rfl) rfl (fun Vx' hX' => ?_)
  refine fz_aload_n dL_law_456 rfl ?_
  refine fz_aload_n dL_law_457 rfl ?_
  refine fz_iload_n dL_law_458 rfl ?_
  refine fz_iconst (v := nI 1) dL_law_459 (by decide) ?_
  refine fz_iadd dL_law_460 ?_
  rw [nI_add]
  refine lw_ild (j := i + 1) hB hb (by omega) hL dL_law_461 ?_
  refine fz_aload_n dL_law_462 rfl ?_
  refine fz_iload_n dL_law_463 rfl ?_
  refine fz_iconst (v := nI 2) dL_law_464 (by decide) ?_
  refine fz_iadd dL_law_465 ?_
  rw [nI_add]
  refine lw_ild (j := i + 2) hB hb (by omega) hL dL_law_466 ?_
  refine lw_cM (md_ahead σ Vm (inA_Z hI) (inA_te hI) hM _ _) (clR_ky hX') hM dL_law_467 kL_71 rfl rfl (Nat.le_of_ble_eq_true rfl) (Nat.le_of_ble_eq_true rfl) (Nat.le_of_ble_eq_true rfl) rfl (fun Vm' hM' => ?_)
  refine fz_icmp_eq (tgt := 597) dL_law_470 (by decide) (fun _ => ?_) (fun z => absurd rfl z)
  exact kk _ Vx' Vm' (hI) hX' hM'
theorem lw_was (hB : G.2.2.2.1 = B) (hb : G.2.2.2.2 99 0 = b) (hL : L ≤ 2560) (i : Nat) (hi : i + 5 ≤ L) (σ : zS) (Vx Vm : fz_W) (hI : inA σ) (hX : clR σ Vx) (hM : mdR σ Vm) (kk : ∀ σ' Vx' Vm', inA σ' → clR σ' Vx' → mdR σ' Vm' → fz_J G (mLw nm) room_1 (lwZ B b L xs) E0 193 370295 597 (lsL i) [] (Vx' ++ Vm')) : fz_J G (mLw nm) room_1 (lwZ B b L xs) E0 193 370295 475 (lsL i) [] (Vx ++ Vm) := by
  refine fz_aload_n dL_law_475 rfl ?_
  refine fz_aload_n dL_law_476 rfl ?_
  refine fz_iload_n dL_law_477 rfl ?_
  refine fz_iconst (v := nI 1) dL_law_478 (by decide) ?_
  refine fz_iadd dL_law_479 ?_
  rw [nI_add]
  refine lw_ild (j := i + 1) hB hb (by omega) hL dL_law_480 ?_
  refine fz_aload_n dL_law_481 rfl ?_
  refine fz_iload_n dL_law_482 rfl ?_
  refine fz_iconst (v := nI 2) dL_law_483 (by decide) ?_
  refine fz_iadd dL_law_484 ?_
  rw [nI_add]
  refine lw_ild (j := i + 2) hB hb (by omega) hL dL_law_485 ?_
  refine lw_cX (tX10_was σ Vx (inA_Z hI) hX _ _) hX dL_law_486 kL_72 rfl rfl (Nat.le_of_ble_eq_true rfl) (Nat.le_of_ble_eq_true rfl) (Nat.le_of_ble_eq_true rfl) rfl (fun Vx' hX' => ?_)
  refine fz_aload_n dL_law_489 rfl ?_
  refine fz_aload_n dL_law_490 rfl ?_
  refine fz_iload_n dL_law_491 rfl ?_
  refine fz_iconst (v := nI 1) dL_law_492 (by decide) ?_
  refine fz_iadd dL_law_493 ?_
  rw [nI_add]
  refine lw_ild (j := i + 1) hB hb (by omega) hL dL_law_494 ?_
  refine fz_aload_n dL_law_495 rfl ?_
  refine fz_iload_n dL_law_496 rfl ?_
  refine fz_iconst (v := nI 2) dL_law_497 (by decide) ?_
  refine fz_iadd dL_law_498 ?_
  rw [nI_add]
  refine lw_ild (j := i + 2) hB hb (by omega) hL dL_law_499 ?_
  refine lw_cM (md_was σ Vm (inA_Z hI) hM _ _) (clR_ky hX') hM dL_law_500 kL_75 rfl rfl (Nat.le_of_ble_eq_true rfl) (Nat.le_of_ble_eq_true rfl) (Nat.le_of_ble_eq_true rfl) rfl (fun Vm' hM' => ?_)
  refine fz_icmp_eq (tgt := 597) dL_law_503 (by decide) (fun _ => ?_) (fun z => absurd rfl z)
  exact kk _ Vx' Vm' (hI) hX' hM'
theorem lw_task (hB : G.2.2.2.1 = B) (hb : G.2.2.2.2 99 0 = b) (hL : L ≤ 2560) (i : Nat) (hi : i + 5 ≤ L) (σ : zS) (Vx Vm : fz_W) (hI : inA σ) (hX : clR σ Vx) (hM : mdR σ Vm) (kk : ∀ σ' Vx' Vm', inA σ' → clR σ' Vx' → mdR σ' Vm' → fz_J G (mLw nm) room_1 (lwZ B b L xs) E0 193 370295 597 (lsL i) [] (Vx' ++ Vm')) : fz_J G (mLw nm) room_1 (lwZ B b L xs) E0 193 370295 508 (lsL i) [] (Vx ++ Vm) := by
  refine fz_aload_n dL_law_508 rfl ?_
  refine fz_aload_n dL_law_509 rfl ?_
  refine fz_iload_n dL_law_510 rfl ?_
  refine fz_iconst (v := nI 1) dL_law_511 (by decide) ?_
  refine fz_iadd dL_law_512 ?_
  rw [nI_add]
  refine lw_ild (j := i + 1) hB hb (by omega) hL dL_law_513 ?_
  refine fz_aload_n dL_law_514 rfl ?_
  refine fz_iload_n dL_law_515 rfl ?_
  refine fz_iconst (v := nI 2) dL_law_516 (by decide) ?_
  refine fz_iadd dL_law_517 ?_
  rw [nI_add]
  refine lw_ild (j := i + 2) hB hb (by omega) hL dL_law_518 ?_
  refine lw_cX (tX10_task σ Vx (inA_Z hI) hX _ _) hX dL_law_519 kL_76 rfl rfl (Nat.le_of_ble_eq_true rfl) (Nat.le_of_ble_eq_true rfl) (Nat.le_of_ble_eq_true rfl) rfl (fun Vx' hX' => ?_)
  refine fz_aload_n dL_law_522 rfl ?_
  refine fz_aload_n dL_law_523 rfl ?_
  refine fz_iload_n dL_law_524 rfl ?_
  refine fz_iconst (v := nI 1) dL_law_525 (by decide) ?_
  refine fz_iadd dL_law_526 ?_
  rw [nI_add]
  refine lw_ild (j := i + 1) hB hb (by omega) hL dL_law_527 ?_
  refine fz_aload_n dL_law_528 rfl ?_
  refine fz_iload_n dL_law_529 rfl ?_
  refine fz_iconst (v := nI 2) dL_law_530 (by decide) ?_
  refine fz_iadd dL_law_531 ?_
  rw [nI_add]
  refine lw_ild (j := i + 2) hB hb (by omega) hL dL_law_532 ?_
  refine lw_cM (md_task σ Vm (inA_Z hI) hM _ _) (clR_ky hX') hM dL_law_533 kL_79 rfl rfl (Nat.le_of_ble_eq_true rfl) (Nat.le_of_ble_eq_true rfl) (Nat.le_of_ble_eq_true rfl) rfl (fun Vm' hM' => ?_)
  refine fz_icmp_eq (tgt := 597) dL_law_536 (by decide) (fun _ => ?_) (fun z => absurd rfl z)
  exact kk _ Vx' Vm' (hI) hX' hM'
theorem lw_orderOf (hB : G.2.2.2.1 = B) (hb : G.2.2.2.2 99 0 = b) (hL : L ≤ 2560) (i : Nat) (hi : i + 5 ≤ L) (σ : zS) (Vx Vm : fz_W) (hI : inA σ) (hX : clR σ Vx) (hM : mdR σ Vm) (kk : ∀ σ' Vx' Vm', inA σ' → clR σ' Vx' → mdR σ' Vm' → fz_J G (mLw nm) room_1 (lwZ B b L xs) E0 193 370295 597 (lsL i) [] (Vx' ++ Vm')) : fz_J G (mLw nm) room_1 (lwZ B b L xs) E0 193 370295 541 (lsL i) [] (Vx ++ Vm) := by
  refine fz_aload_n dL_law_541 rfl ?_
  refine fz_aload_n dL_law_542 rfl ?_
  refine fz_iload_n dL_law_543 rfl ?_
  refine fz_iconst (v := nI 1) dL_law_544 (by decide) ?_
  refine fz_iadd dL_law_545 ?_
  rw [nI_add]
  refine lw_ild (j := i + 1) hB hb (by omega) hL dL_law_546 ?_
  refine fz_aload_n dL_law_547 rfl ?_
  refine fz_iload_n dL_law_548 rfl ?_
  refine fz_iconst (v := nI 2) dL_law_549 (by decide) ?_
  refine fz_iadd dL_law_550 ?_
  rw [nI_add]
  refine lw_ild (j := i + 2) hB hb (by omega) hL dL_law_551 ?_
  refine lw_cX (tX10_orderOf σ Vx (inA_Z hI) hX _ _) hX dL_law_552 kL_80 rfl rfl (Nat.le_of_ble_eq_true rfl) (Nat.le_of_ble_eq_true rfl) (Nat.le_of_ble_eq_true rfl) rfl (fun Vx' hX' => ?_)
  refine fz_aload_n dL_law_555 rfl ?_
  refine fz_aload_n dL_law_556 rfl ?_
  refine fz_iload_n dL_law_557 rfl ?_
  refine fz_iconst (v := nI 1) dL_law_558 (by decide) ?_
  refine fz_iadd dL_law_559 ?_
  rw [nI_add]
  refine lw_ild (j := i + 1) hB hb (by omega) hL dL_law_560 ?_
  refine fz_aload_n dL_law_561 rfl ?_
  refine fz_iload_n dL_law_562 rfl ?_
  refine fz_iconst (v := nI 2) dL_law_563 (by decide) ?_
  refine fz_iadd dL_law_564 ?_
  rw [nI_add]
  refine lw_ild (j := i + 2) hB hb (by omega) hL dL_law_565 ?_
  refine lw_cM (md_orderOf σ Vm (inA_Z hI) hM _ _) (clR_ky hX') hM dL_law_566 kL_83 rfl rfl (Nat.le_of_ble_eq_true rfl) (Nat.le_of_ble_eq_true rfl) (Nat.le_of_ble_eq_true rfl) rfl (fun Vm' hM' => ?_)
  refine fz_icmp_eq (tgt := 597) dL_law_569 (by decide) (fun _ => ?_) (fun z => absurd rfl z)
  exact kk _ Vx' Vm' (hI) hX' hM'
theorem lw_count (hB : G.2.2.2.1 = B) (hb : G.2.2.2.2 99 0 = b) (hL : L ≤ 2560) (i : Nat) (hi : i + 5 ≤ L) (σ : zS) (Vx Vm : fz_W) (hI : inA σ) (hX : clR σ Vx) (hM : mdR σ Vm) (kk : ∀ σ' Vx' Vm', inA σ' → clR σ' Vx' → mdR σ' Vm' → fz_J G (mLw nm) room_1 (lwZ B b L xs) E0 193 370295 597 (lsL i) [] (Vx' ++ Vm')) : fz_J G (mLw nm) room_1 (lwZ B b L xs) E0 193 370295 574 (lsL i) [] (Vx ++ Vm) := by
  refine fz_aload_n dL_law_574 rfl ?_
  refine fz_aload_n dL_law_575 rfl ?_
  refine fz_iload_n dL_law_576 rfl ?_
  refine fz_iconst (v := nI 1) dL_law_577 (by decide) ?_
  refine fz_iadd dL_law_578 ?_
  rw [nI_add]
  refine lw_ild (j := i + 1) hB hb (by omega) hL dL_law_579 ?_
  refine lw_cX (tX10_count σ Vx (inA_Z hI) hX _) hX dL_law_580 kL_84 rfl rfl (Nat.le_of_ble_eq_true rfl) (Nat.le_of_ble_eq_true rfl) (Nat.le_of_ble_eq_true rfl) rfl (fun Vx' hX' => ?_)
  refine fz_aload_n dL_law_583 rfl ?_
  refine fz_aload_n dL_law_584 rfl ?_
  refine fz_iload_n dL_law_585 rfl ?_
  refine fz_iconst (v := nI 1) dL_law_586 (by decide) ?_
  refine fz_iadd dL_law_587 ?_
  rw [nI_add]
  refine lw_ild (j := i + 1) hB hb (by omega) hL dL_law_588 ?_
  refine lw_cM (md_count σ Vm (inA_Z hI) hM _) (clR_ky hX') hM dL_law_589 kL_87 rfl rfl (Nat.le_of_ble_eq_true rfl) (Nat.le_of_ble_eq_true rfl) (Nat.le_of_ble_eq_true rfl) rfl (fun Vm' hM' => ?_)
  refine fz_icmp_eq (tgt := 597) dL_law_592 (by decide) (fun _ => ?_) (fun z => absurd rfl z)
  exact kk _ Vx' Vm' (hI) hX' hM'
theorem lw_loop (hB : G.2.2.2.1 = B) (hb : G.2.2.2.2 99 0 = b) (hL : L ≤ 2560) : ∀ q i σ Vx Vm, i ≤ L → L ≤ i + q → inA σ → clR σ Vx → mdR σ Vm → fz_J G (mLw nm) room_1 (lwZ B b L xs) E0 193 370295 18 (lsL i) [] (Vx ++ Vm) := by
  intro q
  induction q with
  | zero =>
    intro i σ Vx Vm hiL hq hI hX hM
    refine fz_iload_n dL_law_18 rfl ?_
    refine fz_aload_n dL_law_19 rfl ?_
    refine lw_len hB hb dL_law_20 ?_
    refine fz_iconst (v := nI 5) dL_law_21 (by decide) ?_
    refine fz_isub dL_law_22 ?_
    refine fz_icmp_gt (tgt := 603) dL_law_23 (by decide) (fun c23 => ?_) (fun c23 => ?_)
    · refine fz_iconst (v := 1) dL_law_603 (by decide) ?_
      exact lw_end hB (by omega) (by omega) dL_law_604
    · exact absurd ((lw_cond hL (by omega)).mpr (by omega)) c23
  | succ q ih =>
    intro i σ Vx Vm hiL hq hI hX hM
    have next : ∀ σ' Vx' Vm', i + 5 ≤ L → inA σ' → clR σ' Vx' → mdR σ' Vm' → fz_J G (mLw nm) room_1 (lwZ B b L xs) E0 193 370295 597 (lsL i) [] (Vx' ++ Vm') := by
      intro σ' Vx' Vm' h5 hI' hX' hM'
      refine fz_iinc dL_law_597 rfl (Nat.le_of_ble_eq_true rfl) ?_
      refine fz_goto (tgt := 18) dL_law_600 (by decide) ?_
      refine fz_ls (ls' := lsL (i + 5)) (by show [(3, zI (nI i + nI 5)), (2, zR 30 0), (1, zR 1 0), (0, zR 99 0)] = lsL (i + 5); rw [nI_add]) ?_
      exact ih (i + 5) σ' Vx' Vm' (by omega) (by omega) hI' hX' hM'
    refine fz_iload_n dL_law_18 rfl ?_
    refine fz_aload_n dL_law_19 rfl ?_
    refine lw_len hB hb dL_law_20 ?_
    refine fz_iconst (v := nI 5) dL_law_21 (by decide) ?_
    refine fz_isub dL_law_22 ?_
    refine fz_icmp_gt (tgt := 603) dL_law_23 (by decide) (fun c23 => ?_) (fun c23 => ?_)
    · refine fz_iconst (v := 1) dL_law_603 (by decide) ?_
      exact lw_end hB (by omega) (by omega) dL_law_604
    · have h5 : i + 5 ≤ L := by
        rcases Nat.lt_or_ge L (i + 5) with z | z
        · exact absurd ((lw_cond hL (by omega)).mpr z) c23
        · exact z
      refine fz_aload_n dL_law_26 rfl ?_
      refine fz_iload_n dL_law_27 rfl ?_
      refine lw_ild (j := i) hB hb (by omega) hL dL_law_28 ?_
      refine fz_bipush (v := nI 31) dL_law_29 (by decide) ?_
      refine fz_iand dL_law_31 ?_
      rcases pk_ix (xs i &&& nI 31) (n := 17) (by omega) with h | h | ⟨j, hj, hv⟩
      · refine fz_tableOut (tgt := 597) dL_law_32 (tw_out (n := 17) (by omega) (Or.inl h)) (by decide) ?_
        exact next σ Vx Vm h5 hI hX hM
      · refine fz_tableOut (tgt := 597) dL_law_32 (tw_out (n := 17) (by omega) (Or.inr h)) (by decide) ?_
        exact next σ Vx Vm h5 hI hX hM
      · rw [hv]
        rcases (show j = 0 ∨ j = 1 ∨ j = 2 ∨ j = 3 ∨ j = 4 ∨ j = 5 ∨ j = 6 ∨ j = 7 ∨ j = 8 ∨ j = 9 ∨ j = 10 ∨ j = 11 ∨ j = 12 ∨ j = 13 ∨ j = 14 ∨ j = 15 ∨ j = 16 by omega) with rfl | rfl | rfl | rfl | rfl | rfl | rfl | rfl | rfl | rfl | rfl | rfl | rfl | rfl | rfl | rfl | rfl
        · refine fz_tableIn (off := 84) (tgt := 116) dL_law_32 (by decide) (by decide) (by decide) (by decide) ?_
          exact lw_type hB hb hL i h5 σ Vx Vm hI hX hM (fun σ' Vx' Vm' a b c => next σ' Vx' Vm' h5 a b c)
        · refine fz_tableIn (off := 137) (tgt := 169) dL_law_32 (by decide) (by decide) (by decide) (by decide) ?_
          exact lw_erase hB hb hL i h5 σ Vx Vm hI hX hM (fun σ' Vx' Vm' a b c => next σ' Vx' Vm' h5 a b c)
        · refine fz_tableIn (off := 150) (tgt := 182) dL_law_32 (by decide) (by decide) (by decide) (by decide) ?_
          exact lw_read hB hb hL i h5 σ Vx Vm hI hX hM (fun σ' Vx' Vm' a b c => next σ' Vx' Vm' h5 a b c)
        · refine fz_tableIn (off := 163) (tgt := 195) dL_law_32 (by decide) (by decide) (by decide) (by decide) ?_
          exact lw_place hB hb hL i h5 σ Vx Vm hI hX hM (fun σ' Vx' Vm' a b c => next σ' Vx' Vm' h5 a b c)
        · refine fz_tableIn (off := 176) (tgt := 208) dL_law_32 (by decide) (by decide) (by decide) (by decide) ?_
          exact lw_cell hB hb hL i h5 σ Vx Vm hI hX hM (fun σ' Vx' Vm' a b c => next σ' Vx' Vm' h5 a b c)
        · refine fz_tableIn (off := 199) (tgt := 231) dL_law_32 (by decide) (by decide) (by decide) (by decide) ?_
          exact lw_distance hB hb hL i h5 σ Vx Vm hI hX hM (fun σ' Vx' Vm' a b c => next σ' Vx' Vm' h5 a b c)
        · refine fz_tableIn (off := 232) (tgt := 264) dL_law_32 (by decide) (by decide) (by decide) (by decide) ?_
          exact lw_robot hB hb hL i h5 σ Vx Vm hI hX hM (fun σ' Vx' Vm' a b c => next σ' Vx' Vm' h5 a b c)
        · refine fz_tableIn (off := 255) (tgt := 287) dL_law_32 (by decide) (by decide) (by decide) (by decide) ?_
          exact lw_order hB hb hL i h5 σ Vx Vm hI hX hM (fun σ' Vx' Vm' a b c => next σ' Vx' Vm' h5 a b c)
        · refine fz_tableIn (off := 308) (tgt := 340) dL_law_32 (by decide) (by decide) (by decide) (by decide) ?_
          exact lw_cancel hB hb hL i h5 σ Vx Vm hI hX hM (fun σ' Vx' Vm' a b c => next σ' Vx' Vm' h5 a b c)
        · refine fz_tableIn (off := 331) (tgt := 363) dL_law_32 (by decide) (by decide) (by decide) (by decide) ?_
          exact lw_tick hB hb hL i h5 σ Vx Vm hI hX hM (fun σ' Vx' Vm' a b c => next σ' Vx' Vm' h5 a b c)
        · refine fz_tableIn (off := 354) (tgt := 386) dL_law_32 (by decide) (by decide) (by decide) (by decide) ?_
          exact lw_settle hB hb hL i h5 σ Vx Vm hI hX hM (fun σ' Vx' Vm' a b c => next σ' Vx' Vm' h5 a b c)
        · refine fz_tableIn (off := 377) (tgt := 409) dL_law_32 (by decide) (by decide) (by decide) (by decide) ?_
          exact lw_robotOf hB hb hL i h5 σ Vx Vm hI hX hM (fun σ' Vx' Vm' a b c => next σ' Vx' Vm' h5 a b c)
        · refine fz_tableIn (off := 410) (tgt := 442) dL_law_32 (by decide) (by decide) (by decide) (by decide) ?_
          exact lw_ahead hB hb hL i h5 σ Vx Vm hI hX hM (fun σ' Vx' Vm' a b c => next σ' Vx' Vm' h5 a b c)
        · refine fz_tableIn (off := 443) (tgt := 475) dL_law_32 (by decide) (by decide) (by decide) (by decide) ?_
          exact lw_was hB hb hL i h5 σ Vx Vm hI hX hM (fun σ' Vx' Vm' a b c => next σ' Vx' Vm' h5 a b c)
        · refine fz_tableIn (off := 476) (tgt := 508) dL_law_32 (by decide) (by decide) (by decide) (by decide) ?_
          exact lw_task hB hb hL i h5 σ Vx Vm hI hX hM (fun σ' Vx' Vm' a b c => next σ' Vx' Vm' h5 a b c)
        · refine fz_tableIn (off := 509) (tgt := 541) dL_law_32 (by decide) (by decide) (by decide) (by decide) ?_
          exact lw_orderOf hB hb hL i h5 σ Vx Vm hI hX hM (fun σ' Vx' Vm' a b c => next σ' Vx' Vm' h5 a b c)
        · refine fz_tableIn (off := 542) (tgt := 574) dL_law_32 (by decide) (by decide) (by decide) (by decide) ?_
          exact lw_count hB hb hL i h5 σ Vx Vm hI hX hM (fun σ' Vx' Vm' a b c => next σ' Vx' Vm' h5 a b c)
end LWC
