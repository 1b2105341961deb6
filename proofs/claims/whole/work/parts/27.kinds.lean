/-! hasAllKinds, isWithinAMove -/
def hkd (kn : Nat → Nat) (v : Nat) : Nat → Bool
  | 0 => false
  | c + 1 => hkd kn v c || (kn c == v)
theorem msk_or : ∀ s, s < 32 → ∀ k, k < 5 → nI s ||| (nI 1 <<< (nI k &&& 31)) = nI (s ||| 2 ^ k) ∧ (s ||| 2 ^ k) < 32 ∧ ∀ v, v < 5 → (s ||| 2 ^ k).testBit v = (s.testBit v || (k == v)) := by decide +kernel
theorem msk_28 : ∀ s, s < 32 → ((nI s &&& nI 28) = nI 28 ↔ (s.testBit 2 && (s.testBit 3 && s.testBit 4)) = true) := by decide +kernel
theorem lX1_hasAllKinds {G : fz_G} {E0 : Nat → fz_E} (g : Nat) (hg : g < 2) (sz wd : Nat → Int32) (ki : Nat → Nat → Int32) (cn w : Nat) (kn : Nat → Nat) (hK : gK cn w kn (sz g) (wd g) (ki g)) :
    ∀ q c s, c + q = cn → s < 32 → (∀ v, v < 5 → s.testBit v = hkd kn v c) → fz_J G mX1_hasAllKinds rX1_hasAllKinds (fz_Z G E0 0 0 (fun r U => r = some (zI (if (hkd kn 2 cn && (hkd kn 3 cn && hkd kn 4 cn)) = true then 1 else 0)) ∧ U = [(2, eGr sz wd), (5, e8 ki)])) E0 0 0 4 [(2, zI (nI c)), (1, zI (nI s)), (0, zR 2 g)] [] [(2, eGr sz wd), (5, e8 ki)] := by
  intro q
  obtain ⟨k1, k2, k3, k4, k5, k6, k7⟩ := hK
  induction q with
  | zero =>
    intro c s hc hs hv
    have e : c = cn := by omega
    subst e
    refine fz_iload_n dX1_hasAllKinds_4 rfl ?_
    refine fz_aload_n dX1_hasAllKinds_5 rfl ?_
    refine fz_get dX1_hasAllKinds_6 fX1_28 rfl (hg) rfl ?_
    rw [k5]
    refine fz_icmp_ge (tgt := 29) dX1_hasAllKinds_9 (by decide) (fun c9 => ?_) (fun c9 => ?_)
    · skip
      refine fz_bipush (v := nI 28) dX1_hasAllKinds_29 (by decide) ?_
      refine fz_istore_n dX1_hasAllKinds_31 (Nat.le_of_ble_eq_true rfl) ?_
      refine fz_iload_n dX1_hasAllKinds_32 rfl ?_
      refine fz_iload_n dX1_hasAllKinds_33 rfl ?_
      refine fz_iand dX1_hasAllKinds_34 ?_
      refine fz_iload_n dX1_hasAllKinds_35 rfl ?_
      refine fz_icmp_ne (tgt := 43) dX1_hasAllKinds_36 (by decide) (fun c36 => ?_) (fun c36 => ?_)
      · skip
        refine fz_iconst (v := nI 0) dX1_hasAllKinds_43 (by decide) ?_
        refine fz_zret dX1_hasAllKinds_44 rfl (by decide) (Nat.zero_le _) (Nat.zero_le _) ⟨?_, rfl⟩
        have h := fun z => c36 ((msk_28 s hs).mpr z)
        rw [hv 2 (by omega), hv 3 (by omega), hv 4 (by omega)] at h
        rw [if_neg h]; rfl
      · skip
        refine fz_iconst (v := nI 1) dX1_hasAllKinds_39 (by decide) ?_
        refine fz_goto (tgt := 44) dX1_hasAllKinds_40 (by decide) ?_
        refine fz_zret dX1_hasAllKinds_44 rfl (by decide) (Nat.zero_le _) (Nat.zero_le _) ⟨?_, rfl⟩
        have h := (msk_28 s hs).mp c36
        rw [hv 2 (by omega), hv 3 (by omega), hv 4 (by omega)] at h
        rw [if_pos h]; rfl
    · exact absurd (nI_le (Nat.le_refl _) (by omega)) c9
  | succ q ih =>
    intro c s hc hs hv
    refine fz_iload_n dX1_hasAllKinds_4 rfl ?_
    refine fz_aload_n dX1_hasAllKinds_5 rfl ?_
    refine fz_get dX1_hasAllKinds_6 fX1_28 rfl (hg) rfl ?_
    rw [k5]
    refine fz_icmp_ge (tgt := 29) dX1_hasAllKinds_9 (by decide) (fun c9 => ?_) (fun c9 => ?_)
    · exact absurd ((nI_leI (by omega) (by omega)).mp c9) (by omega)
    · have hkc := k7 c (by omega)
      refine fz_iload_n dX1_hasAllKinds_12 rfl ?_
      refine fz_iconst (v := nI 1) dX1_hasAllKinds_13 (by decide) ?_
      refine fz_aload_n dX1_hasAllKinds_14 rfl ?_
      refine fz_get dX1_hasAllKinds_15 fX1_19 rfl (hg) rfl ?_
      refine fz_iload_n dX1_hasAllKinds_18 rfl ?_
      refine fz_iald dX1_hasAllKinds_19 rfl rfl (hg) (vp_in_nI (by omega) (by omega)) ?_
      rw [nI_clamp (by omega), hkc.1]
      obtain ⟨m1, m2, m3⟩ := msk_or s hs (kn c) (by omega)
      refine fz_ishl dX1_hasAllKinds_20 ?_
      refine fz_ior dX1_hasAllKinds_21 ?_
      rw [m1]
      refine fz_istore_n dX1_hasAllKinds_22 (Nat.le_of_ble_eq_true rfl) ?_
      refine fz_incN dX1_hasAllKinds_23 rfl (Nat.le_of_ble_eq_true rfl) ?_
      refine fz_goto (tgt := 4) dX1_hasAllKinds_26 (by decide) ?_
      refine ih (c + 1) (s ||| 2 ^ kn c) (by omega) m2 (fun v h => ?_)
      rw [m3 v h, hv v h]
      rfl
theorem tX1_hasAllKinds {G : fz_G} (g : Nat) (hg : g < 2) (sz wd : Nat → Int32) (ki : Nat → Nat → Int32) (cn w : Nat) (kn : Nat → Nat) (hK : gK cn w kn (sz g) (wd g) (ki g)) : fz_T G mX1_hasAllKinds rX1_hasAllKinds [zR 2 g] [(2, eGr sz wd), (5, e8 ki)] (fun r U => r = some (zI (if (hkd kn 2 cn && (hkd kn 3 cn && hkd kn 4 cn)) = true then 1 else 0)) ∧ U = [(2, eGr sz wd), (5, e8 ki)]) := by
  refine fz_T.of (by decide) (Nat.le_of_ble_eq_true rfl) (fun E0 => ?_)
  refine fz_iconst (v := nI 0) dX1_hasAllKinds_0 (by decide) ?_
  refine fz_istore_n dX1_hasAllKinds_1 (Nat.le_of_ble_eq_true rfl) ?_
  refine fz_iconst (v := nI 0) dX1_hasAllKinds_2 (by decide) ?_
  refine fz_istore_n dX1_hasAllKinds_3 (Nat.le_of_ble_eq_true rfl) ?_
  exact lX1_hasAllKinds g hg sz wd ki cn w kn hK cn 0 0 (by omega) (by omega) (fun v _ => by simp [hkd])
theorem gO_at {cn w : Nat} {kn : Nat → Nat} {o : Nat → Int64} (h : gO cn w kn o) {c m : Nat} (hm : m < 5) (hc : c < cn) (h80 : cn ≤ 80) : bl (o (2 * m + c / 64)) (c % 64) = opb cn w kn c m := by
  rw [h m (c / 64) (c % 64) hm (by omega) (by omega), show 64 * (c / 64) + c % 64 = c by omega]
  simp [hc]
theorem opb_nx {cn w : Nat} {kn : Nat → Nat} {c m : Nat} (h : opb cn w kn c m = true) : ∃ d, nx cn w c m = some d := by
  unfold opb at h
  cases hn : nx cn w c m with
  | none => rw [hn] at h; simp at h
  | some d => exact ⟨d, rfl⟩
/-- whether one of the first n moves leads from a to b, walls aside -/
def nrB (cn w a b : Nat) : Nat → Bool
  | 0 => false
  | m + 1 => nrB cn w a b m || decide (nx cn w a m = some b)
theorem nrB_iff {cn w a b : Nat} : ∀ n, nrB cn w a b n = true ↔ ∃ m, m < n ∧ nx cn w a m = some b
  | 0 => by
    constructor
    · intro z; cases z
    · rintro ⟨m, h, -⟩; omega
  | n + 1 => by
    show (nrB cn w a b n || _) = true ↔ _
    rw [Bool.or_eq_true, nrB_iff n, decide_eq_true_eq]
    constructor
    · rintro (⟨m, h1, h2⟩ | h)
      · exact ⟨m, by omega, h2⟩
      · exact ⟨n, by omega, h⟩
    · rintro ⟨m, h1, h2⟩
      by_cases e : m = n
      · subst e; exact Or.inr h2
      · exact Or.inl ⟨m, by omega, h2⟩
/-- lines and columns between two cells -/
def lcD (w a b : Nat) : Nat := ((a / w - b / w) + (b / w - a / w)) + ((a % w - b % w) + (b % w - a % w))
theorem dm_u {w b q r : Nat} (hr : r < w) (h : b = w * q + r) : b / w = q ∧ b % w = r := by
  subst h
  refine ⟨?_, ?_⟩
  · rw [Nat.mul_add_div (by omega), Nat.div_eq_of_lt hr]; omega
  · rw [Nat.mul_add_mod, Nat.mod_eq_of_lt hr]
theorem lcD_nr {cn w a b : Nat} (h0 : 0 < w) (hb : b < cn) : lcD w a b ≤ 1 ↔ nrB cn w a b 5 = true := by
  rw [nrB_iff]
  have ea := Nat.div_add_mod a w
  have ra := Nat.mod_lt a h0
  constructor
  · intro h
    have eb := Nat.div_add_mod b w
    have rb := Nat.mod_lt b h0
    unfold lcD at h
    rcases (show (a / w = b / w ∧ a % w = b % w) ∨ (a / w = b / w ∧ a % w = b % w + 1) ∨ (a / w = b / w ∧ b % w = a % w + 1) ∨ (a / w = b / w + 1 ∧ a % w = b % w) ∨ (b / w = a / w + 1 ∧ a % w = b % w) by omega) with ⟨h1, h2⟩ | ⟨h1, h2⟩ | ⟨h1, h2⟩ | ⟨h1, h2⟩ | ⟨h1, h2⟩
    · rw [h1] at ea
      exact ⟨0, by omega, by unfold nx; rw [if_pos rfl, show a = b by omega]⟩
    · rw [h1] at ea
      refine ⟨4, by omega, ?_⟩
      unfold nx
      rw [if_neg (by decide), if_neg (by decide), if_neg (by decide), if_neg (by decide), if_pos (by omega), show a - 1 = b by omega]
    · rw [h1] at ea
      refine ⟨2, by omega, ?_⟩
      unfold nx
      rw [if_neg (by decide), if_neg (by decide), if_pos rfl, if_pos (by omega), show a + 1 = b by omega]
    · rw [h1, Nat.mul_add] at ea
      refine ⟨1, by omega, ?_⟩
      unfold nx
      rw [if_neg (by decide), if_pos rfl, if_pos (by omega), show a - w = b by omega]
    · rw [h1, Nat.mul_add] at eb
      refine ⟨3, by omega, ?_⟩
      unfold nx
      rw [if_neg (by decide), if_neg (by decide), if_neg (by decide), if_pos rfl, if_pos (by omega), show a + w = b by omega]
  · rintro ⟨m, hm, hn⟩
    unfold lcD
    unfold nx at hn
    split at hn
    · cases hn; omega
    · split at hn
      · split at hn
        · rename_i h1
          have hq : 1 ≤ a / w := Nat.div_pos h1 h0
          obtain ⟨q, hq'⟩ : ∃ q, a / w = q + 1 := ⟨a / w - 1, by omega⟩
          rw [hq', Nat.mul_add] at ea
          cases hn
          obtain ⟨e1, e2⟩ := dm_u (b := a - w) (q := q) ra (by omega)
          rw [e1, e2, hq']; omega
        · cases hn
      · split at hn
        · split at hn
          · rename_i h1
            cases hn
            obtain ⟨e1, e2⟩ := dm_u (b := a + 1) (q := a / w) h1 (by omega)
            rw [e1, e2]; omega
          · cases hn
        · split at hn
          · split at hn
            · cases hn
              obtain ⟨e1, e2⟩ := dm_u (b := a + w) (q := a / w + 1) ra (by rw [Nat.mul_add]; omega)
              rw [e1, e2]; omega
            · cases hn
          · split at hn
            · cases hn
              obtain ⟨e1, e2⟩ := dm_u (w := w) (b := a - 1) (q := a / w) (r := a % w - 1) (by omega) (by omega)
              rw [e1, e2]; omega
            · cases hn
theorem four_lt {x y u v : Nat} (hx : x < 80) (hy : y < 80) (hu : u < 80) (hv : v < 80) : ((x - y) + (y - x)) + ((u - v) + (v - u)) < 400 := by omega
theorem lcD_lt {w a b : Nat} (da : a / w < 80) (db : b / w < 80) (ra : a % w < 80) (rb : b % w < 80) : lcD w a b < 400 := four_lt da db ra rb
theorem nI_abs : ∀ x, x < 80 → ∀ y, y < 80 → (if 0 ≤ nI x - nI y then nI x - nI y else 0 - (nI x - nI y)) = nI ((x - y) + (y - x)) := by decide +kernel
theorem tX1_isWithinAMove {G : fz_G} (g : Nat) (hg : g < 2) (sz wd : Nat → Int32) (cn w : Nat) (h0 : 0 < w) (hw : w ≤ 10) (h80 : cn ≤ 80) (hd : wd g = nI w) (a b : Nat) (ha : a < cn) (hb : b < cn) :
    fz_T G mX1_isWithinAMove rX1_isWithinAMove [zR 2 g, zI (nI a), zI (nI b)] [(2, eGr sz wd)] (fun r U => r = some (zI (if nrB cn w a b 5 then 1 else 0)) ∧ U = [(2, eGr sz wd)]) := by
  refine fz_T.of (by decide) (Nat.le_of_ble_eq_true rfl) (fun E0 => ?_)
  have da : a / w < 80 := Nat.lt_of_le_of_lt (Nat.div_le_self a w) (by omega)
  have db : b / w < 80 := Nat.lt_of_le_of_lt (Nat.div_le_self b w) (by omega)
  have ra : a % w < 80 := Nat.lt_of_le_of_lt (Nat.mod_le a w) (by omega)
  have rb : b % w < 80 := Nat.lt_of_le_of_lt (Nat.mod_le b w) (by omega)
  refine fz_aload_n dX1_isWithinAMove_0 rfl ?_
  refine fz_get dX1_isWithinAMove_1 fX1_36 rfl (hg) rfl ?_
  refine fz_iconst (v := nI 1) dX1_isWithinAMove_4 (by decide) ?_
  refine fz_max dX1_isWithinAMove_5 oX1_39 (Nat.le_of_ble_eq_true rfl) (Nat.le_of_ble_eq_true rfl) (Nat.zero_le _) (Nat.zero_le _) ?_
  rw [hd]
  refine fz_top (max_w h0 hw) ?_
  refine fz_istore_n dX1_isWithinAMove_8 (Nat.le_of_ble_eq_true rfl) ?_
  refine fz_iload_n dX1_isWithinAMove_9 rfl ?_
  refine fz_iload_n dX1_isWithinAMove_10 rfl ?_
  refine fz_idiv dX1_isWithinAMove_11 (nI_ne0 h0 (by omega)) ?_
  refine fz_top (pk_div (by omega) h0 (by omega)) ?_
  refine fz_iload_n dX1_isWithinAMove_12 rfl ?_
  refine fz_iload_n dX1_isWithinAMove_13 rfl ?_
  refine fz_idiv dX1_isWithinAMove_14 (nI_ne0 h0 (by omega)) ?_
  refine fz_top (pk_div (by omega) h0 (by omega)) ?_
  refine fz_isub dX1_isWithinAMove_15 ?_
  refine fz_abs dX1_isWithinAMove_16 oX1_73 (Nat.le_of_ble_eq_true rfl) (Nat.le_of_ble_eq_true rfl) (Nat.zero_le _) (Nat.zero_le _) ?_
  refine fz_top (nI_abs _ da _ db) ?_
  refine fz_iload_n dX1_isWithinAMove_19 rfl ?_
  refine fz_iload_n dX1_isWithinAMove_20 rfl ?_
  refine fz_irem dX1_isWithinAMove_21 (nI_ne0 h0 (by omega)) ?_
  refine fz_top (pk_rem (by omega) h0 (by omega)) ?_
  refine fz_iload_n dX1_isWithinAMove_22 rfl ?_
  refine fz_iload_n dX1_isWithinAMove_23 rfl ?_
  refine fz_irem dX1_isWithinAMove_24 (nI_ne0 h0 (by omega)) ?_
  refine fz_top (pk_rem (by omega) h0 (by omega)) ?_
  refine fz_isub dX1_isWithinAMove_25 ?_
  refine fz_abs dX1_isWithinAMove_26 oX1_73 (Nat.le_of_ble_eq_true rfl) (Nat.le_of_ble_eq_true rfl) (Nat.zero_le _) (Nat.zero_le _) ?_
  refine fz_top (nI_abs _ ra _ rb) ?_
  refine fz_iadd dX1_isWithinAMove_29 ?_
  refine fz_top (y := nI (lcD w a b)) (nI_add _ _) ?_
  have hl : lcD w a b < 400 := lcD_lt da db ra rb
  refine fz_iconst (v := nI 1) dX1_isWithinAMove_30 (by decide) ?_
  refine fz_icmp_gt (tgt := 38) dX1_isWithinAMove_31 (by decide) (fun c31 => ?_) (fun c31 => ?_)
  · have h : ¬ nrB cn w a b 5 = true := fun z => by
      have := (lcD_nr h0 hb).mpr z
      have := (nI_ltI (by omega) (by omega)).mp c31
      omega
    refine fz_iconst (v := nI 0) dX1_isWithinAMove_38 (by decide) ?_
    refine fz_zret dX1_isWithinAMove_39 rfl (by decide) (Nat.zero_le _) (Nat.zero_le _) ⟨by rw [if_neg h]; rfl, rfl⟩
  · have h : nrB cn w a b 5 = true := (lcD_nr h0 hb).mp (by
      by_cases z : lcD w a b ≤ 1
      · exact z
      · exact absurd (nI_lt (show 1 < lcD w a b by omega) (by omega)) c31)
    refine fz_iconst (v := nI 1) dX1_isWithinAMove_34 (by decide) ?_
    refine fz_goto (tgt := 39) dX1_isWithinAMove_35 (by decide) ?_
    refine fz_zret dX1_isWithinAMove_39 rfl (by decide) (Nat.zero_le _) (Nat.zero_le _) ⟨by rw [if_pos h]; rfl, rfl⟩
