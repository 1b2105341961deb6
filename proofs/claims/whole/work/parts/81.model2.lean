/-! THE MODEL: readLines, hasKind, beside -/
def mk (b : Nat) : Int32 := if kd b ≤ 4 then nI (kd b) else -1
theorem mk_off : ∀ b, b < 256 → Op.lookupswitch.offset [(35, 51), (46, 53), (112, 59), (115, 55), (116, 57)] 61 (nI b).toInt = (if kd b = 0 then 51 else if kd b = 1 then 53 else if kd b = 2 then 55 else if kd b = 3 then 57 else if kd b = 4 then 59 else 61) := by decide +kernel
theorem tX11_kindOf {G : fz_G} (b : Nat) (hb : b < 256) : fz_T G mX11_kindOf rX11_kindOf [zI (nI b)] [] (fun r U => r = some (zI (mk b)) ∧ U = []) := by
  refine fz_T.of (by decide) (Nat.le_of_ble_eq_true rfl) (fun E0 => ?_)
  refine fz_iload_n dX11_kindOf_0 rfl ?_
  rcases kd_cases b with h | h | h | h | h | h | h
  · refine fz_lookup (off := 51) (tgt := 52) dX11_kindOf_1 (by decide) (by rw [mk_off b hb, h]; rfl) (by decide) ?_
    refine fz_iconst (v := nI 0) dX11_kindOf_52 (by decide) ?_
    refine fz_iret dX11_kindOf_53 rfl (Nat.zero_le _) (Nat.zero_le _) ⟨by unfold mk; rw [h]; rfl, rfl⟩
  · refine fz_lookup (off := 53) (tgt := 54) dX11_kindOf_1 (by decide) (by rw [mk_off b hb, h]; rfl) (by decide) ?_
    refine fz_iconst (v := nI 1) dX11_kindOf_54 (by decide) ?_
    refine fz_iret dX11_kindOf_55 rfl (Nat.zero_le _) (Nat.zero_le _) ⟨by unfold mk; rw [h]; rfl, rfl⟩
  · refine fz_lookup (off := 55) (tgt := 56) dX11_kindOf_1 (by decide) (by rw [mk_off b hb, h]; rfl) (by decide) ?_
    refine fz_iconst (v := nI 2) dX11_kindOf_56 (by decide) ?_
    refine fz_iret dX11_kindOf_57 rfl (Nat.zero_le _) (Nat.zero_le _) ⟨by unfold mk; rw [h]; rfl, rfl⟩
  · refine fz_lookup (off := 57) (tgt := 58) dX11_kindOf_1 (by decide) (by rw [mk_off b hb, h]; rfl) (by decide) ?_
    refine fz_iconst (v := nI 3) dX11_kindOf_58 (by decide) ?_
    refine fz_iret dX11_kindOf_59 rfl (Nat.zero_le _) (Nat.zero_le _) ⟨by unfold mk; rw [h]; rfl, rfl⟩
  · refine fz_lookup (off := 59) (tgt := 60) dX11_kindOf_1 (by decide) (by rw [mk_off b hb, h]; rfl) (by decide) ?_
    refine fz_iconst (v := nI 4) dX11_kindOf_60 (by decide) ?_
    refine fz_iret dX11_kindOf_61 rfl (Nat.zero_le _) (Nat.zero_le _) ⟨by unfold mk; rw [h]; rfl, rfl⟩
  · refine fz_lookup (off := 61) (tgt := 62) dX11_kindOf_1 (by decide) (by rw [mk_off b hb, h]; rfl) (by decide) ?_
    refine fz_iconst (v := -1) dX11_kindOf_62 (by decide) ?_
    refine fz_iret dX11_kindOf_63 rfl (Nat.zero_le _) (Nat.zero_le _) ⟨by unfold mk; rw [h]; rfl, rfl⟩
  · refine fz_lookup (off := 61) (tgt := 62) dX11_kindOf_1 (by decide) (by rw [mk_off b hb, h]; rfl) (by decide) ?_
    refine fz_iconst (v := -1) dX11_kindOf_62 (by decide) ?_
    refine fz_iret dX11_kindOf_63 rfl (Nat.zero_le _) (Nat.zero_le _) ⟨by unfold mk; rw [h]; rfl, rfl⟩
theorem upd_cm (f : Nat → Int32) {i j : Nat} (x y : Int32) (h : i ≠ j) : upd (upd f i x) j y = upd (upd f j y) i x := by
  funext k
  by_cases h1 : k = i
  · subst h1
    rw [pk_un h, pk_us, pk_us]
  · by_cases h2 : k = j
    · subst h2
      rw [pk_us, pk_un h1, pk_us]
    · rw [pk_un h2, pk_un h1, pk_un h1, pk_un h2]
def fRL (f : Nat → Int32) (a b : Int32) : Nat → Int32 := upd (upd f 7 a) 8 b
theorem fRL7 (f : Nat → Int32) (a b x : Int32) : upd (fRL f a b) 7 x = fRL f x b := by
  unfold fRL
  rw [upd_cm _ _ _ (by decide), upd_uu]
theorem fRL8 (f : Nat → Int32) (a b x : Int32) : upd (fRL f a b) 8 x = fRL f a x := upd_uu _ _ _ _
theorem fRL_k (f : Nat → Int32) (a b : Int32) {j : Nat} (h7 : j ≠ 7) (h8 : j ≠ 8) : fRL f a b j = f j := by
  unfold fRL
  rw [upk h8, upk h7]
theorem fRL_7 (f : Nat → Int32) (a b : Int32) : fRL f a b 7 = a := by
  unfold fRL
  rw [upk (by decide), pk_us]
theorem fRL_8 (f : Nat → Int32) (a b : Int32) : fRL f a b 8 = b := pk_us
theorem fRL_i {f : Nat → Int32} : fRL f (f 7) (f 8) = f := by
  unfold fRL
  rw [upd_id rfl, upd_id rfl]
abbrev eDr (dr : Nat → Int32) : fz_E := zi 0 1 80 (fun _ => dr)
/-- the draft so far -/
def drR (tx : Nat → Nat) (k : Nat) (dr : Nat → Int32) : Prop := ∀ j, j < ldc tx k → dr j = nI (ldk tx k j)
theorem drR_s {tx : Nat → Nat} {k : Nat} {dr : Nat → Int32} (h : drR tx k dr) (h5 : ¬ kd (tx k) = 5) : drR tx (k + 1) (upd dr (ldc tx k) (nI (kd (tx k)))) := by
  intro j hj
  have e : ldc tx (k + 1) = ldc tx k + 1 := by
    show ldc tx k + (if kd (tx k) = 5 then 0 else 1) = _
    rw [if_neg h5]
  show _ = nI (if ¬ kd (tx k) = 5 ∧ j = ldc tx k then kd (tx k) else ldk tx k j)
  by_cases z : j = ldc tx k
  · rw [if_pos ⟨h5, z⟩, z, pk_us]
  · rw [if_neg (fun y => z y.2), pk_un z]
    exact h j (by omega)
theorem drR_l {tx : Nat → Nat} {k : Nat} {dr : Nat → Int32} (h : drR tx k dr) (h5 : kd (tx k) = 5) : drR tx (k + 1) dr := by
  intro j hj
  have e : ldc tx (k + 1) = ldc tx k := by
    show ldc tx k + (if kd (tx k) = 5 then 0 else 1) = _
    rw [if_pos h5]; rfl
  show _ = nI (if ¬ kd (tx k) = 5 ∧ j = ldc tx k then kd (tx k) else ldk tx k j)
  rw [if_neg (fun y => y.1 h5)]
  exact h j (by omega)
/-- what readLines leaves -/
def rlQ (tx : Nat → Nat) (n : Nat) (f : Nat → Int32) (S : Int32 × Nat × Nat) (f' dr' : Nat → Int32) : Prop := (¬ S.1 = 0 ∧ ∃ a b, f' = upd (fRL f a b) 2 (nI S.2.1)) ∨ (S.1 = 0 ∧ f' = fRL f (nI (ldc tx n)) (nI S.2.2) ∧ drR tx n dr')
theorem lX11_readLines {G : fz_G} {E0 : Nat → fz_E} (n : Nat) (hn : n ≤ 90) (f : Nat → Int32) (hf : f 0 = nI n) (sg : Nat → Int32) (tx : Nat → Nat) (ht : tq sg tx n) (S : Int32 × Nat × Nat) :
    ∀ q k l c w, k + q = n → l ≤ 7 → c ≤ 10 → w ≤ 10 → (l = 0 → ldc tx k = c) → (0 < l → c ≤ w ∧ ldc tx k = w * l + c) → ∀ dr, drR tx k dr → scn tx q k l c w = S → ∀ x4 : List (Nat × fz_V), fz_J G mX11_readLines rX11_readLines (fz_Z G E0 rX11_readLines.cells rX11_readLines.slots (fun r U => r = some (zI S.1) ∧ ∃ f' dr', rlQ tx n f S f' dr' ∧ U = [(30, eM f'), (41, eSg sg), (46, eDr dr')])) E0 0 0 16 ((3, zI (nI k)) :: (2, zI (nI c)) :: (1, zI (nI l)) :: (0, zR 30 0) :: x4) [] [(30, eM (fRL f (nI (ldc tx k)) (nI w))), (41, eSg sg), (46, eDr dr)] := by
  intro q
  induction q with
  | zero =>
    intro k l c w hk hl hc hw h0 h1 dr hdr hS x4
    have e : k = n := by omega
    subst e
    refine fz_pk [0, 1, 2, 3] rfl ?_
    unfold scn at hS
    have bad : (c = 0 ∨ (0 < l ∧ c < w)) → fz_J G mX11_readLines rX11_readLines (fz_Z G E0 rX11_readLines.cells rX11_readLines.slots (fun r U => r = some (zI S.1) ∧ ∃ f' dr', rlQ tx k f S f' dr' ∧ U = [(30, eM f'), (41, eSg sg), (46, eDr dr')])) E0 0 0 173 [(3, zI (nI k)), (2, zI (nI c)), (1, zI (nI l)), (0, zR 30 0)] [] [(30, eM (fRL f (nI (ldc tx k)) (nI w))), (41, eSg sg), (46, eDr dr)] := by
      intro hb
      rw [if_pos hb] at hS
      subst hS
      refine fz_aload_n dX11_readLines_173 rfl ?_
      refine fz_bipush (v := -12) dX11_readLines_174 (by decide) ?_
      refine fz_aload_n dX11_readLines_176 rfl ?_
      refine fz_get dX11_readLines_177 fX11_96 rfl (Nat.one_pos) rfl ?_
      rw [fRL_k _ _ _ (by decide) (by decide), hf]
      refine fz_callV (tX11_wrong _ (-12) (nI k)) dX11_readLines_180 kX11_109 rfl (Nat.one_pos) ⟨rfl, trivial⟩ (Nat.le_of_ble_eq_true rfl) (Nat.le_of_ble_eq_true rfl) (Nat.le_of_ble_eq_true rfl) (Nat.le_of_ble_eq_true rfl) (Nat.le_of_ble_eq_true rfl) rfl (fun r U hq => ?_)
      obtain ⟨rfl, rfl⟩ := hq
      refine fz_back rfl ?_
      refine fz_iret dX11_readLines_183 rfl (Nat.zero_le _) (Nat.zero_le _) ⟨rfl, _, dr, Or.inl ⟨(by show ¬ (-12 : Int32) = 0; decide), _, _, rfl⟩, rfl⟩
    have good : ¬ (c = 0 ∨ (0 < l ∧ c < w)) → fz_J G mX11_readLines rX11_readLines (fz_Z G E0 rX11_readLines.cells rX11_readLines.slots (fun r U => r = some (zI S.1) ∧ ∃ f' dr', rlQ tx k f S f' dr' ∧ U = [(30, eM f'), (41, eSg sg), (46, eDr dr')])) E0 0 0 184 [(3, zI (nI k)), (2, zI (nI c)), (1, zI (nI l)), (0, zR 30 0)] [] [(30, eM (fRL f (nI (ldc tx k)) (nI w))), (41, eSg sg), (46, eDr dr)] := by
      intro hb
      rw [if_neg hb] at hS
      subst hS
      refine fz_aload_n dX11_readLines_184 rfl ?_
      refine fz_iload_n dX11_readLines_185 rfl ?_
      refine fz_putM dX11_readLines_186 fX11_102 (by decide) rfl ⟨rfl, rfl⟩ ?_
      refine fz_iconst (v := nI 0) dX11_readLines_189 (by decide) ?_
      refine fz_iret dX11_readLines_190 rfl (Nat.zero_le _) (Nat.zero_le _) ⟨rfl, _, dr, Or.inr ⟨rfl, fRL8 _ _ _ _, hdr⟩, rfl⟩
    refine fz_iload_n dX11_readLines_16 rfl ?_
    refine fz_aload_n dX11_readLines_17 rfl ?_
    refine fz_get dX11_readLines_18 fX11_96 rfl (Nat.one_pos) rfl ?_
    rw [fRL_k _ _ _ (by decide) (by decide), hf]
    refine fz_icmp_ge (tgt := 157) dX11_readLines_21 (by decide) (fun c21 => ?_) (fun c21 => ?_)
    · skip
      refine fz_iload_n dX11_readLines_157 rfl ?_
      refine fz_if_eq (tgt := 173) dX11_readLines_158 (by decide) (fun c158 => ?_) (fun c158 => ?_)
      · exact bad (Or.inl ((nI_eq (by omega) (by omega)).mp (c158.trans nI_0.symm)))
      · have hc0 : ¬ c = 0 := fun z => c158 (by rw [z]; exact nI_0)
        refine fz_iload_n dX11_readLines_161 rfl ?_
        refine fz_if_le (tgt := 184) dX11_readLines_162 (by decide) (fun c162 => ?_) (fun c162 => ?_)
        · have hl0 : l = 0 := by
            rcases Nat.eq_zero_or_pos l with z | z
            · exact z
            · exact absurd c162 (nI_nle z (by omega))
          exact good (by omega)
        · have hl0 : 0 < l := by
            rcases Nat.eq_zero_or_pos l with z | z
            · exact absurd (by rw [z]; decide) c162
            · exact z
          refine fz_iload_n dX11_readLines_165 rfl ?_
          refine fz_aload_n dX11_readLines_166 rfl ?_
          refine fz_get dX11_readLines_167 fX11_102 rfl (Nat.one_pos) rfl ?_
          rw [fRL_8]
          refine fz_icmp_ge (tgt := 184) dX11_readLines_170 (by decide) (fun c170 => ?_) (fun c170 => ?_)
          · have := (nI_leI (by omega) (by omega)).mp c170
            exact good (by omega)
          · have : c < w := by
              rcases Nat.lt_or_ge c w with z | z
              · exact z
              · exact absurd (nI_le z (by omega)) c170
            exact bad (Or.inr ⟨hl0, this⟩)
    · exact absurd (nI_le (Nat.le_refl _) (by omega)) c21
  | succ q ih =>
    intro k l c w hk hl hc hw h0 h1 dr hdr hS x4
    obtain ⟨t1, t2⟩ := ht k (by omega)
    refine fz_pk [0, 1, 2, 3] rfl ?_
    unfold scn at hS
    have hld : ldc tx (k + 1) = ldc tx k + if kd (tx k) = 5 then 0 else 1 := rfl
    have hlim : ldc tx k < 80 ∨ (0 < l ∧ c = w) ∨ (l = 0 ∧ c = 10) := by
      rcases Nat.eq_zero_or_pos l with z | z
      · have := h0 z; omega
      · obtain ⟨a1, a2⟩ := h1 z
        rcases Nat.lt_or_ge c w with y | y
        · left
          have : w * l ≤ 10 * 7 := Nat.mul_le_mul hw hl
          omega
        · right; left; omega
    refine fz_iload_n dX11_readLines_16 rfl ?_
    refine fz_aload_n dX11_readLines_17 rfl ?_
    refine fz_get dX11_readLines_18 fX11_96 rfl (Nat.one_pos) rfl ?_
    rw [fRL_k _ _ _ (by decide) (by decide), hf]
    refine fz_icmp_ge (tgt := 157) dX11_readLines_21 (by decide) (fun c21 => ?_) (fun c21 => ?_)
    · exact absurd ((nI_leI (by omega) (by omega)).mp c21) (by omega)
    · skip
      refine fz_aload_n dX11_readLines_24 rfl ?_
      refine fz_get dX11_readLines_25 fX11_7 rfl (Nat.one_pos) rfl ?_
      refine fz_iload_n dX11_readLines_28 rfl ?_
      refine fz_iald dX11_readLines_29 rfl rfl (Nat.one_pos) (vp_in_nI (by omega) (by omega)) ?_
      rw [nI_clamp (by omega), t1]
      refine fz_callS (tX11_kindOf (tx k) t2) dX11_readLines_30 kX11_105 trivial (Nat.le_of_ble_eq_true rfl) (Nat.le_of_ble_eq_true rfl) (Nat.le_of_ble_eq_true rfl) (Nat.le_of_ble_eq_true rfl) (Nat.le_of_ble_eq_true rfl) rfl (fun r U hq => ?_)
      obtain ⟨rfl, rfl⟩ := hq
      refine fz_back rfl ?_
      refine fz_wo (V' := [(30, eM (fRL f (nI (ldc tx k)) (nI w))), (41, eSg sg), (46, eDr dr)]) rfl ?_
      refine fz_istore dX11_readLines_33 (Nat.le_of_ble_eq_true rfl) ?_
      refine fz_aload_n dX11_readLines_35 rfl ?_
      refine fz_get dX11_readLines_36 fX11_7 rfl (Nat.one_pos) rfl ?_
      refine fz_iload_n dX11_readLines_39 rfl ?_
      refine fz_iald dX11_readLines_40 rfl rfl (Nat.one_pos) (vp_in_nI (by omega) (by omega)) ?_
      rw [nI_clamp (by omega), t1]
      refine fz_bipush (v := nI 47) dX11_readLines_41 (by decide) ?_
      have bad : ∀ (x4 : List (Nat × fz_V)), S = (-12, k, 0) → fz_J G mX11_readLines rX11_readLines (fz_Z G E0 rX11_readLines.cells rX11_readLines.slots (fun r U => r = some (zI S.1) ∧ ∃ f' dr', rlQ tx n f S f' dr' ∧ U = [(30, eM f'), (41, eSg sg), (46, eDr dr')])) E0 0 0 68 ((4, zI (mk (tx k))) :: (3, zI (nI k)) :: (2, zI (nI c)) :: (1, zI (nI l)) :: (0, zR 30 0) :: []) [] [(30, eM (fRL f (nI (ldc tx k)) (nI w))), (41, eSg sg), (46, eDr dr)] := by
        intro x4 hS
        subst hS
        refine fz_aload_n dX11_readLines_68 rfl ?_
        refine fz_bipush (v := -12) dX11_readLines_69 (by decide) ?_
        refine fz_iload_n dX11_readLines_71 rfl ?_
        refine fz_callV (tX11_wrong _ (-12) (nI k)) dX11_readLines_72 kX11_109 rfl (Nat.one_pos) ⟨rfl, trivial⟩ (Nat.le_of_ble_eq_true rfl) (Nat.le_of_ble_eq_true rfl) (Nat.le_of_ble_eq_true rfl) (Nat.le_of_ble_eq_true rfl) (Nat.le_of_ble_eq_true rfl) rfl (fun r U hq => ?_)
        obtain ⟨rfl, rfl⟩ := hq
        refine fz_back rfl ?_
        refine fz_iret dX11_readLines_75 rfl (Nat.zero_le _) (Nat.zero_le _) ⟨rfl, _, dr, Or.inl ⟨(by show ¬ (-12 : Int32) = 0; decide), _, _, rfl⟩, rfl⟩
      refine fz_icmp_ne (tgt := 89) dX11_readLines_43 (by decide) (fun c43 => ?_) (fun c43 => ?_)
      · have h47 : ¬ tx k = 47 := fun z => c43 (by rw [z])
        have h5 : ¬ kd (tx k) = 5 := by
          intro z
          unfold kd at z
          repeat' split at z
          all_goals omega
        refine fz_iload dX11_readLines_89 rfl ?_
        refine fz_if_ge (tgt := 102) dX11_readLines_91 (by decide) (fun c91 => ?_) (fun c91 => ?_)
        · have h4 : kd (tx k) ≤ 4 := by
            rcases Nat.lt_or_ge 4 (kd (tx k)) with z | z
            · unfold mk at c91
              rw [if_neg (by omega)] at c91
              exact absurd c91 (by decide)
            · exact z
          have hmk : mk (tx k) = nI (kd (tx k)) := by unfold mk; rw [if_pos h4]
          rw [if_neg (by omega), if_neg h5] at hS
          rw [if_neg h5] at hld
          have store : c + 1 ≤ (if l = 0 then 10 else w) → fz_J G mX11_readLines rX11_readLines (fz_Z G E0 rX11_readLines.cells rX11_readLines.slots (fun r U => r = some (zI S.1) ∧ ∃ f' dr', rlQ tx n f S f' dr' ∧ U = [(30, eM f'), (41, eSg sg), (46, eDr dr')])) E0 0 0 127 ((4, zI (mk (tx k))) :: (3, zI (nI k)) :: (2, zI (nI c)) :: (1, zI (nI l)) :: (0, zR 30 0) :: []) [] [(30, eM (fRL f (nI (ldc tx k)) (nI w))), (41, eSg sg), (46, eDr dr)] := by
            intro hok
            rw [if_pos hok] at hS
            have h80 : ldc tx k < 80 := by
              rcases hlim with z | ⟨z1, z2⟩ | ⟨z1, z2⟩
              · exact z
              · rw [if_neg (by omega)] at hok; omega
              · rw [if_pos z1] at hok; omega
            refine fz_aload_n dX11_readLines_127 rfl ?_
            refine fz_get dX11_readLines_128 fX11_20 rfl (Nat.one_pos) rfl ?_
            refine fz_aload_n dX11_readLines_131 rfl ?_
            refine fz_get dX11_readLines_132 fX11_99 rfl (Nat.one_pos) rfl ?_
            rw [fRL_7, hmk]
            refine fz_iload dX11_readLines_135 rfl ?_
            refine fz_iast1 dX11_readLines_137 rfl rfl (vp_in_nI h80 (by omega)) ?_
            rw [nI_clamp (by omega)]
            refine fz_aload_n dX11_readLines_138 rfl ?_
            refine fz_dup dX11_readLines_139 rfl ?_
            refine fz_get dX11_readLines_140 fX11_99 rfl (Nat.one_pos) rfl ?_
            refine fz_iconst (v := nI 1) dX11_readLines_143 (by decide) ?_
            rw [fRL_7]
            refine fz_iadd dX11_readLines_144 ?_
            rw [nI_add]
            refine fz_putM dX11_readLines_145 fX11_99 (by decide) rfl ⟨rfl, rfl⟩ ?_
            refine fz_incN dX11_readLines_148 rfl (Nat.le_of_ble_eq_true rfl) ?_
            refine fz_incN dX11_readLines_151 rfl (Nat.le_of_ble_eq_true rfl) ?_
            refine fz_goto (tgt := 16) dX11_readLines_154 (by decide) ?_
            refine fz_wo (V' := [(30, eM (fRL f (nI (ldc tx (k + 1))) (nI w))), (41, eSg sg), (46, eDr (upd dr (ldc tx k) (nI (kd (tx k)))))]) (by rw [hld, ← fRL7 f (nI (ldc tx k)) (nI w)]; rfl) ?_
            refine fz_pk [0, 1, 3, 4] rfl ?_
            refine ih (k + 1) l (c + 1) w (by omega) hl ?_ hw (fun z => ?_) (fun z => ?_) _ (drR_s hdr h5) hS []
            · split at hok <;> omega
            · rw [hld, h0 z]
            · rw [if_neg (by omega)] at hok
              exact ⟨hok, by rw [hld, (h1 z).2]; omega⟩
          have shape : ¬ c + 1 ≤ (if l = 0 then 10 else w) → fz_J G mX11_readLines rX11_readLines (fz_Z G E0 rX11_readLines.cells rX11_readLines.slots (fun r U => r = some (zI S.1) ∧ ∃ f' dr', rlQ tx n f S f' dr' ∧ U = [(30, eM f'), (41, eSg sg), (46, eDr dr')])) E0 0 0 119 ((4, zI (mk (tx k))) :: (3, zI (nI k)) :: (2, zI (nI c)) :: (1, zI (nI l)) :: (0, zR 30 0) :: []) [] [(30, eM (fRL f (nI (ldc tx k)) (nI w))), (41, eSg sg), (46, eDr dr)] := by
            intro hno
            rw [if_neg hno] at hS
            subst hS
            refine fz_aload_n dX11_readLines_119 rfl ?_
            refine fz_bipush (v := -12) dX11_readLines_120 (by decide) ?_
            refine fz_iload_n dX11_readLines_122 rfl ?_
            refine fz_callV (tX11_wrong _ (-12) (nI k)) dX11_readLines_123 kX11_109 rfl (Nat.one_pos) ⟨rfl, trivial⟩ (Nat.le_of_ble_eq_true rfl) (Nat.le_of_ble_eq_true rfl) (Nat.le_of_ble_eq_true rfl) (Nat.le_of_ble_eq_true rfl) (Nat.le_of_ble_eq_true rfl) rfl (fun r U hq => ?_)
            obtain ⟨rfl, rfl⟩ := hq
            refine fz_back rfl ?_
            refine fz_iret dX11_readLines_126 rfl (Nat.zero_le _) (Nat.zero_le _) ⟨rfl, _, dr, Or.inl ⟨(by show ¬ (-12 : Int32) = 0; decide), _, _, rfl⟩, rfl⟩
          refine fz_iload_n dX11_readLines_102 rfl ?_
          refine fz_iload_n dX11_readLines_103 rfl ?_
          refine fz_if_ne (tgt := 112) dX11_readLines_104 (by decide) (fun c104 => ?_) (fun c104 => ?_)
          · have hl0 : ¬ l = 0 := fun z => c104 (by rw [z]; exact nI_0)
            rw [if_neg hl0] at store shape
            refine fz_aload_n dX11_readLines_112 rfl ?_
            refine fz_get dX11_readLines_113 fX11_102 rfl (Nat.one_pos) rfl ?_
            rw [fRL_8]
            have hcw := (h1 (by omega)).1
            refine fz_icmp_ne (tgt := 127) dX11_readLines_116 (by decide) (fun c116 => ?_) (fun c116 => ?_)
            · exact store (by have : ¬ c = w := fun z => c116 (by rw [z]); omega)
            · exact shape (by have := (nI_eq (by omega) (by omega)).mp c116; omega)
          · have hl0 : l = 0 := (nI_eq (by omega) (by omega)).mp (c104.trans nI_0.symm)
            rw [if_pos hl0] at store shape
            refine fz_bipush (v := nI 10) dX11_readLines_107 (by decide) ?_
            refine fz_goto (tgt := 116) dX11_readLines_109 (by decide) ?_
            refine fz_icmp_ne (tgt := 127) dX11_readLines_116 (by decide) (fun c116 => ?_) (fun c116 => ?_)
            · exact store (by have : ¬ c = 10 := fun z => c116 (by rw [z]); omega)
            · exact shape (by have := (nI_eq (by omega) (by omega)).mp c116; omega)
        · have h9 : kd (tx k) = 9 := by
            rcases kd_cases (tx k) with z | z | z | z | z | z | z
            all_goals first
              | exact z
              | (exfalso
                 first
                   | exact h5 z
                   | (apply c91
                      unfold mk
                      rw [z]
                      decide))
          rw [if_pos h9] at hS
          subst hS
          refine fz_aload_n dX11_readLines_94 rfl ?_
          refine fz_bipush (v := -11) dX11_readLines_95 (by decide) ?_
          refine fz_iload_n dX11_readLines_97 rfl ?_
          refine fz_callV (tX11_wrong _ (-11) (nI k)) dX11_readLines_98 kX11_109 rfl (Nat.one_pos) ⟨rfl, trivial⟩ (Nat.le_of_ble_eq_true rfl) (Nat.le_of_ble_eq_true rfl) (Nat.le_of_ble_eq_true rfl) (Nat.le_of_ble_eq_true rfl) (Nat.le_of_ble_eq_true rfl) rfl (fun r U hq => ?_)
          obtain ⟨rfl, rfl⟩ := hq
          refine fz_back rfl ?_
          refine fz_iret dX11_readLines_101 rfl (Nat.zero_le _) (Nat.zero_le _) ⟨rfl, _, dr, Or.inl ⟨(by show ¬ (-11 : Int32) = 0; decide), _, _, rfl⟩, rfl⟩
      · have h47 : tx k = 47 := (nI_eq (by omega) (by omega)).mp c43
        have h5 : kd (tx k) = 5 := by rw [h47]; decide
        rw [if_neg (by omega), if_pos h5] at hS
        rw [if_pos h5] at hld
        have next : ¬ (c = 0 ∨ (0 < l ∧ c < w)) → fz_J G mX11_readLines rX11_readLines (fz_Z G E0 rX11_readLines.cells rX11_readLines.slots (fun r U => r = some (zI S.1) ∧ ∃ f' dr', rlQ tx n f S f' dr' ∧ U = [(30, eM f'), (41, eSg sg), (46, eDr dr')])) E0 0 0 62 ((4, zI (mk (tx k))) :: (3, zI (nI k)) :: (2, zI (nI c)) :: (1, zI (nI l)) :: (0, zR 30 0) :: []) [] [(30, eM (fRL f (nI (ldc tx k)) (nI w))), (41, eSg sg), (46, eDr dr)] := by
          intro hnb
          rw [if_neg hnb] at hS
          refine fz_iload_n dX11_readLines_62 rfl ?_
          refine fz_bipush (v := nI 7) dX11_readLines_63 (by decide) ?_
          refine fz_icmp_ne (tgt := 76) dX11_readLines_65 (by decide) (fun c65 => ?_) (fun c65 => ?_)
          · have h7 : ¬ l = 7 := fun z => c65 (by rw [z])
            rw [if_pos (by omega)] at hS
            refine fz_aload_n dX11_readLines_76 rfl ?_
            refine fz_iload_n dX11_readLines_77 rfl ?_
            refine fz_putM dX11_readLines_78 fX11_102 (by decide) rfl ⟨rfl, rfl⟩ ?_
            refine fz_incN dX11_readLines_81 rfl (Nat.le_of_ble_eq_true rfl) ?_
            refine fz_iconst (v := nI 0) dX11_readLines_84 (by decide) ?_
            refine fz_istore_n dX11_readLines_85 (Nat.le_of_ble_eq_true rfl) ?_
            refine fz_goto (tgt := 151) dX11_readLines_86 (by decide) ?_
            refine fz_incN dX11_readLines_151 rfl (Nat.le_of_ble_eq_true rfl) ?_
            refine fz_goto (tgt := 16) dX11_readLines_154 (by decide) ?_
            refine fz_wo (V' := [(30, eM (fRL f (nI (ldc tx (k + 1))) (nI c))), (41, eSg sg), (46, eDr dr)]) (by rw [hld, ← fRL8 f (nI (ldc tx k)) (nI w)]; rfl) ?_
            refine fz_pk [0, 1, 2, 4, 3] rfl ?_
            refine ih (k + 1) (l + 1) 0 c (by omega) (by omega) (by omega) hc (fun z => by omega) (fun z => ⟨by omega, ?_⟩) dr (drR_l hdr h5) hS _
            rcases Nat.eq_zero_or_pos l with z | z
            · rw [hld, h0 z, z]; simp
            · obtain ⟨a1, a2⟩ := h1 z
              have e : c = w := by omega
              rw [hld, a2, e, Nat.mul_add, Nat.mul_one]
          · have h7 : l = 7 := (nI_eq (by omega) (by omega)).mp c65
            rw [if_neg (by omega)] at hS
            exact bad [] hS.symm
        refine fz_iload_n dX11_readLines_46 rfl ?_
        refine fz_if_eq (tgt := 68) dX11_readLines_47 (by decide) (fun c47 => ?_) (fun c47 => ?_)
        · rw [if_pos (Or.inl ((nI_eq (by omega) (by omega)).mp (c47.trans nI_0.symm)))] at hS
          exact bad [] hS.symm
        · have hc0 : ¬ c = 0 := fun z => c47 (by rw [z]; exact nI_0)
          refine fz_iload_n dX11_readLines_50 rfl ?_
          refine fz_if_le (tgt := 62) dX11_readLines_51 (by decide) (fun c51 => ?_) (fun c51 => ?_)
          · have hl0 : l = 0 := by
              rcases Nat.eq_zero_or_pos l with z | z
              · exact z
              · exact absurd c51 (nI_nle z (by omega))
            exact next (by omega)
          · have hl0 : 0 < l := by
              rcases Nat.eq_zero_or_pos l with z | z
              · exact absurd (by rw [z]; decide) c51
              · exact z
            refine fz_iload_n dX11_readLines_54 rfl ?_
            refine fz_aload_n dX11_readLines_55 rfl ?_
            refine fz_get dX11_readLines_56 fX11_102 rfl (Nat.one_pos) rfl ?_
            rw [fRL_8]
            refine fz_icmp_lt (tgt := 68) dX11_readLines_59 (by decide) (fun c59 => ?_) (fun c59 => ?_)
            · have := (nI_ltI (by omega) (by omega)).mp c59
              rw [if_pos (Or.inr ⟨hl0, this⟩)] at hS
              exact bad [] hS.symm
            · have : w ≤ c := by
                rcases Nat.lt_or_ge c w with z | z
                · exact absurd ((nI_ltI (by omega) (by omega)).mpr z) c59
                · exact z
              exact next (by omega)
theorem tX11_readLines {G : fz_G} (n : Nat) (hn : n ≤ 90) (f : Nat → Int32) (hf : f 0 = nI n) (sg : Nat → Int32) (tx : Nat → Nat) (ht : tq sg tx n) (dr : Nat → Int32) : fz_T G mX11_readLines rX11_readLines [zR 30 0] [(30, eM f), (41, eSg sg), (46, eDr dr)] (fun r U => r = some (zI (scn tx n 0 0 0 0).1) ∧ ∃ f' dr', rlQ tx n f (scn tx n 0 0 0 0) f' dr' ∧ U = [(30, eM f'), (41, eSg sg), (46, eDr dr')]) := by
  refine fz_T.of (by decide) (Nat.le_of_ble_eq_true rfl) (fun E0 => ?_)
  refine fz_iconst (v := nI 0) dX11_readLines_0 (by decide) ?_
  refine fz_istore_n dX11_readLines_1 (Nat.le_of_ble_eq_true rfl) ?_
  refine fz_iconst (v := nI 0) dX11_readLines_2 (by decide) ?_
  refine fz_istore_n dX11_readLines_3 (Nat.le_of_ble_eq_true rfl) ?_
  refine fz_aload_n dX11_readLines_4 rfl ?_
  refine fz_iconst (v := nI 0) dX11_readLines_5 (by decide) ?_
  refine fz_putM dX11_readLines_6 fX11_99 (by decide) rfl ⟨rfl, rfl⟩ ?_
  refine fz_aload_n dX11_readLines_9 rfl ?_
  refine fz_iconst (v := nI 0) dX11_readLines_10 (by decide) ?_
  refine fz_putM dX11_readLines_11 fX11_102 (by decide) rfl ⟨rfl, rfl⟩ ?_
  refine fz_iconst (v := nI 0) dX11_readLines_14 (by decide) ?_
  refine fz_istore_n dX11_readLines_15 (Nat.le_of_ble_eq_true rfl) ?_
  refine fz_wo (V' := [(30, eM (fRL f (nI 0) (nI 0))), (41, eSg sg), (46, eDr dr)]) rfl ?_
  exact lX11_readLines n hn f hf sg tx ht _ n 0 0 0 0 (by omega) (by omega) (by omega) (by omega) (fun _ => rfl) (fun z => by omega) dr (fun j hj => absurd hj (Nat.not_lt_zero j)) rfl []
