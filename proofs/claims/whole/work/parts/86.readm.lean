/-! THE MODEL: read -/
abbrev wRm (f sg ki dr fa sn : Nat → Int32) : fz_W := [(30, eM f), (41, eSg sg), (45, eKi ki), (46, eDr dr), (49, eFa fa), (50, eSn sn)]
/-- the fields that a read sets to 0 at its end -/
def fRd (f : Nat → Int32) : Nat → Int32 := upd (upd (upd (upd (upd (upd (upd f 11 (nI 0)) 12 (nI 0)) 22 (nI 0)) 28 (nI 0)) 19 (nI 0)) 20 (nI 0)) 21 (nI 0)
/-- all distances are in far -/
def faR (cn w : Nat) (kn : Nat → Nat) (fa : Nat → Int32) : Prop := ∀ c x, c < cn → x < cn → fa (80 * c + x) = dsF cn w kn c x
theorem lX11_read_158 {G : fz_G} {E0 : Nat → fz_E} {Z : List Frame → Array Value → State → State → Prop} (f sg ki dr sn : Nat → Int32) (cn w : Nat) (kn : Nat → Nat) (h0 : 0 < w) (hw : w ≤ 10) (h80 : cn ≤ 80) (hh : ∃ h, cn = w * h) (hf3 : f 3 = nI cn) (hf4 : f 4 = nI w) (hd : ∀ j, j < cn → ki j = nI (kn j) ∧ kn j < 10) (x1 : Int32)
    (kk : ∀ fa, faR cn w kn fa → fz_J G mX11_read rX11_read Z E0 0 0 177 [(2, zI (nI cn)), (1, zI x1), (0, zR 30 0)] [] (wRm f sg ki dr fa sn)) :
    ∀ q c, c + q = cn → ∀ fa, (∀ c' x, c' < c → x < cn → fa (80 * c' + x) = dsF cn w kn c' x) → fz_J G mX11_read rX11_read Z E0 0 0 158 [(2, zI (nI c)), (1, zI x1), (0, zR 30 0)] [] (wRm f sg ki dr fa sn) := by
  intro q
  induction q with
  | zero =>
    intro c hc fa h
    have e : c = cn := by omega
    subst e
    refine fz_iload_n dX11_read_158 rfl ?_
    refine fz_aload_n dX11_read_159 rfl ?_
    refine fz_get dX11_read_160 fX11_132 rfl (Nat.one_pos) rfl ?_
    rw [hf3]
    refine fz_icmp_ge (tgt := 177) dX11_read_163 (by decide) (fun c163 => ?_) (fun c163 => ?_)
    · exact kk fa h
    · exact absurd (nI_le (Nat.le_refl _) (by omega)) c163
  | succ q ih =>
    intro c hc fa h
    refine fz_iload_n dX11_read_158 rfl ?_
    refine fz_aload_n dX11_read_159 rfl ?_
    refine fz_get dX11_read_160 fX11_132 rfl (Nat.one_pos) rfl ?_
    rw [hf3]
    refine fz_icmp_ge (tgt := 177) dX11_read_163 (by decide) (fun c163 => ?_) (fun c163 => ?_)
    · exact absurd ((nI_leI (by omega) (by omega)).mp c163) (by omega)
    · skip
      refine fz_aload_n dX11_read_166 rfl ?_
      refine fz_iload_n dX11_read_167 rfl ?_
      refine fz_callV (tX11_measure f ki fa cn w kn h0 hw h80 hh hf3 hf4 hd c (by omega)) dX11_read_168 kX11_138 rfl (Nat.one_pos) ⟨rfl, rfl, rfl, trivial⟩ (Nat.le_of_ble_eq_true rfl) (Nat.le_of_ble_eq_true rfl) (Nat.le_of_ble_eq_true rfl) (Nat.le_of_ble_eq_true rfl) (Nat.le_of_ble_eq_true rfl) rfl (fun r U hq => ?_)
      obtain ⟨rfl, fa', hr, rfl⟩ := hq
      refine fz_back rfl ?_
      refine fz_wo (V' := wRm f sg ki dr fa' sn) rfl ?_
      refine fz_incN dX11_read_171 rfl (Nat.le_of_ble_eq_true rfl) ?_
      refine fz_goto (tgt := 158) dX11_read_174 (by decide) ?_
      refine ih (c + 1) (by omega) fa' (fun c' x hc' hx => ?_)
      by_cases e : c' = c
      · rw [e]; exact hr.1 x hx
      · rw [hr.2 _ (by omega)]; exact h c' x (by omega) hx
theorem lX11_read_130 {G : fz_G} {E0 : Nat → fz_E} {Z : List Frame → Array Value → State → State → Prop} (f sg dr fa sn : Nat → Int32) (cn : Nat) (h80 : cn ≤ 80) (hf3 : f 3 = nI cn) (x1 : Int32)
    (kk : ∀ ki, (∀ j, j < cn → ki j = dr j) → fz_J G mX11_read rX11_read Z E0 0 0 156 [(2, zI (nI cn)), (1, zI x1), (0, zR 30 0)] [] (wRm f sg ki dr fa sn)) :
    ∀ q c, c + q = cn → ∀ ki : Nat → Int32, (∀ j, j < c → ki j = dr j) → fz_J G mX11_read rX11_read Z E0 0 0 130 [(2, zI (nI c)), (1, zI x1), (0, zR 30 0)] [] (wRm f sg ki dr fa sn) := by
  intro q
  induction q with
  | zero =>
    intro c hc ki h
    have e : c = cn := by omega
    subst e
    refine fz_iload_n dX11_read_130 rfl ?_
    refine fz_aload_n dX11_read_131 rfl ?_
    refine fz_get dX11_read_132 fX11_132 rfl (Nat.one_pos) rfl ?_
    rw [hf3]
    refine fz_icmp_ge (tgt := 156) dX11_read_135 (by decide) (fun c135 => ?_) (fun c135 => ?_)
    · exact kk ki h
    · exact absurd (nI_le (Nat.le_refl _) (by omega)) c135
  | succ q ih =>
    intro c hc ki h
    refine fz_iload_n dX11_read_130 rfl ?_
    refine fz_aload_n dX11_read_131 rfl ?_
    refine fz_get dX11_read_132 fX11_132 rfl (Nat.one_pos) rfl ?_
    rw [hf3]
    refine fz_icmp_ge (tgt := 156) dX11_read_135 (by decide) (fun c135 => ?_) (fun c135 => ?_)
    · exact absurd ((nI_leI (by omega) (by omega)).mp c135) (by omega)
    · skip
      refine fz_aload_n dX11_read_138 rfl ?_
      refine fz_get dX11_read_139 fX11_17 rfl (Nat.one_pos) rfl ?_
      refine fz_iload_n dX11_read_142 rfl ?_
      refine fz_aload_n dX11_read_143 rfl ?_
      refine fz_get dX11_read_144 fX11_20 rfl (Nat.one_pos) rfl ?_
      refine fz_iload_n dX11_read_147 rfl ?_
      refine fz_iald dX11_read_148 rfl rfl (Nat.one_pos) (vp_in_nI (by omega) (by omega)) ?_
      rw [nI_clamp (by omega)]
      refine fz_iast1 dX11_read_149 rfl rfl (vp_in_nI (by omega) (by omega)) ?_
      rw [nI_clamp (by omega)]
      refine fz_incN dX11_read_150 rfl (Nat.le_of_ble_eq_true rfl) ?_
      refine fz_goto (tgt := 130) dX11_read_153 (by decide) ?_
      refine ih (c + 1) (by omega) _ (fun j hj => ?_)
      by_cases e : j = c
      · rw [e, pk_us]
      · rw [pk_un e]; exact h j (by omega)
theorem jn_text {c w : Nat} (h0 : 0 < w) : c / w * (w + 1) + c % w = c + c / w := by
  have e := Nat.div_add_mod c w
  rw [Nat.mul_add, Nat.mul_one, Nat.mul_comm (c / w) w]
  omega
theorem lX11_read_53 {G : fz_G} {E0 : Nat → fz_E} {Z : List Frame → Array Value → State → State → Prop} (f sg ki dr fa : Nat → Int32) (cn w : Nat) (kn : Nat → Nat) (h0 : 0 < w) (hw : w ≤ 10) (h80 : cn ≤ 80) (hh : ∃ h, cn = w * h) (hf7 : f 7 = nI cn) (hf8 : f 8 = nI w) (hd : ∀ j, j < cn → dr j = nI (kn j) ∧ kn j < 10) (x1 : Int32)
    (kok : ∀ sn, apF cn w kn cn = none → fz_J G mX11_read rX11_read Z E0 0 0 112 [(2, zI (nI cn)), (1, zI x1), (0, zR 30 0)] [] (wRm f sg ki dr fa sn))
    (kno : ∀ sn c, c < cn → apF cn w kn cn = some c → fz_J G mX11_read rX11_read Z E0 0 0 79 [(2, zI (nI c)), (1, zI x1), (0, zR 30 0)] [] (wRm f sg ki dr fa sn)) :
    ∀ q c, c + q = cn → ∀ sn, (∀ d, d < c → 1 < kn d → ¬ apB cn w kn d) → fz_J G mX11_read rX11_read Z E0 0 0 53 [(2, zI (nI c)), (1, zI x1), (0, zR 30 0)] [] (wRm f sg ki dr fa sn) := by
  have hJ : ∀ c, (∀ d, d < c → 1 < kn d → ¬ apB cn w kn d) → ∀ d, d < c → d < cn → 1 < kn d → JA cn w kn d := fun c h d hd hdc hk => JA_of h0 hh hdc hk (fun e he hke => h e (by omega) hke) (h d hd hk)
  intro q
  induction q with
  | zero =>
    intro c hc sn h
    have e : c = cn := by omega
    subst e
    refine fz_iload_n dX11_read_53 rfl ?_
    refine fz_aload_n dX11_read_54 rfl ?_
    refine fz_get dX11_read_55 fX11_99 rfl (Nat.one_pos) rfl ?_
    rw [hf7]
    refine fz_icmp_ge (tgt := 112) dX11_read_58 (by decide) (fun c58 => ?_) (fun c58 => ?_)
    · exact kok sn (apF_none (fun d hd hk => hJ c h d hd hd hk))
    · exact absurd (nI_le (Nat.le_refl _) (by omega)) c58
  | succ q ih =>
    intro c hc sn h
    obtain ⟨d1, d2⟩ := hd c (by omega)
    have next : ∀ sn, (1 < kn c → ¬ apB cn w kn c) → fz_J G mX11_read rX11_read Z E0 0 0 106 [(2, zI (nI c)), (1, zI x1), (0, zR 30 0)] [] (wRm f sg ki dr fa sn) := by
      intro sn hn
      refine fz_incN dX11_read_106 rfl (Nat.le_of_ble_eq_true rfl) ?_
      refine fz_goto (tgt := 53) dX11_read_109 (by decide) ?_
      refine ih (c + 1) (by omega) sn (fun d hd2 hk => ?_)
      by_cases e : d = c
      · rw [e] at hk ⊢; exact hn hk
      · exact h d (by omega) hk
    refine fz_iload_n dX11_read_53 rfl ?_
    refine fz_aload_n dX11_read_54 rfl ?_
    refine fz_get dX11_read_55 fX11_99 rfl (Nat.one_pos) rfl ?_
    rw [hf7]
    refine fz_icmp_ge (tgt := 112) dX11_read_58 (by decide) (fun c58 => ?_) (fun c58 => ?_)
    · exact absurd ((nI_leI (by omega) (by omega)).mp c58) (by omega)
    · skip
      refine fz_aload_n dX11_read_61 rfl ?_
      refine fz_get dX11_read_62 fX11_20 rfl (Nat.one_pos) rfl ?_
      refine fz_iload_n dX11_read_65 rfl ?_
      refine fz_iald dX11_read_66 rfl rfl (Nat.one_pos) (vp_in_nI (by omega) (by omega)) ?_
      refine fz_iconst (v := nI 1) dX11_read_67 (by decide) ?_
      rw [nI_clamp (by omega), d1]
      refine fz_icmp_le (tgt := 106) dX11_read_68 (by decide) (fun c68 => ?_) (fun c68 => ?_)
      · have := (nI_leI (by omega) (by omega)).mp c68
        exact next sn (fun z => by omega)
      · have hk1 : 1 < kn c := by
          rcases Nat.lt_or_ge 1 (kn c) with z | z
          · exact z
          · exact absurd (nI_le z (by omega)) c68
        refine fz_aload_n dX11_read_71 rfl ?_
        refine fz_iload_n dX11_read_72 rfl ?_
        refine fz_callV (tX11_isApart f dr sn cn w kn h0 hw h80 hh hf7 hf8 hd c (by omega) (by omega)) dX11_read_73 kX11_129 rfl (Nat.one_pos) ⟨rfl, rfl, rfl, trivial⟩ (Nat.le_of_ble_eq_true rfl) (Nat.le_of_ble_eq_true rfl) (Nat.le_of_ble_eq_true rfl) (Nat.le_of_ble_eq_true rfl) (Nat.le_of_ble_eq_true rfl) rfl (fun r U hq => ?_)
        obtain ⟨⟨ap, rfl, hap⟩, sn', rfl⟩ := hq
        refine fz_back rfl ?_
        refine fz_wo (V' := wRm f sg ki dr fa sn') rfl ?_
        cases ap with
        | false =>
          refine fz_if_eq (tgt := 106) dX11_read_76 (by decide) (fun c76 => ?_) (fun c76 => ?_)
          · exact next sn' (fun _ z => Bool.noConfusion (hap.mpr z))
          · exact absurd rfl c76
        | true =>
          refine fz_if_eq (tgt := 106) dX11_read_76 (by decide) (fun c76 => ?_) (fun c76 => ?_)
          · exact absurd c76 (by decide)
          · exact kno sn' c (by omega) (apF_some hk1 (apB_JA hk1 (hap.mp rfl)) (fun d hd2 hk => hJ c h d hd2 (by omega) hk) cn (by omega))
/-- what read answers and leaves -/
noncomputable def mrQ (tx : Nat → Nat) (n : Nat) (f ki fa : Nat → Int32) (r : Option fz_V) (f' ki' fa' : Nat → Int32) : Prop :=
  (∃ a b v p, ((¬ (scn tx n 0 0 0 0).1 = 0 ∧ v = (scn tx n 0 0 0 0).1 ∧ p = nI (scn tx n 0 0 0 0).2.1) ∨ ((scn tx n 0 0 0 0).1 = 0 ∧ ¬ (hkd (ldk tx n) 2 (ldc tx n) && (hkd (ldk tx n) 3 (ldc tx n) && hkd (ldk tx n) 4 (ldc tx n))) = true ∧ v = -13 ∧ p = nI n) ∨ ((scn tx n 0 0 0 0).1 = 0 ∧ (hkd (ldk tx n) 2 (ldc tx n) && (hkd (ldk tx n) 3 (ldc tx n) && hkd (ldk tx n) 4 (ldc tx n))) = true ∧ ∃ c, apF (ldc tx n) (scn tx n 0 0 0 0).2.2 (ldk tx n) (ldc tx n) = some c ∧ v = -14 ∧ p = nI (c + c / (scn tx n 0 0 0 0).2.2))) ∧ r = some (zI v) ∧ f' = upd (fRL (upd f 2 (-1)) a b) 2 p ∧ ki' = ki ∧ fa' = fa) ∨
  ((scn tx n 0 0 0 0).1 = 0 ∧ (hkd (ldk tx n) 2 (ldc tx n) && (hkd (ldk tx n) 3 (ldc tx n) && hkd (ldk tx n) 4 (ldc tx n))) = true ∧ apF (ldc tx n) (scn tx n 0 0 0 0).2.2 (ldk tx n) (ldc tx n) = none ∧ r = some (zI (nI (ldc tx n))) ∧ f' = fRd (upd (upd (fRL (upd f 2 (-1)) (nI (ldc tx n)) (nI (scn tx n 0 0 0 0).2.2)) 3 (nI (ldc tx n))) 4 (nI (scn tx n 0 0 0 0).2.2)) ∧ (∀ j, j < ldc tx n → ki' j = nI (ldk tx n j)) ∧ faR (ldc tx n) (scn tx n 0 0 0 0).2.2 (ldk tx n) fa')
theorem neg_nlt {v : Int32} (h : v < 0) : ¬ 0 ≤ v := Int32.not_le.mpr h
theorem lt12 : (-12 : Int32) < 0 := by decide
theorem lt11 : (-11 : Int32) < 0 := by decide
theorem scn_neg {tx : Nat → Nat} : ∀ q k l c w, ¬ (scn tx q k l c w).1 = 0 → (scn tx q k l c w).1 < 0
  | 0, k, l, c, w, h => by
    unfold scn at h ⊢
    split
    · exact lt12
    · rename_i z
      rw [if_neg z] at h
      exact absurd rfl h
  | q + 1, k, l, c, w, h => by
    unfold scn at h ⊢
    by_cases h9 : kd (tx k) = 9
    · rw [if_pos h9]
      exact lt11
    · rw [if_neg h9] at h ⊢
      by_cases h5 : kd (tx k) = 5
      · rw [if_pos h5] at h ⊢
        by_cases hb : c = 0 ∨ (0 < l ∧ c < w)
        · rw [if_pos hb]; exact lt12
        · rw [if_neg hb] at h ⊢
          by_cases h8 : l + 1 < 8
          · rw [if_pos h8] at h ⊢
            exact scn_neg q _ _ _ _ h
          · rw [if_neg h8]; exact lt12
      · rw [if_neg h5] at h ⊢
        by_cases hb : c + 1 ≤ (if l = 0 then 10 else w)
        · rw [if_pos hb] at h ⊢
          exact scn_neg q _ _ _ _ h
        · rw [if_neg hb]; exact lt12
theorem tX11_read {G : fz_G} (n : Nat) (hn : n ≤ 90) (f : Nat → Int32) (hf : f 0 = nI n) (sg : Nat → Int32) (tx : Nat → Nat) (ht : tq sg tx n) (ki dr fa sn : Nat → Int32) : fz_T G mX11_read rX11_read [zR 30 0] (wRm f sg ki dr fa sn) (fun r U => ∃ f' ki' dr' fa' sn', mrQ tx n f ki fa r f' ki' fa' ∧ U = wRm f' sg ki' dr' fa' sn') := by
  refine fz_T.of (by decide) (Nat.le_of_ble_eq_true rfl) (fun E0 => ?_)
  refine fz_aload_n dX11_read_0 rfl ?_
  refine fz_iconst (v := -1) dX11_read_1 (by decide) ?_
  refine fz_putM dX11_read_2 fX11_13 (by decide) rfl ⟨rfl, rfl⟩ ?_
  refine fz_aload_n dX11_read_5 rfl ?_
  refine fz_wo (V' := wRm (upd f 2 (-1)) sg ki dr fa sn) rfl ?_
  refine fz_callV (tX11_readLines n hn (upd f 2 (-1)) (by rw [upk (by decide)]; exact hf) sg tx ht dr) dX11_read_6 kX11_121 rfl (Nat.one_pos) ⟨rfl, rfl, rfl, trivial⟩ (Nat.le_of_ble_eq_true rfl) (Nat.le_of_ble_eq_true rfl) (Nat.le_of_ble_eq_true rfl) (Nat.le_of_ble_eq_true rfl) (Nat.le_of_ble_eq_true rfl) rfl (fun r U hq => ?_)
  obtain ⟨rfl, f1, dr1, hrl, rfl⟩ := hq
  refine fz_back rfl ?_
  refine fz_wo (V' := wRm f1 sg ki dr1 fa sn) rfl ?_
  refine fz_istore_n dX11_read_9 (Nat.le_of_ble_eq_true rfl) ?_
  refine fz_iload_n dX11_read_10 rfl ?_
  rcases hrl with ⟨hS, a, b, rfl⟩ | ⟨hS, rfl, hdr⟩
  · have hneg := scn_neg n 0 0 0 0 hS
    refine fz_if_ge (tgt := 16) dX11_read_11 (by decide) (fun c11 => ?_) (fun c11 => ?_)
    · exact absurd c11 (neg_nlt hneg)
    · skip
      refine fz_iload_n dX11_read_14 rfl ?_
      refine fz_iret dX11_read_15 rfl (Nat.zero_le _) (Nat.zero_le _) ⟨_, ki, dr1, fa, sn, Or.inl ⟨a, b, _, _, Or.inl ⟨hS, rfl, rfl⟩, rfl, rfl, rfl, rfl⟩, rfl⟩
  · obtain ⟨s1, s2, s3, s4, s5, s6⟩ := scn_all hS
    have hkl : ∀ j, j < ldc tx n → dr1 j = nI (ldk tx n j) ∧ ldk tx n j < 10 := fun j hj => ⟨hdr j hj, by have := ldk_le tx n s3 j; omega⟩
    have f7 : fRL (upd f 2 (-1)) (nI (ldc tx n)) (nI (scn tx n 0 0 0 0).2.2) 7 = nI (ldc tx n) := fRL_7 _ _ _
    have f8 : fRL (upd f 2 (-1)) (nI (ldc tx n)) (nI (scn tx n 0 0 0 0).2.2) 8 = nI (scn tx n 0 0 0 0).2.2 := fRL_8 _ _ _
    have f0 : fRL (upd f 2 (-1)) (nI (ldc tx n)) (nI (scn tx n 0 0 0 0).2.2) 0 = nI n := by rw [fRL_k _ _ _ (by decide) (by decide), upk (by decide)]; exact hf
    have kind : ¬ (hkd (ldk tx n) 2 (ldc tx n) && (hkd (ldk tx n) 3 (ldc tx n) && hkd (ldk tx n) 4 (ldc tx n))) = true → fz_J G mX11_read rX11_read (fz_Z G E0 rX11_read.cells rX11_read.slots (fun r U => ∃ f' ki' dr' fa' sn', mrQ tx n f ki fa r f' ki' fa' ∧ U = wRm f' sg ki' dr' fa' sn')) E0 0 0 40 [(1, zI (scn tx n 0 0 0 0).1), (0, zR 30 0)] [] (wRm (fRL (upd f 2 (-1)) (nI (ldc tx n)) (nI (scn tx n 0 0 0 0).2.2)) sg ki dr1 fa sn) := by
      intro hk
      refine fz_aload_n dX11_read_40 rfl ?_
      refine fz_bipush (v := -13) dX11_read_41 (by decide) ?_
      refine fz_aload_n dX11_read_43 rfl ?_
      refine fz_get dX11_read_44 fX11_96 rfl (Nat.one_pos) rfl ?_
      rw [f0]
      refine fz_callV (tX11_wrong _ (-13) (nI n)) dX11_read_47 kX11_109 rfl (Nat.one_pos) ⟨rfl, trivial⟩ (Nat.le_of_ble_eq_true rfl) (Nat.le_of_ble_eq_true rfl) (Nat.le_of_ble_eq_true rfl) (Nat.le_of_ble_eq_true rfl) (Nat.le_of_ble_eq_true rfl) rfl (fun r U hq => ?_)
      obtain ⟨rfl, rfl⟩ := hq
      refine fz_back rfl ?_
      refine fz_iret dX11_read_50 rfl (Nat.zero_le _) (Nat.zero_le _) ⟨_, ki, dr1, fa, sn, Or.inl ⟨_, _, _, _, Or.inr (Or.inl ⟨hS, hk, rfl, rfl⟩), rfl, rfl, rfl, rfl⟩, rfl⟩
    refine fz_if_ge (tgt := 16) dX11_read_11 (by decide) (fun c11 => ?_) (fun c11 => ?_)
    · skip
      refine fz_aload_n dX11_read_16 rfl ?_
      refine fz_iconst (v := nI 2) dX11_read_17 (by decide) ?_
      refine fz_callV (tX11_hasKind _ dr1 (ldc tx n) (ldk tx n) s4 f7 hkl 2 (by omega)) dX11_read_18 kX11_125 rfl (Nat.one_pos) ⟨rfl, rfl, trivial⟩ (Nat.le_of_ble_eq_true rfl) (Nat.le_of_ble_eq_true rfl) (Nat.le_of_ble_eq_true rfl) (Nat.le_of_ble_eq_true rfl) (Nat.le_of_ble_eq_true rfl) rfl (fun r U hq => ?_)
      obtain ⟨rfl, rfl⟩ := hq
      refine fz_back rfl ?_
      refine fz_wo (V' := wRm (fRL (upd f 2 (-1)) (nI (ldc tx n)) (nI (scn tx n 0 0 0 0).2.2)) sg ki dr1 fa sn) rfl ?_
      cases k2 : hkd (ldk tx n) 2 (ldc tx n) with
      | false =>
        refine fz_if_eq (tgt := 40) dX11_read_21 (by decide) (fun c21 => ?_) (fun c21 => ?_)
        · exact kind (by rw [k2]; simp)
        · exact absurd rfl c21
      | true =>
        refine fz_if_eq (tgt := 40) dX11_read_21 (by decide) (fun c21 => ?_) (fun c21 => ?_)
        · exact absurd c21 (by decide)
        · skip
          refine fz_aload_n dX11_read_24 rfl ?_
          refine fz_iconst (v := nI 3) dX11_read_25 (by decide) ?_
          refine fz_callV (tX11_hasKind _ dr1 (ldc tx n) (ldk tx n) s4 f7 hkl 3 (by omega)) dX11_read_26 kX11_125 rfl (Nat.one_pos) ⟨rfl, rfl, trivial⟩ (Nat.le_of_ble_eq_true rfl) (Nat.le_of_ble_eq_true rfl) (Nat.le_of_ble_eq_true rfl) (Nat.le_of_ble_eq_true rfl) (Nat.le_of_ble_eq_true rfl) rfl (fun r U hq => ?_)
          obtain ⟨rfl, rfl⟩ := hq
          refine fz_back rfl ?_
          refine fz_wo (V' := wRm (fRL (upd f 2 (-1)) (nI (ldc tx n)) (nI (scn tx n 0 0 0 0).2.2)) sg ki dr1 fa sn) rfl ?_
          cases k3 : hkd (ldk tx n) 3 (ldc tx n) with
          | false =>
            refine fz_if_eq (tgt := 40) dX11_read_29 (by decide) (fun c29 => ?_) (fun c29 => ?_)
            · exact kind (by rw [k3]; simp)
            · exact absurd rfl c29
          | true =>
            refine fz_if_eq (tgt := 40) dX11_read_29 (by decide) (fun c29 => ?_) (fun c29 => ?_)
            · exact absurd c29 (by decide)
            · skip
              refine fz_aload_n dX11_read_32 rfl ?_
              refine fz_iconst (v := nI 4) dX11_read_33 (by decide) ?_
              refine fz_callV (tX11_hasKind _ dr1 (ldc tx n) (ldk tx n) s4 f7 hkl 4 (by omega)) dX11_read_34 kX11_125 rfl (Nat.one_pos) ⟨rfl, rfl, trivial⟩ (Nat.le_of_ble_eq_true rfl) (Nat.le_of_ble_eq_true rfl) (Nat.le_of_ble_eq_true rfl) (Nat.le_of_ble_eq_true rfl) (Nat.le_of_ble_eq_true rfl) rfl (fun r U hq => ?_)
              obtain ⟨rfl, rfl⟩ := hq
              refine fz_back rfl ?_
              refine fz_wo (V' := wRm (fRL (upd f 2 (-1)) (nI (ldc tx n)) (nI (scn tx n 0 0 0 0).2.2)) sg ki dr1 fa sn) rfl ?_
              cases k4 : hkd (ldk tx n) 4 (ldc tx n) with
              | false =>
                refine fz_if_ne (tgt := 51) dX11_read_37 (by decide) (fun c37 => ?_) (fun c37 => ?_)
                · exact absurd rfl c37
                · exact kind (by rw [k4]; simp)
              | true =>
                have hkk : (hkd (ldk tx n) 2 (ldc tx n) && (hkd (ldk tx n) 3 (ldc tx n) && hkd (ldk tx n) 4 (ldc tx n))) = true := by rw [k2, k3, k4]; rfl
                refine fz_if_ne (tgt := 51) dX11_read_37 (by decide) (fun c37 => ?_) (fun c37 => ?_)
                · skip
                  refine fz_iconst (v := nI 0) dX11_read_51 (by decide) ?_
                  refine fz_istore_n dX11_read_52 (Nat.le_of_ble_eq_true rfl) ?_
                  refine lX11_read_53 _ sg ki dr1 fa (ldc tx n) (scn tx n 0 0 0 0).2.2 (ldk tx n) s1 s2 s4 s6 f7 f8 hkl _ (fun sn' hap => ?_) (fun sn' c hc hap => ?_) (ldc tx n) 0 (by omega) sn (fun d hd => by omega)
                  · skip
                    refine fz_aload_n dX11_read_112 rfl ?_
                    refine fz_aload_n dX11_read_113 rfl ?_
                    refine fz_get dX11_read_114 fX11_99 rfl (Nat.one_pos) rfl ?_
                    rw [f7]
                    refine fz_putM dX11_read_117 fX11_132 (by decide) rfl ⟨rfl, rfl⟩ ?_
                    refine fz_aload_n dX11_read_120 rfl ?_
                    refine fz_aload_n dX11_read_121 rfl ?_
                    refine fz_get dX11_read_122 fX11_102 rfl (Nat.one_pos) rfl ?_
                    rw [upk (by decide), f8]
                    refine fz_putM dX11_read_125 fX11_135 (by decide) rfl ⟨rfl, rfl⟩ ?_
                    refine fz_iconst (v := nI 0) dX11_read_128 (by decide) ?_
                    refine fz_istore_n dX11_read_129 (Nat.le_of_ble_eq_true rfl) ?_
                    refine fz_wo (V' := wRm (upd (upd (fRL (upd f 2 (-1)) (nI (ldc tx n)) (nI (scn tx n 0 0 0 0).2.2)) 3 (nI (ldc tx n))) 4 (nI (scn tx n 0 0 0 0).2.2)) sg ki dr1 fa sn') rfl ?_
                    have g3 : upd (upd (fRL (upd f 2 (-1)) (nI (ldc tx n)) (nI (scn tx n 0 0 0 0).2.2)) 3 (nI (ldc tx n))) 4 (nI (scn tx n 0 0 0 0).2.2) 3 = nI (ldc tx n) := by rw [upk (by decide), pk_us]
                    have g4 : upd (upd (fRL (upd f 2 (-1)) (nI (ldc tx n)) (nI (scn tx n 0 0 0 0).2.2)) 3 (nI (ldc tx n))) 4 (nI (scn tx n 0 0 0 0).2.2) 4 = nI (scn tx n 0 0 0 0).2.2 := pk_us
                    refine lX11_read_130 _ sg dr1 fa sn' (ldc tx n) s4 g3 _ (fun ki' hki => ?_) (ldc tx n) 0 (by omega) ki (fun j hj => by omega)
                    refine fz_iconst (v := nI 0) dX11_read_156 (by decide) ?_
                    refine fz_istore_n dX11_read_157 (Nat.le_of_ble_eq_true rfl) ?_
                    refine lX11_read_158 _ sg ki' dr1 sn' (ldc tx n) (scn tx n 0 0 0 0).2.2 (ldk tx n) s1 s2 s4 s6 g3 g4 (fun j hj => ⟨(hki j hj).trans (hkl j hj).1, (hkl j hj).2⟩) _ (fun fa' hfa => ?_) (ldc tx n) 0 (by omega) fa (fun c' x hc' => by omega)
                    refine fz_aload_n dX11_read_177 rfl ?_
                    refine fz_iconst (v := nI 0) dX11_read_178 (by decide) ?_
                    refine fz_putM dX11_read_179 fX11_141 (by decide) rfl ⟨rfl, rfl⟩ ?_
                    refine fz_aload_n dX11_read_182 rfl ?_
                    refine fz_iconst (v := nI 0) dX11_read_183 (by decide) ?_
                    refine fz_putM dX11_read_184 fX11_144 (by decide) rfl ⟨rfl, rfl⟩ ?_
                    refine fz_aload_n dX11_read_187 rfl ?_
                    refine fz_iconst (v := nI 0) dX11_read_188 (by decide) ?_
                    refine fz_putM dX11_read_189 fX11_147 (by decide) rfl ⟨rfl, rfl⟩ ?_
                    refine fz_aload_n dX11_read_192 rfl ?_
                    refine fz_iconst (v := nI 0) dX11_read_193 (by decide) ?_
                    refine fz_putM dX11_read_194 fX11_150 (by decide) rfl ⟨rfl, rfl⟩ ?_
                    refine fz_aload_n dX11_read_197 rfl ?_
                    refine fz_iconst (v := nI 0) dX11_read_198 (by decide) ?_
                    refine fz_putM dX11_read_199 fX11_153 (by decide) rfl ⟨rfl, rfl⟩ ?_
                    refine fz_aload_n dX11_read_202 rfl ?_
                    refine fz_iconst (v := nI 0) dX11_read_203 (by decide) ?_
                    refine fz_putM dX11_read_204 fX11_156 (by decide) rfl ⟨rfl, rfl⟩ ?_
                    refine fz_aload_n dX11_read_207 rfl ?_
                    refine fz_iconst (v := nI 0) dX11_read_208 (by decide) ?_
                    refine fz_putM dX11_read_209 fX11_159 (by decide) rfl ⟨rfl, rfl⟩ ?_
                    refine fz_aload_n dX11_read_212 rfl ?_
                    refine fz_get dX11_read_213 fX11_132 rfl (Nat.one_pos) rfl ?_
                    refine fz_iret dX11_read_216 rfl (Nat.zero_le _) (Nat.zero_le _) ⟨_, ki', dr1, fa', sn', Or.inr ⟨hS, hkk, hap, ?_, rfl, fun j hj => (hki j hj).trans (hkl j hj).1, hfa⟩, rfl⟩
                    rw [upk (by decide), upk (by decide), upk (by decide), upk (by decide), upk (by decide), upk (by decide), upk (by decide), g3]
                  · have hw0 : ¬ nI (scn tx n 0 0 0 0).2.2 = 0 := fun z => by have := (nI_eq (by omega) (by omega)).mp (z.trans nI_0.symm); omega
                    have hdiv : c / (scn tx n 0 0 0 0).2.2 ≤ c := Nat.div_le_self _ _
                    refine fz_aload_n dX11_read_79 rfl ?_
                    refine fz_bipush (v := -14) dX11_read_80 (by decide) ?_
                    refine fz_iload_n dX11_read_82 rfl ?_
                    refine fz_aload_n dX11_read_83 rfl ?_
                    refine fz_get dX11_read_84 fX11_102 rfl (Nat.one_pos) rfl ?_
                    rw [f8]
                    refine fz_idiv dX11_read_87 (hw0) ?_
                    refine fz_top (y := nI (c / (scn tx n 0 0 0 0).2.2)) (pk_div (by omega) s1 (by omega)) ?_
                    refine fz_aload_n dX11_read_88 rfl ?_
                    refine fz_get dX11_read_89 fX11_102 rfl (Nat.one_pos) rfl ?_
                    refine fz_iconst (v := nI 1) dX11_read_92 (by decide) ?_
                    refine fz_iadd dX11_read_93 ?_
                    rw [f8, nI_add]
                    refine fz_imul dX11_read_94 ?_
                    rw [nI_mul]
                    refine fz_iload_n dX11_read_95 rfl ?_
                    refine fz_aload_n dX11_read_96 rfl ?_
                    refine fz_get dX11_read_97 fX11_102 rfl (Nat.one_pos) rfl ?_
                    rw [f8]
                    refine fz_irem dX11_read_100 (hw0) ?_
                    refine fz_top (y := nI (c % (scn tx n 0 0 0 0).2.2)) (pk_rem (by omega) s1 (by omega)) ?_
                    refine fz_iadd dX11_read_101 ?_
                    rw [nI_add, jn_text s1]
                    refine fz_callV (tX11_wrong _ (-14) (nI (c + c / (scn tx n 0 0 0 0).2.2))) dX11_read_102 kX11_109 rfl (Nat.one_pos) ⟨rfl, trivial⟩ (Nat.le_of_ble_eq_true rfl) (Nat.le_of_ble_eq_true rfl) (Nat.le_of_ble_eq_true rfl) (Nat.le_of_ble_eq_true rfl) (Nat.le_of_ble_eq_true rfl) rfl (fun r U hq => ?_)
                    obtain ⟨rfl, rfl⟩ := hq
                    refine fz_back rfl ?_
                    refine fz_iret dX11_read_105 rfl (Nat.zero_le _) (Nat.zero_le _) ⟨_, ki, dr1, fa, sn', Or.inl ⟨_, _, _, _, Or.inr (Or.inr ⟨hS, hkk, c, hap, rfl, rfl⟩), rfl, rfl, rfl, rfl⟩, rfl⟩
                · exact absurd c37 (by decide)
    · exact absurd (by rw [hS]; decide) c11
