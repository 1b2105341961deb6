/-! THE MAP OUT OF THE TEXT: load; hasAllKinds -/
/-- how many cells the first k signs are -/
def ldc (tx : Nat → Nat) : Nat → Nat
  | 0 => 0
  | k + 1 => ldc tx k + if kd (tx k) = 5 then 0 else 1
/-- and what they are -/
def ldk (tx : Nat → Nat) : Nat → Nat → Nat
  | 0 => fun _ => 0
  | k + 1 => fun c => if ¬ kd (tx k) = 5 ∧ c = ldc tx k then kd (tx k) else ldk tx k c
theorem ldc_mono (tx : Nat → Nat) (k : Nat) : ∀ d, ldc tx k ≤ ldc tx (k + d)
  | 0 => Nat.le_refl _
  | d + 1 => by
    have := ldc_mono tx k d
    show ldc tx k ≤ ldc tx (k + d) + _
    omega
theorem ldk_same (tx : Nat → Nat) (k : Nat) : ∀ d, ldc tx (k + d) = ldc tx k → ∀ c, ldk tx (k + d) c = ldk tx k c
  | 0, _, _ => rfl
  | d + 1, h, c => by
    have h1 := ldc_mono tx k d
    have h2 : ldc tx (k + d) + (if kd (tx (k + d)) = 5 then 0 else 1) = ldc tx k := h
    by_cases h5 : kd (tx (k + d)) = 5
    · rw [if_pos h5] at h2
      show (if ¬ kd (tx (k + d)) = 5 ∧ c = ldc tx (k + d) then kd (tx (k + d)) else ldk tx (k + d) c) = _
      rw [if_neg (fun z => z.1 h5)]
      exact ldk_same tx k d (by omega) c
    · rw [if_neg h5] at h2
      omega
theorem ldk_le (tx : Nat → Nat) : ∀ k, (∀ j, j < k → ¬ kd (tx j) = 9) → ∀ c, ldk tx k c ≤ 4
  | 0, _, _ => Nat.zero_le _
  | k + 1, h, c => by
    show (if ¬ kd (tx k) = 5 ∧ c = ldc tx k then kd (tx k) else ldk tx k c) ≤ 4
    split
    · rename_i h1
      have h2 := h k (by omega)
      have h3 := h1.1
      rcases kd_cases (tx k) with z | z | z | z | z | z | z <;> omega
    · exact ldk_le tx k (fun j hj => h j (by omega)) c
section FZG
variable {G : fz_G} {M : fz_M} {R : Room} {Z : List Frame → Array Value → State → State → Prop} {E0 : Nat → fz_E} {cs sl pc : Nat} {ls : List (Nat × fz_V)} {st : List fz_V} {V : fz_W}
theorem fz_putSz {idx g : Nat} {sz wd : Nat → Int32} {a x : Int32} (hd : decode M.2.1 pc = .ok (.putfield idx, 3)) (hF : fz_F M.1.cls idx 1 5 .int false) (hV : fz_lk V 2 = some (eGr (va_up sz g a) wd)) (hg : g < 2) (k : fz_J G M R Z E0 cs sl (pc + 3) ls st (fz_st V 2 (eGr (va_up sz g x) wd))) : fz_J G M R Z E0 cs sl pc ls (zI x :: zR 2 g :: st) V :=
  fz_put _ hd hF hV hg (Nat.le_of_ble_eq_true rfl) ⟨rfl, rfl⟩ (by simp [va_up_self]) (fun i' _ h2 => by simp only [va_up_ne _ _ h2]) k
theorem fz_putWd {idx g : Nat} {sz wd : Nat → Int32} {a x : Int32} (hd : decode M.2.1 pc = .ok (.putfield idx, 3)) (hF : fz_F M.1.cls idx 1 6 .int false) (hV : fz_lk V 2 = some (eGr sz (va_up wd g a))) (hg : g < 2) (k : fz_J G M R Z E0 cs sl (pc + 3) ls st (fz_st V 2 (eGr sz (va_up wd g x)))) : fz_J G M R Z E0 cs sl pc ls (zI x :: zR 2 g :: st) V :=
  fz_put _ hd hF hV hg (Nat.le_of_ble_eq_true rfl) ⟨rfl, rfl⟩ (by simp [va_up_self]) (fun i' _ h2 => by simp only [va_up_ne _ _ h2]) k
end FZG
abbrev wLd (sz wd : Nat → Int32) (g : Nat) (a b : Int32) (st : Nat → Nat → Int32) (s : Nat → Int32) (ki : Nat → Nat → Int32) (k : Nat → Int32) (op : Nat → Nat → Int64) (o : Nat → Int64) (tx sg : fz_E) : fz_W := [(2, eGr (va_up sz g a) (va_up wd g b)), (3, e5 (va_up st g s)), (4, eL (va_up op g o)), (5, e8 (va_up ki g k)), (8, tx), (9, sg)]
theorem lX1_load_15 {G : fz_G} {E0 : Nat → fz_E} {Z : List Frame → Array Value → State → State → Prop} (g : Nat) (hg : g < 2) (sz wd : Nat → Int32) (b : Int32) (st ki : Nat → Nat → Int32) (s : Nat → Int32) (op : Nat → Nat → Int64) (o : Nat → Int64) (n : Nat) (hn : n ≤ 90) (tw tl tc tf : Int32) (sg : Nat → Int32) (tx : Nat → Nat) (ht : tq sg tx n) (h9 : ∀ j, j < n → ¬ kd (tx j) = 9) (h80 : ldc tx n ≤ 80)
    (kk : ∀ (k : Nat → Int32) (ls : List (Nat × fz_V)), (∀ c, c < ldc tx n → k c = nI (ldk tx n c)) → fz_lo ls 0 = some (zR 2 g) → fz_J G mX1_load rX1_load Z E0 0 0 69 ls [] (wLd sz wd g (nI (ldc tx n)) b st s ki k op o (eTx (nI n) tw tl tc tf) (eSg sg))) :
    ∀ q i, i + q = n → ∀ k : Nat → Int32, (∀ c, c < ldc tx i → k c = nI (ldk tx i c)) → fz_J G mX1_load rX1_load Z E0 0 0 15 [(2, zI (nI i)), (0, zR 2 g), (1, zR 8 0)] [] (wLd sz wd g (nI (ldc tx i)) b st s ki k op o (eTx (nI n) tw tl tc tf) (eSg sg)) := by
  intro q
  induction q with
  | zero =>
    intro i hi k hk
    have e : i = n := by omega
    subst e
    refine fz_iload_n dX1_load_15 rfl ?_
    refine fz_aload_n dX1_load_16 rfl ?_
    refine fz_callV (tX2_length (nI i) tw tl tc tf) dX1_load_17 kX1_50 rfl (Nat.one_pos) ⟨rfl, trivial⟩ (Nat.le_of_ble_eq_true rfl) (Nat.le_of_ble_eq_true rfl) (Nat.le_of_ble_eq_true rfl) (Nat.le_of_ble_eq_true rfl) (Nat.le_of_ble_eq_true rfl) rfl (fun r U hq => ?_)
    obtain ⟨rfl, rfl⟩ := hq
    refine fz_back rfl ?_
    refine fz_wo (V' := wLd sz wd g (nI (ldc tx i)) b st s ki k op o (eTx (nI i) tw tl tc tf) (eSg sg)) rfl ?_
    refine fz_icmp_ge (tgt := 69) dX1_load_20 (by decide) (fun c20 => ?_) (fun c20 => ?_)
    · exact kk k _ hk rfl
    · exact absurd (nI_le (Nat.le_refl _) (by omega)) c20
  | succ q ih =>
    intro i hi k hk
    obtain ⟨hs, hb⟩ := ht i (by omega)
    refine fz_iload_n dX1_load_15 rfl ?_
    refine fz_aload_n dX1_load_16 rfl ?_
    refine fz_callV (tX2_length (nI n) tw tl tc tf) dX1_load_17 kX1_50 rfl (Nat.one_pos) ⟨rfl, trivial⟩ (Nat.le_of_ble_eq_true rfl) (Nat.le_of_ble_eq_true rfl) (Nat.le_of_ble_eq_true rfl) (Nat.le_of_ble_eq_true rfl) (Nat.le_of_ble_eq_true rfl) rfl (fun r U hq => ?_)
    obtain ⟨rfl, rfl⟩ := hq
    refine fz_back rfl ?_
    refine fz_wo (V' := wLd sz wd g (nI (ldc tx i)) b st s ki k op o (eTx (nI n) tw tl tc tf) (eSg sg)) rfl ?_
    have hmo : ldc tx i ≤ ldc tx n := by
      have := ldc_mono tx i (q + 1)
      rw [hi] at this
      exact this
    refine fz_icmp_ge (tgt := 69) dX1_load_20 (by decide) (fun c20 => ?_) (fun c20 => ?_)
    · exact absurd ((nI_leI (by omega) (by omega)).mp c20) (by omega)
    · skip
      refine fz_aload_n dX1_load_23 rfl ?_
      refine fz_get dX1_load_24 fX1_28 rfl (hg) rfl ?_
      refine fz_bipush (v := nI 80) dX1_load_27 (by decide) ?_
      rw [va_up_self]
      refine fz_icmp_ge (tgt := 69) dX1_load_29 (by decide) (fun c29 => ?_) (fun c29 => ?_)
      · have h8 : 80 ≤ ldc tx i := (nI_leI (by omega) (by omega)).mp c29
        have he : ldc tx n = ldc tx i := by omega
        have hk2 := ldk_same tx i (q + 1) (by rw [hi]; exact he)
        rw [hi] at hk2
        rw [← he]
        exact kk k _ (fun c hc => by rw [hk2 c]; exact hk c (by omega)) rfl
      · have h8 : ldc tx i < 80 := by
          rcases Nat.lt_or_ge (ldc tx i) 80 with z | z
          · exact z
          · exact absurd (nI_le z (by omega)) c29
        refine fz_aload_n dX1_load_32 rfl ?_
        refine fz_iload_n dX1_load_33 rfl ?_
        refine fz_callV (tX2_kindOf (nI n) tw tl tc tf sg i (tx i) (by omega) hs hb) dX1_load_34 kX1_53 rfl (Nat.one_pos) ⟨rfl, rfl, trivial⟩ (Nat.le_of_ble_eq_true rfl) (Nat.le_of_ble_eq_true rfl) (Nat.le_of_ble_eq_true rfl) (Nat.le_of_ble_eq_true rfl) (Nat.le_of_ble_eq_true rfl) rfl (fun r U hq => ?_)
        obtain ⟨rfl, rfl⟩ := hq
        refine fz_back rfl ?_
        refine fz_wo (V' := wLd sz wd g (nI (ldc tx i)) b st s ki k op o (eTx (nI n) tw tl tc tf) (eSg sg)) rfl ?_
        rw [kI_ne (h9 i (by omega))]
        refine fz_istore_n dX1_load_37 (Nat.le_of_ble_eq_true rfl) ?_
        refine fz_iload_n dX1_load_38 rfl ?_
        refine fz_iconst (v := nI 5) dX1_load_39 (by decide) ?_
        refine fz_icmp_eq (tgt := 63) dX1_load_40 (by decide) (fun c40 => ?_) (fun c40 => ?_)
        · have h5 : kd (tx i) = 5 := (nI_eq (by have := kd_le (tx i); omega) (by omega)).mp c40
          refine fz_incN dX1_load_63 rfl (Nat.le_of_ble_eq_true rfl) ?_
          refine fz_goto (tgt := 15) dX1_load_66 (by decide) ?_
          refine fz_pk [0, 2, 3] rfl ?_
          have e1 : ldc tx (i + 1) = ldc tx i := by show ldc tx i + _ = _; rw [if_pos h5]; rfl
          rw [← e1]
          refine ih (i + 1) (by omega) k (fun c hc => ?_)
          show k c = nI (if ¬ kd (tx i) = 5 ∧ c = ldc tx i then kd (tx i) else ldk tx i c)
          rw [if_neg (fun z => z.1 h5)]
          exact hk c (by omega)
        · have h5 : ¬ kd (tx i) = 5 := fun z => c40 (by rw [z])
          refine fz_aload_n dX1_load_43 rfl ?_
          refine fz_get dX1_load_44 fX1_19 rfl (hg) rfl ?_
          refine fz_aload_n dX1_load_47 rfl ?_
          refine fz_get dX1_load_48 fX1_28 rfl (hg) rfl ?_
          rw [va_up_self]
          refine fz_iload_n dX1_load_51 rfl ?_
          refine fz_iastu dX1_load_52 rfl rfl (hg) (vp_in_nI h8 (by omega)) ?_
          refine fz_aload_n dX1_load_53 rfl ?_
          refine fz_dup dX1_load_54 rfl ?_
          refine fz_get dX1_load_55 fX1_28 rfl (hg) rfl ?_
          rw [va_up_self, nI_clamp (by omega)]
          refine fz_iconst (v := nI 1) dX1_load_58 (by decide) ?_
          refine fz_iadd dX1_load_59 ?_
          rw [nI_add]
          refine fz_putSz dX1_load_60 fX1_28 rfl hg ?_
          refine fz_incN dX1_load_63 rfl (Nat.le_of_ble_eq_true rfl) ?_
          refine fz_goto (tgt := 15) dX1_load_66 (by decide) ?_
          refine fz_pk [0, 2, 3] rfl ?_
          have e1 : ldc tx (i + 1) = ldc tx i + 1 := by show ldc tx i + _ = _; rw [if_neg h5]
          rw [← e1]
          refine ih (i + 1) (by omega) (upd k (ldc tx i) (nI (kd (tx i)))) (fun c hc => ?_)
          show _ = nI (if ¬ kd (tx i) = 5 ∧ c = ldc tx i then kd (tx i) else ldk tx i c)
          by_cases h : c = ldc tx i
          · rw [if_pos ⟨h5, h⟩, h, pk_us]
          · rw [if_neg (fun z => h z.2), pk_un h]
            exact hk c (by omega)
theorem stI_of (w : Nat) (s : Nat → Int32) : gS w (upd (upd (upd (upd (upd s 0 (nI 0)) 1 (-(nI w))) 2 (nI 1)) 3 (nI w)) 4 (-1)) := by
  intro m hm
  have h5 : m = 0 ∨ m = 1 ∨ m = 2 ∨ m = 3 ∨ m = 4 := by omega
  rcases h5 with rfl | rfl | rfl | rfl | rfl
  · rw [pk_un (by decide), pk_un (by decide), pk_un (by decide), pk_un (by decide), pk_us]; rfl
  · rw [pk_un (by decide), pk_un (by decide), pk_un (by decide), pk_us]; rfl
  · rw [pk_un (by decide), pk_un (by decide), pk_us]; rfl
  · rw [pk_un (by decide), pk_us]; rfl
  · rw [pk_us]; rfl
theorem tX1_load {G : fz_G} (g : Nat) (hg : g < 2) (sz wd : Nat → Int32) (a b : Int32) (st ki : Nat → Nat → Int32) (s k : Nat → Int32) (op : Nat → Nat → Int64) (o : Nat → Int64) (n w : Nat) (hn : n ≤ 90) (h0 : 0 < w) (hw : w ≤ 10) (tl tc tf : Int32) (sg : Nat → Int32) (tx : Nat → Nat) (ht : tq sg tx n) (h9 : ∀ j, j < n → ¬ kd (tx j) = 9) (h80 : ldc tx n ≤ 80) (hh : ∃ h, ldc tx n = w * h) :
    fz_T G mX1_load rX1_load [zR 2 g, zR 8 0] (wLd sz wd g a b st s ki k op o (eTx (nI n) (nI w) tl tc tf) (eSg sg)) (fun r U => r = none ∧ ∃ (s' k' : Nat → Int32) (o' : Nat → Int64), gK (ldc tx n) w (ldk tx n) (nI (ldc tx n)) (nI w) k' ∧ gS w s' ∧ gO (ldc tx n) w (ldk tx n) o' ∧ U = wLd sz wd g (nI (ldc tx n)) (nI w) st s' ki k' op o' (eTx (nI n) (nI w) tl tc tf) (eSg sg)) := by
  refine fz_T.of (by decide) (Nat.le_of_ble_eq_true rfl) (fun E0 => ?_)
  refine fz_aload_n dX1_load_0 rfl ?_
  refine fz_iconst (v := nI 0) dX1_load_1 (by decide) ?_
  refine fz_putSz dX1_load_2 fX1_28 rfl hg ?_
  refine fz_aload_n dX1_load_5 rfl ?_
  refine fz_aload_n dX1_load_6 rfl ?_
  refine fz_callV (tX2_width (nI n) (nI w) tl tc tf) dX1_load_7 kX1_45 rfl (Nat.one_pos) ⟨rfl, trivial⟩ (Nat.le_of_ble_eq_true rfl) (Nat.le_of_ble_eq_true rfl) (Nat.le_of_ble_eq_true rfl) (Nat.le_of_ble_eq_true rfl) (Nat.le_of_ble_eq_true rfl) rfl (fun r U hq => ?_)
  obtain ⟨rfl, rfl⟩ := hq
  refine fz_back rfl ?_
  refine fz_wo (V' := wLd sz wd g (nI 0) b st s ki k op o (eTx (nI n) (nI w) tl tc tf) (eSg sg)) rfl ?_
  refine fz_putWd dX1_load_10 fX1_36 rfl hg ?_
  refine fz_iconst (v := nI 0) dX1_load_13 (by decide) ?_
  refine fz_istore_n dX1_load_14 (Nat.le_of_ble_eq_true rfl) ?_
  refine lX1_load_15 g hg sz wd (nI w) st ki s op o n hn (nI w) tl tc tf sg tx ht h9 h80 (fun k2 ls hk2 l0 => ?_) n 0 (by omega) k (fun c hc => absurd hc (Nat.not_lt_zero _))
  refine fz_aload_n dX1_load_69 l0 ?_
  refine fz_get dX1_load_70 fX1_9 rfl (hg) rfl ?_
  refine fz_iconst (v := nI 0) dX1_load_73 (by decide) ?_
  refine fz_iconst (v := nI 0) dX1_load_74 (by decide) ?_
  refine fz_iastu dX1_load_75 rfl rfl (hg) (vp_in_nI (by omega) (by omega)) ?_
  refine fz_aload_n dX1_load_76 l0 ?_
  refine fz_get dX1_load_77 fX1_9 rfl (hg) rfl ?_
  refine fz_iconst (v := nI 1) dX1_load_80 (by decide) ?_
  refine fz_aload_n dX1_load_81 l0 ?_
  refine fz_get dX1_load_82 fX1_36 rfl (hg) rfl ?_
  rw [va_up_self]
  refine fz_ineg dX1_load_85 ?_
  refine fz_iastu dX1_load_86 rfl rfl (hg) (vp_in_nI (by omega) (by omega)) ?_
  refine fz_aload_n dX1_load_87 l0 ?_
  refine fz_get dX1_load_88 fX1_9 rfl (hg) rfl ?_
  refine fz_iconst (v := nI 2) dX1_load_91 (by decide) ?_
  refine fz_iconst (v := nI 1) dX1_load_92 (by decide) ?_
  refine fz_iastu dX1_load_93 rfl rfl (hg) (vp_in_nI (by omega) (by omega)) ?_
  refine fz_aload_n dX1_load_94 l0 ?_
  refine fz_get dX1_load_95 fX1_9 rfl (hg) rfl ?_
  refine fz_iconst (v := nI 3) dX1_load_98 (by decide) ?_
  refine fz_aload_n dX1_load_99 l0 ?_
  refine fz_get dX1_load_100 fX1_36 rfl (hg) rfl ?_
  rw [va_up_self]
  refine fz_iastu dX1_load_103 rfl rfl (hg) (vp_in_nI (by omega) (by omega)) ?_
  refine fz_aload_n dX1_load_104 l0 ?_
  refine fz_get dX1_load_105 fX1_9 rfl (hg) rfl ?_
  refine fz_iconst (v := nI 4) dX1_load_108 (by decide) ?_
  refine fz_iconst (v := -1) dX1_load_109 (by decide) ?_
  refine fz_iastu dX1_load_110 rfl rfl (hg) (vp_in_nI (by omega) (by omega)) ?_
  refine fz_aload_n dX1_load_111 l0 ?_
  have hK : gK (ldc tx n) w (ldk tx n) (nI (ldc tx n)) (nI w) k2 := ⟨h0, hw, h80, hh, rfl, rfl, fun c hc => ⟨hk2 c hc, ldk_le tx n h9 c⟩⟩
  have hS := stI_of w s
  refine fz_wo (V' := wLd sz wd g (nI (ldc tx n)) (nI w) st (upd (upd (upd (upd (upd s 0 (nI 0)) 1 (-(nI w))) 2 (nI 1)) 3 (nI w)) 4 (-1)) ki k2 op o (eTx (nI n) (nI w) tl tc tf) (eSg sg)) rfl ?_
  refine fz_callV (tX1_findOpenMoves g hg (va_up sz g (nI (ldc tx n))) (va_up wd g (nI w)) (va_up st g (upd (upd (upd (upd (upd s 0 (nI 0)) 1 (-(nI w))) 2 (nI 1)) 3 (nI w)) 4 (-1))) (va_up ki g k2) op o (ldc tx n) w (ldk tx n) (by rw [va_up_self, va_up_self, va_up_self]; exact hK) (by rw [va_up_self]; exact hS)) dX1_load_112 kX1_57 rfl (hg) ⟨rfl, rfl, rfl, rfl, trivial⟩ (Nat.le_of_ble_eq_true rfl) (Nat.le_of_ble_eq_true rfl) (Nat.le_of_ble_eq_true rfl) (Nat.le_of_ble_eq_true rfl) (Nat.le_of_ble_eq_true rfl) rfl (fun r U hq => ?_)
  obtain ⟨rfl, o2, ho2, rfl⟩ := hq
  refine fz_back rfl ?_
  refine fz_vret dX1_load_115 rfl (Nat.zero_le _) (Nat.zero_le _) ⟨rfl, _, k2, o2, hK, hS, ho2, rfl⟩
