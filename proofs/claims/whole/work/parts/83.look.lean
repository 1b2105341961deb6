/-! THE MODEL: look, isApart -/
abbrev eSn (sn : Nat → Int32) : fz_E := zi 2 1 80 (fun _ => sn)
def snR (sn : Nat → Int32) (S : Nat → Bool) : Prop := ∀ d, d < 80 → sn d = bI (S d)
theorem nar1 : vp_nar .boolean (nI 1) = 1 := by decide
theorem nar0 : vp_nar .boolean (nI 0) = 0 := by decide
theorem opb_of {cn w : Nat} {kn : Nat → Nat} {c m d : Nat} (hn : nx cn w c m = some d) (hc : ¬ kn c = 0) (hd : ¬ kn d = 0) : opb cn w kn c m = true := by
  unfold opb
  rw [hn]
  simp [hc, hd]
/-- moves from the first cells lead into S -/
def cls (cn w : Nat) (kn : Nat → Nat) (a : Nat) (S : Nat → Bool) (c m : Nat) : Prop := ∀ c' m' d, (c' < c ∨ (c' = c ∧ m' < m)) → 1 ≤ m' → m' < 5 → S c' = true → (c' = a ∨ kn c' = 1) → nx cn w c' m' = some d → ¬ kn d = 0 → S d = true
def lkR (cn w : Nat) (kn : Nat → Nat) (a : Nat) (S : Nat → Bool) : Prop := (∀ d, S d = true → d < cn ∧ ∃ n, rch cn w kn (exT false kn a) a n d) ∧ S a = true
def lkI (cn w : Nat) (kn : Nat → Nat) (a : Nat) (S0 : Nat → Bool) (c m : Nat) (S : Nat → Bool) (mo : Nat) : Prop := lkR cn w kn a S ∧ ((mo = 0 ∧ S = S0 ∧ cls cn w kn a S c m) ∨ (mo = 1 ∧ cnt (fun d => !S d) 80 < cnt (fun d => !S0 d) 80))
theorem cls_all {cn w : Nat} {kn : Nat → Nat} {a : Nat} {S : Nat → Bool} (h0 : 0 < w) (hh : ∃ h, cn = w * h) (ha : a < cn) (hk : ¬ kn a = 0) (hS : lkR cn w kn a S) (h : cls cn w kn a S cn 1) : ∀ n d, rch cn w kn (exT false kn a) a n d → S d = true
  | 0, d, hr => by
    have e : d = a := hr
    rw [e]; exact hS.2
  | n + 1, d, hr => by
    rcases hr with hr | ⟨c, hc, hx, m, h1, h2, h3, h4⟩
    · exact cls_all h0 hh ha hk hS h n d hr
    · have hSc := cls_all h0 hh ha hk hS h n c hc
      obtain ⟨k1, k2⟩ := opb_kn h3 h4
      refine h c m d (Or.inl (hS.1 c hSc).1) h1 h2 hSc ?_ h4 k2
      unfold exT at hx
      simp only [Bool.false_or, Bool.or_eq_true, beq_iff_eq, decide_eq_true_eq] at hx
      rcases hx with z | z
      · exact Or.inl z
      · exact Or.inr (by omega)
theorem lkI_add {cn w : Nat} {kn : Nat → Nat} {a : Nat} {S0 S : Nat → Bool} {c m d mo m2 c2 : Nat} (h0 : 0 < w) (hh : ∃ h, cn = w * h) (h80 : cn ≤ 80) (h : lkI cn w kn a S0 c m S mo) (hm1 : 1 ≤ m) (hm5 : m < 5) (hS : S c = true) (hx : c = a ∨ kn c = 1) (hka : ¬ kn a = 0) (hn : nx cn w c m = some d) (hd : ¬ kn d = 0) (hnew : S d = false) : lkI cn w kn a S0 c2 m2 (fun x => S x || decide (x = d)) 1 := by
  obtain ⟨⟨h1, h2⟩, h3⟩ := h
  obtain ⟨hc, n, hr⟩ := h1 c hS
  have hdl := nx_lt h0 hh hc hn
  have hkc : ¬ kn c = 0 := by
    rcases hx with z | z
    · rw [z]; exact hka
    · omega
  have hlt : cnt (fun x => !(S x || decide (x = d))) 80 < cnt (fun x => !S x) 80 := by
    have e := cnt_one (p := fun x => !S x) (p' := fun x => !(S x || decide (x = d))) (a := d) (n := 80) (by omega) (by simp [hnew]) (by simp) (fun x hx hxd => by simp [hxd])
    omega
  refine ⟨⟨fun x hxS => ?_, by simp [h2]⟩, Or.inr ⟨rfl, ?_⟩⟩
  · simp only [Bool.or_eq_true, decide_eq_true_eq] at hxS
    rcases hxS with z | z
    · exact h1 x z
    · subst z
      refine ⟨hdl, n + 1, Or.inr ⟨c, hr, ?_, m, hm1, hm5, opb_of hn hkc hd, hn⟩⟩
      unfold exT
      simp only [Bool.false_or, Bool.or_eq_true, beq_iff_eq, decide_eq_true_eq]
      rcases hx with z | z
      · exact Or.inl z
      · exact Or.inr (by omega)
  · show cnt (fun x => !(S x || decide (x = d))) 80 < _
    rcases h3 with ⟨_, e, _⟩ | ⟨_, e⟩
    · rw [← e]; exact hlt
    · omega
theorem lkI_skip {cn w : Nat} {kn : Nat → Nat} {a : Nat} {S0 S : Nat → Bool} {c m mo : Nat} (h : lkI cn w kn a S0 c m S mo) (hs : ∀ d, nx cn w c m = some d → ¬ kn d = 0 → S d = true) : lkI cn w kn a S0 c (m + 1) S mo := by
  refine ⟨h.1, h.2.imp (fun ⟨e1, e2, e3⟩ => ⟨e1, e2, fun c' m' d hcm h1 h2 hS hx hn hd => ?_⟩) id⟩
  by_cases z : c' = c ∧ m' = m
  · obtain ⟨rfl, rfl⟩ := z
    exact hs d hn hd
  · exact e3 c' m' d (by omega) h1 h2 hS hx hn hd
theorem lkI_next {cn w : Nat} {kn : Nat → Nat} {a : Nat} {S0 S : Nat → Bool} {c m mo : Nat} (h : lkI cn w kn a S0 c m S mo) (hs : 5 ≤ m ∨ ¬ (S c = true ∧ (c = a ∨ kn c = 1))) : lkI cn w kn a S0 (c + 1) 1 S mo := by
  refine ⟨h.1, h.2.imp (fun ⟨e1, e2, e3⟩ => ⟨e1, e2, fun c' m' d hcm h1 h2 hS hx hn hd => ?_⟩) id⟩
  by_cases z : c' = c
  · subst z
    rcases hs with y | y
    · exact e3 c' m' d (Or.inr ⟨rfl, by omega⟩) h1 h2 hS hx hn hd
    · exact absurd ⟨hS, hx⟩ y
  · exact e3 c' m' d (Or.inl (by omega)) h1 h2 hS hx hn hd
abbrev wLo (f dr sn : Nat → Int32) : fz_W := [(30, eM f), (46, eDr dr), (50, eSn sn)]
theorem lX11_look_82 {G : fz_G} {E0 : Nat → fz_E} {Z : List Frame → Array Value → State → State → Prop} (f dr : Nat → Int32) (cn w : Nat) (kn : Nat → Nat) (h0 : 0 < w) (hw : w ≤ 10) (h80 : cn ≤ 80) (hh : ∃ h, cn = w * h) (hf7 : f 7 = nI cn) (hf8 : f 8 = nI w) (hd : ∀ j, j < cn → dr j = nI (kn j) ∧ kn j < 10) (a : Nat) (ha : a < cn) (hka : ¬ kn a = 0) (S0 : Nat → Bool) (c : Nat) (hc : c < cn)
    (kk : ∀ S sn mo, snR sn S → lkI cn w kn a S0 (c + 1) 1 S mo → fz_J G mX11_look rX11_look Z E0 0 0 40 [(3, zI (nI (c + 1))), (2, zI (nI mo)), (0, zR 30 0), (1, zI (nI a))] [] (wLo f dr sn)) :
    ∀ q m, 1 ≤ m → m + q = 5 → ∀ S sn mo, snR sn S → lkI cn w kn a S0 c m S mo → S c = true → (c = a ∨ kn c = 1) → ∀ x6 : List (Nat × fz_V), fz_J G mX11_look rX11_look Z E0 0 0 82 ((5, zI (nI m)) :: (4, zI (nI 1)) :: (3, zI (nI c)) :: (2, zI (nI mo)) :: (0, zR 30 0) :: (1, zI (nI a)) :: x6) [] (wLo f dr sn) := by
  intro q
  induction q with
  | zero =>
    intro m hm1 hm S sn mo hsn hI hSc hx x6
    have e : m = 5 := by omega
    subst e
    refine fz_pk [0, 1, 2, 3, 4, 5] rfl ?_
    refine fz_iload dX11_look_82 rfl ?_
    refine fz_iconst (v := nI 5) dX11_look_84 (by decide) ?_
    refine fz_icmp_ge (tgt := 150) dX11_look_85 (by decide) (fun c85 => ?_) (fun c85 => ?_)
    · skip
      refine fz_incN dX11_look_150 rfl (Nat.le_of_ble_eq_true rfl) ?_
      refine fz_goto (tgt := 40) dX11_look_153 (by decide) ?_
      refine fz_pk [0, 3, 4, 5] rfl ?_
      exact kk S sn mo hsn (lkI_next hI (Or.inl (Nat.le_refl _)))
    · exact absurd (nI_le (Nat.le_refl _) (by omega)) c85
  | succ q ih =>
    intro m hm1 hm S sn mo hsn hI hSc hx x6
    have next : ∀ S sn mo (x6 : Int32), snR sn S → lkI cn w kn a S0 c (m + 1) S mo → S c = true → fz_J G mX11_look rX11_look Z E0 0 0 144 [(6, zI x6), (5, zI (nI m)), (4, zI (nI 1)), (3, zI (nI c)), (2, zI (nI mo)), (0, zR 30 0), (1, zI (nI a))] [] (wLo f dr sn) := by
      intro S sn mo x6 h1 h2 h3
      refine fz_incN dX11_look_144 rfl (Nat.le_of_ble_eq_true rfl) ?_
      refine fz_goto (tgt := 82) dX11_look_147 (by decide) ?_
      refine fz_pk [0, 2, 3, 4, 5, 6, 1] rfl ?_
      exact ih (m + 1) (by omega) (by omega) S sn mo h1 h2 h3 hx [(6, zI x6)]
    refine fz_pk [0, 1, 2, 3, 4, 5] rfl ?_
    refine fz_iload dX11_look_82 rfl ?_
    refine fz_iconst (v := nI 5) dX11_look_84 (by decide) ?_
    refine fz_icmp_ge (tgt := 150) dX11_look_85 (by decide) (fun c85 => ?_) (fun c85 => ?_)
    · exact absurd ((nI_leI (by omega) (by omega)).mp c85) (by omega)
    · skip
      refine fz_iload dX11_look_88 rfl ?_
      refine fz_if_eq (tgt := 150) dX11_look_90 (by decide) (fun c90 => ?_) (fun c90 => ?_)
      · exact absurd c90 (by decide)
      · skip
        refine fz_iload_n dX11_look_93 rfl ?_
        refine fz_iload dX11_look_94 rfl ?_
        refine fz_aload_n dX11_look_96 rfl ?_
        refine fz_get dX11_look_97 fX11_102 rfl (Nat.one_pos) rfl ?_
        refine fz_aload_n dX11_look_100 rfl ?_
        refine fz_get dX11_look_101 fX11_99 rfl (Nat.one_pos) rfl ?_
        rw [hf7, hf8]
        refine fz_callS (tX11_beside c m w cn (by omega) (by omega) h0 hw h80) dX11_look_104 kX11_113 trivial (Nat.le_of_ble_eq_true rfl) (Nat.le_of_ble_eq_true rfl) (Nat.le_of_ble_eq_true rfl) (Nat.le_of_ble_eq_true rfl) (Nat.le_of_ble_eq_true rfl) rfl (fun r U hq => ?_)
        obtain ⟨rfl, rfl⟩ := hq
        refine fz_back rfl ?_
        refine fz_wo (V' := wLo f dr sn) rfl ?_
        refine fz_istore dX11_look_107 (Nat.le_of_ble_eq_true rfl) ?_
        refine fz_iload dX11_look_109 rfl ?_
        refine fz_pk [0, 1, 2, 3, 4, 5, 6] rfl ?_
        cases hn : nx cn w c m with
        | none =>
          refine fz_if_lt (tgt := 144) dX11_look_111 (by decide) (fun c111 => ?_) (fun c111 => ?_)
          · exact next S sn mo _ hsn (lkI_skip hI (fun d hd2 => by rw [hn] at hd2; cases hd2)) hSc
          · exact absurd (by decide) c111
        | some d =>
          have hdl := nx_lt h0 hh hc hn
          obtain ⟨d1, d2⟩ := hd d hdl
          refine fz_if_lt (tgt := 144) dX11_look_111 (by decide) (fun c111 => ?_) (fun c111 => ?_)
          · exact absurd c111 (nI_pos (by omega))
          · skip
            refine fz_aload_n dX11_look_114 rfl ?_
            refine fz_get dX11_look_115 fX11_20 rfl (Nat.one_pos) rfl ?_
            refine fz_iload dX11_look_118 rfl ?_
            refine fz_top (y := nI d) rfl ?_
            refine fz_iald dX11_look_120 rfl rfl (Nat.one_pos) (vp_in_nI (by omega) (by omega)) ?_
            rw [nI_clamp (by omega), d1]
            refine fz_if_eq (tgt := 144) dX11_look_121 (by decide) (fun c121 => ?_) (fun c121 => ?_)
            · have hkd0 : kn d = 0 := (nI_eq (by omega) (by omega)).mp (c121.trans nI_0.symm)
              exact next S sn mo _ hsn (lkI_skip hI (fun d' hd2 hkd => by rw [hn] at hd2; cases hd2; exact absurd hkd0 hkd)) hSc
            · have hkd0 : ¬ kn d = 0 := fun z => c121 (by rw [z]; exact nI_0)
              refine fz_aload_n dX11_look_124 rfl ?_
              refine fz_get dX11_look_125 fX11_26 rfl (Nat.one_pos) rfl ?_
              refine fz_iload dX11_look_128 rfl ?_
              refine fz_top (y := nI d) rfl ?_
              refine fz_zald dX11_look_130 rfl rfl (Nat.one_pos) (vp_in_nI (by omega) (by omega)) ?_
              rw [nI_clamp (by omega), hsn d (by omega)]
              cases hv : S d with
              | true =>
                refine fz_if_ne (tgt := 144) dX11_look_131 (by decide) (fun c131 => ?_) (fun c131 => ?_)
                · exact next S sn mo _ hsn (lkI_skip hI (fun d' hd2 _ => by rw [hn] at hd2; cases hd2; exact hv)) hSc
                · exact absurd c131 (by decide)
              | false =>
                refine fz_if_ne (tgt := 144) dX11_look_131 (by decide) (fun c131 => ?_) (fun c131 => ?_)
                · exact absurd rfl c131
                · skip
                  refine fz_aload_n dX11_look_134 rfl ?_
                  refine fz_get dX11_look_135 fX11_26 rfl (Nat.one_pos) rfl ?_
                  refine fz_iload dX11_look_138 rfl ?_
                  refine fz_top (y := nI d) rfl ?_
                  refine fz_iconst (v := nI 1) dX11_look_140 (by decide) ?_
                  refine fz_zast1 dX11_look_141 rfl rfl (vp_in_nI (by omega) (by omega)) ?_
                  rw [nI_clamp (by omega), nar1]
                  refine fz_iconst (v := nI 1) dX11_look_142 (by decide) ?_
                  refine fz_istore_n dX11_look_143 (Nat.le_of_ble_eq_true rfl) ?_
                  refine fz_pk [1, 2, 3, 4, 0, 5, 6] rfl ?_
                  refine next (fun x => S x || decide (x = d)) _ 1 _ (fun x hx80 => ?_) (lkI_add h0 hh h80 hI hm1 (by omega) hSc hx hka hn hkd0 hv) (by simp [hSc])
                  by_cases e : x = d
                  · rw [e, pk_us]; simp [bI]
                  · rw [pk_un e, hsn x hx80]; simp [e]
theorem lX11_look_40 {G : fz_G} {E0 : Nat → fz_E} {Z : List Frame → Array Value → State → State → Prop} (f dr : Nat → Int32) (cn w : Nat) (kn : Nat → Nat) (h0 : 0 < w) (hw : w ≤ 10) (h80 : cn ≤ 80) (hh : ∃ h, cn = w * h) (hf7 : f 7 = nI cn) (hf8 : f 8 = nI w) (hd : ∀ j, j < cn → dr j = nI (kn j) ∧ kn j < 10) (a : Nat) (ha : a < cn) (hka : ¬ kn a = 0) (S0 : Nat → Bool)
    (kk : ∀ S sn mo, snR sn S → lkI cn w kn a S0 cn 1 S mo → fz_J G mX11_look rX11_look Z E0 0 0 32 [(2, zI (nI mo)), (0, zR 30 0), (1, zI (nI a))] [] (wLo f dr sn)) :
    ∀ q c, c + q = cn → ∀ S sn mo, snR sn S → lkI cn w kn a S0 c 1 S mo → fz_J G mX11_look rX11_look Z E0 0 0 40 [(3, zI (nI c)), (2, zI (nI mo)), (0, zR 30 0), (1, zI (nI a))] [] (wLo f dr sn) := by
  intro q
  induction q with
  | zero =>
    intro c hc S sn mo hsn hI
    have e : c = cn := by omega
    subst e
    refine fz_iload_n dX11_look_40 rfl ?_
    refine fz_aload_n dX11_look_41 rfl ?_
    refine fz_get dX11_look_42 fX11_99 rfl (Nat.one_pos) rfl ?_
    rw [hf7]
    refine fz_icmp_ge (tgt := 156) dX11_look_45 (by decide) (fun c45 => ?_) (fun c45 => ?_)
    · skip
      refine fz_goto (tgt := 32) dX11_look_156 (by decide) ?_
      refine fz_pk [1, 2, 3] rfl ?_
      exact kk S sn mo hsn hI
    · exact absurd (nI_le (Nat.le_refl _) (by omega)) c45
  | succ q ih =>
    intro c hc S sn mo hsn hI
    obtain ⟨d1, d2⟩ := hd c (by omega)
    have no : ∀ x4 : Int32, x4 = nI 0 → ¬ (S c = true ∧ (c = a ∨ kn c = 1)) → fz_J G mX11_look rX11_look Z E0 0 0 82 [(5, zI (nI 1)), (4, zI x4), (3, zI (nI c)), (2, zI (nI mo)), (0, zR 30 0), (1, zI (nI a))] [] (wLo f dr sn) := by
      intro x4 hx4 hno
      subst hx4
      refine fz_iload dX11_look_82 rfl ?_
      refine fz_iconst (v := nI 5) dX11_look_84 (by decide) ?_
      refine fz_icmp_ge (tgt := 150) dX11_look_85 (by decide) (fun c85 => ?_) (fun c85 => ?_)
      · exact absurd c85 (by decide)
      · skip
        refine fz_iload dX11_look_88 rfl ?_
        refine fz_if_eq (tgt := 150) dX11_look_90 (by decide) (fun c90 => ?_) (fun c90 => ?_)
        · skip
          refine fz_incN dX11_look_150 rfl (Nat.le_of_ble_eq_true rfl) ?_
          refine fz_goto (tgt := 40) dX11_look_153 (by decide) ?_
          refine fz_pk [0, 3, 4, 5] rfl ?_
          exact ih (c + 1) (by omega) S sn mo hsn (lkI_next hI (Or.inr hno))
        · exact absurd (by decide) c90
    have yes : (S c = true ∧ (c = a ∨ kn c = 1)) → fz_J G mX11_look rX11_look Z E0 0 0 82 [(5, zI (nI 1)), (4, zI (nI 1)), (3, zI (nI c)), (2, zI (nI mo)), (0, zR 30 0), (1, zI (nI a))] [] (wLo f dr sn) := by
      intro hy
      exact lX11_look_82 f dr cn w kn h0 hw h80 hh hf7 hf8 hd a ha hka S0 c (by omega) (fun S sn mo h1 h2 => ih (c + 1) (by omega) S sn mo h1 h2) 4 1 (by omega) (by omega) S sn mo hsn hI hy.1 hy.2 []
    refine fz_iload_n dX11_look_40 rfl ?_
    refine fz_aload_n dX11_look_41 rfl ?_
    refine fz_get dX11_look_42 fX11_99 rfl (Nat.one_pos) rfl ?_
    rw [hf7]
    refine fz_icmp_ge (tgt := 156) dX11_look_45 (by decide) (fun c45 => ?_) (fun c45 => ?_)
    · exact absurd ((nI_leI (by omega) (by omega)).mp c45) (by omega)
    · skip
      refine fz_aload_n dX11_look_48 rfl ?_
      refine fz_get dX11_look_49 fX11_26 rfl (Nat.one_pos) rfl ?_
      refine fz_iload_n dX11_look_52 rfl ?_
      refine fz_zald dX11_look_53 rfl rfl (Nat.one_pos) (vp_in_nI (by omega) (by omega)) ?_
      rw [nI_clamp (by omega), hsn c (by omega)]
      cases hv : S c with
      | false =>
        refine fz_if_eq (tgt := 76) dX11_look_54 (by decide) (fun c54 => ?_) (fun c54 => ?_)
        · skip
          refine fz_iconst (v := nI 0) dX11_look_76 (by decide) ?_
          refine fz_istore dX11_look_77 (Nat.le_of_ble_eq_true rfl) ?_
          refine fz_iconst (v := nI 1) dX11_look_79 (by decide) ?_
          refine fz_istore dX11_look_80 (Nat.le_of_ble_eq_true rfl) ?_
          exact no _ rfl (fun z => by rw [hv] at z; exact Bool.noConfusion z.1)
        · exact absurd rfl c54
      | true =>
        refine fz_if_eq (tgt := 76) dX11_look_54 (by decide) (fun c54 => ?_) (fun c54 => ?_)
        · exact absurd c54 (by decide)
        · skip
          refine fz_iload_n dX11_look_57 rfl ?_
          refine fz_iload_n dX11_look_58 rfl ?_
          refine fz_icmp_eq (tgt := 72) dX11_look_59 (by decide) (fun c59 => ?_) (fun c59 => ?_)
          · skip
            refine fz_iconst (v := nI 1) dX11_look_72 (by decide) ?_
            refine fz_goto (tgt := 77) dX11_look_73 (by decide) ?_
            refine fz_istore dX11_look_77 (Nat.le_of_ble_eq_true rfl) ?_
            refine fz_iconst (v := nI 1) dX11_look_79 (by decide) ?_
            refine fz_istore dX11_look_80 (Nat.le_of_ble_eq_true rfl) ?_
            exact yes ⟨hv, Or.inl ((nI_eq (by omega) (by omega)).mp c59)⟩
          · have hca : ¬ c = a := fun z => c59 (by rw [z])
            refine fz_aload_n dX11_look_62 rfl ?_
            refine fz_get dX11_look_63 fX11_20 rfl (Nat.one_pos) rfl ?_
            refine fz_iload_n dX11_look_66 rfl ?_
            refine fz_iald dX11_look_67 rfl rfl (Nat.one_pos) (vp_in_nI (by omega) (by omega)) ?_
            refine fz_iconst (v := nI 1) dX11_look_68 (by decide) ?_
            rw [nI_clamp (by omega), d1]
            refine fz_icmp_ne (tgt := 76) dX11_look_69 (by decide) (fun c69 => ?_) (fun c69 => ?_)
            · skip
              refine fz_iconst (v := nI 0) dX11_look_76 (by decide) ?_
              refine fz_istore dX11_look_77 (Nat.le_of_ble_eq_true rfl) ?_
              refine fz_iconst (v := nI 1) dX11_look_79 (by decide) ?_
              refine fz_istore dX11_look_80 (Nat.le_of_ble_eq_true rfl) ?_
              exact no _ rfl (fun z => z.2.elim hca (fun y => c69 (by rw [y])))
            · skip
              refine fz_iconst (v := nI 1) dX11_look_72 (by decide) ?_
              refine fz_goto (tgt := 77) dX11_look_73 (by decide) ?_
              refine fz_istore dX11_look_77 (Nat.le_of_ble_eq_true rfl) ?_
              refine fz_iconst (v := nI 1) dX11_look_79 (by decide) ?_
              refine fz_istore dX11_look_80 (Nat.le_of_ble_eq_true rfl) ?_
              exact yes ⟨hv, Or.inr ((nI_eq (by omega) (by omega)).mp c69)⟩
theorem lX11_look_32 {G : fz_G} {E0 : Nat → fz_E} (f dr : Nat → Int32) (cn w : Nat) (kn : Nat → Nat) (h0 : 0 < w) (hw : w ≤ 10) (h80 : cn ≤ 80) (hh : ∃ h, cn = w * h) (hf7 : f 7 = nI cn) (hf8 : f 8 = nI w) (hd : ∀ j, j < cn → dr j = nI (kn j) ∧ kn j < 10) (a : Nat) (ha : a < cn) (hka : ¬ kn a = 0) :
    ∀ q S sn, cnt (fun d => !S d) 80 ≤ q → snR sn S → lkR cn w kn a S → fz_J G mX11_look rX11_look (fz_Z G E0 rX11_look.cells rX11_look.slots (fun r U => r = none ∧ ∃ S sn, snR sn S ∧ (∀ d, S d = true ↔ (d < cn ∧ ∃ n, rch cn w kn (exT false kn a) a n d)) ∧ U = wLo f dr sn)) E0 0 0 32 [(2, zI (nI 1)), (0, zR 30 0), (1, zI (nI a))] [] (wLo f dr sn) := by
  intro q
  have fin : ∀ S sn, snR sn S → lkR cn w kn a S → cls cn w kn a S cn 1 → fz_J G mX11_look rX11_look (fz_Z G E0 rX11_look.cells rX11_look.slots (fun r U => r = none ∧ ∃ S sn, snR sn S ∧ (∀ d, S d = true ↔ (d < cn ∧ ∃ n, rch cn w kn (exT false kn a) a n d)) ∧ U = wLo f dr sn)) E0 0 0 32 [(2, zI (nI 0)), (0, zR 30 0), (1, zI (nI a))] [] (wLo f dr sn) := by
    intro S sn hsn hS hcl
    refine fz_iload_n dX11_look_32 rfl ?_
    refine fz_if_eq (tgt := 159) dX11_look_33 (by decide) (fun c33 => ?_) (fun c33 => ?_)
    · skip
      refine fz_vret dX11_look_159 rfl (Nat.zero_le _) (Nat.zero_le _) ⟨rfl, S, sn, hsn, fun d => ⟨fun z => hS.1 d z, fun ⟨_, n, hr⟩ => cls_all h0 hh ha hka hS hcl n d hr⟩, rfl⟩
    · exact absurd (by decide) c33
  have pass : ∀ S0 sn, snR sn S0 → lkR cn w kn a S0 → (∀ S sn, snR sn S → lkR cn w kn a S → cnt (fun d => !S d) 80 < cnt (fun d => !S0 d) 80 → fz_J G mX11_look rX11_look (fz_Z G E0 rX11_look.cells rX11_look.slots (fun r U => r = none ∧ ∃ S sn, snR sn S ∧ (∀ d, S d = true ↔ (d < cn ∧ ∃ n, rch cn w kn (exT false kn a) a n d)) ∧ U = wLo f dr sn)) E0 0 0 32 [(2, zI (nI 1)), (0, zR 30 0), (1, zI (nI a))] [] (wLo f dr sn)) → fz_J G mX11_look rX11_look (fz_Z G E0 rX11_look.cells rX11_look.slots (fun r U => r = none ∧ ∃ S sn, snR sn S ∧ (∀ d, S d = true ↔ (d < cn ∧ ∃ n, rch cn w kn (exT false kn a) a n d)) ∧ U = wLo f dr sn)) E0 0 0 32 [(2, zI (nI 1)), (0, zR 30 0), (1, zI (nI a))] [] (wLo f dr sn) := by
    intro S0 sn hsn hS hmore
    refine fz_iload_n dX11_look_32 rfl ?_
    refine fz_if_eq (tgt := 159) dX11_look_33 (by decide) (fun c33 => ?_) (fun c33 => ?_)
    · exact absurd c33 (by decide)
    · skip
      refine fz_iconst (v := nI 0) dX11_look_36 (by decide) ?_
      refine fz_istore_n dX11_look_37 (Nat.le_of_ble_eq_true rfl) ?_
      refine fz_iconst (v := nI 0) dX11_look_38 (by decide) ?_
      refine fz_istore_n dX11_look_39 (Nat.le_of_ble_eq_true rfl) ?_
      refine lX11_look_40 f dr cn w kn h0 hw h80 hh hf7 hf8 hd a ha hka S0 (fun S sn mo h1 h2 => ?_) cn 0 (by omega) S0 sn 0 hsn ⟨hS, Or.inl ⟨rfl, rfl, fun c' m' d hcm => ?_⟩⟩
      · rcases h2 with ⟨h2, ⟨rfl, rfl, h3⟩ | ⟨rfl, h3⟩⟩
        · exact fin S sn h1 h2 h3
        · exact hmore S sn h1 h2 h3
      · intro h1
        omega
  induction q with
  | zero =>
    intro S sn hq hsn hS
    exact pass S sn hsn hS (fun S' sn' h1 h2 h3 => by omega)
  | succ q ih =>
    intro S sn hq hsn hS
    exact pass S sn hsn hS (fun S' sn' h1 h2 h3 => ih S' sn' (by omega) h1 h2)
theorem lX11_look_2 {G : fz_G} {E0 : Nat → fz_E} {Z : List Frame → Array Value → State → State → Prop} (f dr : Nat → Int32) (a : Nat) (ha : a < 80) (kk : ∀ sn, snR sn (fun d => decide (d = a)) → fz_J G mX11_look rX11_look Z E0 0 0 30 [(2, zI (nI 80)), (0, zR 30 0), (1, zI (nI a))] [] (wLo f dr sn)) :
    ∀ q c, c + q = 80 → ∀ sn : Nat → Int32, (∀ d, d < c → sn d = bI (decide (d = a))) → fz_J G mX11_look rX11_look Z E0 0 0 2 [(2, zI (nI c)), (0, zR 30 0), (1, zI (nI a))] [] (wLo f dr sn) := by
  intro q
  induction q with
  | zero =>
    intro c hc sn hs
    have e : c = 80 := by omega
    subst e
    refine fz_iload_n dX11_look_2 rfl ?_
    refine fz_bipush (v := nI 80) dX11_look_3 (by decide) ?_
    refine fz_icmp_ge (tgt := 30) dX11_look_5 (by decide) (fun c5 => ?_) (fun c5 => ?_)
    · exact kk sn hs
    · exact absurd (by decide) c5
  | succ q ih =>
    intro c hc sn hs
    refine fz_iload_n dX11_look_2 rfl ?_
    refine fz_bipush (v := nI 80) dX11_look_3 (by decide) ?_
    refine fz_icmp_ge (tgt := 30) dX11_look_5 (by decide) (fun c5 => ?_) (fun c5 => ?_)
    · exact absurd ((nI_leI (by omega) (by omega)).mp c5) (by omega)
    · skip
      refine fz_aload_n dX11_look_8 rfl ?_
      refine fz_get dX11_look_9 fX11_26 rfl (Nat.one_pos) rfl ?_
      refine fz_iload_n dX11_look_12 rfl ?_
      refine fz_iload_n dX11_look_13 rfl ?_
      refine fz_iload_n dX11_look_14 rfl ?_
      refine fz_icmp_ne (tgt := 22) dX11_look_15 (by decide) (fun c15 => ?_) (fun c15 => ?_)
      · have hne : ¬ c = a := fun z => c15 (by rw [z])
        refine fz_iconst (v := nI 0) dX11_look_22 (by decide) ?_
        refine fz_zast1 dX11_look_23 rfl rfl (vp_in_nI (by omega) (by omega)) ?_
        rw [nI_clamp (by omega), nar0]
        refine fz_incN dX11_look_24 rfl (Nat.le_of_ble_eq_true rfl) ?_
        refine fz_goto (tgt := 2) dX11_look_27 (by decide) ?_
        refine ih (c + 1) (by omega) _ (fun d hd => ?_)
        by_cases e : d = c
        · rw [e, pk_us]; simp [hne, bI]
        · rw [pk_un e]; exact hs d (by omega)
      · have he : c = a := (nI_eq (by omega) (by omega)).mp c15
        refine fz_iconst (v := nI 1) dX11_look_18 (by decide) ?_
        refine fz_goto (tgt := 23) dX11_look_19 (by decide) ?_
        refine fz_zast1 dX11_look_23 rfl rfl (vp_in_nI (by omega) (by omega)) ?_
        rw [nI_clamp (by omega), nar1]
        refine fz_incN dX11_look_24 rfl (Nat.le_of_ble_eq_true rfl) ?_
        refine fz_goto (tgt := 2) dX11_look_27 (by decide) ?_
        refine ih (c + 1) (by omega) _ (fun d hd => ?_)
        by_cases e : d = c
        · rw [e, pk_us]; simp [he, bI]
        · rw [pk_un e]; exact hs d (by omega)
theorem tX11_look {G : fz_G} (f dr sn : Nat → Int32) (cn w : Nat) (kn : Nat → Nat) (h0 : 0 < w) (hw : w ≤ 10) (h80 : cn ≤ 80) (hh : ∃ h, cn = w * h) (hf7 : f 7 = nI cn) (hf8 : f 8 = nI w) (hd : ∀ j, j < cn → dr j = nI (kn j) ∧ kn j < 10) (a : Nat) (ha : a < cn) (hka : ¬ kn a = 0) :
    fz_T G mX11_look rX11_look [zR 30 0, zI (nI a)] (wLo f dr sn) (fun r U => r = none ∧ ∃ S sn, snR sn S ∧ (∀ d, S d = true ↔ (d < cn ∧ ∃ n, rch cn w kn (exT false kn a) a n d)) ∧ U = wLo f dr sn) := by
  refine fz_T.of (by decide) (Nat.le_of_ble_eq_true rfl) (fun E0 => ?_)
  refine fz_iconst (v := nI 0) dX11_look_0 (by decide) ?_
  refine fz_istore_n dX11_look_1 (Nat.le_of_ble_eq_true rfl) ?_
  refine lX11_look_2 f dr a (by omega) (fun sn' hsn => ?_) 80 0 rfl sn (fun d hd => by omega)
  refine fz_iconst (v := nI 1) dX11_look_30 (by decide) ?_
  refine fz_istore_n dX11_look_31 (Nat.le_of_ble_eq_true rfl) ?_
  exact lX11_look_32 f dr cn w kn h0 hw h80 hh hf7 hf8 hd a ha hka _ _ sn' (Nat.le_refl _) hsn ⟨fun d hd => by have e : d = a := of_decide_eq_true hd; exact ⟨by omega, 0, e⟩, by simp⟩
theorem lX11_isApart {G : fz_G} {E0 : Nat → fz_E} (f dr sn : Nat → Int32) (cn : Nat) (kn : Nat → Nat) (h80 : cn ≤ 80) (hf7 : f 7 = nI cn) (hd : ∀ j, j < cn → dr j = nI (kn j) ∧ kn j < 10) (a : Nat) (S : Nat → Bool) (hsn : snR sn S) :
    ∀ q b, b + q = cn → a < b → ∀ ap : Bool, (ap = true ↔ ∃ d, a < d ∧ d < b ∧ d < cn ∧ 1 < kn d ∧ S d = false) → fz_J G mX11_isApart rX11_isApart (fz_Z G E0 rX11_isApart.cells rX11_isApart.slots (fun r U => (∃ ap : Bool, r = some (zI (bI ap)) ∧ (ap = true ↔ ∃ d, a < d ∧ d < cn ∧ 1 < kn d ∧ S d = false)) ∧ U = wLo f dr sn)) E0 0 0 11 [(3, zI (nI b)), (2, zI (bI ap)), (0, zR 30 0), (1, zI (nI a))] [] (wLo f dr sn) := by
  intro q
  induction q with
  | zero =>
    intro b hb hab ap hap
    have hcb : cn ≤ b ∧ b ≤ 81 := by clear hap; omega
    refine fz_iload_n dX11_isApart_11 rfl ?_
    refine fz_aload_n dX11_isApart_12 rfl ?_
    refine fz_get dX11_isApart_13 fX11_99 rfl (Nat.one_pos) rfl ?_
    rw [hf7]
    refine fz_icmp_ge (tgt := 54) dX11_isApart_16 (by decide) (fun c16 => ?_) (fun c16 => ?_)
    · skip
      refine fz_iload_n dX11_isApart_54 rfl ?_
      refine fz_zret dX11_isApart_55 rfl (by cases ap <;> decide) (Nat.zero_le _) (Nat.zero_le _) ⟨⟨ap, rfl, hap.trans ⟨fun ⟨d, a1, a2, a3, a4⟩ => ⟨d, a1, a3, a4⟩, fun ⟨d, a1, a3, a4⟩ => ⟨d, a1, Nat.lt_of_lt_of_le a3 hcb.1, a3, a4⟩⟩⟩, rfl⟩
    · exact absurd (nI_le hcb.1 (by clear hap; omega)) c16
  | succ q ih =>
    intro b hb hab ap hap
    have hbn : b < cn := by clear hap; omega
    have hih : b + 1 + q = cn := by clear hap; omega
    obtain ⟨d1, d2⟩ := hd b hbn
    refine fz_iload_n dX11_isApart_11 rfl ?_
    refine fz_aload_n dX11_isApart_12 rfl ?_
    refine fz_get dX11_isApart_13 fX11_99 rfl (Nat.one_pos) rfl ?_
    rw [hf7]
    have yes : ∀ ap' : Bool, (ap' = true ↔ ∃ d, a < d ∧ d < b + 1 ∧ d < cn ∧ 1 < kn d ∧ S d = false) → ap' = true → ∀ y, fz_J G mX11_isApart rX11_isApart (fz_Z G E0 rX11_isApart.cells rX11_isApart.slots (fun r U => (∃ ap : Bool, r = some (zI (bI ap)) ∧ (ap = true ↔ ∃ d, a < d ∧ d < cn ∧ 1 < kn d ∧ S d = false)) ∧ U = wLo f dr sn)) E0 0 0 42 [(3, zI (nI b)), (2, zI y), (0, zR 30 0), (1, zI (nI a))] [] (wLo f dr sn) := by
      intro ap' h1 h2 y
      subst h2
      refine fz_iconst (v := nI 1) dX11_isApart_42 (by decide) ?_
      refine fz_goto (tgt := 47) dX11_isApart_43 (by decide) ?_
      refine fz_istore_n dX11_isApart_47 (Nat.le_of_ble_eq_true rfl) ?_
      refine fz_incN dX11_isApart_48 rfl (Nat.le_of_ble_eq_true rfl) ?_
      refine fz_goto (tgt := 11) dX11_isApart_51 (by decide) ?_
      exact ih (b + 1) hih (Nat.lt_succ_of_lt hab) true h1
    have no : ∀ y, (¬ ∃ d, a < d ∧ d < b + 1 ∧ d < cn ∧ 1 < kn d ∧ S d = false) → fz_J G mX11_isApart rX11_isApart (fz_Z G E0 rX11_isApart.cells rX11_isApart.slots (fun r U => (∃ ap : Bool, r = some (zI (bI ap)) ∧ (ap = true ↔ ∃ d, a < d ∧ d < cn ∧ 1 < kn d ∧ S d = false)) ∧ U = wLo f dr sn)) E0 0 0 46 [(3, zI (nI b)), (2, zI y), (0, zR 30 0), (1, zI (nI a))] [] (wLo f dr sn) := by
      intro y h1
      refine fz_iconst (v := nI 0) dX11_isApart_46 (by decide) ?_
      refine fz_istore_n dX11_isApart_47 (Nat.le_of_ble_eq_true rfl) ?_
      refine fz_incN dX11_isApart_48 rfl (Nat.le_of_ble_eq_true rfl) ?_
      refine fz_goto (tgt := 11) dX11_isApart_51 (by decide) ?_
      exact ih (b + 1) hih (Nat.lt_succ_of_lt hab) false ⟨fun z => Bool.noConfusion z, fun z => absurd z h1⟩
    refine fz_icmp_ge (tgt := 54) dX11_isApart_16 (by decide) (fun c16 => ?_) (fun c16 => ?_)
    · exact absurd ((nI_leI (by clear hap; omega) (by clear hap; omega)).mp c16) (by clear hap; omega)
    · skip
      refine fz_iload_n dX11_isApart_19 rfl ?_
      cases hv : ap with
      | true =>
        obtain ⟨d, e1, e2, e3⟩ := hap.mp hv
        refine fz_if_ne (tgt := 42) dX11_isApart_20 (by decide) (fun c20 => ?_) (fun c20 => ?_)
        · exact yes true ⟨fun _ => ⟨d, e1, Nat.lt_succ_of_lt e2, e3⟩, fun _ => rfl⟩ rfl _
        · exact absurd c20 (by decide)
      | false =>
        have hno : ∀ d, ¬ (a < d ∧ d < b ∧ d < cn ∧ 1 < kn d ∧ S d = false) := fun d hd2 => by
          have := hap.mpr ⟨d, hd2⟩
          rw [hv] at this
          cases this
        refine fz_if_ne (tgt := 42) dX11_isApart_20 (by decide) (fun c20 => ?_) (fun c20 => ?_)
        · exact absurd rfl c20
        · skip
          refine fz_aload_n dX11_isApart_23 rfl ?_
          refine fz_get dX11_isApart_24 fX11_20 rfl (Nat.one_pos) rfl ?_
          refine fz_iload_n dX11_isApart_27 rfl ?_
          refine fz_iald dX11_isApart_28 rfl rfl (Nat.one_pos) (vp_in_nI (by clear hap; omega) (by clear hap; omega)) ?_
          refine fz_iconst (v := nI 1) dX11_isApart_29 (by decide) ?_
          rw [nI_clamp (by clear hap; omega), d1]
          refine fz_icmp_le (tgt := 46) dX11_isApart_30 (by decide) (fun c30 => ?_) (fun c30 => ?_)
          · have hk1 := (nI_leI (by clear hap; omega) (by clear hap; omega)).mp c30
            refine no _ (fun ⟨d, e1, e2, e3, e4, e5⟩ => ?_)
            by_cases z : d = b
            · rw [z] at e4; exact absurd e4 (Nat.not_lt.mpr hk1)
            · exact hno d ⟨e1, Nat.lt_of_le_of_ne (Nat.le_of_lt_succ e2) z, e3, e4, e5⟩
          · have hk1 : 1 < kn b := by
              rcases Nat.lt_or_ge 1 (kn b) with z | z
              · exact z
              · exact absurd (nI_le z (by clear hap; omega)) c30
            refine fz_aload_n dX11_isApart_33 rfl ?_
            refine fz_get dX11_isApart_34 fX11_26 rfl (Nat.one_pos) rfl ?_
            refine fz_iload_n dX11_isApart_37 rfl ?_
            refine fz_zald dX11_isApart_38 rfl rfl (Nat.one_pos) (vp_in_nI (by clear hap; omega) (by clear hap; omega)) ?_
            rw [nI_clamp (by clear hap; omega), hsn b (by clear hap; omega)]
            cases hs : S b with
            | true =>
              refine fz_if_ne (tgt := 46) dX11_isApart_39 (by decide) (fun c39 => ?_) (fun c39 => ?_)
              · refine no _ (fun ⟨d, e1, e2, e3, e4, e5⟩ => ?_)
                by_cases z : d = b
                · rw [z, hs] at e5; cases e5
                · exact hno d ⟨e1, Nat.lt_of_le_of_ne (Nat.le_of_lt_succ e2) z, e3, e4, e5⟩
              · exact absurd c39 (by decide)
            | false =>
              refine fz_if_ne (tgt := 46) dX11_isApart_39 (by decide) (fun c39 => ?_) (fun c39 => ?_)
              · exact absurd rfl c39
              · exact yes true ⟨fun _ => ⟨b, hab, Nat.lt_succ_self b, hbn, hk1, hs⟩, fun _ => rfl⟩ rfl _
/-- c has no way to a place behind it -/
def apB (cn w : Nat) (kn : Nat → Nat) (a : Nat) : Prop := ∃ d, a < d ∧ d < cn ∧ 1 < kn d ∧ ¬ ∃ n, rch cn w kn (exT false kn a) a n d
theorem tX11_isApart {G : fz_G} (f dr sn : Nat → Int32) (cn w : Nat) (kn : Nat → Nat) (h0 : 0 < w) (hw : w ≤ 10) (h80 : cn ≤ 80) (hh : ∃ h, cn = w * h) (hf7 : f 7 = nI cn) (hf8 : f 8 = nI w) (hd : ∀ j, j < cn → dr j = nI (kn j) ∧ kn j < 10) (a : Nat) (ha : a < cn) (hka : ¬ kn a = 0) :
    fz_T G mX11_isApart rX11_isApart [zR 30 0, zI (nI a)] (wLo f dr sn) (fun r U => (∃ ap : Bool, r = some (zI (bI ap)) ∧ (ap = true ↔ apB cn w kn a)) ∧ ∃ sn, U = wLo f dr sn) := by
  refine fz_T.of (by decide) (Nat.le_of_ble_eq_true rfl) (fun E0 => ?_)
  refine fz_aload_n dX11_isApart_0 rfl ?_
  refine fz_iload_n dX11_isApart_1 rfl ?_
  refine fz_callV (tX11_look f dr sn cn w kn h0 hw h80 hh hf7 hf8 hd a ha hka) dX11_isApart_2 kX11_117 rfl (Nat.one_pos) ⟨rfl, rfl, rfl, trivial⟩ (Nat.le_of_ble_eq_true rfl) (Nat.le_of_ble_eq_true rfl) (Nat.le_of_ble_eq_true rfl) (Nat.le_of_ble_eq_true rfl) (Nat.le_of_ble_eq_true rfl) rfl (fun r U hq => ?_)
  obtain ⟨rfl, S, sn', hsn, hS, rfl⟩ := hq
  refine fz_back rfl ?_
  refine fz_wo (V' := wLo f dr sn') rfl ?_
  refine fz_iconst (v := nI 0) dX11_isApart_5 (by decide) ?_
  refine fz_istore_n dX11_isApart_6 (Nat.le_of_ble_eq_true rfl) ?_
  refine fz_iload_n dX11_isApart_7 rfl ?_
  refine fz_iconst (v := nI 1) dX11_isApart_8 (by decide) ?_
  refine fz_iadd dX11_isApart_9 ?_
  rw [nI_add]
  refine fz_istore_n dX11_isApart_10 (Nat.le_of_ble_eq_true rfl) ?_
  have key := lX11_isApart (G := G) (E0 := E0) f dr sn' cn kn h80 hf7 hd a S hsn (cn - (a + 1)) (a + 1) (by omega) (by omega) false ⟨fun z => Bool.noConfusion z, fun ⟨d, e1, e2, _⟩ => absurd e2 (by omega)⟩
  refine fz_Jm key ?_
  rintro r U ⟨⟨ap, rfl, hap⟩, rfl⟩
  refine ⟨⟨ap, rfl, hap.trans ?_⟩, sn', rfl⟩
  constructor
  · rintro ⟨d, e1, e2, e3, e4⟩
    refine ⟨d, e1, e2, e3, fun hr => ?_⟩
    rw [(hS d).mpr ⟨e2, hr⟩] at e4
    cases e4
  · rintro ⟨d, e1, e2, e3, e4⟩
    refine ⟨d, e1, e2, e3, ?_⟩
    cases hv : S d with
    | false => rfl
    | true => exact absurd ((hS d).mp hv).2 e4
