/-! measureAround, measureFrom -/
def oI : Option Nat → Int32
  | none => -1
  | some k => nI k
theorem oI_ne {k : Nat} (h : k < 2 ^ 31) : ¬ nI k = -1 := by
  intro z
  have h1 : (nI k).toInt = (-1 : Int32).toInt := by rw [z]
  rw [nI_toInt h] at h1
  have e1 : (-1 : Int32).toInt = -1 := by decide
  omega
def fR (cn : Nat) (F : Nat → Int32) (fn : Nat → Option Nat) : Prop := ∀ d, d < cn → F d = oI (fn d)
def qR (Q : Nat → Int32) (qn : Nat → Nat) (f : Nat) : Prop := ∀ p, p < f → Q p = nI (qn p)
abbrev wMe (sz wd : Nat → Int32) (st : Nat → Nat → Int32) (op : Nat → Nat → Int64) (ki fa qu : Nat → Nat → Int32) (g : Nat) (F Q : Nat → Int32) : fz_W := [(2, eGr sz wd), (3, e5 st), (4, eL op), (5, e8 ki), (6, e8 (va_up fa g F)), (7, e8 (va_up qu g Q))]
theorem fR_add {cn d k : Nat} {F : Nat → Int32} {fn : Nat → Option Nat} (h : fR cn F fn) : fR cn (upd F d (nI k)) (va_up fn d (some k)) := by
  intro e he
  by_cases z : e = d
  · rw [z, pk_us, va_up_self]; rfl
  · rw [pk_un z, va_up_ne _ _ z]; exact h e he
theorem qR_add {f d : Nat} {Q : Nat → Int32} {qn : Nat → Nat} (h : qR Q qn f) : qR (upd Q f (nI d)) (va_up qn f d) (f + 1) := by
  intro p hp
  by_cases z : p = f
  · rw [z, pk_us, va_up_self]
  · rw [pk_un z, va_up_ne _ _ z]; exact h p (by omega)
theorem lX1_measureAround {G : fz_G} {E0 : Nat → fz_E} (g : Nat) (hg : g < 2) (sz wd : Nat → Int32) (st : Nat → Nat → Int32) (op : Nat → Nat → Int64) (ki fa qu : Nat → Nat → Int32) (cn w : Nat) (kn : Nat → Nat) (ex : Nat → Bool) (s i c k f0 : Nat) (h0 : 0 < w) (h80 : cn ≤ 80) (hh : ∃ h, cn = w * h) (hS : gS w (st g)) (hO : gO cn w kn (op g)) (hx : ex c = true) (hk : k < 80) (hc : c < cn) :
    ∀ q m, 1 ≤ m → m + q = 5 → ∀ (fn : Nat → Option Nat) (qn : Nat → Nat) (f : Nat) (F Q : Nat → Int32), BI cn w kn ex s i m fn qn f → fR cn F fn → qR Q qn f → i < f → qn i = c → fn c = some k → f0 ≤ f → fz_J G mX1_measureAround rX1_measureAround (fz_Z G E0 0 0 (fun r U => ∃ (fn' : Nat → Option Nat) (qn' : Nat → Nat) (f' : Nat) (F' Q' : Nat → Int32), r = some (zI (nI f')) ∧ BI cn w kn ex s i 5 fn' qn' f' ∧ fR cn F' fn' ∧ qR Q' qn' f' ∧ f0 ≤ f' ∧ U = wMe sz wd st op ki fa qu g F' Q')) E0 0 0 5 [(4, zI (nI m)), (3, zI (nI f)), (0, zR 2 g), (1, zI (nI c)), (2, zI (nI f0))] [] (wMe sz wd st op ki fa qu g F Q) := by
  intro q
  induction q with
  | zero =>
    intro m hm1 hm fn qn f F Q hB hF hQ hi hci hfc hf0
    have e : m = 5 := by omega
    subst e
    refine fz_iload dX1_measureAround_5 rfl ?_
    refine fz_iconst (v := nI 5) dX1_measureAround_7 (by decide) ?_
    refine fz_icmp_ge (tgt := 85) dX1_measureAround_8 (by decide) (fun c8 => ?_) (fun c8 => ?_)
    · skip
      refine fz_iload_n dX1_measureAround_85 rfl ?_
      refine fz_iret dX1_measureAround_86 rfl (Nat.zero_le _) (Nat.zero_le _) ⟨fn, qn, f, F, Q, rfl, hB, hF, hQ, hf0, rfl⟩
    · exact absurd (nI_le (Nat.le_refl _) (by omega)) c8
  | succ q ih =>
    intro m hm1 hm fn qn f F Q hB hF hQ hi hci hfc hf0
    have hfl := hB.f_le
    refine fz_iload dX1_measureAround_5 rfl ?_
    refine fz_iconst (v := nI 5) dX1_measureAround_7 (by decide) ?_
    refine fz_icmp_ge (tgt := 85) dX1_measureAround_8 (by decide) (fun c8 => ?_) (fun c8 => ?_)
    · exact absurd ((nI_leI (by omega) (by omega)).mp c8) (by omega)
    · skip
      refine fz_aload_n dX1_measureAround_11 rfl ?_
      refine fz_iload_n dX1_measureAround_12 rfl ?_
      refine fz_iload dX1_measureAround_13 rfl ?_
      refine fz_callV (tX1_isOpen g hg sz wd op c m (by omega) (by omega)) dX1_measureAround_15 kX1_92 rfl (hg) ⟨rfl, rfl, trivial⟩ (Nat.le_of_ble_eq_true rfl) (Nat.le_of_ble_eq_true rfl) (Nat.le_of_ble_eq_true rfl) (Nat.le_of_ble_eq_true rfl) (Nat.le_of_ble_eq_true rfl) rfl (fun r U hq => ?_)
      obtain ⟨rfl, rfl⟩ := hq
      refine fz_back rfl ?_
      refine fz_wo (V' := wMe sz wd st op ki fa qu g F Q) rfl ?_
      rw [gO_at hO (by omega) hc h80]
      cases ho : opb cn w kn c m with
      | false =>
        refine fz_if_eq (tgt := 79) dX1_measureAround_18 (by decide) (fun c18 => ?_) (fun c18 => ?_)
        · skip
          refine fz_incN dX1_measureAround_79 rfl (Nat.le_of_ble_eq_true rfl) ?_
          refine fz_goto (tgt := 5) dX1_measureAround_82 (by decide) ?_
          refine ih (m + 1) (by omega) (by omega) fn qn f F Q (hB.skip (fun d h1 _ => ?_)) hF hQ hi hci hfc hf0
          rw [hci, ho] at h1
          cases h1
        · exact absurd rfl c18
      | true =>
        obtain ⟨d, hd⟩ := opb_nx ho
        have hdc := nx_lt h0 hh hc hd
        refine fz_if_eq (tgt := 79) dX1_measureAround_18 (by decide) (fun c18 => ?_) (fun c18 => ?_)
        · exact absurd c18 (by decide)
        · skip
          refine fz_aload_n dX1_measureAround_21 rfl ?_
          refine fz_get dX1_measureAround_22 fX1_22 rfl (hg) rfl ?_
          refine fz_iload_n dX1_measureAround_25 rfl ?_
          refine fz_aload_n dX1_measureAround_26 rfl ?_
          refine fz_get dX1_measureAround_27 fX1_9 rfl (hg) rfl ?_
          refine fz_iload dX1_measureAround_30 rfl ?_
          refine fz_iald dX1_measureAround_32 rfl rfl (hg) (vp_in_nI (by omega) (by omega)) ?_
          rw [nI_clamp (by omega), hS m (by omega)]
          refine fz_iadd dX1_measureAround_33 ?_
          rw [nx_st hd (by omega)]
          refine fz_ialdu dX1_measureAround_34 rfl rfl (hg) (vp_in_nI (by omega) (by omega)) ?_
          refine fz_iconst (v := -1) dX1_measureAround_35 (by decide) ?_
          rw [nI_clamp (by omega), hF d hdc]
          cases hfd : fn d with
          | some kd' =>
            refine fz_icmp_ne (tgt := 79) dX1_measureAround_36 (by decide) (fun c36 => ?_) (fun c36 => ?_)
            · skip
              refine fz_incN dX1_measureAround_79 rfl (Nat.le_of_ble_eq_true rfl) ?_
              refine fz_goto (tgt := 5) dX1_measureAround_82 (by decide) ?_
              refine ih (m + 1) (by omega) (by omega) fn qn f F Q (hB.skip (fun d' h1 h2 => ?_)) hF hQ hi hci hfc hf0
              rw [hci, hd] at h2
              cases h2
              rw [hfd]; rfl
            · obtain ⟨p, hp, hpd⟩ := hB.2.2.1 d hdc (by rw [hfd]; rfl)
              obtain ⟨-, k2, hk2, hk2p, -⟩ := hB.2.1 p hp
              rw [hpd, hfd] at hk2
              cases hk2
              exact absurd c36 (oI_ne (by omega))
          | none =>
            refine fz_icmp_ne (tgt := 79) dX1_measureAround_36 (by decide) (fun c36 => ?_) (fun c36 => ?_)
            · exact absurd rfl c36
            · obtain ⟨hfcn, hB2⟩ := BI.add h0 hh hB hi (by rw [hci]; exact hx) (by rw [hci]; exact hfc) hm1 (by omega) (by rw [hci]; exact ho) (by rw [hci]; exact hd) hfd
              refine fz_aload_n dX1_measureAround_39 rfl ?_
              refine fz_get dX1_measureAround_40 fX1_22 rfl (hg) rfl ?_
              refine fz_iload_n dX1_measureAround_43 rfl ?_
              refine fz_aload_n dX1_measureAround_44 rfl ?_
              refine fz_get dX1_measureAround_45 fX1_9 rfl (hg) rfl ?_
              refine fz_iload dX1_measureAround_48 rfl ?_
              refine fz_iald dX1_measureAround_50 rfl rfl (hg) (vp_in_nI (by omega) (by omega)) ?_
              rw [nI_clamp (by omega), hS m (by omega)]
              refine fz_iadd dX1_measureAround_51 ?_
              rw [nx_st hd (by omega)]
              refine fz_aload_n dX1_measureAround_52 rfl ?_
              refine fz_get dX1_measureAround_53 fX1_22 rfl (hg) rfl ?_
              refine fz_iload_n dX1_measureAround_56 rfl ?_
              refine fz_ialdu dX1_measureAround_57 rfl rfl (hg) (vp_in_nI (by omega) (by omega)) ?_
              rw [nI_clamp (by omega), hF c hc, hfc]
              refine fz_iconst (v := nI 1) dX1_measureAround_58 (by decide) ?_
              refine fz_iadd dX1_measureAround_59 ?_
              refine fz_top (y := nI (k + 1)) (nI_add k 1) ?_
              refine fz_iastu dX1_measureAround_60 rfl rfl (hg) (vp_in_nI (by omega) (by omega)) ?_
              rw [nI_clamp (by omega)]
              refine fz_aload_n dX1_measureAround_61 rfl ?_
              refine fz_get dX1_measureAround_62 fX1_25 rfl (hg) rfl ?_
              refine fz_iload_n dX1_measureAround_65 rfl ?_
              refine fz_iload_n dX1_measureAround_66 rfl ?_
              refine fz_aload_n dX1_measureAround_67 rfl ?_
              refine fz_get dX1_measureAround_68 fX1_9 rfl (hg) rfl ?_
              refine fz_iload dX1_measureAround_71 rfl ?_
              refine fz_iald dX1_measureAround_73 rfl rfl (hg) (vp_in_nI (by omega) (by omega)) ?_
              rw [nI_clamp (by omega), hS m (by omega)]
              refine fz_iadd dX1_measureAround_74 ?_
              rw [nx_st hd (by omega)]
              refine fz_iastu dX1_measureAround_75 rfl rfl (hg) (vp_in_nI (by omega) (by omega)) ?_
              refine fz_incN dX1_measureAround_76 rfl (Nat.le_of_ble_eq_true rfl) ?_
              refine fz_incN dX1_measureAround_79 rfl (Nat.le_of_ble_eq_true rfl) ?_
              refine fz_goto (tgt := 5) dX1_measureAround_82 (by decide) ?_
              rw [nI_clamp (by omega)]
              refine fz_pk [0, 1, 2, 3, 4] rfl ?_
              have hcd : c ≠ d := fun z => by rw [z, hfd] at hfc; cases hfc
              exact ih (m + 1) (by omega) (by omega) _ _ (f + 1) _ _ hB2 (fR_add hF) (qR_add hQ) (by omega) (by rw [va_up_ne _ _ (by omega)]; exact hci) (by rw [va_up_ne _ _ hcd]; exact hfc) (by omega)
theorem tX1_measureAround {G : fz_G} (g : Nat) (hg : g < 2) (sz wd : Nat → Int32) (st : Nat → Nat → Int32) (op : Nat → Nat → Int64) (ki fa qu : Nat → Nat → Int32) (F Q : Nat → Int32) (cn w : Nat) (kn : Nat → Nat) (ex : Nat → Bool) (s i f : Nat) (fn : Nat → Option Nat) (qn : Nat → Nat) (h0 : 0 < w) (h80 : cn ≤ 80) (hh : ∃ h, cn = w * h) (hS : gS w (st g)) (hO : gO cn w kn (op g)) (hB : BI cn w kn ex s i 1 fn qn f) (hF : fR cn F fn) (hQ : qR Q qn f) (hi : i < f) (hx : ex (qn i) = true) :
    fz_T G mX1_measureAround rX1_measureAround [zR 2 g, zI (nI (qn i)), zI (nI f)] (wMe sz wd st op ki fa qu g F Q) (fun r U => ∃ (fn' : Nat → Option Nat) (qn' : Nat → Nat) (f' : Nat) (F' Q' : Nat → Int32), r = some (zI (nI f')) ∧ BI cn w kn ex s i 5 fn' qn' f' ∧ fR cn F' fn' ∧ qR Q' qn' f' ∧ f ≤ f' ∧ U = wMe sz wd st op ki fa qu g F' Q') := by
  refine fz_T.of (by decide) (Nat.le_of_ble_eq_true rfl) (fun E0 => ?_)
  obtain ⟨hc, k, hk, hki, -⟩ := hB.2.1 i hi
  have hfl := hB.f_le
  refine fz_iload_n dX1_measureAround_0 rfl ?_
  refine fz_istore_n dX1_measureAround_1 (Nat.le_of_ble_eq_true rfl) ?_
  refine fz_iconst (v := nI 1) dX1_measureAround_2 (by decide) ?_
  refine fz_istore dX1_measureAround_3 (Nat.le_of_ble_eq_true rfl) ?_
  exact lX1_measureAround g hg sz wd st op ki fa qu cn w kn ex s i (qn i) k f h0 h80 hh hS hO hx (by omega) hc 4 1 (by omega) (by omega) fn qn f F Q hB hF hQ hi rfl hk (Nat.le_refl _)
