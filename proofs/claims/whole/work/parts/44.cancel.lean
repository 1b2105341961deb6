/-! cancelPending -/
theorem upd_uu (f : Nat → Int32) (k : Nat) (x y : Int32) : upd (upd f k x) k y = upd f k y := by
  funext j
  by_cases h : j = k
  · rw [h, pk_us, pk_us]
  · rw [pk_un h, pk_un h, pk_un h]
theorem upd_id {f : Nat → Int32} {k : Nat} {x : Int32} (h : f k = x) : upd f k x = f := by
  funext j
  by_cases hj : j = k
  · rw [hj, pk_us, h]
  · rw [pk_un hj]
/-- the tasks a .. a + q - 1 that are pending are out -/
def cxT (T : Nat → Nat → Int32) (a q : Nat) : Nat → Nat → Int32 := fun i j => if j = 3 ∧ a ≤ i ∧ i < a + q ∧ T i 3 = nI 0 then nI 4 else T i j
def cxO (b : Nat → Int32) (u d : Nat) (t : Int32) : Nat → Int32 := if d = 0 then b else if u = d then upd (upd b 3 (nI 0)) 5 t else upd b 3 (nI (u - d))
/-- how many of them are -/
def pdc (T : Nat → Nat → Int32) (a q : Nat) : Nat := cnt (fun j => decide (T (a + j) 3 = nI 0)) q
theorem pdc_s (T : Nat → Nat → Int32) (a q : Nat) : pdc T a (q + 1) = pdc T a q + if T (a + q) 3 = nI 0 then 1 else 0 := by
  show cnt _ q + _ = _
  simp only [decide_eq_true_eq]
  rfl
theorem pdc_mono (T : Nat → Nat → Int32) (a q : Nat) : ∀ e, pdc T a q ≤ pdc T a (q + e)
  | 0 => Nat.le_refl _
  | e + 1 => by
    have := pdc_mono T a q e
    have h2 := pdc_s T a (q + e)
    show _ ≤ pdc T a (q + e + 1)
    omega
theorem cxO_s (b : Nat → Int32) (u d : Nat) (t : Int32) (h : d < u) : fin1 (cxO b u d t) (u - d - 1) t = cxO b u (d + 1) t := by
  unfold fin1 cxO
  rw [if_neg (show ¬ d + 1 = 0 by omega), if_neg (show ¬ u = d by omega)]
  by_cases h1 : u = d + 1
  · rw [if_pos (show u - d - 1 = 0 by omega), if_pos h1]
    by_cases h0 : d = 0
    · rw [if_pos h0]
    · rw [if_neg h0, upd_uu]
  · rw [if_neg (show ¬ u - d - 1 = 0 by omega), if_neg h1]
    by_cases h0 : d = 0
    · rw [if_pos h0]; rfl
    · rw [if_neg h0, upd_uu]; rfl
theorem cxO_3 (b : Nat → Int32) (u d : Nat) (t : Int32) (h : d < u) (hb : b 3 = nI u) : cxO b u d t 3 = nI (u - d) := by
  unfold cxO
  by_cases h0 : d = 0
  · rw [if_pos h0, hb, h0]; rfl
  · rw [if_neg h0, if_neg (by omega), pk_us]
theorem cxO_k (b : Nat → Int32) (u d : Nat) (t : Int32) {j : Nat} (h3 : j ≠ 3) (h5 : j ≠ 5) : cxO b u d t j = b j := by
  unfold cxO
  split
  · rfl
  · split
    · rw [pk_un h5, pk_un h3]
    · rw [pk_un h3]
theorem cxT_s1 {T : Nat → Nat → Int32} {a q : Nat} (h : T (a + q) 3 = nI 0) : va_up (cxT T a q) (a + q) (upd (cxT T a q (a + q)) 3 (nI 4)) = cxT T a (q + 1) := by
  funext i j
  by_cases hi : i = a + q
  · subst hi
    rw [va_up_self]
    by_cases hj : j = 3
    · subst hj
      rw [pk_us]
      unfold cxT
      rw [if_pos ⟨rfl, by omega, by omega, h⟩]
    · rw [pk_un hj]
      unfold cxT
      rw [if_neg (fun z => hj z.1), if_neg (fun z => hj z.1)]
  · rw [va_up_ne _ _ hi]
    unfold cxT
    by_cases hc : j = 3 ∧ a ≤ i ∧ i < a + q ∧ T i 3 = nI 0
    · rw [if_pos hc, if_pos ⟨hc.1, hc.2.1, by omega, hc.2.2.2⟩]
    · rw [if_neg hc, if_neg (fun z => hc ⟨z.1, z.2.1, by omega, z.2.2.2⟩)]
theorem cxT_s0 {T : Nat → Nat → Int32} {a q : Nat} (h : ¬ T (a + q) 3 = nI 0) : cxT T a q = cxT T a (q + 1) := by
  funext i j
  unfold cxT
  by_cases hc : j = 3 ∧ a ≤ i ∧ i < a + q ∧ T i 3 = nI 0
  · rw [if_pos hc, if_pos ⟨hc.1, hc.2.1, by omega, hc.2.2.2⟩]
  · rw [if_neg hc, if_neg]
    intro z
    by_cases e : i = a + q
    · rw [e] at z; exact h z.2.2.2
    · exact hc ⟨z.1, z.2.1, by omega, z.2.2.2⟩
theorem cxT_0 (T : Nat → Nat → Int32) (a : Nat) : cxT T a 0 = T := by
  funext i j
  unfold cxT
  rw [if_neg (by omega)]
/-- the world of cancel, d tasks out so far, q looked at -/
abbrev wCx (oc tc : Int32) (c u d p m s k a q : Nat) (pf : Nat → Int32) (O T : Nat → Nat → Int32) (t : Int32) : fz_W := [(10, eOs oc tc (nI (if 0 < d ∧ u = d then c - 1 else c)) (nI (p - d))), (11, eA11), (12, eA12), (13, e80 (upd pf s (nI (m - d)))), (14, eOr (va_up O k (cxO (O k) u d t))), (15, eTa (cxT T a q))]
theorem lX5_cancel {G : fz_G} {E0 : Nat → fz_E} (oc tc : Int32) (c u p m s k a n : Nat) (hk : k < 40) (hn : n ≤ 3) (ha : a + n ≤ 90) (hs : s < 80) (pf : Nat → Int32) (O T : Nat → Nat → Int32) (t : Int32) (hO1 : O k 1 = nI n) (hO2 : O k 2 = nI a) (hO3 : O k 3 = nI u) (hT2 : ∀ q, q < n → T (a + q) 2 = nI s) (hu : pdc T a n ≤ u) (hu2 : u < 1000) (hp : pdc T a n ≤ p) (hm : pdc T a n ≤ m) (hc : 0 < u → 0 < c) :
    ∀ f q, q + f = n → fz_J G mX5_cancelPending rX5_cancelPending (fz_Z G E0 0 0 (fun r U => r = some (zI (nI (pdc T a n))) ∧ U = wCx oc tc c u (pdc T a n) p m s k a n pf O T t)) E0 0 0 28 [(5, zI (nI q)), (4, zI (nI (pdc T a q))), (3, zR 14 k), (0, zR 10 0), (1, zI (nI k)), (2, zI t)] [] (wCx oc tc c u (pdc T a q) p m s k a q pf O T t) := by
  intro f
  induction f with
  | zero =>
    intro q hq
    have e : q = n := by omega
    subst e
    refine fz_iload dX5_cancelPending_28 rfl ?_
    refine fz_aload_n dX5_cancelPending_30 rfl ?_
    refine fz_get dX5_cancelPending_31 fX5_59 rfl (hk) rfl ?_
    rw [va_up_self, cxO_k _ _ _ _ (by decide) (by decide), hO1]
    refine fz_icmp_ge (tgt := 81) dX5_cancelPending_34 (by decide) (fun c34 => ?_) (fun c34 => ?_)
    · skip
      refine fz_iload dX5_cancelPending_81 rfl ?_
      refine fz_iret dX5_cancelPending_83 rfl (Nat.zero_le _) (Nat.zero_le _) ⟨rfl, rfl⟩
    · exact absurd (nI_le (Nat.le_refl _) (by omega)) c34
  | succ f ih =>
    intro q hq
    have hmo := pdc_mono T a (q + 1) f
    rw [show q + 1 + f = n by omega] at hmo
    have hps := pdc_s T a q
    refine fz_iload dX5_cancelPending_28 rfl ?_
    refine fz_aload_n dX5_cancelPending_30 rfl ?_
    refine fz_get dX5_cancelPending_31 fX5_59 rfl (hk) rfl ?_
    rw [va_up_self, cxO_k _ _ _ _ (by decide) (by decide), hO1]
    refine fz_icmp_ge (tgt := 81) dX5_cancelPending_34 (by decide) (fun c34 => ?_) (fun c34 => ?_)
    · exact absurd ((nI_leI (by omega) (by omega)).mp c34) (by omega)
    · skip
      refine fz_aload_n dX5_cancelPending_37 rfl ?_
      refine fz_get dX5_cancelPending_38 fX5_19 rfl (Nat.one_pos) rfl ?_
      refine fz_aload_n dX5_cancelPending_41 rfl ?_
      refine fz_get dX5_cancelPending_42 fX5_61 rfl (hk) rfl ?_
      rw [va_up_self, cxO_k _ _ _ _ (by decide) (by decide), hO2]
      refine fz_iload dX5_cancelPending_45 rfl ?_
      refine fz_iadd dX5_cancelPending_47 ?_
      rw [nI_add]
      refine fz_aald dX5_cancelPending_48 rfl rfl Nat.one_pos (vp_in_nI (by omega) (by omega)) (arr (by omega)) ?_
      refine fz_astore dX5_cancelPending_49 (Nat.le_of_ble_eq_true rfl) ?_
      refine fz_aload dX5_cancelPending_51 rfl ?_
      refine fz_get dX5_cancelPending_53 fX5_64 rfl ((by omega : a + q < 90)) rfl ?_
      have e3 : cxT T a q (a + q) 3 = T (a + q) 3 := by unfold cxT; rw [if_neg (by omega)]
      rw [e3]
      by_cases h0 : T (a + q) 3 = nI 0
      · rw [if_pos h0] at hps
        rw [h0]
        refine fz_if_ne (tgt := 75) dX5_cancelPending_56 (by decide) (fun c56 => ?_) (fun c56 => ?_)
        · exact absurd nI_0 c56
        · skip
          refine fz_aload_n dX5_cancelPending_59 rfl ?_
          refine fz_aload dX5_cancelPending_60 rfl ?_
          refine fz_iconst (v := nI 4) dX5_cancelPending_62 (by decide) ?_
          have hd : pdc T a q < u := by omega
          have hif : ¬ (0 < pdc T a q ∧ u = pdc T a q) := by omega
          refine fz_wo (V' := [(10, eOs oc tc (nI ((c - 1) + 1)) (nI ((p - pdc T a q - 1) + 1))), (11, eA11), (12, eA12), (13, e80 (upd pf s (nI (m - pdc T a q)))), (14, eOr (va_up O k (cxO (O k) u (pdc T a q) t))), (15, eTa (cxT T a q))]) (by
            have hc2 := hc (by omega)
            unfold wCx
            rw [if_neg hif, show c - 1 + 1 = c by omega, show p - pdc T a q - 1 + 1 = p - pdc T a q by omega]) ?_
          refine fz_callV (tX5_leavePending oc tc (nI ((c - 1) + 1)) (p - pdc T a q - 1) (m - pdc T a q - 1) s (a + q) (by omega) hs (upd pf s (nI (m - pdc T a q))) (by rw [pk_us]; congr 1; omega) (cxT T a q) (by unfold cxT; rw [if_neg (by omega)]; exact hT2 q (by omega)) (nI 4)) dX5_cancelPending_63 kX5_67 rfl (Nat.one_pos) ⟨rfl, rfl, rfl, trivial⟩ (Nat.le_of_ble_eq_true rfl) (Nat.le_of_ble_eq_true rfl) (Nat.le_of_ble_eq_true rfl) (Nat.le_of_ble_eq_true rfl) (Nat.le_of_ble_eq_true rfl) rfl (fun r U hq => ?_)
          obtain ⟨rfl, rfl⟩ := hq
          refine fz_back rfl ?_
          rw [cxT_s1 h0, upd_uu]
          refine fz_aload_n dX5_cancelPending_66 rfl ?_
          refine fz_aload_n dX5_cancelPending_67 rfl ?_
          refine fz_iload_n dX5_cancelPending_68 rfl ?_
          refine fz_callV (tX5_finishOne oc tc (nI (p - pdc T a q - 1)) (c - 1) (u - pdc T a q - 1) k hk (by omega) (va_up O k (cxO (O k) u (pdc T a q) t)) (by rw [va_up_self, cxO_3 _ _ _ _ hd hO3]; congr 1; omega) t) dX5_cancelPending_69 kX5_71 rfl (Nat.one_pos) ⟨rfl, rfl, trivial⟩ (Nat.le_of_ble_eq_true rfl) (Nat.le_of_ble_eq_true rfl) (Nat.le_of_ble_eq_true rfl) (Nat.le_of_ble_eq_true rfl) (Nat.le_of_ble_eq_true rfl) rfl (fun r U hq => ?_)
          obtain ⟨rfl, rfl⟩ := hq
          refine fz_back rfl ?_
          rw [va_up_self, cxO_s _ _ _ _ hd, bx_uu]
          refine fz_incN dX5_cancelPending_72 rfl (Nat.le_of_ble_eq_true rfl) ?_
          refine fz_incN dX5_cancelPending_75 rfl (Nat.le_of_ble_eq_true rfl) ?_
          refine fz_goto (tgt := 28) dX5_cancelPending_78 (by decide) ?_
          refine fz_pk [0, 1, 3, 4, 5, 6] rfl ?_
          rw [← hps]
          refine fz_wo (V' := wCx oc tc c u (pdc T a (q + 1)) p m s k a (q + 1) pf O T t) ?_ (ih (q + 1) (by omega))
          have e1 : (if u - pdc T a q - 1 = 0 then c - 1 else c - 1 + 1) = (if 0 < pdc T a (q + 1) ∧ u = pdc T a (q + 1) then c - 1 else c) := by
            have hc2 := hc (by omega)
            by_cases hz : u - pdc T a q - 1 = 0
            · rw [if_pos hz, if_pos (by omega)]
            · rw [if_neg hz, if_neg (by omega)]; omega
          have e2 : p - pdc T a q - 1 = p - pdc T a (q + 1) := by omega
          have e4 : m - pdc T a q - 1 = m - pdc T a (q + 1) := by omega
          show [(10, eOs oc tc (nI (if u - pdc T a q - 1 = 0 then c - 1 else c - 1 + 1)) (nI (p - pdc T a q - 1))), (11, eA11), (12, eA12), (13, e80 (upd pf s (nI (m - pdc T a q - 1)))), (14, eOr (va_up O k (cxO (O k) u (pdc T a (q + 1)) t))), (15, eTa (cxT T a (q + 1)))] = _
          rw [e1, e2, e4]
      · rw [if_neg h0] at hps
        refine fz_if_ne (tgt := 75) dX5_cancelPending_56 (by decide) (fun c56 => ?_) (fun c56 => ?_)
        · skip
          refine fz_incN dX5_cancelPending_75 rfl (Nat.le_of_ble_eq_true rfl) ?_
          refine fz_goto (tgt := 28) dX5_cancelPending_78 (by decide) ?_
          refine fz_pk [0, 2, 3, 4, 5, 6] rfl ?_
          have e5 : pdc T a q = pdc T a (q + 1) := by omega
          have hw : wCx oc tc c u (pdc T a q) p m s k a q pf O T t = wCx oc tc c u (pdc T a (q + 1)) p m s k a (q + 1) pf O T t := by
            unfold wCx
            rw [cxT_s0 h0, e5]
          refine fz_wo hw ?_
          refine fz_ls ?_ (ih (q + 1) (by omega))
          rw [← e5]
          rfl
        · exact absurd (c56.trans nI_0.symm) h0
theorem tX5_cancelPending_in {G : fz_G} (tc : Int32) (on c u p m s k a n : Nat) (hon : on ≤ 40) (hk : k < on) (hn : n ≤ 3) (ha : a + n ≤ 90) (hs : s < 80) (pf : Nat → Int32) (O T : Nat → Nat → Int32) (t : Int32) (hO1 : O k 1 = nI n) (hO2 : O k 2 = nI a) (hO3 : O k 3 = nI u) (hT2 : ∀ q, q < n → T (a + q) 2 = nI s) (hu : pdc T a n ≤ u) (hu2 : u < 1000) (hp : pdc T a n ≤ p) (hm : pdc T a n ≤ m) (hpf : pf s = nI m) (hc : 0 < u → 0 < c) :
    fz_T G mX5_cancelPending rX5_cancelPending [zR 10 0, zI (nI k), zI t] [(10, eOs (nI on) tc (nI c) (nI p)), (11, eA11), (12, eA12), (13, e80 pf), (14, eOr O), (15, eTa T)] (fun r U => r = some (zI (nI (pdc T a n))) ∧ U = wCx (nI on) tc c u (pdc T a n) p m s k a n pf O T t) := by
  refine fz_T.of (by decide) (Nat.le_of_ble_eq_true rfl) (fun E0 => ?_)
  refine fz_iload_n dX5_cancelPending_0 rfl ?_
  refine fz_if_lt (tgt := 12) dX5_cancelPending_1 (by decide) (fun c1 => ?_) (fun c1 => ?_)
  · exact absurd c1 (nI_pos (by omega))
  · skip
    refine fz_iload_n dX5_cancelPending_4 rfl ?_
    refine fz_aload_n dX5_cancelPending_5 rfl ?_
    refine fz_get dX5_cancelPending_6 fX5_29 rfl (Nat.one_pos) rfl ?_
    refine fz_icmp_lt (tgt := 15) dX5_cancelPending_9 (by decide) (fun c9 => ?_) (fun c9 => ?_)
    · skip
      refine fz_aload_n dX5_cancelPending_15 rfl ?_
      refine fz_get dX5_cancelPending_16 fX5_11 rfl (Nat.one_pos) rfl ?_
      refine fz_iload_n dX5_cancelPending_19 rfl ?_
      refine fz_aald dX5_cancelPending_20 rfl rfl Nat.one_pos (vp_in_nI (by omega) (by omega)) (arr (by omega)) ?_
      refine fz_astore_n dX5_cancelPending_21 (Nat.le_of_ble_eq_true rfl) ?_
      refine fz_iconst (v := nI 0) dX5_cancelPending_22 (by decide) ?_
      refine fz_istore dX5_cancelPending_23 (Nat.le_of_ble_eq_true rfl) ?_
      refine fz_iconst (v := nI 0) dX5_cancelPending_25 (by decide) ?_
      refine fz_istore dX5_cancelPending_26 (Nat.le_of_ble_eq_true rfl) ?_
      refine fz_wo (V' := wCx (nI on) tc c u (pdc T a 0) p m s k a 0 pf O T t) ?_ (lX5_cancel (nI on) tc c u p m s k a n (by omega) hn ha hs pf O T t hO1 hO2 hO3 hT2 hu hu2 hp hm hc n 0 (by omega))
      have e0 : pdc T a 0 = 0 := rfl
      show _ = [(10, eOs (nI on) tc (nI (if 0 < pdc T a 0 ∧ u = pdc T a 0 then c - 1 else c)) (nI (p - pdc T a 0))), (11, eA11), (12, eA12), (13, e80 (upd pf s (nI (m - pdc T a 0)))), (14, eOr (va_up O k (cxO (O k) u (pdc T a 0) t))), (15, eTa (cxT T a 0))]
      rw [e0, if_neg (by omega), cxT_0, Nat.sub_zero, Nat.sub_zero, upd_id hpf, show cxO (O k) u 0 t = O k from rfl, va_upI]
    · exact absurd (nI_lt hk (by omega)) c9
theorem tX5_cancelPending_out {G : fz_G} (oc tc nc pn x t : Int32) (hx : x < 0 ∨ oc ≤ x) : fz_T G mX5_cancelPending rX5_cancelPending [zR 10 0, zI x, zI t] [(10, eOs oc tc nc pn)] (fun r U => r = some (zI (-2)) ∧ U = [(10, eOs oc tc nc pn)]) := by
  refine fz_T.of (by decide) (Nat.le_of_ble_eq_true rfl) (fun E0 => ?_)
  refine fz_iload_n dX5_cancelPending_0 rfl ?_
  refine fz_if_lt (tgt := 12) dX5_cancelPending_1 (by decide) (fun c1 => ?_) (fun c1 => ?_)
  · skip
    refine fz_bipush (v := -2) dX5_cancelPending_12 (by decide) ?_
    refine fz_iret dX5_cancelPending_14 rfl (Nat.zero_le _) (Nat.zero_le _) ⟨rfl, rfl⟩
  · skip
    refine fz_iload_n dX5_cancelPending_4 rfl ?_
    refine fz_aload_n dX5_cancelPending_5 rfl ?_
    refine fz_get dX5_cancelPending_6 fX5_29 rfl (Nat.one_pos) rfl ?_
    refine fz_icmp_lt (tgt := 15) dX5_cancelPending_9 (by decide) (fun c9 => ?_) (fun c9 => ?_)
    · exact absurd (hx.resolve_left c1) (Int32.not_le.mpr c9)
    · skip
      refine fz_bipush (v := -2) dX5_cancelPending_12 (by decide) ?_
      refine fz_iret dX5_cancelPending_14 rfl (Nat.zero_le _) (Nat.zero_le _) ⟨rfl, rfl⟩
