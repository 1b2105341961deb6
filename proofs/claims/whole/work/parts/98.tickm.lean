/-! THE MODEL: tickOnce -/
def mxE (te kt : Nat → Nat) : Nat → Nat := fun q => max (te q) (kt q)
theorem mdE_E {E E' : Nat → Nat} {tx : Nat → Nat} {n : Nat} {fp : Int32} {cn w : Nat} {kn : Nat → Nat} {on tn rn : Nat} {s : fS} {V : fz_W} (he : ∀ q, q < rn → E' q = E q) (h : mdE E (tx, n, fp, cn, w, kn, on, tn, rn, s) V) : mdE E' (tx, n, fp, cn, w, kn, on, tn, rn, s) V := by
  obtain ⟨O, T, P, te, B, t, A, wy, lg⟩ := s
  obtain ⟨f, sg, ki, dr, fa, sn, wh, en, Rb, Od, Ta, re, le, hm, hn, htq, h80, hki, hfa, hmt, hrb, hod, hta, hV⟩ := h
  exact ⟨f, sg, ki, dr, fa, sn, wh, en, Rb, Od, Ta, re, le, hm, hn, htq, h80, hki, hfa, mtR_E he hmt, hrb, hod, hta, hV⟩
theorem lfw_te {cn w : Nat} {kn : Nat → Nat} {tn rn : Nat} (s : fS) (r q : Nat) (h : ¬ q = r) : (lfw cn w kn tn rn s r).2.2.2.1 q = s.2.2.2.1 q := by
  obtain ⟨O, T, P, te, B, t, A, wy, lg⟩ := s
  rcases lfw_cases (cn := cn) (w := w) (kn := kn) (tn := tn) (rn := rn) O T P te B t A wy lg r with e | ⟨k, x, -, -, e⟩ | ⟨d, x, -, -, -, e⟩ <;> rw [e]
  · show nwE te r t x.1 q = te q
    unfold nwE; rw [if_neg h]
  · show nwE te r t x.1 q = te q
    unfold nwE; rw [if_neg h]
theorem gOn_te (s : fS) (r : Nat) : (gOn s r).2.2.2.1 = s.2.2.2.1 := by
  obtain ⟨O, T, P, te, B, t, A, wy, lg⟩ := s
  show (wkO (mvB (O, T, P, te, B, t, A, wy, lg) r) r).2.2.2.1 = te
  unfold mvB wkO
  simp only
  split <;> (try split) <;> (try split) <;> rfl
theorem goA_te (s : fS) : ∀ n, (goA s n).2.2.2.1 = s.2.2.2.1
  | 0 => rfl
  | n + 1 => by
    unfold goA
    rw [gOn_te, goA_te s n]
theorem lX11_tick_2 {G : fz_G} {E0 : Nat → fz_E} {Z : List Frame → Array Value → State → State → Prop} (tx : Nat → Nat) (n : Nat) (fp : Int32) (cn w : Nat) (kn : Nat → Nat) (on tn rn : Nat) (s : fS) (h0 : 0 < w) (hw : w ≤ 10) (hh : ∃ h, cn = w * h) (hI : inF cn kn on tn rn s)
    (hX : ∀ i, i < rn → (lfA cn w kn tn rn s i).2.2.2.1 i ≤ tmF s → wyX cn w kn tn rn (lfA cn w kn tn rn s i) i)
    (kk : ∀ V, mdE (mxE (lfA cn w kn tn rn s rn).2.2.2.1 (fun _ => tmF s)) (tx, n, fp, cn, w, kn, on, tn, rn, lfA cn w kn tn rn s rn) V → fz_J G mX11_tickOnce rX11_tickOnce Z E0 0 0 39 [(1, zI (nI rn)), (0, zR 30 0)] [] V) :
    ∀ q i, i + q = rn → ∀ V, mdE (mxE (lfA cn w kn tn rn s i).2.2.2.1 (fun _ => tmF s)) (tx, n, fp, cn, w, kn, on, tn, rn, lfA cn w kn tn rn s i) V → fz_J G mX11_tickOnce rX11_tickOnce Z E0 0 0 2 [(1, zI (nI i)), (0, zR 30 0)] [] V := by
  intro q
  induction q with
  | zero =>
    intro i hi V hV
    have e : i = rn := by omega
    subst e
    have hi3 := hI.2.2.1
    have hV2 := hV
    unfold mdE at hV2
    obtain ⟨f, sg, ki, dr, fa, sn, wh, en, Rb, Od, Ta, re, le, hm, hn, htq, h80, hki, hfa, hmt, hrb, hod, hta, rfl⟩ := hV2
    refine fz_iload_n dX11_tickOnce_2 rfl ?_
    refine fz_aload_n dX11_tickOnce_3 rfl ?_
    refine fz_get dX11_tickOnce_4 fX11_144 rfl (Nat.one_pos) rfl ?_
    rw [hm.2.2.2.2.2.1]
    refine fz_icmp_ge (tgt := 39) dX11_tickOnce_7 (by decide) (fun c7 => ?_) (fun c7 => ?_)
    · exact kk _ hV
    · exact absurd (nI_le (Nat.le_refl _) (by omega)) c7
  | succ q ih =>
    intro i hi V hV
    have hi3 := hI.2.2.1
    have hIi := inF_lfA (n := i) h0 hh hI (by omega)
    have hti := lfA_t (cn := cn) (w := w) (kn := kn) (tn := tn) (rn := rn) s i
    have hXi := hX i (by omega)
    have hstep : lfA cn w kn tn rn s (i + 1) = if (lfA cn w kn tn rn s i).2.2.2.1 i ≤ (lfA cn w kn tn rn s i).2.2.2.2.2.1 then lfw cn w kn tn rn (lfA cn w kn tn rn s i) i else lfA cn w kn tn rn s i := rfl
    have next : ∀ V, mdE (mxE (lfA cn w kn tn rn s (i + 1)).2.2.2.1 (fun _ => tmF s)) (tx, n, fp, cn, w, kn, on, tn, rn, lfA cn w kn tn rn s (i + 1)) V → fz_J G mX11_tickOnce rX11_tickOnce Z E0 0 0 33 [(1, zI (nI i)), (0, zR 30 0)] [] V := by
      intro V hV
      refine fz_incN dX11_tickOnce_33 rfl (Nat.le_of_ble_eq_true rfl) ?_
      refine fz_goto (tgt := 2) dX11_tickOnce_36 (by decide) ?_
      exact ih (i + 1) (by omega) V hV
    rcases hs' : lfA cn w kn tn rn s i with ⟨O, T, P, te, B, t, A, wy, lg⟩
    rw [hs'] at hV hIi hti hstep hXi
    have hti : t = tmF s := hti
    have hV : mdE (mxE te (fun _ => tmF s)) (tx, n, fp, cn, w, kn, on, tn, rn, O, T, P, te, B, t, A, wy, lg) V := hV
    have hstep : lfA cn w kn tn rn s (i + 1) = if te i ≤ t then lfw cn w kn tn rn (O, T, P, te, B, t, A, wy, lg) i else (O, T, P, te, B, t, A, wy, lg) := hstep
    have ht4 : t ≤ 4000 := hIi.2.2.2.1
    have hV2 := hV
    obtain ⟨f, sg, ki, dr, fa, sn, wh, en, Rb, Od, Ta, re, le, hm, hn, htq, h80, hki, hfa, hmt, hrb, hod, hta, rfl⟩ := hV2
    obtain ⟨m0, m2, m3, m4, m11, m12, m19, m20, m21, m22, m28⟩ := id hm
    obtain ⟨e1, e2, e3, e4, e5, e6'⟩ := hmt i (by omega)
    refine fz_iload_n dX11_tickOnce_2 rfl ?_
    refine fz_aload_n dX11_tickOnce_3 rfl ?_
    refine fz_get dX11_tickOnce_4 fX11_144 rfl (Nat.one_pos) rfl ?_
    rw [m12]
    refine fz_icmp_ge (tgt := 39) dX11_tickOnce_7 (by decide) (fun c7 => ?_) (fun c7 => ?_)
    · exact absurd ((nI_leI (by omega) (by omega)).mp c7) (by omega)
    · skip
      refine fz_aload_n dX11_tickOnce_10 rfl ?_
      refine fz_get dX11_tickOnce_11 fX11_33 rfl (Nat.one_pos) rfl ?_
      refine fz_iload_n dX11_tickOnce_14 rfl ?_
      refine fz_iald dX11_tickOnce_15 rfl rfl (Nat.one_pos) (vp_in_nI (by omega) (by omega)) ?_
      rw [nI_clamp (by omega), e1]
      refine fz_aload_n dX11_tickOnce_16 rfl ?_
      refine fz_get dX11_tickOnce_17 fX11_141 rfl (Nat.one_pos) rfl ?_
      rw [m11]
      have hEi : mxE te (fun _ => tmF s) i = max (te i) t := by show max (te i) (tmF s) = _; rw [← hti]
      refine fz_icmp_gt (tgt := 33) dX11_tickOnce_20 (by decide) (fun c20 => ?_) (fun c20 => ?_)
      · have hlt := (nI_ltI (by omega) (by omega)).mp c20
        refine next _ ?_
        rw [hstep, if_neg (by omega)]
        exact hV
      · have hle : te i ≤ t := by
          rcases Nat.lt_or_ge t (te i) with z | z
          · exact absurd ((nI_ltI (by omega) (by omega)).mpr (by omega)) c20
          · exact z
        refine fz_aload_n dX11_tickOnce_23 rfl ?_
        refine fz_iload_n dX11_tickOnce_24 rfl ?_
        refine fz_callV (tX11_stay f wh en _ rn hi3 P te hmt i t (by omega) m11 ht4 (by omega) hle) dX11_tickOnce_25 kX11_222 rfl (Nat.one_pos) ⟨rfl, rfl, rfl, trivial⟩ (Nat.le_of_ble_eq_true rfl) (Nat.le_of_ble_eq_true rfl) (Nat.le_of_ble_eq_true rfl) (Nat.le_of_ble_eq_true rfl) (Nat.le_of_ble_eq_true rfl) rfl (fun r U hq => ?_)
        obtain ⟨rfl, wh', en', hmt', rfl⟩ := hq
        refine fz_back rfl ?_
        refine fz_wo (V' := wMd f sg ki dr fa sn wh' en' Rb Od Ta re le) rfl ?_
        have hex : ∀ q, q < rn → mxE te (fun _ => tmF s) q = exE (mxE te (fun _ => tmF s)) i t q := by
          intro q _
          unfold exE
          by_cases z : q = i
          · rw [if_pos z, z, hEi]; omega
          · rw [if_neg z]
        have hst : mdE (mxE te (fun _ => tmF s)) (tx, n, fp, cn, w, kn, on, tn, rn, O, T, P, te, B, t, A, wy, lg) (wMd f sg ki dr fa sn wh' en' Rb Od Ta re le) := ⟨f, sg, ki, dr, fa, sn, wh', en', Rb, Od, Ta, re, le, hm, hn, htq, h80, hki, hfa, mtR_E hex hmt', hrb, hod, hta, rfl⟩
        refine fz_aload_n dX11_tickOnce_28 rfl ?_
        refine fz_iload_n dX11_tickOnce_29 rfl ?_
        refine fz_callV (tX11_seek tx n fp cn w kn on tn rn (O, T, P, te, B, t, A, wy, lg) (mxE te (fun _ => tmF s)) _ i (by omega) hIi h0 hw hh hle (by rw [hEi]; show max (te i) t = t; omega) (hXi (by rw [← hti]; exact hle)) hst) dX11_tickOnce_30 kX11_225 rfl (Nat.one_pos) ⟨rfl, rfl, rfl, rfl, rfl, rfl, rfl, rfl, rfl, rfl, rfl, rfl, rfl, rfl, rfl, rfl, rfl, rfl, rfl, rfl, rfl, rfl, rfl, rfl, rfl, rfl, rfl, trivial⟩ (Nat.le_of_ble_eq_true rfl) (Nat.le_of_ble_eq_true rfl) (Nat.le_of_ble_eq_true rfl) (Nat.le_of_ble_eq_true rfl) (Nat.le_of_ble_eq_true rfl) rfl (fun r U hq => ?_)
        obtain ⟨rfl, E', g1, g2, hst3⟩ := hq
        have hst4 := hst3
        unfold mdE at hst4
        obtain ⟨f', sg', ki', dr', fa', sn', wh'', en'', Rb', Od', Ta', re', le', y1, y2, y3, y4, y5, y6, y7, y8, y9, y10, rfl⟩ := hst4
        refine fz_back rfl ?_
        refine next _ ?_
        rw [hstep, if_pos hle]
        refine mdE_E (fun q hq => ?_) hst3
        by_cases e : q = i
        · rw [e, g2]
          show max _ (tmF s) = max _ t
          rw [← hti]
        · rw [g1 q hq e]
          show max ((lfw cn w kn tn rn (O, T, P, te, B, t, A, wy, lg) i).2.2.2.1 q) (tmF s) = max (te q) (tmF s)
          rw [lfw_te _ _ _ e]
theorem lX11_tick_51 {G : fz_G} {E0 : Nat → fz_E} {Z : List Frame → Array Value → State → State → Prop} (tx : Nat → Nat) (n : Nat) (fp : Int32) (cn w : Nat) (kn : Nat → Nat) (on tn rn : Nat) (s : fS) (t : Nat) (hts : tmF s = t + 1) (hI : inF cn kn on tn rn s)
    (kk : ∀ V, mdE (mxE s.2.2.2.1 (fun _ => t + 1)) (tx, n, fp, cn, w, kn, on, tn, rn, goA s rn) V → fz_J G mX11_tickOnce rX11_tickOnce Z E0 0 0 88 [(1, zI (nI rn)), (0, zR 30 0)] [] V) :
    ∀ q i, i + q = rn → ∀ V, mdE (mxE s.2.2.2.1 (fun q => if q < i then t + 1 else t)) (tx, n, fp, cn, w, kn, on, tn, rn, goA s i) V → fz_J G mX11_tickOnce rX11_tickOnce Z E0 0 0 51 [(1, zI (nI i)), (0, zR 30 0)] [] V := by
  intro q
  induction q with
  | zero =>
    intro i hi V hV
    have e : i = rn := by omega
    subst e
    have hi3 := hI.2.2.1
    have hV2 := hV
    unfold mdE at hV2
    obtain ⟨f, sg, ki, dr, fa, sn, wh, en, Rb, Od, Ta, re, le, hm, hn, htq, h80, hki, hfa, hmt, hrb, hod, hta, rfl⟩ := hV2
    refine fz_iload_n dX11_tickOnce_51 rfl ?_
    refine fz_aload_n dX11_tickOnce_52 rfl ?_
    refine fz_get dX11_tickOnce_53 fX11_144 rfl (Nat.one_pos) rfl ?_
    rw [hm.2.2.2.2.2.1]
    refine fz_icmp_ge (tgt := 88) dX11_tickOnce_56 (by decide) (fun c56 => ?_) (fun c56 => ?_)
    · refine kk _ (mdE_E (fun q hq => ?_) hV)
      show max _ _ = max _ (if q < i then t + 1 else t)
      rw [if_pos hq]
    · exact absurd (nI_le (Nat.le_refl _) (by omega)) c56
  | succ q ih =>
    intro i hi V hV
    have hi3 := hI.2.2.1
    have hIi := inF_goA (n := i) hI (by omega)
    have hti := goA_t s i
    have htei := goA_te s i
    have hgo : goA s (i + 1) = gOn (goA s i) i := rfl
    have settle : ∀ V, mdE (mxE s.2.2.2.1 (fun q => if q < i + 1 then t + 1 else t)) (tx, n, fp, cn, w, kn, on, tn, rn, goA s i) V → fz_J G mX11_tickOnce rX11_tickOnce Z E0 0 0 77 [(1, zI (nI i)), (0, zR 30 0)] [] V := by
      intro V hV
      have hV2 := hV
      unfold mdE at hV2
      obtain ⟨f, sg, ki, dr, fa, sn, wh, en, Rb, Od, Ta, re, le, hm, hn, htq, h80, hki, hfa, hmt, hrb, hod, hta, rfl⟩ := hV2
      refine fz_aload_n dX11_tickOnce_77 rfl ?_
      refine fz_iload_n dX11_tickOnce_78 rfl ?_
      refine fz_callV (tX11_settleRobot tx n fp cn w kn on tn rn (goA s i) _ _ i (by omega) hIi (by rw [hti, hts]; omega) (by show max _ (if i < i + 1 then t + 1 else t) = _; rw [if_pos (by omega), hti, hts, htei]) hV) dX11_tickOnce_79 kX11_228 rfl (Nat.one_pos) ⟨rfl, rfl, rfl, rfl, rfl, rfl, rfl, rfl, rfl, rfl, rfl, rfl, rfl, rfl, rfl, rfl, rfl, rfl, rfl, rfl, rfl, rfl, rfl, rfl, rfl, rfl, rfl, trivial⟩ (Nat.le_of_ble_eq_true rfl) (Nat.le_of_ble_eq_true rfl) (Nat.le_of_ble_eq_true rfl) (Nat.le_of_ble_eq_true rfl) (Nat.le_of_ble_eq_true rfl) rfl (fun r U hq => ?_)
      obtain ⟨rfl, hst3⟩ := hq
      have hst4 := hst3
      unfold mdE at hst4
      obtain ⟨f', sg', ki', dr', fa', sn', wh'', en'', Rb', Od', Ta', re', le', y1, y2, y3, y4, y5, y6, y7, y8, y9, y10, rfl⟩ := hst4
      refine fz_back rfl ?_
      refine fz_incN dX11_tickOnce_82 rfl (Nat.le_of_ble_eq_true rfl) ?_
      refine fz_goto (tgt := 51) dX11_tickOnce_85 (by decide) ?_
      exact ih (i + 1) (by omega) _ hst3
    rcases hs' : goA s i with ⟨O, T, P, te, B, t', A, wy, lg⟩
    rw [hs'] at hV hIi hti htei settle
    have hti : t' = t + 1 := by rw [hts] at hti; exact hti
    have htez : s.2.2.2.1 = te := (show te = s.2.2.2.1 from htei).symm
    subst hti
    rw [htez] at hV
    have ht4 : t + 1 ≤ 4000 := hIi.2.2.2.1
    have hV2 := hV
    obtain ⟨f, sg, ki, dr, fa, sn, wh, en, Rb, Od, Ta, re, le, hm, hn, htq, h80, hki, hfa, hmt, hrb, hod, hta, rfl⟩ := hV2
    obtain ⟨m0, m2, m3, m4, m11, m12, m19, m20, m21, m22, m28⟩ := id hm
    obtain ⟨e1, e2, e3, e4, e5, e6'⟩ := hmt i (by omega)
    have hEi : mxE te (fun q => if q < i then t + 1 else t) i = max (te i) t := by
      show max (te i) (if i < i then t + 1 else t) = _
      rw [if_neg (Nat.lt_irrefl i)]
    rw [htez] at settle
    refine fz_iload_n dX11_tickOnce_51 rfl ?_
    refine fz_aload_n dX11_tickOnce_52 rfl ?_
    refine fz_get dX11_tickOnce_53 fX11_144 rfl (Nat.one_pos) rfl ?_
    rw [m12]
    refine fz_icmp_ge (tgt := 88) dX11_tickOnce_56 (by decide) (fun c56 => ?_) (fun c56 => ?_)
    · exact absurd ((nI_leI (by omega) (by omega)).mp c56) (by omega)
    · skip
      refine fz_aload_n dX11_tickOnce_59 rfl ?_
      refine fz_get dX11_tickOnce_60 fX11_33 rfl (Nat.one_pos) rfl ?_
      refine fz_iload_n dX11_tickOnce_63 rfl ?_
      refine fz_iald dX11_tickOnce_64 rfl rfl (Nat.one_pos) (vp_in_nI (by omega) (by omega)) ?_
      rw [nI_clamp (by omega), e1]
      refine fz_aload_n dX11_tickOnce_65 rfl ?_
      refine fz_get dX11_tickOnce_66 fX11_141 rfl (Nat.one_pos) rfl ?_
      rw [m11]
      refine fz_icmp_ge (tgt := 77) dX11_tickOnce_69 (by decide) (fun c69 => ?_) (fun c69 => ?_)
      · have hle := (nI_leI (by omega) (by omega)).mp c69
        refine settle _ (mdE_E (fun q hq => ?_) hV)
        show max (te q) (if q < i + 1 then t + 1 else t) = max (te q) (if q < i then t + 1 else t)
        by_cases e : q = i
        · rw [e, if_pos (by omega), if_neg (by omega)]; omega
        · by_cases z : q < i
          · rw [if_pos z, if_pos (by omega)]
          · rw [if_neg z, if_neg (by omega)]
      · have hlt : max (te i) t < t + 1 := by
          rw [← hEi]
          rcases Nat.lt_or_ge (mxE te (fun q => if q < i then t + 1 else t) i) (t + 1) with z | z
          · exact z
          · exact absurd (nI_le z (by omega)) c69
        refine fz_aload_n dX11_tickOnce_72 rfl ?_
        refine fz_iload_n dX11_tickOnce_73 rfl ?_
        refine fz_callV (tX11_stay f wh en _ rn hi3 P te hmt i (t + 1) (by omega) m11 ht4 (by omega) (by omega)) dX11_tickOnce_74 kX11_222 rfl (Nat.one_pos) ⟨rfl, rfl, rfl, trivial⟩ (Nat.le_of_ble_eq_true rfl) (Nat.le_of_ble_eq_true rfl) (Nat.le_of_ble_eq_true rfl) (Nat.le_of_ble_eq_true rfl) (Nat.le_of_ble_eq_true rfl) rfl (fun r U hq => ?_)
        obtain ⟨rfl, wh', en', hmt', rfl⟩ := hq
        refine fz_back rfl ?_
        refine fz_wo (V' := wMd f sg ki dr fa sn wh' en' Rb Od Ta re le) rfl ?_
        refine settle _ ⟨f, sg, ki, dr, fa, sn, wh', en', Rb, Od, Ta, re, le, hm, hn, htq, h80, hki, hfa, mtR_E (fun q hq => ?_) hmt', hrb, hod, hta, rfl⟩
        show max (te q) (if q < i + 1 then t + 1 else t) = exE _ i (t + 1) q
        unfold exE
        by_cases e : q = i
        · rw [if_pos e, e, if_pos (by omega)]; omega
        · rw [if_neg e]
          show _ = max (te q) (if q < i then t + 1 else t)
          by_cases z : q < i
          · rw [if_pos z, if_pos (by omega)]
          · rw [if_neg z, if_neg (by omega)]
abbrev mdR (σ : zS) (V : fz_W) : Prop := mdE (mxE σ.2.2.2.2.2.2.2.2.2.2.2.2.1 (fun _ => tmF σ.2.2.2.2.2.2.2.2.2)) σ V
def okX (cn w : Nat) (kn : Nat → Nat) (tn rn : Nat) (s : fS) : Prop := ∀ i, i < rn → (lfA cn w kn tn rn s i).2.2.2.1 i ≤ tmF s → wyX cn w kn tn rn (lfA cn w kn tn rn s i) i
theorem stp_te {cn w : Nat} {kn : Nat → Nat} {tn rn : Nat} (s : fS) : (stp cn w kn tn rn s).2.2.2.1 = (lfA cn w kn tn rn s rn).2.2.2.1 := by
  unfold stp
  have h1 : ∀ s : fS, (wtS cn w kn rn s).2.2.2.1 = s.2.2.2.1 := fun s => by obtain ⟨O, T, P, te, B, t, A, wy, lg⟩ := s; rfl
  have h2 : ∀ s : fS, (tkT1 s).2.2.2.1 = s.2.2.2.1 := fun s => by obtain ⟨O, T, P, te, B, t, A, wy, lg⟩ := s; rfl
  rw [h1, goA_te, h2]
theorem tX11_tickOnce {G : fz_G} (tx : Nat → Nat) (n : Nat) (fp : Int32) (cn w : Nat) (kn : Nat → Nat) (on tn rn : Nat) (s : fS) (V : fz_W) (h0 : 0 < w) (hw : w ≤ 10) (hh : ∃ h, cn = w * h) (hI : inF cn kn on tn rn s) (ht : tmF s < 4000) (hX : okX cn w kn tn rn s) (hV : mdR (tx, n, fp, cn, w, kn, on, tn, rn, s) V) :
    fz_T G mX11_tickOnce rX11_tickOnce [zR 30 0] V (fun x U => x = none ∧ mdR (tx, n, fp, cn, w, kn, on, tn, rn, stp cn w kn tn rn s) U) := by
  refine fz_T.of (by decide) (Nat.le_of_ble_eq_true rfl) (fun E0 => ?_)
  have hstt := stp_t (cn := cn) (w := w) (kn := kn) (tn := tn) (rn := rn) s
  have hste := stp_te (cn := cn) (w := w) (kn := kn) (tn := tn) (rn := rn) s
  refine fz_iconst (v := nI 0) dX11_tickOnce_0 (by decide) ?_
  refine fz_istore_n dX11_tickOnce_1 (Nat.le_of_ble_eq_true rfl) ?_
  refine lX11_tick_2 tx n fp cn w kn on tn rn s h0 hw hh hI hX (fun V1 hV1 => ?_) rn 0 (by omega) V hV
  have hI1 := inF_lfA (n := rn) h0 hh hI (Nat.le_refl _)
  have ht1 := lfA_t (cn := cn) (w := w) (kn := kn) (tn := tn) (rn := rn) s rn
  have hI2 := inF_tk hI1 (by rw [ht1]; exact ht)
  have ht2 : tmF (tkT1 (lfA cn w kn tn rn s rn)) = tmF s + 1 := by rw [tmF_tk, ht1]
  have hI3 := inF_goA (n := rn) hI2 (Nat.le_refl _)
  have ht3 := goA_t (tkT1 (lfA cn w kn tn rn s rn)) rn
  have hte3 := goA_te (tkT1 (lfA cn w kn tn rn s rn)) rn
  have hte2 : (tkT1 (lfA cn w kn tn rn s rn)).2.2.2.1 = (lfA cn w kn tn rn s rn).2.2.2.1 := by rcases lfA cn w kn tn rn s rn with ⟨O, T, P, te, B, t, A, wy, lg⟩; rfl
  have hV2 := hV1
  rcases hs' : lfA cn w kn tn rn s rn with ⟨O, T, P, te, B, t, A, wy, lg⟩
  rw [hs'] at hV2 ht1 hte2 hste
  have ht1 : t = tmF s := ht1
  obtain ⟨f, sg, ki, dr, fa, sn, wh, en, Rb, Od, Ta, re, le, hm, hn, htq, h80, hki, hfa, hmt, hrb, hod, hta, rfl⟩ := hV2
  obtain ⟨m0, m2, m3, m4, m11, m12, m19, m20, m21, m22, m28⟩ := id hm
  refine fz_aload_n dX11_tickOnce_39 rfl ?_
  refine fz_dup dX11_tickOnce_40 rfl ?_
  refine fz_get dX11_tickOnce_41 fX11_141 rfl (Nat.one_pos) rfl ?_
  refine fz_iconst (v := nI 1) dX11_tickOnce_44 (by decide) ?_
  rw [m11]
  refine fz_iadd dX11_tickOnce_45 ?_
  rw [nI_add]
  refine fz_putM dX11_tickOnce_46 fX11_141 (by decide) rfl ⟨rfl, rfl⟩ ?_
  refine fz_iconst (v := nI 0) dX11_tickOnce_49 (by decide) ?_
  refine fz_istore_n dX11_tickOnce_50 (Nat.le_of_ble_eq_true rfl) ?_
  refine fz_pk [0, 1] rfl ?_
  refine lX11_tick_51 tx n fp cn w kn on tn rn (tkT1 (lfA cn w kn tn rn s rn)) (tmF s) ht2 hI2 (fun V3 hV3 => ?_) rn 0 (by omega) _ ?_
  · rcases hs3 : goA (tkT1 (lfA cn w kn tn rn s rn)) rn with ⟨O', T', P', te', B', t', A', wy', lg'⟩
    have hstp : stp cn w kn tn rn s = (O', T', P', te', B', t', A' + wct cn w kn P' t' rn, wy', lg') := by
      unfold stp
      rw [hs3]
      rfl
    rw [hs3] at hV3 hI3 ht3 hte3
    have ht3 : t' = tmF s + 1 := by rw [ht2] at ht3; exact ht3
    have hte3 : te' = te := by
      have : te' = (tkT1 (lfA cn w kn tn rn s rn)).2.2.2.1 := hte3
      rw [this, hs']; rfl
    obtain ⟨i1, i2, i3, i4, i5, i6, i7, i8, i9⟩ := hI3
    have i4 : t' ≤ 4000 := i4
    obtain ⟨f, sg, ki, dr, fa, sn, wh, en, Rb, Od, Ta, re, le, hm, hn, htq, h80, hki, hfa, hmt, hrb, hod, hta, rfl⟩ := hV3
    obtain ⟨m0, m2, m3, m4, m11, m12, m19, m20, m21, m22, m28⟩ := id hm
    refine fz_aload_n dX11_tickOnce_88 rfl ?_
    refine fz_callV (tX11_watch f ki wh en _ cn w rn kn h0 hw h80 hki m3 m4 i3 m12 P' te' hmt i8 t' (by omega) i4 m11 A' m19) dX11_tickOnce_89 kX11_231 rfl (Nat.one_pos) ⟨rfl, rfl, rfl, rfl, trivial⟩ (Nat.le_of_ble_eq_true rfl) (Nat.le_of_ble_eq_true rfl) (Nat.le_of_ble_eq_true rfl) (Nat.le_of_ble_eq_true rfl) (Nat.le_of_ble_eq_true rfl) rfl (fun r U hq => ?_)
    obtain ⟨rfl, rfl⟩ := hq
    refine fz_back rfl ?_
    refine fz_vret dX11_tickOnce_92 rfl (Nat.zero_le _) (Nat.zero_le _) ⟨rfl, ?_⟩
    rw [hstp]
    refine ⟨upd f 19 (nI (A' + wct cn w kn P' t' rn)), sg, ki, dr, fa, sn, wh, en, Rb, Od, Ta, re, le, ⟨?_, ?_, ?_, ?_, ?_, ?_, pk_us, ?_, ?_, ?_, ?_⟩, hn, htq, h80, hki, hfa, mtR_E (fun q hq => ?_) hmt, hrb, hod, hta, rfl⟩
    · rw [upk (by decide)]; exact m0
    · rw [upk (by decide)]; exact m2
    · rw [upk (by decide)]; exact m3
    · rw [upk (by decide)]; exact m4
    · rw [upk (by decide)]; exact m11
    · rw [upk (by decide)]; exact m12
    · rw [upk (by decide)]; exact m20
    · rw [upk (by decide)]; exact m21
    · rw [upk (by decide)]; exact m22
    · rw [upk (by decide)]; exact m28
    · show max (te' q) t' = max ((tkT1 (lfA cn w kn tn rn s rn)).2.2.2.1 q) (tmF s + 1)
      rw [hs', ht3, hte3]; rfl
  · show mdE _ (tx, n, fp, cn, w, kn, on, tn, rn, tkT1 (lfA cn w kn tn rn s rn)) _
    rw [hs']
    refine ⟨upd f 11 (nI (t + 1)), sg, ki, dr, fa, sn, wh, en, Rb, Od, Ta, re, le, ⟨?_, ?_, ?_, ?_, pk_us, ?_, ?_, ?_, ?_, ?_, ?_⟩, hn, htq, h80, hki, hfa, mtR_E (fun q hq => ?_) hmt, hrb, hod, hta, rfl⟩
    · rw [upk (by decide)]; exact m0
    · rw [upk (by decide)]; exact m2
    · rw [upk (by decide)]; exact m3
    · rw [upk (by decide)]; exact m4
    · rw [upk (by decide)]; exact m12
    · rw [upk (by decide)]; exact m19
    · rw [upk (by decide)]; exact m20
    · rw [upk (by decide)]; exact m21
    · rw [upk (by decide)]; exact m22
    · rw [upk (by decide)]; exact m28
    · show max (te q) (if q < 0 then tmF s + 1 else tmF s) = max (te q) (tmF s)
      rw [if_neg (by omega)]
