/-! isJoinedToAll, firstPlaceApart -/
/-- a way from place c to every place, through no other place -/
def JA (cn w : Nat) (kn : Nat → Nat) (c : Nat) : Prop := ∀ d, d < cn → 1 < kn d → dsw cn w kn (exT false kn c) c d ≠ none
theorem lX1_isJoined {G : fz_G} {E0 : Nat → fz_E} (g : Nat) (hg : g < 2) (sz wd : Nat → Int32) (st : Nat → Nat → Int32) (op : Nat → Nat → Int64) (ki fa qu : Nat → Nat → Int32) (F Q : Nat → Int32) (cn w : Nat) (kn : Nat → Nat) (s : Nat) (hK : gK cn w kn (sz g) (wd g) (ki g)) (hF : FD cn w kn (exT false kn s) s F) :
    ∀ q c, c + q = cn → (∀ d, d < c → 1 < kn d → dsw cn w kn (exT false kn s) s d ≠ none) → fz_J G mX1_isJoinedToAll rX1_isJoinedToAll (fz_Z G E0 0 0 (fun r U => ((r = some (zI 1) ∧ JA cn w kn s) ∨ (r = some (zI 0) ∧ ¬ JA cn w kn s)) ∧ ∃ F' Q', U = wMe sz wd st op ki fa qu g F' Q')) E0 0 0 8 [(2, zI (nI c)), (0, zR 2 g), (1, zI (nI s))] [] (wMe sz wd st op ki fa qu g F Q) := by
  obtain ⟨k1, k2, k3, k4, k5, k6, k7⟩ := hK
  intro q
  induction q with
  | zero =>
    intro c hc hd
    have e : c = cn := by omega
    subst e
    refine fz_iload_n dX1_isJoinedToAll_8 rfl ?_
    refine fz_aload_n dX1_isJoinedToAll_9 rfl ?_
    refine fz_get dX1_isJoinedToAll_10 fX1_28 rfl (hg) rfl ?_
    rw [k5]
    refine fz_icmp_ge (tgt := 42) dX1_isJoinedToAll_13 (by decide) (fun c13 => ?_) (fun c13 => ?_)
    · skip
      refine fz_iconst (v := nI 1) dX1_isJoinedToAll_42 (by decide) ?_
      refine fz_zret dX1_isJoinedToAll_43 rfl (by decide) (Nat.zero_le _) (Nat.zero_le _) ⟨Or.inl ⟨rfl, hd⟩, F, Q, rfl⟩
    · exact absurd (nI_le (Nat.le_refl _) (by omega)) c13
  | succ q ih =>
    intro c hc hd
    have hkc := k7 c (by omega)
    refine fz_iload_n dX1_isJoinedToAll_8 rfl ?_
    refine fz_aload_n dX1_isJoinedToAll_9 rfl ?_
    refine fz_get dX1_isJoinedToAll_10 fX1_28 rfl (hg) rfl ?_
    rw [k5]
    refine fz_icmp_ge (tgt := 42) dX1_isJoinedToAll_13 (by decide) (fun c13 => ?_) (fun c13 => ?_)
    · exact absurd ((nI_leI (by omega) (by omega)).mp c13) (by omega)
    · skip
      refine fz_aload_n dX1_isJoinedToAll_16 rfl ?_
      refine fz_iload_n dX1_isJoinedToAll_17 rfl ?_
      refine fz_callV (tX1_isPlace g hg sz wd ki c (kn c) (by omega) (by omega) hkc.1) dX1_isJoinedToAll_18 kX1_76 rfl (hg) ⟨rfl, rfl, trivial⟩ (Nat.le_of_ble_eq_true rfl) (Nat.le_of_ble_eq_true rfl) (Nat.le_of_ble_eq_true rfl) (Nat.le_of_ble_eq_true rfl) (Nat.le_of_ble_eq_true rfl) rfl (fun r U hq => ?_)
      obtain ⟨rfl, rfl⟩ := hq
      refine fz_back rfl ?_
      refine fz_wo (V' := wMe sz wd st op ki fa qu g F Q) rfl ?_
      by_cases hp : 1 < kn c
      · rw [if_pos hp]
        refine fz_if_eq (tgt := 36) dX1_isJoinedToAll_21 (by decide) (fun c21 => ?_) (fun c21 => ?_)
        · exact absurd c21 (by decide)
        · skip
          refine fz_aload_n dX1_isJoinedToAll_24 rfl ?_
          refine fz_get dX1_isJoinedToAll_25 fX1_22 rfl (hg) rfl ?_
          refine fz_iload_n dX1_isJoinedToAll_28 rfl ?_
          refine fz_ialdu dX1_isJoinedToAll_29 rfl rfl (hg) (vp_in_nI (by omega) (by omega)) ?_
          refine fz_iconst (v := -1) dX1_isJoinedToAll_30 (by decide) ?_
          rw [nI_clamp (by omega), (hF c (by omega)).1]
          cases hv : dsw cn w kn (exT false kn s) s c with
          | none =>
            refine fz_icmp_ne (tgt := 36) dX1_isJoinedToAll_31 (by decide) (fun c31 => ?_) (fun c31 => ?_)
            · exact absurd rfl c31
            · skip
              refine fz_iconst (v := nI 0) dX1_isJoinedToAll_34 (by decide) ?_
              refine fz_zret dX1_isJoinedToAll_35 rfl (by decide) (Nat.zero_le _) (Nat.zero_le _) ⟨Or.inr ⟨rfl, fun z => z c (by omega) hp hv⟩, F, Q, rfl⟩
          | some k =>
            have hkl := (hF c (by omega)).2 k hv
            refine fz_icmp_ne (tgt := 36) dX1_isJoinedToAll_31 (by decide) (fun c31 => ?_) (fun c31 => ?_)
            · skip
              refine fz_incN dX1_isJoinedToAll_36 rfl (Nat.le_of_ble_eq_true rfl) ?_
              refine fz_goto (tgt := 8) dX1_isJoinedToAll_39 (by decide) ?_
              refine ih (c + 1) (by omega) (fun d h1 h2 => ?_)
              by_cases e : d = c
              · rw [e, hv]; exact fun z => by cases z
              · exact hd d (by omega) h2
            · exact absurd c31 (oI_ne (by omega))
      · rw [if_neg hp]
        refine fz_if_eq (tgt := 36) dX1_isJoinedToAll_21 (by decide) (fun c21 => ?_) (fun c21 => ?_)
        · skip
          refine fz_incN dX1_isJoinedToAll_36 rfl (Nat.le_of_ble_eq_true rfl) ?_
          refine fz_goto (tgt := 8) dX1_isJoinedToAll_39 (by decide) ?_
          refine ih (c + 1) (by omega) (fun d h1 h2 => ?_)
          by_cases e : d = c
          · rw [e] at h2; exact absurd h2 hp
          · exact hd d (by omega) h2
        · exact absurd rfl c21
theorem tX1_isJoinedToAll {G : fz_G} (g : Nat) (hg : g < 2) (sz wd : Nat → Int32) (st : Nat → Nat → Int32) (op : Nat → Nat → Int64) (ki fa qu : Nat → Nat → Int32) (F Q : Nat → Int32) (cn w : Nat) (kn : Nat → Nat) (s : Nat) (hK : gK cn w kn (sz g) (wd g) (ki g)) (hS : gS w (st g)) (hO : gO cn w kn (op g)) (hs : s < cn) :
    fz_T G mX1_isJoinedToAll rX1_isJoinedToAll [zR 2 g, zI (nI s)] (wMe sz wd st op ki fa qu g F Q) (fun r U => ((r = some (zI 1) ∧ JA cn w kn s) ∨ (r = some (zI 0) ∧ ¬ JA cn w kn s)) ∧ ∃ F' Q', U = wMe sz wd st op ki fa qu g F' Q') := by
  refine fz_T.of (by decide) (Nat.le_of_ble_eq_true rfl) (fun E0 => ?_)
  refine fz_aload_n dX1_isJoinedToAll_0 rfl ?_
  refine fz_iload_n dX1_isJoinedToAll_1 rfl ?_
  refine fz_iconst (v := nI 0) dX1_isJoinedToAll_2 (by decide) ?_
  refine fz_top (y := bI false) rfl ?_
  refine fz_callV (tX1_measureFrom g hg sz wd st op ki fa qu F Q cn w kn false s hK hS hO hs) dX1_isJoinedToAll_3 kX1_82 rfl (hg) ⟨rfl, rfl, rfl, rfl, rfl, rfl, trivial⟩ (Nat.le_of_ble_eq_true rfl) (Nat.le_of_ble_eq_true rfl) (Nat.le_of_ble_eq_true rfl) (Nat.le_of_ble_eq_true rfl) (Nat.le_of_ble_eq_true rfl) rfl (fun r U hq => ?_)
  obtain ⟨rfl, F', Q', hF', rfl⟩ := hq
  refine fz_back rfl ?_
  refine fz_wo (V' := wMe sz wd st op ki fa qu g F' Q') rfl ?_
  refine fz_iconst (v := nI 0) dX1_isJoinedToAll_6 (by decide) ?_
  refine fz_istore_n dX1_isJoinedToAll_7 (Nat.le_of_ble_eq_true rfl) ?_
  exact lX1_isJoined g hg sz wd st op ki fa qu F' Q' cn w kn s hK hF' cn 0 (by omega) (fun d h => by omega)
/-- the first place that isn't joined to all -/
def FA (cn w : Nat) (kn : Nat → Nat) (r : Option fz_V) : Prop := (r = some (zI (-1)) ∧ ∀ c, c < cn → 1 < kn c → JA cn w kn c) ∨ ∃ c, c < cn ∧ r = some (zI (nI c)) ∧ 1 < kn c ∧ ¬ JA cn w kn c ∧ ∀ d, d < c → 1 < kn d → JA cn w kn d
theorem lX1_first {G : fz_G} {E0 : Nat → fz_E} (g : Nat) (hg : g < 2) (sz wd : Nat → Int32) (st : Nat → Nat → Int32) (op : Nat → Nat → Int64) (ki fa qu : Nat → Nat → Int32) (cn w : Nat) (kn : Nat → Nat) (hK : gK cn w kn (sz g) (wd g) (ki g)) (hS : gS w (st g)) (hO : gO cn w kn (op g)) :
    ∀ q c, c + q = cn → (∀ d, d < c → 1 < kn d → JA cn w kn d) → ∀ F Q, fz_J G mX1_firstPlaceApart rX1_firstPlaceApart (fz_Z G E0 0 0 (fun r U => FA cn w kn r ∧ ∃ F' Q', U = wMe sz wd st op ki fa qu g F' Q')) E0 0 0 2 [(1, zI (nI c)), (0, zR 2 g)] [] (wMe sz wd st op ki fa qu g F Q) := by
  have hK' := hK
  obtain ⟨k1, k2, k3, k4, k5, k6, k7⟩ := hK
  intro q
  induction q with
  | zero =>
    intro c hc hd F Q
    have e : c = cn := by omega
    subst e
    refine fz_iload_n dX1_firstPlaceApart_2 rfl ?_
    refine fz_aload_n dX1_firstPlaceApart_3 rfl ?_
    refine fz_get dX1_firstPlaceApart_4 fX1_28 rfl (hg) rfl ?_
    rw [k5]
    refine fz_icmp_ge (tgt := 34) dX1_firstPlaceApart_7 (by decide) (fun c7 => ?_) (fun c7 => ?_)
    · skip
      refine fz_iconst (v := -1) dX1_firstPlaceApart_34 (by decide) ?_
      refine fz_iret dX1_firstPlaceApart_35 rfl (Nat.zero_le _) (Nat.zero_le _) ⟨Or.inl ⟨rfl, hd⟩, F, Q, rfl⟩
    · exact absurd (nI_le (Nat.le_refl _) (by omega)) c7
  | succ q ih =>
    intro c hc hd F Q
    have hkc := k7 c (by omega)
    refine fz_iload_n dX1_firstPlaceApart_2 rfl ?_
    refine fz_aload_n dX1_firstPlaceApart_3 rfl ?_
    refine fz_get dX1_firstPlaceApart_4 fX1_28 rfl (hg) rfl ?_
    rw [k5]
    refine fz_icmp_ge (tgt := 34) dX1_firstPlaceApart_7 (by decide) (fun c7 => ?_) (fun c7 => ?_)
    · exact absurd ((nI_leI (by omega) (by omega)).mp c7) (by omega)
    · skip
      refine fz_aload_n dX1_firstPlaceApart_10 rfl ?_
      refine fz_iload_n dX1_firstPlaceApart_11 rfl ?_
      refine fz_callV (tX1_isPlace g hg sz wd ki c (kn c) (by omega) (by omega) hkc.1) dX1_firstPlaceApart_12 kX1_76 rfl (hg) ⟨rfl, rfl, trivial⟩ (Nat.le_of_ble_eq_true rfl) (Nat.le_of_ble_eq_true rfl) (Nat.le_of_ble_eq_true rfl) (Nat.le_of_ble_eq_true rfl) (Nat.le_of_ble_eq_true rfl) rfl (fun r U hq => ?_)
      obtain ⟨rfl, rfl⟩ := hq
      refine fz_back rfl ?_
      refine fz_wo (V' := wMe sz wd st op ki fa qu g F Q) rfl ?_
      by_cases hp : 1 < kn c
      · rw [if_pos hp]
        refine fz_if_eq (tgt := 28) dX1_firstPlaceApart_15 (by decide) (fun c15 => ?_) (fun c15 => ?_)
        · exact absurd c15 (by decide)
        · skip
          refine fz_aload_n dX1_firstPlaceApart_18 rfl ?_
          refine fz_iload_n dX1_firstPlaceApart_19 rfl ?_
          refine fz_callV (tX1_isJoinedToAll g hg sz wd st op ki fa qu F Q cn w kn c hK' hS hO (by omega)) dX1_firstPlaceApart_20 kX1_79 rfl (hg) ⟨rfl, rfl, rfl, rfl, rfl, rfl, trivial⟩ (Nat.le_of_ble_eq_true rfl) (Nat.le_of_ble_eq_true rfl) (Nat.le_of_ble_eq_true rfl) (Nat.le_of_ble_eq_true rfl) (Nat.le_of_ble_eq_true rfl) rfl (fun r U hq => ?_)
          obtain ⟨hj, F', Q', rfl⟩ := hq
          refine fz_back rfl ?_
          refine fz_wo (V' := wMe sz wd st op ki fa qu g F' Q') rfl ?_
          rcases hj with ⟨rfl, hj⟩ | ⟨rfl, hj⟩
          · skip
            refine fz_if_ne (tgt := 28) dX1_firstPlaceApart_23 (by decide) (fun c23 => ?_) (fun c23 => ?_)
            · skip
              refine fz_incN dX1_firstPlaceApart_28 rfl (Nat.le_of_ble_eq_true rfl) ?_
              refine fz_goto (tgt := 2) dX1_firstPlaceApart_31 (by decide) ?_
              refine ih (c + 1) (by omega) (fun d h1 h2 => ?_) F' Q'
              by_cases e : d = c
              · rw [e]; exact hj
              · exact hd d (by omega) h2
            · exact absurd c23 (by decide)
          · skip
            refine fz_if_ne (tgt := 28) dX1_firstPlaceApart_23 (by decide) (fun c23 => ?_) (fun c23 => ?_)
            · exact absurd rfl c23
            · skip
              refine fz_iload_n dX1_firstPlaceApart_26 rfl ?_
              refine fz_iret dX1_firstPlaceApart_27 rfl (Nat.zero_le _) (Nat.zero_le _) ⟨Or.inr ⟨c, by omega, rfl, hp, hj, hd⟩, F', Q', rfl⟩
      · rw [if_neg hp]
        refine fz_if_eq (tgt := 28) dX1_firstPlaceApart_15 (by decide) (fun c15 => ?_) (fun c15 => ?_)
        · skip
          refine fz_incN dX1_firstPlaceApart_28 rfl (Nat.le_of_ble_eq_true rfl) ?_
          refine fz_goto (tgt := 2) dX1_firstPlaceApart_31 (by decide) ?_
          refine ih (c + 1) (by omega) (fun d h1 h2 => ?_) F Q
          by_cases e : d = c
          · rw [e] at h2; exact absurd h2 hp
          · exact hd d (by omega) h2
        · exact absurd rfl c15
theorem tX1_firstPlaceApart {G : fz_G} (g : Nat) (hg : g < 2) (sz wd : Nat → Int32) (st : Nat → Nat → Int32) (op : Nat → Nat → Int64) (ki fa qu : Nat → Nat → Int32) (F Q : Nat → Int32) (cn w : Nat) (kn : Nat → Nat) (hK : gK cn w kn (sz g) (wd g) (ki g)) (hS : gS w (st g)) (hO : gO cn w kn (op g)) :
    fz_T G mX1_firstPlaceApart rX1_firstPlaceApart [zR 2 g] (wMe sz wd st op ki fa qu g F Q) (fun r U => FA cn w kn r ∧ ∃ F' Q', U = wMe sz wd st op ki fa qu g F' Q') := by
  refine fz_T.of (by decide) (Nat.le_of_ble_eq_true rfl) (fun E0 => ?_)
  refine fz_iconst (v := nI 0) dX1_firstPlaceApart_0 (by decide) ?_
  refine fz_istore_n dX1_firstPlaceApart_1 (Nat.le_of_ble_eq_true rfl) ?_
  exact lX1_first g hg sz wd st op ki fa qu cn w kn hK hS hO cn 0 (by omega) (fun d h => by omega) F Q
