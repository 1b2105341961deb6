/-! THE MODEL: its object; text -/
abbrev eM (f : Nat → Int32) : fz_E := zo 11 1 (fun _ => [zI (f 0), zR 41 0, zI (f 2), zI (f 3), zI (f 4), zR 45 0, zR 46 0, zI (f 7), zI (f 8), zR 49 0, zR 50 0, zI (f 11), zI (f 12), zR 53 0, zR 54 0, zR 55 0, zR 56 0, zR 57 0, zR 58 0, zI (f 19), zI (f 20), zI (f 21), zI (f 22), zR 63 0, zR 64 0, zR 65 0, zR 66 0, zR 67 0, zI (f 28), zR 69 0, zR 70 0, zR 71 0, zR 72 0, zR 73 0, zR 74 0, zR 75 0, zR 76 0, zR 77 0, zR 78 0])
theorem fz_putM {G : fz_G} {M : fz_M} {R : Room} {Z : List Frame → Array Value → State → State → Prop} {E0 : Nat → fz_E} {cs sl pc : Nat} {ls : List (Nat × fz_V)} {st : List fz_V} {V : fz_W} {idx j : Nat} {ty : FieldType} {f : Nat → Int32} {x : Int32} (hd : decode M.2.1 pc = .ok (.putfield idx, 3)) (hF : fz_F M.1.cls idx 11 j ty false) (hj : j = 0 ∨ j = 2 ∨ j = 3 ∨ j = 4 ∨ j = 7 ∨ j = 8 ∨ j = 11 ∨ j = 12 ∨ j = 19 ∨ j = 20 ∨ j = 21 ∨ j = 22 ∨ j = 28) (hV : fz_lk V 30 = some (eM f)) (hok : fz_ok G ty (zI x)) (kk : fz_J G M R Z E0 cs sl (pc + 3) ls st (fz_st V 30 (eM (upd f j x)))) : fz_J G M R Z E0 cs sl pc ls (zI x :: zR 30 0 :: st) V := by
  refine fz_put _ hd hF hV Nat.one_pos (show j < 39 by omega) hok ?_ (fun i' h1 h2 => absurd (Nat.lt_one_iff.mp h1) h2) kk
  rcases hj with rfl | rfl | rfl | rfl | rfl | rfl | rfl | rfl | rfl | rfl | rfl | rfl | rfl <;> rfl
theorem tX11_in {G : fz_G} (x a b : Int32) : fz_T G mX11_in rX11_in [zI x, zI a, zI b] [] (fun r U => r = some (zI (if a ≤ x ∧ x ≤ b then 1 else 0)) ∧ U = []) := by
  refine fz_T.of (by decide) (Nat.le_of_ble_eq_true rfl) (fun E0 => ?_)
  refine fz_iload_n dX11_in_0 rfl ?_
  refine fz_iload_n dX11_in_1 rfl ?_
  refine fz_icmp_lt (tgt := 14) dX11_in_2 (by decide) (fun c2 => ?_) (fun c2 => ?_)
  · skip
    refine fz_iconst (v := nI 0) dX11_in_14 (by decide) ?_
    refine fz_zret dX11_in_15 rfl (by decide) (Nat.zero_le _) (Nat.zero_le _) ⟨by rw [if_neg (fun z => absurd z.1 (Int32.not_le.mpr c2))]; rfl, rfl⟩
  · skip
    refine fz_iload_n dX11_in_5 rfl ?_
    refine fz_iload_n dX11_in_6 rfl ?_
    refine fz_icmp_gt (tgt := 14) dX11_in_7 (by decide) (fun c7 => ?_) (fun c7 => ?_)
    · skip
      refine fz_iconst (v := nI 0) dX11_in_14 (by decide) ?_
      refine fz_zret dX11_in_15 rfl (by decide) (Nat.zero_le _) (Nat.zero_le _) ⟨by rw [if_neg (fun z => absurd z.2 (Int32.not_le.mpr c7))]; rfl, rfl⟩
    · skip
      refine fz_iconst (v := nI 1) dX11_in_10 (by decide) ?_
      refine fz_goto (tgt := 15) dX11_in_11 (by decide) ?_
      refine fz_zret dX11_in_15 rfl (by decide) (Nat.zero_le _) (Nat.zero_le _) ⟨by rw [if_pos ⟨Int32.not_lt.mp c2, Int32.not_lt.mp c7⟩]; rfl, rfl⟩
/-- an index of the first n: in(x, 0, n - 1) -/
theorem in_n {x : Int32} {n : Nat} (hn : n < 2 ^ 30) : (if nI 0 ≤ x ∧ x ≤ nI n - nI 1 then (1 : Int32) else 0) = if x < 0 ∨ nI n ≤ x then 0 else 1 := by
  have e0 : (0 : Int32).toInt = 0 := by decide
  have h1 : (nI 0 ≤ x ∧ x ≤ nI n - nI 1) ↔ ¬ (x < 0 ∨ nI n ≤ x) := by
    rw [Int32.le_iff_toInt_le, Int32.le_iff_toInt_le, Int32.le_iff_toInt_le, Int32.lt_iff_toInt_lt, pk_sub_toInt (by omega) (by omega), nI_toInt (by omega), nI_toInt (by omega), e0]
    omega
  by_cases h : x < 0 ∨ nI n ≤ x
  · rw [if_pos h, if_neg (fun z => h1.mp z h)]
  · rw [if_neg h, if_pos (h1.mpr h)]
theorem tX11_erase {G : fz_G} (f : Nat → Int32) : fz_T G mX11_erase rX11_erase [zR 30 0] [(30, eM f)] (fun r U => r = some (zI (f 0)) ∧ U = [(30, eM (upd f 0 (nI 0)))]) := by
  refine fz_T.of (by decide) (Nat.le_of_ble_eq_true rfl) (fun E0 => ?_)
  refine fz_aload_n dX11_erase_0 rfl ?_
  refine fz_get dX11_erase_1 fX11_96 rfl (Nat.one_pos) rfl ?_
  refine fz_istore_n dX11_erase_4 (Nat.le_of_ble_eq_true rfl) ?_
  refine fz_aload_n dX11_erase_5 rfl ?_
  refine fz_iconst (v := nI 0) dX11_erase_6 (by decide) ?_
  refine fz_putM dX11_erase_7 fX11_96 (by decide) rfl ⟨rfl, rfl⟩ ?_
  refine fz_iload_n dX11_erase_10 rfl ?_
  refine fz_iret dX11_erase_11 rfl (Nat.zero_le _) (Nat.zero_le _) ⟨rfl, rfl⟩
theorem tX11_wrong {G : fz_G} (f : Nat → Int32) (x y : Int32) : fz_T G mX11_wrong rX11_wrong [zR 30 0, zI x, zI y] [(30, eM f)] (fun r U => r = some (zI x) ∧ U = [(30, eM (upd f 2 y))]) := by
  refine fz_T.of (by decide) (Nat.le_of_ble_eq_true rfl) (fun E0 => ?_)
  refine fz_aload_n dX11_wrong_0 rfl ?_
  refine fz_iload_n dX11_wrong_1 rfl ?_
  refine fz_putM dX11_wrong_2 fX11_13 (by decide) rfl ⟨rfl, rfl⟩ ?_
  refine fz_iload_n dX11_wrong_5 rfl ?_
  refine fz_iret dX11_wrong_6 rfl (Nat.zero_le _) (Nat.zero_le _) ⟨rfl, rfl⟩
theorem tX11_place {G : fz_G} (f : Nat → Int32) : fz_T G mX11_place rX11_place [zR 30 0] [(30, eM f)] (fun r U => r = some (zI (f 2)) ∧ U = [(30, eM f)]) := by
  refine fz_T.of (by decide) (Nat.le_of_ble_eq_true rfl) (fun E0 => ?_)
  refine fz_aload_n dX11_place_0 rfl ?_
  refine fz_get dX11_place_1 fX11_13 rfl (Nat.one_pos) rfl ?_
  refine fz_iret dX11_place_4 rfl (Nat.zero_le _) (Nat.zero_le _) ⟨rfl, rfl⟩
theorem bl_sshr (x : Int64) {c : Nat} (hc : c < 64) {i : Nat} (hi : c + i < 64) : bl (x >>> ((nI c).toInt64 &&& 63)) i = bl x (c + i) := by
  show (x.toBitVec.sshiftRight' (((nI c).toInt64 &&& 63).toBitVec.smod 64)).getLsbD i = _
  rw [sh_c c (by omega), Nat.mod_eq_of_lt hc]
  show (x.toBitVec.sshiftRight (BitVec.ofNat 64 c).toNat).getLsbD i = _
  rw [BitVec.toNat_ofNat, Nat.mod_eq_of_lt (show c < 2 ^ 64 by omega), BitVec.getLsbD_sshiftRight]
  simp [show ¬ 64 ≤ i by omega, hi, bl]
theorem bt_s (x : Int64) {k : Nat} (hk : k < 8) : (x >>> ((nI (8 * k)).toInt64 &&& 63)) &&& 255 = (nI (bt x k)).toInt64 := by
  apply bl_ext
  intro i hi
  rw [bl_and, bl_255 hi, bl_nI (by have := bt_lt x k; omega) hi, bt_bit]
  by_cases h : i < 8
  · rw [bl_sshr x (by omega) (by omega)]
    simp [h]
  · simp [h]
theorem nI_l0 {b : Nat} (hb : b < 256) : (nI b).toInt64 = 0 ↔ b = 0 := by
  constructor
  · intro h
    have h2 : ∀ b, b < 256 → (nI b).toInt64 = 0 → b = 0 := by decide +kernel
    exact h2 b hb h
  · rintro rfl; decide
theorem nI_li {b : Nat} (hb : b < 256) : (nI b).toInt64.toInt32 = nI b := by
  have h2 : ∀ b, b < 256 → (nI b).toInt64.toInt32 = nI b := by decide +kernel
  exact h2 b hb
theorem lX11_type_2 {G : fz_G} {Z : List Frame → Array Value → State → State → Prop} {E0 : Nat → fz_E} {V : fz_W} (w : Int64) (kk : fz_J G mX11_type rX11_type Z E0 0 0 29 [(3, zI (nI (nb w))), (0, zR 30 0), (1, zL w)] [] V) : ∀ f k, k + f = 8 → nbx w f k = nb w → fz_J G mX11_type rX11_type Z E0 0 0 2 [(3, zI (nI k)), (0, zR 30 0), (1, zL w)] [] V := by
  intro f
  induction f with
  | zero =>
    intro k hk hn
    refine fz_iload_n dX11_type_2 rfl ?_
    refine fz_bipush (v := nI 8) dX11_type_3 (by decide) ?_
    refine fz_icmp_ge (tgt := 29) dX11_type_5 (by decide) (fun c5 => ?_) (fun c5 => ?_)
    · have e : k = nb w := hn
      rw [e]
      exact kk
    · exact absurd (nI_le (by omega) (by omega)) c5
  | succ f ih =>
    intro k hk hn
    refine fz_iload_n dX11_type_2 rfl ?_
    refine fz_bipush (v := nI 8) dX11_type_3 (by decide) ?_
    refine fz_icmp_ge (tgt := 29) dX11_type_5 (by decide) (fun c5 => ?_) (fun c5 => ?_)
    · exact absurd ((nI_leI (by omega) (by omega)).mp c5) (by omega)
    · skip
      refine fz_lload_n dX11_type_8 rfl ?_
      refine fz_bipush (v := nI 8) dX11_type_9 (by decide) ?_
      refine fz_iload_n dX11_type_11 rfl ?_
      refine fz_imul dX11_type_12 ?_
      rw [nI_mul]
      refine fz_lshr dX11_type_13 ?_
      refine fz_ldc2 dX11_type_14 nX11_94 ?_
      refine fz_land dX11_type_17 ?_
      refine fz_topL (bt_s w (by omega)) ?_
      refine fz_lconst (v := 0) dX11_type_18 (by decide) ?_
      refine fz_lcmp dX11_type_19 ?_
      refine fz_if_eq (tgt := 29) dX11_type_20 (by decide) (fun c20 => ?_) (fun c20 => ?_)
      · have h0 : bt w k = 0 := (nI_l0 (bt_lt w k)).mp ((lg_cmp_eq _ _).mp c20)
        have e : k = nb w := by
          rw [← hn]
          unfold nbx
          rw [if_pos h0]
        rw [e]
        exact kk
      · have h0 : ¬ bt w k = 0 := fun z => c20 ((lg_cmp_eq _ _).mpr ((nI_l0 (bt_lt w k)).mpr z))
        refine fz_incN dX11_type_23 rfl (Nat.le_of_ble_eq_true rfl) ?_
        refine fz_goto (tgt := 2) dX11_type_26 (by decide) ?_
        refine ih (k + 1) (by omega) ?_
        rw [← hn, nbx, if_neg h0]
theorem lX11_type_46 {G : fz_G} {Z : List Frame → Array Value → State → State → Prop} {E0 : Nat → fz_E} (w : Int64) (n m : Nat) (hm : m ≤ 8) (hn : n + m ≤ 90) (f : Nat → Int32) (tx : Nat → Nat)
    (kk : ∀ sg', tq sg' (apx tx n w) (n + m) → fz_J G mX11_type rX11_type Z E0 0 0 89 [(4, zI (nI m)), (3, zI (nI m)), (0, zR 30 0), (1, zL w)] [] [(30, eM (upd f 0 (nI (n + m)))), (41, eSg sg')]) :
    ∀ q i, i + q = m → ∀ sg, tq sg (apx tx n w) (n + i) → fz_J G mX11_type rX11_type Z E0 0 0 46 [(4, zI (nI i)), (3, zI (nI m)), (0, zR 30 0), (1, zL w)] [] [(30, eM (upd f 0 (nI (n + i)))), (41, eSg sg)] := by
  intro q
  induction q with
  | zero =>
    intro i hi sg hs
    have e : i = m := by omega
    subst e
    refine fz_iload dX11_type_46 rfl ?_
    refine fz_iload_n dX11_type_48 rfl ?_
    refine fz_icmp_ge (tgt := 89) dX11_type_49 (by decide) (fun c => ?_) (fun c => ?_)
    · exact kk sg hs
    · exact absurd (nI_le (Nat.le_refl _) (by omega)) c
  | succ q ih =>
    intro i hi sg hs
    refine fz_iload dX11_type_46 rfl ?_
    refine fz_iload_n dX11_type_48 rfl ?_
    refine fz_icmp_ge (tgt := 89) dX11_type_49 (by decide) (fun c => ?_) (fun c => ?_)
    · exact absurd ((nI_leI (by omega) (by omega)).mp c) (by omega)
    · skip
      refine fz_aload_n dX11_type_52 rfl ?_
      refine fz_get dX11_type_53 fX11_7 rfl (Nat.one_pos) rfl ?_
      refine fz_aload_n dX11_type_56 rfl ?_
      refine fz_get dX11_type_57 fX11_96 rfl (Nat.one_pos) rfl ?_
      rw [pk_us]
      refine fz_lload_n dX11_type_60 rfl ?_
      refine fz_bipush (v := nI 8) dX11_type_61 (by decide) ?_
      refine fz_iload dX11_type_63 rfl ?_
      refine fz_imul dX11_type_65 ?_
      rw [nI_mul]
      refine fz_lshr dX11_type_66 ?_
      refine fz_ldc2 dX11_type_67 nX11_94 ?_
      refine fz_land dX11_type_70 ?_
      refine fz_topL (bt_s w (by omega)) ?_
      refine fz_l2i dX11_type_71 ?_
      rw [nI_li (bt_lt w i)]
      refine fz_iast1 dX11_type_72 rfl rfl (vp_in_nI (by omega) (by omega)) ?_
      rw [nI_clamp (by omega)]
      refine fz_aload_n dX11_type_73 rfl ?_
      refine fz_dup dX11_type_74 rfl ?_
      refine fz_get dX11_type_75 fX11_96 rfl (Nat.one_pos) rfl ?_
      refine fz_iconst (v := nI 1) dX11_type_78 (by decide) ?_
      rw [pk_us]
      refine fz_iadd dX11_type_79 ?_
      rw [nI_add]
      refine fz_putM dX11_type_80 fX11_96 (by decide) rfl ⟨rfl, rfl⟩ ?_
      refine fz_incN dX11_type_83 rfl (Nat.le_of_ble_eq_true rfl) ?_
      refine fz_goto (tgt := 46) dX11_type_86 (by decide) ?_
      refine fz_wo (V' := [(30, eM (upd f 0 (nI (n + (i + 1))))), (41, eSg (upd sg (n + i) (nI (bt w i))))]) (by rw [← upd_uu f 0 (nI (n + i))]; rfl) ?_
      refine ih (i + 1) (by omega) _ (fun j hj => ?_)
      by_cases e : j = n + i
      · subst e
        rw [pk_us]
        unfold apx
        rw [if_neg (by omega), Nat.add_sub_cancel_left]
        exact ⟨rfl, bt_lt _ _⟩
      · rw [pk_un e]
        exact hs j (by omega)
theorem tX11_type {G : fz_G} (w : Int64) (n : Nat) (hn : n ≤ 90) (f : Nat → Int32) (hf : f 0 = nI n) (sg : Nat → Int32) (tx : Nat → Nat) (ht : tq sg tx n) : fz_T G mX11_type rX11_type [zR 30 0, zL w] [(30, eM f), (41, eSg sg)] (fun r U => if n + nb w ≤ 90 then r = some (zI (nI (n + nb w))) ∧ ∃ sg', tq sg' (apx tx n w) (n + nb w) ∧ U = [(30, eM (upd f 0 (nI (n + nb w)))), (41, eSg sg')] else r = some (zI (-3)) ∧ U = [(30, eM f), (41, eSg sg)]) := by
  refine fz_T.of (by decide) (Nat.le_of_ble_eq_true rfl) (fun E0 => ?_)
  have hb := nb_le w
  refine fz_iconst (v := nI 0) dX11_type_0 (by decide) ?_
  refine fz_istore_n dX11_type_1 (Nat.le_of_ble_eq_true rfl) ?_
  refine lX11_type_2 w ?_ 8 0 rfl rfl
  refine fz_aload_n dX11_type_29 rfl ?_
  refine fz_get dX11_type_30 fX11_96 rfl (Nat.one_pos) rfl ?_
  rw [hf]
  refine fz_iload_n dX11_type_33 rfl ?_
  refine fz_iadd dX11_type_34 ?_
  rw [nI_add]
  refine fz_bipush (v := nI 90) dX11_type_35 (by decide) ?_
  refine fz_icmp_le (tgt := 43) dX11_type_37 (by decide) (fun c => ?_) (fun c => ?_)
  · have h1 : n + nb w ≤ 90 := (nI_leI (by omega) (by omega)).mp c
    refine fz_iconst (v := nI 0) dX11_type_43 (by decide) ?_
    refine fz_istore dX11_type_44 (Nat.le_of_ble_eq_true rfl) ?_
    have e0 : upd f 0 (nI (n + 0)) = f := upd_id hf
    refine fz_wo (V' := [(30, eM (upd f 0 (nI (n + 0)))), (41, eSg sg)]) (by rw [e0]) ?_
    refine lX11_type_46 w n (nb w) hb h1 f tx (fun sg' hs => ?_) (nb w) 0 (by omega) sg (fun j hj => ?_)
    · skip
      refine fz_aload_n dX11_type_89 rfl ?_
      refine fz_get dX11_type_90 fX11_96 rfl (Nat.one_pos) rfl ?_
      refine fz_iret dX11_type_93 rfl (Nat.zero_le _) (Nat.zero_le _) ?_
      rw [if_pos h1]
      exact ⟨by rw [pk_us], sg', hs, rfl⟩
    · unfold apx
      rw [if_pos (by omega)]
      exact ht j (by omega)
  · have h1 : ¬ n + nb w ≤ 90 := fun z => c (nI_le z (by omega))
    refine fz_bipush (v := -3) dX11_type_40 (by decide) ?_
    refine fz_iret dX11_type_42 rfl (Nat.zero_le _) (Nat.zero_le _) ?_
    rw [if_neg h1]
    exact ⟨rfl, rfl⟩
