/-! ORDERS' CONSTRUCTOR. Printed by our own program (cons.py). -/
theorem fz_csl {G : fz_G} {M : fz_M} {R : Room} {Z : List Frame → Array Value → State → State → Prop} {E0 : Nat → fz_E} {cs sl cs' sl' pc : Nat} {ls : List (Nat × fz_V)} {st : List fz_V} {V : fz_W} (h1 : cs = cs') (h2 : sl = sl') (k : fz_J G M R Z E0 cs' sl' pc ls st V) : fz_J G M R Z E0 cs sl pc ls st V := by
  subst h1
  subst h2
  exact k
def aqF (k i : Nat) : Nat → Nat → Option (Nat × Nat) := fun _ c => if c < i then some (k, c) else none
theorem aqF_0 (k : Nat) : aqF k 0 = fun _ _ => none := by
  funext _ c
  exact if_neg (Nat.not_lt_zero c)
theorem aq_nm {k i k' n' t len : Nat} (h : ¬ (k = k' ∧ n' < i)) : fz_nm (fz_k1 k' n') (zq t 1 len (aqF k i)) := by
  intro i' _ j q hq
  have hq : (if j < i then some (k, j) else none) = some q := hq
  split at hq
  · cases hq
    exact decide_eq_false (fun z => h ⟨z.1, by have := z.2; omega⟩)
  · cases hq
theorem aq_up {k i : Nat} (hi : i < 2 ^ 31) : aqF k (i + 1) 0 = va_up (aqF k i 0) (nI i).toNatClampNeg (some (k, i)) := by
  funext c
  rw [nI_clamp hi]
  unfold aqF va_up
  by_cases e : c = i
  · rw [if_pos e, if_pos (by omega), e]
  · rw [if_neg e]
    show (if c < i + 1 then some (k, c) else none) = (if c < i then some (k, c) else none)
    by_cases z : c < i
    · rw [if_pos z, if_pos (by omega)]
    · rw [if_neg z, if_neg (by omega)]
theorem arrV_ext {cI : ClassId} {N : Nat} {f f' : Nat → Value} (h : ∀ j, j < N → f j = f' j) : arrV cI N f = arrV cI N f' := by
  unfold arrV
  congr 2
  funext j
  exact h j.val j.isLt
theorem fz_woq {G : fz_G} {M : fz_M} {R : Room} {Z : List Frame → Array Value → State → State → Prop} {E0 : Nat → fz_E} {cs sl pc : Nat} {ls : List (Nat × fz_V)} {st : List fz_V} {V : fz_W} {k t len : Nat} {f : Nat → Nat → Option (Nat × Nat)} (f' : Nat → Nat → Option (Nat × Nat)) (hV : fz_lk V k = some (zq t 1 len f)) (h : ∀ j, j < len → f 0 j = f' 0 j) (kk : fz_J G M R Z E0 cs sl pc ls st (fz_st V k (zq t 1 len f'))) : fz_J G M R Z E0 cs sl pc ls st V := by
  intro p e s m args below meth c H locs la hC hR hS hl
  obtain ⟨L, g, q0, hP, hD, hE, hJ, hq0, hset⟩ := fz_at hR hV (show 0 < fz_n (zq t 1 len f) from Nat.one_pos)
  have hat := hP q0 _ hq0
  have he : va_at G.2.1 classes (G.2.2.2.2 k 0, fz_c G (zq t 1 len f') 0) H := by
    show H[G.2.2.2.2 k 0]? = some (vp_cell _ _)
    have h0 : H[G.2.2.2.2 k 0]? = some (vp_cell (G.2.2.1 t) (len, .inr (.inr (.inr (.inr (fun j => (f 0 j).map (fun q => G.2.2.2.2 q.1 q.2))))))) := hat
    rw [h0]
    congr 1
    rw [vp_cell_q, vp_cell_q]
    exact arrV_ext (fun j hj => by rw [h j hj])
  have hP1 := hP.set hD hq0 he (fun q _ => rfl)
  have hD1 := hD.set (e := fz_c G (zq t 1 len f') 0) hq0
  rw [hset] at hP1 hD1
  exact kk p e s m args below meth c H locs la hC (fz_upd hV Nat.one_pos rfl (fun i' h1 h2 => absurd (Nat.lt_one_iff.mp h1) h2) hE hJ hP1 hD1) hS hl
abbrev wO5 (i j : Nat) : fz_W := [(10, zo 5 1 (fun _ => [zR 11 0, zR 12 0, zR 13 0, zI 0, zI 0, zI 0, zI 0])), (11, zq 3 1 40 (aqF 14 i)), (12, zq 4 1 90 (aqF 15 j)), (13, zi 0 1 80 (fun _ _ => 0)), (14, zo 4 i (fun _ => dfX4)), (15, zo 7 j (fun _ => dfX7))]
theorem lX5_init_1 {G0 : fz_G} {E0 : Nat → fz_E} {Z : List Frame → Array Value → State → State → Prop} (hE0 : fz_nE kX5 E0)
    (kk : ∀ G, fz_ex kX5 G0 G → fz_J G mX5_init rX5_init Z E0 (3 + 40) (210 + 6 * 40) 57 [(1, zI (nI 40)), (0, zR 10 0)] [] (wO5 40 0)) :
    ∀ q i, i + q = 40 → ∀ G, fz_ex kX5 G0 G → fz_J G mX5_init rX5_init Z E0 (3 + i) (210 + 6 * i) 32 [(1, zI (nI i)), (0, zR 10 0)] [] (wO5 i 0) := by
  intro q
  induction q with
  | zero =>
    intro i hi G hx
    have e : i = 40 := by omega
    subst e
    refine fz_iload_n dX5_init_32 rfl ?_
    refine fz_bipush (v := nI 40) dX5_init_33 (by decide) ?_
    refine fz_icmp_ge (tgt := 57) dX5_init_35 (by decide) (fun ct => ?_) (fun ct => ?_)
    · exact kk G hx
    · exact absurd (nI_le (Nat.le_refl _) (by omega)) ct
  | succ q ih =>
    intro i hi G hx
    refine fz_iload_n dX5_init_32 rfl ?_
    refine fz_bipush (v := nI 40) dX5_init_33 (by decide) ?_
    refine fz_icmp_ge (tgt := 57) dX5_init_35 (by decide) (fun ct => ?_) (fun ct => ?_)
    · exact absurd ((nI_leI (by omega) (by omega)).mp ct) (by omega)
    · skip
      refine fz_aload_n dX5_init_38 rfl ?_
      refine fz_get dX5_init_39 fX5_11 rfl (Nat.one_pos) rfl ?_
      refine fz_iload_n dX5_init_42 rfl ?_
      refine fz_new (k := 14) (n := i) (fun _ => dfX4) dX5_init_43 wX5_9 hx rfl hE0 ⟨fun _ _ => rfl, aq_nm (by omega), aq_nm (by omega), trivial, fun _ _ => rfl, fun _ _ => rfl, trivial⟩ rfl rfl rfl rfl (fun _ _ => rfl) rfl (by show 3 + i + 1 ≤ 133; omega) (by show 210 + 6 * i + 6 ≤ 1260; omega) (fun G hx => ?_)
      refine fz_wo (V' := [(10, zo 5 1 (fun _ => [zR 11 0, zR 12 0, zR 13 0, zI 0, zI 0, zI 0, zI 0])), (11, zq 3 1 40 (aqF 14 i)), (12, zq 4 1 90 (aqF 15 0)), (13, zi 0 1 80 (fun _ _ => 0)), (14, zo 4 (i + 1) (fun _ => dfX4)), (15, zo 7 0 (fun _ => dfX7))]) rfl ?_
      refine fz_dup dX5_init_46 rfl ?_
      refine fz_callIN (tX4_init i) dX5_init_47 kX5_27 trivial (Nat.le_of_ble_eq_true rfl) (Nat.le_of_ble_eq_true rfl) (by show 3 + i + 1 + 0 ≤ 133; omega) (by show 210 + 6 * i + 6 + 0 ≤ 1260; omega) (Nat.le_of_ble_eq_true rfl) rfl (fun r U hq => ?_)
      obtain ⟨rfl, rfl⟩ := hq
      refine fz_back rfl ?_
      refine fz_wo (V' := [(10, zo 5 1 (fun _ => [zR 11 0, zR 12 0, zR 13 0, zI 0, zI 0, zI 0, zI 0])), (11, zq 3 1 40 (aqF 14 i)), (12, zq 4 1 90 (aqF 15 0)), (13, zi 0 1 80 (fun _ _ => 0)), (14, zo 4 (i + 1) (fun _ => dfX4)), (15, zo 7 0 (fun _ => dfX7))]) rfl ?_
      refine fz_aast (aqF 14 (i + 1)) dX5_init_50 rfl rfl rfl Nat.one_pos rfl (Nat.lt_succ_self i) (vp_in_nI (by omega) (by omega)) (aq_up (by omega)) (fun i' h1 h2 => absurd (Nat.lt_one_iff.mp h1) h2) ?_
      refine fz_wo (V' := (wO5 (i + 1) 0)) rfl ?_
      refine fz_incN dX5_init_51 rfl (Nat.le_of_ble_eq_true rfl) ?_
      refine fz_goto (tgt := 32) dX5_init_54 (by decide) ?_
      refine fz_csl (by show 3 + i + 1 + 0 = 3 + (i + 1); omega) (by show 210 + 6 * i + 6 + 0 = 210 + 6 * (i + 1); omega) ?_
      exact ih (i + 1) (by omega) G hx
theorem lX5_init_2 {G0 : fz_G} {E0 : Nat → fz_E} {Z : List Frame → Array Value → State → State → Prop} (hE0 : fz_nE kX5 E0)
    (kk : ∀ G, fz_ex kX5 G0 G → fz_J G mX5_init rX5_init Z E0 (43 + 90) (450 + 9 * 90) 84 [(1, zI (nI 90)), (0, zR 10 0)] [] (wO5 40 90)) :
    ∀ q i, i + q = 90 → ∀ G, fz_ex kX5 G0 G → fz_J G mX5_init rX5_init Z E0 (43 + i) (450 + 9 * i) 59 [(1, zI (nI i)), (0, zR 10 0)] [] (wO5 40 i) := by
  intro q
  induction q with
  | zero =>
    intro i hi G hx
    have e : i = 90 := by omega
    subst e
    refine fz_iload_n dX5_init_59 rfl ?_
    refine fz_bipush (v := nI 90) dX5_init_60 (by decide) ?_
    refine fz_icmp_ge (tgt := 84) dX5_init_62 (by decide) (fun ct => ?_) (fun ct => ?_)
    · exact kk G hx
    · exact absurd (nI_le (Nat.le_refl _) (by omega)) ct
  | succ q ih =>
    intro i hi G hx
    refine fz_iload_n dX5_init_59 rfl ?_
    refine fz_bipush (v := nI 90) dX5_init_60 (by decide) ?_
    refine fz_icmp_ge (tgt := 84) dX5_init_62 (by decide) (fun ct => ?_) (fun ct => ?_)
    · exact absurd ((nI_leI (by omega) (by omega)).mp ct) (by omega)
    · skip
      refine fz_aload_n dX5_init_65 rfl ?_
      refine fz_get dX5_init_66 fX5_19 rfl (Nat.one_pos) rfl ?_
      refine fz_iload_n dX5_init_69 rfl ?_
      refine fz_new (k := 15) (n := i) (fun _ => dfX7) dX5_init_70 wX5_17 hx rfl hE0 ⟨fun _ _ => rfl, aq_nm (by omega), aq_nm (by omega), trivial, fun _ _ => rfl, fun _ _ => rfl, trivial⟩ rfl rfl rfl rfl (fun _ _ => rfl) rfl (by show 43 + i + 1 ≤ 133; omega) (by show 450 + 9 * i + 9 ≤ 1260; omega) (fun G hx => ?_)
      refine fz_wo (V' := [(10, zo 5 1 (fun _ => [zR 11 0, zR 12 0, zR 13 0, zI 0, zI 0, zI 0, zI 0])), (11, zq 3 1 40 (aqF 14 40)), (12, zq 4 1 90 (aqF 15 i)), (13, zi 0 1 80 (fun _ _ => 0)), (14, zo 4 40 (fun _ => dfX4)), (15, zo 7 (i + 1) (fun _ => dfX7))]) rfl ?_
      refine fz_dup dX5_init_73 rfl ?_
      refine fz_callIN (tX7_init i) dX5_init_74 kX5_28 trivial (Nat.le_of_ble_eq_true rfl) (Nat.le_of_ble_eq_true rfl) (by show 43 + i + 1 + 0 ≤ 133; omega) (by show 450 + 9 * i + 9 + 0 ≤ 1260; omega) (Nat.le_of_ble_eq_true rfl) rfl (fun r U hq => ?_)
      obtain ⟨rfl, rfl⟩ := hq
      refine fz_back rfl ?_
      refine fz_wo (V' := [(10, zo 5 1 (fun _ => [zR 11 0, zR 12 0, zR 13 0, zI 0, zI 0, zI 0, zI 0])), (11, zq 3 1 40 (aqF 14 40)), (12, zq 4 1 90 (aqF 15 i)), (13, zi 0 1 80 (fun _ _ => 0)), (14, zo 4 40 (fun _ => dfX4)), (15, zo 7 (i + 1) (fun _ => dfX7))]) rfl ?_
      refine fz_aast (aqF 15 (i + 1)) dX5_init_77 rfl rfl rfl Nat.one_pos rfl (Nat.lt_succ_self i) (vp_in_nI (by omega) (by omega)) (aq_up (by omega)) (fun i' h1 h2 => absurd (Nat.lt_one_iff.mp h1) h2) ?_
      refine fz_wo (V' := (wO5 40 (i + 1))) rfl ?_
      refine fz_incN dX5_init_78 rfl (Nat.le_of_ble_eq_true rfl) ?_
      refine fz_goto (tgt := 59) dX5_init_81 (by decide) ?_
      refine fz_csl (by show 43 + i + 1 + 0 = 43 + (i + 1); omega) (by show 450 + 9 * i + 9 + 0 = 450 + 9 * (i + 1); omega) ?_
      exact ih (i + 1) (by omega) G hx
theorem cX5 {G : fz_G} : fz_TN G kX5 mX5_init rX5_init [zR 10 0] [(10, zo 5 1 (fun _ => [zN, zN, zN, zI 0, zI 0, zI 0, zI 0])), (11, zq 3 0 40 (fun _ _ => none)), (12, zq 4 0 90 (fun _ _ => none)), (13, zi 0 0 80 (fun _ _ => 0)), (14, zo 4 0 (fun _ => [zI 0, zI 0, zI 0, zI 0, zI 0, zI 0])), (15, zo 7 0 (fun _ => [zI 0, zI 0, zI 0, zI 0, zI 0, zI 0, zI 0, zI 0, zI 0]))] (fun U => U = [(10, zo 5 1 (fun _ => [zR 11 0, zR 12 0, zR 13 0, zI 0, zI 0, zI 0, zI 0])), (11, zq 3 1 40 (fun _ j => some (14, j))), (12, zq 4 1 90 (fun _ j => some (15, j))), (13, zi 0 1 80 (fun _ _ => 0)), (14, zo 4 40 (fun _ => [zI 0, zI 0, zI 0, zI 0, zI 0, zI 0])), (15, zo 7 90 (fun _ => [zI 0, zI 0, zI 0, zI 0, zI 0, zI 0, zI 0, zI 0, zI 0]))]) := by
  refine fz_TN.of (by decide) (Nat.le_of_ble_eq_true rfl) (fun E0 hE0 => ?_)
  have hx : fz_ex kX5 G G := fz_ex_rf
  refine fz_aload_n dX5_init_0 rfl ?_
  refine fz_objInit dX5_init_1 oX5_3 (Nat.le_of_ble_eq_true rfl) (Nat.le_of_ble_eq_true rfl) ?_
  refine fz_aload_n dX5_init_4 rfl ?_
  refine fz_bipush (v := nI 40) dX5_init_5 (by decide) ?_
  refine fz_newq (k := 11) (n := 0) (t := 3) (len := 40) (fun _ _ => none) dX5_init_7 rfl cX5_9 a_oX4 hx rfl hE0 (by repeat' (first | exact trivial | exact (fun _ _ => rfl) | exact (fun _ _ _ _ h => by cases h <;> rfl) | exact (fun i (hi : i < 2) => by rcases (show i = 0 ∨ i = 1 by omega) with rfl | rfl <;> rfl) | refine And.intro ?_ ?_)) rfl rfl rfl rfl (fun _ _ => rfl) (nI_pos (by omega)) (nI_clamp (by omega)) (by decide) (Nat.le_of_ble_eq_true rfl) (Nat.le_of_ble_eq_true rfl) (fun G hx => ?_)
  refine fz_wo (V' := [(10, zo 5 1 (fun _ => [zN, zN, zN, zI 0, zI 0, zI 0, zI 0])), (11, zq 3 1 40 (fun _ _ => none)), (12, zq 4 0 90 (fun _ _ => none)), (13, zi 0 0 80 (fun _ _ => 0)), (14, zo 4 0 (fun _ => [zI 0, zI 0, zI 0, zI 0, zI 0, zI 0])), (15, zo 7 0 (fun _ => [zI 0, zI 0, zI 0, zI 0, zI 0, zI 0, zI 0, zI 0, zI 0]))]) rfl ?_
  refine fz_putF dX5_init_10 fX5_11 rfl rfl rfl (Nat.le_of_ble_eq_true rfl) ⟨rfl, rfl⟩ ?_
  refine fz_wo (V' := [(10, zo 5 1 (fun _ => [zR 11 0, zN, zN, zI 0, zI 0, zI 0, zI 0])), (11, zq 3 1 40 (fun _ _ => none)), (12, zq 4 0 90 (fun _ _ => none)), (13, zi 0 0 80 (fun _ _ => 0)), (14, zo 4 0 (fun _ => [zI 0, zI 0, zI 0, zI 0, zI 0, zI 0])), (15, zo 7 0 (fun _ => [zI 0, zI 0, zI 0, zI 0, zI 0, zI 0, zI 0, zI 0, zI 0]))]) rfl ?_
  refine fz_aload_n dX5_init_13 rfl ?_
  refine fz_bipush (v := nI 90) dX5_init_14 (by decide) ?_
  refine fz_newq (k := 12) (n := 0) (t := 4) (len := 90) (fun _ _ => none) dX5_init_16 rfl cX5_17 a_oX7 hx rfl hE0 (by repeat' (first | exact trivial | exact (fun _ _ => rfl) | exact (fun _ _ _ _ h => by cases h <;> rfl) | exact (fun i (hi : i < 2) => by rcases (show i = 0 ∨ i = 1 by omega) with rfl | rfl <;> rfl) | refine And.intro ?_ ?_)) rfl rfl rfl rfl (fun _ _ => rfl) (nI_pos (by omega)) (nI_clamp (by omega)) (by decide) (Nat.le_of_ble_eq_true rfl) (Nat.le_of_ble_eq_true rfl) (fun G hx => ?_)
  refine fz_wo (V' := [(10, zo 5 1 (fun _ => [zR 11 0, zN, zN, zI 0, zI 0, zI 0, zI 0])), (11, zq 3 1 40 (fun _ _ => none)), (12, zq 4 1 90 (fun _ _ => none)), (13, zi 0 0 80 (fun _ _ => 0)), (14, zo 4 0 (fun _ => [zI 0, zI 0, zI 0, zI 0, zI 0, zI 0])), (15, zo 7 0 (fun _ => [zI 0, zI 0, zI 0, zI 0, zI 0, zI 0, zI 0, zI 0, zI 0]))]) rfl ?_
  refine fz_putF dX5_init_19 fX5_19 rfl rfl rfl (Nat.le_of_ble_eq_true rfl) ⟨rfl, rfl⟩ ?_
  refine fz_wo (V' := [(10, zo 5 1 (fun _ => [zR 11 0, zR 12 0, zN, zI 0, zI 0, zI 0, zI 0])), (11, zq 3 1 40 (fun _ _ => none)), (12, zq 4 1 90 (fun _ _ => none)), (13, zi 0 0 80 (fun _ _ => 0)), (14, zo 4 0 (fun _ => [zI 0, zI 0, zI 0, zI 0, zI 0, zI 0])), (15, zo 7 0 (fun _ => [zI 0, zI 0, zI 0, zI 0, zI 0, zI 0, zI 0, zI 0, zI 0]))]) rfl ?_
  refine fz_aload_n dX5_init_22 rfl ?_
  refine fz_bipush (v := nI 80) dX5_init_23 (by decide) ?_
  refine fz_newi (k := 13) (n := 0) (t := 0) (len := 80) (fun _ _ => 0) dX5_init_25 rfl a_int rfl hx rfl hE0 (by repeat' (first | exact trivial | exact (fun _ _ => rfl) | exact (fun _ _ _ _ h => by cases h <;> rfl) | exact (fun i (hi : i < 2) => by rcases (show i = 0 ∨ i = 1 by omega) with rfl | rfl <;> rfl) | refine And.intro ?_ ?_)) rfl rfl rfl rfl (fun _ _ => rfl) (nI_pos (by omega)) (nI_clamp (by omega)) (by decide) (Nat.le_of_ble_eq_true rfl) (Nat.le_of_ble_eq_true rfl) (fun G hx => ?_)
  refine fz_wo (V' := [(10, zo 5 1 (fun _ => [zR 11 0, zR 12 0, zN, zI 0, zI 0, zI 0, zI 0])), (11, zq 3 1 40 (fun _ _ => none)), (12, zq 4 1 90 (fun _ _ => none)), (13, zi 0 1 80 (fun _ _ => 0)), (14, zo 4 0 (fun _ => [zI 0, zI 0, zI 0, zI 0, zI 0, zI 0])), (15, zo 7 0 (fun _ => [zI 0, zI 0, zI 0, zI 0, zI 0, zI 0, zI 0, zI 0, zI 0]))]) rfl ?_
  refine fz_putF dX5_init_27 fX5_23 rfl rfl rfl (Nat.le_of_ble_eq_true rfl) ⟨rfl, rfl⟩ ?_
  refine fz_wo (V' := [(10, zo 5 1 (fun _ => [zR 11 0, zR 12 0, zR 13 0, zI 0, zI 0, zI 0, zI 0])), (11, zq 3 1 40 (fun _ _ => none)), (12, zq 4 1 90 (fun _ _ => none)), (13, zi 0 1 80 (fun _ _ => 0)), (14, zo 4 0 (fun _ => [zI 0, zI 0, zI 0, zI 0, zI 0, zI 0])), (15, zo 7 0 (fun _ => [zI 0, zI 0, zI 0, zI 0, zI 0, zI 0, zI 0, zI 0, zI 0]))]) rfl ?_
  refine fz_iconst (v := nI 0) dX5_init_30 (by decide) ?_
  refine fz_istore_n dX5_init_31 (Nat.le_of_ble_eq_true rfl) ?_
  refine fz_wo (V' := wO5 0 0) (by show _ = ([(10, _), (11, zq 3 1 40 (aqF 14 0)), (12, zq 4 1 90 (aqF 15 0)), _, _, _] : fz_W); rw [aqF_0, aqF_0]) ?_
  refine fz_csl (cs' := 3 + 0) (sl' := 210 + 6 * 0) rfl rfl ?_
  refine lX5_init_1 hE0 (fun G hx => ?_) 40 0 rfl _ hx
  refine fz_iconst (v := nI 0) dX5_init_57 (by decide) ?_
  refine fz_istore_n dX5_init_58 (Nat.le_of_ble_eq_true rfl) ?_
  refine fz_csl (cs' := 43 + 0) (sl' := 450 + 9 * 0) rfl rfl ?_
  refine lX5_init_2 hE0 (fun G hx => ?_) 90 0 rfl _ hx
  refine fz_woq (k := 11) (fun _ j => some (14, j)) rfl (fun j hj => if_pos hj) ?_
  refine fz_woq (k := 12) (fun _ j => some (15, j)) rfl (fun j hj => if_pos hj) ?_
  exact fz_vretN dX5_init_84 rfl hx (Nat.le_of_ble_eq_true rfl) (Nat.le_of_ble_eq_true rfl) rfl
