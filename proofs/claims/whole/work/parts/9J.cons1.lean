/-! CONSTRUCTORS. Printed by our own program (cons.py). -/
theorem cX1_0 {G : fz_G} : fz_TN G (kX1 0) mX1_init rX1_init [zR 2 0] [(2, zo 1 1 (fun _ => [zN, zN, zN, zN, zN, zI 0, zI 0])), (3, zi 0 0 5 (fun _ _ => 0)), (4, zl 1 0 10 (fun _ _ => 0)), (5, zi 0 0 80 (fun _ _ => 0)), (6, zi 0 0 80 (fun _ _ => 0)), (7, zi 0 0 80 (fun _ _ => 0))] (fun U => U = [(2, zo 1 1 (fun _ => [zR 3 0, zR 4 0, zR 5 0, zR 6 0, zR 7 0, zI 0, zI 0])), (3, zi 0 1 5 (fun _ _ => 0)), (4, zl 1 1 10 (fun _ _ => 0)), (5, zi 0 1 80 (fun _ _ => 0)), (6, zi 0 1 80 (fun _ _ => 0)), (7, zi 0 1 80 (fun _ _ => 0))]) := by
  refine fz_TN.of (by decide) (Nat.le_of_ble_eq_true rfl) (fun E0 hE0 => ?_)
  have hx : fz_ex (kX1 0) G G := fz_ex_rf
  refine fz_aload_n dX1_init_0 rfl ?_
  refine fz_objInit dX1_init_1 oX1_3 (Nat.le_of_ble_eq_true rfl) (Nat.le_of_ble_eq_true rfl) ?_
  refine fz_aload_n dX1_init_4 rfl ?_
  refine fz_iconst (v := nI 5) dX1_init_5 (by decide) ?_
  refine fz_newi (k := 3) (n := 0) (t := 0) (len := 5) (fun _ _ => 0) dX1_init_6 rfl a_int rfl hx rfl hE0 (by repeat' (first | exact trivial | exact (fun _ _ => rfl) | exact (fun _ _ _ _ h => by cases h <;> rfl) | exact (fun i (hi : i < 2) => by rcases (show i = 0 ∨ i = 1 by omega) with rfl | rfl <;> rfl) | refine And.intro ?_ ?_)) rfl rfl rfl rfl (fun _ _ => rfl) (nI_pos (by omega)) (nI_clamp (by omega)) (by decide) (Nat.le_of_ble_eq_true rfl) (Nat.le_of_ble_eq_true rfl) (fun G hx => ?_)
  refine fz_wo (V' := [(2, zo 1 1 (fun _ => [zN, zN, zN, zN, zN, zI 0, zI 0])), (3, zi 0 1 5 (fun _ _ => 0)), (4, zl 1 0 10 (fun _ _ => 0)), (5, zi 0 0 80 (fun _ _ => 0)), (6, zi 0 0 80 (fun _ _ => 0)), (7, zi 0 0 80 (fun _ _ => 0))]) rfl ?_
  refine fz_putF dX1_init_8 fX1_9 rfl rfl rfl (Nat.le_of_ble_eq_true rfl) ⟨rfl, rfl⟩ ?_
  refine fz_wo (V' := [(2, zo 1 1 (fun _ => [zR 3 0, zN, zN, zN, zN, zI 0, zI 0])), (3, zi 0 1 5 (fun _ _ => 0)), (4, zl 1 0 10 (fun _ _ => 0)), (5, zi 0 0 80 (fun _ _ => 0)), (6, zi 0 0 80 (fun _ _ => 0)), (7, zi 0 0 80 (fun _ _ => 0))]) rfl ?_
  refine fz_aload_n dX1_init_11 rfl ?_
  refine fz_bipush (v := nI 10) dX1_init_12 (by decide) ?_
  refine fz_newl (k := 4) (n := 0) (t := 1) (len := 10) (fun _ _ => 0) dX1_init_14 rfl a_long rfl hx rfl hE0 (by repeat' (first | exact trivial | exact (fun _ _ => rfl) | exact (fun _ _ _ _ h => by cases h <;> rfl) | exact (fun i (hi : i < 2) => by rcases (show i = 0 ∨ i = 1 by omega) with rfl | rfl <;> rfl) | refine And.intro ?_ ?_)) rfl rfl rfl rfl (fun _ _ => rfl) (nI_pos (by omega)) (nI_clamp (by omega)) (by decide) (Nat.le_of_ble_eq_true rfl) (Nat.le_of_ble_eq_true rfl) (fun G hx => ?_)
  refine fz_wo (V' := [(2, zo 1 1 (fun _ => [zR 3 0, zN, zN, zN, zN, zI 0, zI 0])), (3, zi 0 1 5 (fun _ _ => 0)), (4, zl 1 1 10 (fun _ _ => 0)), (5, zi 0 0 80 (fun _ _ => 0)), (6, zi 0 0 80 (fun _ _ => 0)), (7, zi 0 0 80 (fun _ _ => 0))]) rfl ?_
  refine fz_putF dX1_init_16 fX1_15 rfl rfl rfl (Nat.le_of_ble_eq_true rfl) ⟨rfl, rfl⟩ ?_
  refine fz_wo (V' := [(2, zo 1 1 (fun _ => [zR 3 0, zR 4 0, zN, zN, zN, zI 0, zI 0])), (3, zi 0 1 5 (fun _ _ => 0)), (4, zl 1 1 10 (fun _ _ => 0)), (5, zi 0 0 80 (fun _ _ => 0)), (6, zi 0 0 80 (fun _ _ => 0)), (7, zi 0 0 80 (fun _ _ => 0))]) rfl ?_
  refine fz_aload_n dX1_init_19 rfl ?_
  refine fz_bipush (v := nI 80) dX1_init_20 (by decide) ?_
  refine fz_newi (k := 5) (n := 0) (t := 0) (len := 80) (fun _ _ => 0) dX1_init_22 rfl a_int rfl hx rfl hE0 (by repeat' (first | exact trivial | exact (fun _ _ => rfl) | exact (fun _ _ _ _ h => by cases h <;> rfl) | exact (fun i (hi : i < 2) => by rcases (show i = 0 ∨ i = 1 by omega) with rfl | rfl <;> rfl) | refine And.intro ?_ ?_)) rfl rfl rfl rfl (fun _ _ => rfl) (nI_pos (by omega)) (nI_clamp (by omega)) (by decide) (Nat.le_of_ble_eq_true rfl) (Nat.le_of_ble_eq_true rfl) (fun G hx => ?_)
  refine fz_wo (V' := [(2, zo 1 1 (fun _ => [zR 3 0, zR 4 0, zN, zN, zN, zI 0, zI 0])), (3, zi 0 1 5 (fun _ _ => 0)), (4, zl 1 1 10 (fun _ _ => 0)), (5, zi 0 1 80 (fun _ _ => 0)), (6, zi 0 0 80 (fun _ _ => 0)), (7, zi 0 0 80 (fun _ _ => 0))]) rfl ?_
  refine fz_putF dX1_init_24 fX1_19 rfl rfl rfl (Nat.le_of_ble_eq_true rfl) ⟨rfl, rfl⟩ ?_
  refine fz_wo (V' := [(2, zo 1 1 (fun _ => [zR 3 0, zR 4 0, zR 5 0, zN, zN, zI 0, zI 0])), (3, zi 0 1 5 (fun _ _ => 0)), (4, zl 1 1 10 (fun _ _ => 0)), (5, zi 0 1 80 (fun _ _ => 0)), (6, zi 0 0 80 (fun _ _ => 0)), (7, zi 0 0 80 (fun _ _ => 0))]) rfl ?_
  refine fz_aload_n dX1_init_27 rfl ?_
  refine fz_bipush (v := nI 80) dX1_init_28 (by decide) ?_
  refine fz_newi (k := 6) (n := 0) (t := 0) (len := 80) (fun _ _ => 0) dX1_init_30 rfl a_int rfl hx rfl hE0 (by repeat' (first | exact trivial | exact (fun _ _ => rfl) | exact (fun _ _ _ _ h => by cases h <;> rfl) | exact (fun i (hi : i < 2) => by rcases (show i = 0 ∨ i = 1 by omega) with rfl | rfl <;> rfl) | refine And.intro ?_ ?_)) rfl rfl rfl rfl (fun _ _ => rfl) (nI_pos (by omega)) (nI_clamp (by omega)) (by decide) (Nat.le_of_ble_eq_true rfl) (Nat.le_of_ble_eq_true rfl) (fun G hx => ?_)
  refine fz_wo (V' := [(2, zo 1 1 (fun _ => [zR 3 0, zR 4 0, zR 5 0, zN, zN, zI 0, zI 0])), (3, zi 0 1 5 (fun _ _ => 0)), (4, zl 1 1 10 (fun _ _ => 0)), (5, zi 0 1 80 (fun _ _ => 0)), (6, zi 0 1 80 (fun _ _ => 0)), (7, zi 0 0 80 (fun _ _ => 0))]) rfl ?_
  refine fz_putF dX1_init_32 fX1_22 rfl rfl rfl (Nat.le_of_ble_eq_true rfl) ⟨rfl, rfl⟩ ?_
  refine fz_wo (V' := [(2, zo 1 1 (fun _ => [zR 3 0, zR 4 0, zR 5 0, zR 6 0, zN, zI 0, zI 0])), (3, zi 0 1 5 (fun _ _ => 0)), (4, zl 1 1 10 (fun _ _ => 0)), (5, zi 0 1 80 (fun _ _ => 0)), (6, zi 0 1 80 (fun _ _ => 0)), (7, zi 0 0 80 (fun _ _ => 0))]) rfl ?_
  refine fz_aload_n dX1_init_35 rfl ?_
  refine fz_bipush (v := nI 80) dX1_init_36 (by decide) ?_
  refine fz_newi (k := 7) (n := 0) (t := 0) (len := 80) (fun _ _ => 0) dX1_init_38 rfl a_int rfl hx rfl hE0 (by repeat' (first | exact trivial | exact (fun _ _ => rfl) | exact (fun _ _ _ _ h => by cases h <;> rfl) | exact (fun i (hi : i < 2) => by rcases (show i = 0 ∨ i = 1 by omega) with rfl | rfl <;> rfl) | refine And.intro ?_ ?_)) rfl rfl rfl rfl (fun _ _ => rfl) (nI_pos (by omega)) (nI_clamp (by omega)) (by decide) (Nat.le_of_ble_eq_true rfl) (Nat.le_of_ble_eq_true rfl) (fun G hx => ?_)
  refine fz_wo (V' := [(2, zo 1 1 (fun _ => [zR 3 0, zR 4 0, zR 5 0, zR 6 0, zN, zI 0, zI 0])), (3, zi 0 1 5 (fun _ _ => 0)), (4, zl 1 1 10 (fun _ _ => 0)), (5, zi 0 1 80 (fun _ _ => 0)), (6, zi 0 1 80 (fun _ _ => 0)), (7, zi 0 1 80 (fun _ _ => 0))]) rfl ?_
  refine fz_putF dX1_init_40 fX1_25 rfl rfl rfl (Nat.le_of_ble_eq_true rfl) ⟨rfl, rfl⟩ ?_
  refine fz_wo (V' := [(2, zo 1 1 (fun _ => [zR 3 0, zR 4 0, zR 5 0, zR 6 0, zR 7 0, zI 0, zI 0])), (3, zi 0 1 5 (fun _ _ => 0)), (4, zl 1 1 10 (fun _ _ => 0)), (5, zi 0 1 80 (fun _ _ => 0)), (6, zi 0 1 80 (fun _ _ => 0)), (7, zi 0 1 80 (fun _ _ => 0))]) rfl ?_
  exact fz_vretN dX1_init_43 rfl hx (Nat.le_of_ble_eq_true rfl) (Nat.le_of_ble_eq_true rfl) rfl
theorem cX1_1 {G : fz_G} : fz_TN G (kX1 1) mX1_init rX1_init [zR 2 1] [(2, zo 1 2 (fun g => if g = 1 then [zN, zN, zN, zN, zN, zI 0, zI 0] else [zR 3 g, zR 4 g, zR 5 g, zR 6 g, zR 7 g, zI 0, zI 0])), (3, zi 0 1 5 (fun _ _ => 0)), (4, zl 1 1 10 (fun _ _ => 0)), (5, zi 0 1 80 (fun _ _ => 0)), (6, zi 0 1 80 (fun _ _ => 0)), (7, zi 0 1 80 (fun _ _ => 0))] (fun U => U = [(2, zo 1 2 (fun g => if g = 1 then [zR 3 1, zR 4 1, zR 5 1, zR 6 1, zR 7 1, zI 0, zI 0] else [zR 3 g, zR 4 g, zR 5 g, zR 6 g, zR 7 g, zI 0, zI 0])), (3, zi 0 2 5 (fun _ _ => 0)), (4, zl 1 2 10 (fun _ _ => 0)), (5, zi 0 2 80 (fun _ _ => 0)), (6, zi 0 2 80 (fun _ _ => 0)), (7, zi 0 2 80 (fun _ _ => 0))]) := by
  refine fz_TN.of (by decide) (Nat.le_of_ble_eq_true rfl) (fun E0 hE0 => ?_)
  have hx : fz_ex (kX1 1) G G := fz_ex_rf
  refine fz_aload_n dX1_init_0 rfl ?_
  refine fz_objInit dX1_init_1 oX1_3 (Nat.le_of_ble_eq_true rfl) (Nat.le_of_ble_eq_true rfl) ?_
  refine fz_aload_n dX1_init_4 rfl ?_
  refine fz_iconst (v := nI 5) dX1_init_5 (by decide) ?_
  refine fz_newi (k := 3) (n := 1) (t := 0) (len := 5) (fun _ _ => 0) dX1_init_6 rfl a_int rfl hx rfl hE0 (by repeat' (first | exact trivial | exact (fun _ _ => rfl) | exact (fun _ _ _ _ h => by cases h <;> rfl) | exact (fun i (hi : i < 2) => by rcases (show i = 0 ∨ i = 1 by omega) with rfl | rfl <;> rfl) | refine And.intro ?_ ?_)) rfl rfl rfl rfl (fun _ _ => rfl) (nI_pos (by omega)) (nI_clamp (by omega)) (by decide) (Nat.le_of_ble_eq_true rfl) (Nat.le_of_ble_eq_true rfl) (fun G hx => ?_)
  refine fz_wo (V' := [(2, zo 1 2 (fun g => if g = 1 then [zN, zN, zN, zN, zN, zI 0, zI 0] else [zR 3 g, zR 4 g, zR 5 g, zR 6 g, zR 7 g, zI 0, zI 0])), (3, zi 0 2 5 (fun _ _ => 0)), (4, zl 1 1 10 (fun _ _ => 0)), (5, zi 0 1 80 (fun _ _ => 0)), (6, zi 0 1 80 (fun _ _ => 0)), (7, zi 0 1 80 (fun _ _ => 0))]) rfl ?_
  refine fz_putFg (i0 := 1) (fun g => if g = 1 then [zR 3 1, zN, zN, zN, zN, zI 0, zI 0] else [zR 3 g, zR 4 g, zR 5 g, zR 6 g, zR 7 g, zI 0, zI 0]) dX1_init_8 fX1_9 rfl rfl rfl (by omega) (Nat.le_of_ble_eq_true rfl) ⟨rfl, rfl⟩ rfl (fun i h1 h2 => by have e : i = 0 := (by omega); subst e; rfl) ?_
  refine fz_wo (V' := [(2, zo 1 2 (fun g => if g = 1 then [zR 3 1, zN, zN, zN, zN, zI 0, zI 0] else [zR 3 g, zR 4 g, zR 5 g, zR 6 g, zR 7 g, zI 0, zI 0])), (3, zi 0 2 5 (fun _ _ => 0)), (4, zl 1 1 10 (fun _ _ => 0)), (5, zi 0 1 80 (fun _ _ => 0)), (6, zi 0 1 80 (fun _ _ => 0)), (7, zi 0 1 80 (fun _ _ => 0))]) rfl ?_
  refine fz_aload_n dX1_init_11 rfl ?_
  refine fz_bipush (v := nI 10) dX1_init_12 (by decide) ?_
  refine fz_newl (k := 4) (n := 1) (t := 1) (len := 10) (fun _ _ => 0) dX1_init_14 rfl a_long rfl hx rfl hE0 (by repeat' (first | exact trivial | exact (fun _ _ => rfl) | exact (fun _ _ _ _ h => by cases h <;> rfl) | exact (fun i (hi : i < 2) => by rcases (show i = 0 ∨ i = 1 by omega) with rfl | rfl <;> rfl) | refine And.intro ?_ ?_)) rfl rfl rfl rfl (fun _ _ => rfl) (nI_pos (by omega)) (nI_clamp (by omega)) (by decide) (Nat.le_of_ble_eq_true rfl) (Nat.le_of_ble_eq_true rfl) (fun G hx => ?_)
  refine fz_wo (V' := [(2, zo 1 2 (fun g => if g = 1 then [zR 3 1, zN, zN, zN, zN, zI 0, zI 0] else [zR 3 g, zR 4 g, zR 5 g, zR 6 g, zR 7 g, zI 0, zI 0])), (3, zi 0 2 5 (fun _ _ => 0)), (4, zl 1 2 10 (fun _ _ => 0)), (5, zi 0 1 80 (fun _ _ => 0)), (6, zi 0 1 80 (fun _ _ => 0)), (7, zi 0 1 80 (fun _ _ => 0))]) rfl ?_
  refine fz_putFg (i0 := 1) (fun g => if g = 1 then [zR 3 1, zR 4 1, zN, zN, zN, zI 0, zI 0] else [zR 3 g, zR 4 g, zR 5 g, zR 6 g, zR 7 g, zI 0, zI 0]) dX1_init_16 fX1_15 rfl rfl rfl (by omega) (Nat.le_of_ble_eq_true rfl) ⟨rfl, rfl⟩ rfl (fun i h1 h2 => by have e : i = 0 := (by omega); subst e; rfl) ?_
  refine fz_wo (V' := [(2, zo 1 2 (fun g => if g = 1 then [zR 3 1, zR 4 1, zN, zN, zN, zI 0, zI 0] else [zR 3 g, zR 4 g, zR 5 g, zR 6 g, zR 7 g, zI 0, zI 0])), (3, zi 0 2 5 (fun _ _ => 0)), (4, zl 1 2 10 (fun _ _ => 0)), (5, zi 0 1 80 (fun _ _ => 0)), (6, zi 0 1 80 (fun _ _ => 0)), (7, zi 0 1 80 (fun _ _ => 0))]) rfl ?_
  refine fz_aload_n dX1_init_19 rfl ?_
  refine fz_bipush (v := nI 80) dX1_init_20 (by decide) ?_
  refine fz_newi (k := 5) (n := 1) (t := 0) (len := 80) (fun _ _ => 0) dX1_init_22 rfl a_int rfl hx rfl hE0 (by repeat' (first | exact trivial | exact (fun _ _ => rfl) | exact (fun _ _ _ _ h => by cases h <;> rfl) | exact (fun i (hi : i < 2) => by rcases (show i = 0 ∨ i = 1 by omega) with rfl | rfl <;> rfl) | refine And.intro ?_ ?_)) rfl rfl rfl rfl (fun _ _ => rfl) (nI_pos (by omega)) (nI_clamp (by omega)) (by decide) (Nat.le_of_ble_eq_true rfl) (Nat.le_of_ble_eq_true rfl) (fun G hx => ?_)
  refine fz_wo (V' := [(2, zo 1 2 (fun g => if g = 1 then [zR 3 1, zR 4 1, zN, zN, zN, zI 0, zI 0] else [zR 3 g, zR 4 g, zR 5 g, zR 6 g, zR 7 g, zI 0, zI 0])), (3, zi 0 2 5 (fun _ _ => 0)), (4, zl 1 2 10 (fun _ _ => 0)), (5, zi 0 2 80 (fun _ _ => 0)), (6, zi 0 1 80 (fun _ _ => 0)), (7, zi 0 1 80 (fun _ _ => 0))]) rfl ?_
  refine fz_putFg (i0 := 1) (fun g => if g = 1 then [zR 3 1, zR 4 1, zR 5 1, zN, zN, zI 0, zI 0] else [zR 3 g, zR 4 g, zR 5 g, zR 6 g, zR 7 g, zI 0, zI 0]) dX1_init_24 fX1_19 rfl rfl rfl (by omega) (Nat.le_of_ble_eq_true rfl) ⟨rfl, rfl⟩ rfl (fun i h1 h2 => by have e : i = 0 := (by omega); subst e; rfl) ?_
  refine fz_wo (V' := [(2, zo 1 2 (fun g => if g = 1 then [zR 3 1, zR 4 1, zR 5 1, zN, zN, zI 0, zI 0] else [zR 3 g, zR 4 g, zR 5 g, zR 6 g, zR 7 g, zI 0, zI 0])), (3, zi 0 2 5 (fun _ _ => 0)), (4, zl 1 2 10 (fun _ _ => 0)), (5, zi 0 2 80 (fun _ _ => 0)), (6, zi 0 1 80 (fun _ _ => 0)), (7, zi 0 1 80 (fun _ _ => 0))]) rfl ?_
  refine fz_aload_n dX1_init_27 rfl ?_
  refine fz_bipush (v := nI 80) dX1_init_28 (by decide) ?_
  refine fz_newi (k := 6) (n := 1) (t := 0) (len := 80) (fun _ _ => 0) dX1_init_30 rfl a_int rfl hx rfl hE0 (by repeat' (first | exact trivial | exact (fun _ _ => rfl) | exact (fun _ _ _ _ h => by cases h <;> rfl) | exact (fun i (hi : i < 2) => by rcases (show i = 0 ∨ i = 1 by omega) with rfl | rfl <;> rfl) | refine And.intro ?_ ?_)) rfl rfl rfl rfl (fun _ _ => rfl) (nI_pos (by omega)) (nI_clamp (by omega)) (by decide) (Nat.le_of_ble_eq_true rfl) (Nat.le_of_ble_eq_true rfl) (fun G hx => ?_)
  refine fz_wo (V' := [(2, zo 1 2 (fun g => if g = 1 then [zR 3 1, zR 4 1, zR 5 1, zN, zN, zI 0, zI 0] else [zR 3 g, zR 4 g, zR 5 g, zR 6 g, zR 7 g, zI 0, zI 0])), (3, zi 0 2 5 (fun _ _ => 0)), (4, zl 1 2 10 (fun _ _ => 0)), (5, zi 0 2 80 (fun _ _ => 0)), (6, zi 0 2 80 (fun _ _ => 0)), (7, zi 0 1 80 (fun _ _ => 0))]) rfl ?_
  refine fz_putFg (i0 := 1) (fun g => if g = 1 then [zR 3 1, zR 4 1, zR 5 1, zR 6 1, zN, zI 0, zI 0] else [zR 3 g, zR 4 g, zR 5 g, zR 6 g, zR 7 g, zI 0, zI 0]) dX1_init_32 fX1_22 rfl rfl rfl (by omega) (Nat.le_of_ble_eq_true rfl) ⟨rfl, rfl⟩ rfl (fun i h1 h2 => by have e : i = 0 := (by omega); subst e; rfl) ?_
  refine fz_wo (V' := [(2, zo 1 2 (fun g => if g = 1 then [zR 3 1, zR 4 1, zR 5 1, zR 6 1, zN, zI 0, zI 0] else [zR 3 g, zR 4 g, zR 5 g, zR 6 g, zR 7 g, zI 0, zI 0])), (3, zi 0 2 5 (fun _ _ => 0)), (4, zl 1 2 10 (fun _ _ => 0)), (5, zi 0 2 80 (fun _ _ => 0)), (6, zi 0 2 80 (fun _ _ => 0)), (7, zi 0 1 80 (fun _ _ => 0))]) rfl ?_
  refine fz_aload_n dX1_init_35 rfl ?_
  refine fz_bipush (v := nI 80) dX1_init_36 (by decide) ?_
  refine fz_newi (k := 7) (n := 1) (t := 0) (len := 80) (fun _ _ => 0) dX1_init_38 rfl a_int rfl hx rfl hE0 (by repeat' (first | exact trivial | exact (fun _ _ => rfl) | exact (fun _ _ _ _ h => by cases h <;> rfl) | exact (fun i (hi : i < 2) => by rcases (show i = 0 ∨ i = 1 by omega) with rfl | rfl <;> rfl) | refine And.intro ?_ ?_)) rfl rfl rfl rfl (fun _ _ => rfl) (nI_pos (by omega)) (nI_clamp (by omega)) (by decide) (Nat.le_of_ble_eq_true rfl) (Nat.le_of_ble_eq_true rfl) (fun G hx => ?_)
  refine fz_wo (V' := [(2, zo 1 2 (fun g => if g = 1 then [zR 3 1, zR 4 1, zR 5 1, zR 6 1, zN, zI 0, zI 0] else [zR 3 g, zR 4 g, zR 5 g, zR 6 g, zR 7 g, zI 0, zI 0])), (3, zi 0 2 5 (fun _ _ => 0)), (4, zl 1 2 10 (fun _ _ => 0)), (5, zi 0 2 80 (fun _ _ => 0)), (6, zi 0 2 80 (fun _ _ => 0)), (7, zi 0 2 80 (fun _ _ => 0))]) rfl ?_
  refine fz_putFg (i0 := 1) (fun g => if g = 1 then [zR 3 1, zR 4 1, zR 5 1, zR 6 1, zR 7 1, zI 0, zI 0] else [zR 3 g, zR 4 g, zR 5 g, zR 6 g, zR 7 g, zI 0, zI 0]) dX1_init_40 fX1_25 rfl rfl rfl (by omega) (Nat.le_of_ble_eq_true rfl) ⟨rfl, rfl⟩ rfl (fun i h1 h2 => by have e : i = 0 := (by omega); subst e; rfl) ?_
  refine fz_wo (V' := [(2, zo 1 2 (fun g => if g = 1 then [zR 3 1, zR 4 1, zR 5 1, zR 6 1, zR 7 1, zI 0, zI 0] else [zR 3 g, zR 4 g, zR 5 g, zR 6 g, zR 7 g, zI 0, zI 0])), (3, zi 0 2 5 (fun _ _ => 0)), (4, zl 1 2 10 (fun _ _ => 0)), (5, zi 0 2 80 (fun _ _ => 0)), (6, zi 0 2 80 (fun _ _ => 0)), (7, zi 0 2 80 (fun _ _ => 0))]) rfl ?_
  exact fz_vretN dX1_init_43 rfl hx (Nat.le_of_ble_eq_true rfl) (Nat.le_of_ble_eq_true rfl) rfl
theorem cX2 {G : fz_G} : fz_TN G kX2 mX2_init rX2_init [zR 8 0] [(8, zo 2 1 (fun _ => [zN, zI 0, zI 0, zI 0, zI 0, zI 0])), (9, zi 0 0 90 (fun _ _ => 0))] (fun U => U = [(8, zo 2 1 (fun _ => [zR 9 0, zI 0, zI 0, zI 0, zI 0, zI 0])), (9, zi 0 1 90 (fun _ _ => 0))]) := by
  refine fz_TN.of (by decide) (Nat.le_of_ble_eq_true rfl) (fun E0 hE0 => ?_)
  have hx : fz_ex kX2 G G := fz_ex_rf
  refine fz_aload_n dX2_init_0 rfl ?_
  refine fz_objInit dX2_init_1 oX2_3 (Nat.le_of_ble_eq_true rfl) (Nat.le_of_ble_eq_true rfl) ?_
  refine fz_aload_n dX2_init_4 rfl ?_
  refine fz_bipush (v := nI 90) dX2_init_5 (by decide) ?_
  refine fz_newi (k := 9) (n := 0) (t := 0) (len := 90) (fun _ _ => 0) dX2_init_7 rfl a_int rfl hx rfl hE0 (by repeat' (first | exact trivial | exact (fun _ _ => rfl) | exact (fun _ _ _ _ h => by cases h <;> rfl) | exact (fun i (hi : i < 2) => by rcases (show i = 0 ∨ i = 1 by omega) with rfl | rfl <;> rfl) | refine And.intro ?_ ?_)) rfl rfl rfl rfl (fun _ _ => rfl) (nI_pos (by omega)) (nI_clamp (by omega)) (by decide) (Nat.le_of_ble_eq_true rfl) (Nat.le_of_ble_eq_true rfl) (fun G hx => ?_)
  refine fz_wo (V' := [(8, zo 2 1 (fun _ => [zN, zI 0, zI 0, zI 0, zI 0, zI 0])), (9, zi 0 1 90 (fun _ _ => 0))]) rfl ?_
  refine fz_putF dX2_init_9 fX2_9 rfl rfl rfl (Nat.le_of_ble_eq_true rfl) ⟨rfl, rfl⟩ ?_
  refine fz_wo (V' := [(8, zo 2 1 (fun _ => [zR 9 0, zI 0, zI 0, zI 0, zI 0, zI 0])), (9, zi 0 1 90 (fun _ _ => 0))]) rfl ?_
  exact fz_vretN dX2_init_12 rfl hx (Nat.le_of_ble_eq_true rfl) (Nat.le_of_ble_eq_true rfl) rfl
theorem cX8 {G : fz_G} : fz_TN G kX8 mX8_init rX8_init [zR 19 0] [(19, zo 8 1 (fun _ => [zN, zN, zN, zN, zI 0])), (20, zl 1 0 5001 (fun _ _ => 0)), (21, zi 0 0 6 (fun _ _ => 0)), (22, zi 0 0 6 (fun _ _ => 0)), (23, zi 0 0 80 (fun _ _ => 0))] (fun U => U = [(19, zo 8 1 (fun _ => [zR 20 0, zR 21 0, zR 22 0, zR 23 0, zI 0])), (20, zl 1 1 5001 (fun _ _ => 0)), (21, zi 0 1 6 (fun _ _ => 0)), (22, zi 0 1 6 (fun _ _ => 0)), (23, zi 0 1 80 (fun _ _ => 0))]) := by
  refine fz_TN.of (by decide) (Nat.le_of_ble_eq_true rfl) (fun E0 hE0 => ?_)
  have hx : fz_ex kX8 G G := fz_ex_rf
  refine fz_aload_n dX8_init_0 rfl ?_
  refine fz_objInit dX8_init_1 oX8_3 (Nat.le_of_ble_eq_true rfl) (Nat.le_of_ble_eq_true rfl) ?_
  refine fz_aload_n dX8_init_4 rfl ?_
  refine fz_sipush (v := nI 5001) dX8_init_5 (by decide) ?_
  refine fz_newl (k := 20) (n := 0) (t := 1) (len := 5001) (fun _ _ => 0) dX8_init_8 rfl a_long rfl hx rfl hE0 (by repeat' (first | exact trivial | exact (fun _ _ => rfl) | exact (fun _ _ _ _ h => by cases h <;> rfl) | exact (fun i (hi : i < 2) => by rcases (show i = 0 ∨ i = 1 by omega) with rfl | rfl <;> rfl) | refine And.intro ?_ ?_)) rfl rfl rfl rfl (fun _ _ => rfl) (nI_pos (by omega)) (nI_clamp (by omega)) (by decide) (Nat.le_of_ble_eq_true rfl) (Nat.le_of_ble_eq_true rfl) (fun G hx => ?_)
  refine fz_wo (V' := [(19, zo 8 1 (fun _ => [zN, zN, zN, zN, zI 0])), (20, zl 1 1 5001 (fun _ _ => 0)), (21, zi 0 0 6 (fun _ _ => 0)), (22, zi 0 0 6 (fun _ _ => 0)), (23, zi 0 0 80 (fun _ _ => 0))]) rfl ?_
  refine fz_putF dX8_init_10 fX8_9 rfl rfl rfl (Nat.le_of_ble_eq_true rfl) ⟨rfl, rfl⟩ ?_
  refine fz_wo (V' := [(19, zo 8 1 (fun _ => [zR 20 0, zN, zN, zN, zI 0])), (20, zl 1 1 5001 (fun _ _ => 0)), (21, zi 0 0 6 (fun _ _ => 0)), (22, zi 0 0 6 (fun _ _ => 0)), (23, zi 0 0 80 (fun _ _ => 0))]) rfl ?_
  refine fz_aload_n dX8_init_13 rfl ?_
  refine fz_bipush (v := nI 6) dX8_init_14 (by decide) ?_
  refine fz_newi (k := 21) (n := 0) (t := 0) (len := 6) (fun _ _ => 0) dX8_init_16 rfl a_int rfl hx rfl hE0 (by repeat' (first | exact trivial | exact (fun _ _ => rfl) | exact (fun _ _ _ _ h => by cases h <;> rfl) | exact (fun i (hi : i < 2) => by rcases (show i = 0 ∨ i = 1 by omega) with rfl | rfl <;> rfl) | refine And.intro ?_ ?_)) rfl rfl rfl rfl (fun _ _ => rfl) (nI_pos (by omega)) (nI_clamp (by omega)) (by decide) (Nat.le_of_ble_eq_true rfl) (Nat.le_of_ble_eq_true rfl) (fun G hx => ?_)
  refine fz_wo (V' := [(19, zo 8 1 (fun _ => [zR 20 0, zN, zN, zN, zI 0])), (20, zl 1 1 5001 (fun _ _ => 0)), (21, zi 0 1 6 (fun _ _ => 0)), (22, zi 0 0 6 (fun _ _ => 0)), (23, zi 0 0 80 (fun _ _ => 0))]) rfl ?_
  refine fz_putF dX8_init_18 fX8_15 rfl rfl rfl (Nat.le_of_ble_eq_true rfl) ⟨rfl, rfl⟩ ?_
  refine fz_wo (V' := [(19, zo 8 1 (fun _ => [zR 20 0, zR 21 0, zN, zN, zI 0])), (20, zl 1 1 5001 (fun _ _ => 0)), (21, zi 0 1 6 (fun _ _ => 0)), (22, zi 0 0 6 (fun _ _ => 0)), (23, zi 0 0 80 (fun _ _ => 0))]) rfl ?_
  refine fz_aload_n dX8_init_21 rfl ?_
  refine fz_bipush (v := nI 6) dX8_init_22 (by decide) ?_
  refine fz_newi (k := 22) (n := 0) (t := 0) (len := 6) (fun _ _ => 0) dX8_init_24 rfl a_int rfl hx rfl hE0 (by repeat' (first | exact trivial | exact (fun _ _ => rfl) | exact (fun _ _ _ _ h => by cases h <;> rfl) | exact (fun i (hi : i < 2) => by rcases (show i = 0 ∨ i = 1 by omega) with rfl | rfl <;> rfl) | refine And.intro ?_ ?_)) rfl rfl rfl rfl (fun _ _ => rfl) (nI_pos (by omega)) (nI_clamp (by omega)) (by decide) (Nat.le_of_ble_eq_true rfl) (Nat.le_of_ble_eq_true rfl) (fun G hx => ?_)
  refine fz_wo (V' := [(19, zo 8 1 (fun _ => [zR 20 0, zR 21 0, zN, zN, zI 0])), (20, zl 1 1 5001 (fun _ _ => 0)), (21, zi 0 1 6 (fun _ _ => 0)), (22, zi 0 1 6 (fun _ _ => 0)), (23, zi 0 0 80 (fun _ _ => 0))]) rfl ?_
  refine fz_putF dX8_init_26 fX8_19 rfl rfl rfl (Nat.le_of_ble_eq_true rfl) ⟨rfl, rfl⟩ ?_
  refine fz_wo (V' := [(19, zo 8 1 (fun _ => [zR 20 0, zR 21 0, zR 22 0, zN, zI 0])), (20, zl 1 1 5001 (fun _ _ => 0)), (21, zi 0 1 6 (fun _ _ => 0)), (22, zi 0 1 6 (fun _ _ => 0)), (23, zi 0 0 80 (fun _ _ => 0))]) rfl ?_
  refine fz_aload_n dX8_init_29 rfl ?_
  refine fz_bipush (v := nI 80) dX8_init_30 (by decide) ?_
  refine fz_newi (k := 23) (n := 0) (t := 0) (len := 80) (fun _ _ => 0) dX8_init_32 rfl a_int rfl hx rfl hE0 (by repeat' (first | exact trivial | exact (fun _ _ => rfl) | exact (fun _ _ _ _ h => by cases h <;> rfl) | exact (fun i (hi : i < 2) => by rcases (show i = 0 ∨ i = 1 by omega) with rfl | rfl <;> rfl) | refine And.intro ?_ ?_)) rfl rfl rfl rfl (fun _ _ => rfl) (nI_pos (by omega)) (nI_clamp (by omega)) (by decide) (Nat.le_of_ble_eq_true rfl) (Nat.le_of_ble_eq_true rfl) (fun G hx => ?_)
  refine fz_wo (V' := [(19, zo 8 1 (fun _ => [zR 20 0, zR 21 0, zR 22 0, zN, zI 0])), (20, zl 1 1 5001 (fun _ _ => 0)), (21, zi 0 1 6 (fun _ _ => 0)), (22, zi 0 1 6 (fun _ _ => 0)), (23, zi 0 1 80 (fun _ _ => 0))]) rfl ?_
  refine fz_putF dX8_init_34 fX8_22 rfl rfl rfl (Nat.le_of_ble_eq_true rfl) ⟨rfl, rfl⟩ ?_
  refine fz_wo (V' := [(19, zo 8 1 (fun _ => [zR 20 0, zR 21 0, zR 22 0, zR 23 0, zI 0])), (20, zl 1 1 5001 (fun _ _ => 0)), (21, zi 0 1 6 (fun _ _ => 0)), (22, zi 0 1 6 (fun _ _ => 0)), (23, zi 0 1 80 (fun _ _ => 0))]) rfl ?_
  exact fz_vretN dX8_init_37 rfl hx (Nat.le_of_ble_eq_true rfl) (Nat.le_of_ble_eq_true rfl) rfl
theorem cX9 {G : fz_G} : fz_TN G kX9 mX9_init rX9_init [zR 25 0, zR 2 0, zR 19 0] [(25, zo 9 1 (fun _ => [zN, zN, zN, zL 0, zL 0, zN, zI 0, zI 0, zI 0, zI 0])), (26, zl 1 0 4004 (fun _ _ => 0)), (27, zl 1 0 10 (fun _ _ => 0))] (fun U => U = [(25, zo 9 1 (fun _ => [zR 19 0, zR 26 0, zR 27 0, zL 0, zL 0, zR 2 0, zI 0, zI 0, zI 0, zI 0])), (26, zl 1 1 4004 (fun _ _ => 0)), (27, zl 1 1 10 (fun _ _ => 0))]) := by
  refine fz_TN.of (by decide) (Nat.le_of_ble_eq_true rfl) (fun E0 hE0 => ?_)
  have hx : fz_ex kX9 G G := fz_ex_rf
  refine fz_aload_n dX9_init_0 rfl ?_
  refine fz_objInit dX9_init_1 oX9_3 (Nat.le_of_ble_eq_true rfl) (Nat.le_of_ble_eq_true rfl) ?_
  refine fz_aload_n dX9_init_4 rfl ?_
  refine fz_sipush (v := nI 4004) dX9_init_5 (by decide) ?_
  refine fz_newl (k := 26) (n := 0) (t := 1) (len := 4004) (fun _ _ => 0) dX9_init_8 rfl a_long rfl hx rfl hE0 (by repeat' (first | exact trivial | exact (fun _ _ => rfl) | exact (fun _ _ _ _ h => by cases h <;> rfl) | exact (fun i (hi : i < 2) => by rcases (show i = 0 ∨ i = 1 by omega) with rfl | rfl <;> rfl) | refine And.intro ?_ ?_)) rfl rfl rfl rfl (fun _ _ => rfl) (nI_pos (by omega)) (nI_clamp (by omega)) (by decide) (Nat.le_of_ble_eq_true rfl) (Nat.le_of_ble_eq_true rfl) (fun G hx => ?_)
  refine fz_wo (V' := [(25, zo 9 1 (fun _ => [zN, zN, zN, zL 0, zL 0, zN, zI 0, zI 0, zI 0, zI 0])), (26, zl 1 1 4004 (fun _ _ => 0)), (27, zl 1 0 10 (fun _ _ => 0))]) rfl ?_
  refine fz_putF dX9_init_10 fX9_9 rfl rfl rfl (Nat.le_of_ble_eq_true rfl) ⟨rfl, rfl⟩ ?_
  refine fz_wo (V' := [(25, zo 9 1 (fun _ => [zN, zR 26 0, zN, zL 0, zL 0, zN, zI 0, zI 0, zI 0, zI 0])), (26, zl 1 1 4004 (fun _ _ => 0)), (27, zl 1 0 10 (fun _ _ => 0))]) rfl ?_
  refine fz_aload_n dX9_init_13 rfl ?_
  refine fz_bipush (v := nI 10) dX9_init_14 (by decide) ?_
  refine fz_newl (k := 27) (n := 0) (t := 1) (len := 10) (fun _ _ => 0) dX9_init_16 rfl a_long rfl hx rfl hE0 (by repeat' (first | exact trivial | exact (fun _ _ => rfl) | exact (fun _ _ _ _ h => by cases h <;> rfl) | exact (fun i (hi : i < 2) => by rcases (show i = 0 ∨ i = 1 by omega) with rfl | rfl <;> rfl) | refine And.intro ?_ ?_)) rfl rfl rfl rfl (fun _ _ => rfl) (nI_pos (by omega)) (nI_clamp (by omega)) (by decide) (Nat.le_of_ble_eq_true rfl) (Nat.le_of_ble_eq_true rfl) (fun G hx => ?_)
  refine fz_wo (V' := [(25, zo 9 1 (fun _ => [zN, zR 26 0, zN, zL 0, zL 0, zN, zI 0, zI 0, zI 0, zI 0])), (26, zl 1 1 4004 (fun _ _ => 0)), (27, zl 1 1 10 (fun _ _ => 0))]) rfl ?_
  refine fz_putF dX9_init_18 fX9_15 rfl rfl rfl (Nat.le_of_ble_eq_true rfl) ⟨rfl, rfl⟩ ?_
  refine fz_wo (V' := [(25, zo 9 1 (fun _ => [zN, zR 26 0, zR 27 0, zL 0, zL 0, zN, zI 0, zI 0, zI 0, zI 0])), (26, zl 1 1 4004 (fun _ _ => 0)), (27, zl 1 1 10 (fun _ _ => 0))]) rfl ?_
  refine fz_aload_n dX9_init_21 rfl ?_
  refine fz_aload_n dX9_init_22 rfl ?_
  refine fz_put1 dX9_init_23 fX9_18 rfl (Nat.le_of_ble_eq_true rfl) ⟨rfl, rfl⟩ ?_
  refine fz_wo (V' := [(25, zo 9 1 (fun _ => [zN, zR 26 0, zR 27 0, zL 0, zL 0, zR 2 0, zI 0, zI 0, zI 0, zI 0])), (26, zl 1 1 4004 (fun _ _ => 0)), (27, zl 1 1 10 (fun _ _ => 0))]) rfl ?_
  refine fz_aload_n dX9_init_26 rfl ?_
  refine fz_aload_n dX9_init_27 rfl ?_
  refine fz_putF dX9_init_28 fX9_22 rfl rfl rfl (Nat.le_of_ble_eq_true rfl) ⟨rfl, rfl⟩ ?_
  refine fz_wo (V' := [(25, zo 9 1 (fun _ => [zR 19 0, zR 26 0, zR 27 0, zL 0, zL 0, zR 2 0, zI 0, zI 0, zI 0, zI 0])), (26, zl 1 1 4004 (fun _ _ => 0)), (27, zl 1 1 10 (fun _ _ => 0))]) rfl ?_
  exact fz_vretN dX9_init_31 rfl hx (Nat.le_of_ble_eq_true rfl) (Nat.le_of_ble_eq_true rfl) rfl
