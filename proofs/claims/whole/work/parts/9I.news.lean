/-! WHAT NEW OBJECTS AND ARRAYS WANT OF THE TABLES. Printed by our own program. -/
theorem a_int : Cond.arrayClass (newarray.typeOf .int) ∈ fz_tb := fz_mem 117 (by decide +kernel) rfl
theorem a_long : Cond.arrayClass (newarray.typeOf .long) ∈ fz_tb := fz_mem 118 (by decide +kernel) rfl
theorem a_boolean : Cond.arrayClass (newarray.typeOf .boolean) ∈ fz_tb := fz_mem 1042 (by decide +kernel) rfl
theorem a_oX4 : Cond.arrayOver (.object RX4) ∈ fz_nest := by simp [fz_nest]
theorem a_oX7 : Cond.arrayOver (.object RX7) ∈ fz_nest := by simp [fz_nest]
theorem a_oX6 : Cond.arrayOver (.object RX6) ∈ fz_nest := by simp [fz_nest]
abbrev dfX0 : List fz_V := [zN, zN, zN, zN, zN, zN, zI 0, zI 0, zI 0, zI 0]
theorem dfX0_ok (G : fz_G) (j : Nat) (hj : j < 10) : defaultValue (tyX0 j) = vp_V (dfX0.map (fz_v G)) j := by
  rcases (show j = 0 ∨ j = 1 ∨ j = 2 ∨ j = 3 ∨ j = 4 ∨ j = 5 ∨ j = 6 ∨ j = 7 ∨ j = 8 ∨ j = 9 by omega) with rfl | rfl | rfl | rfl | rfl | rfl | rfl | rfl | rfl | rfl <;> rfl
abbrev dfX1 : List fz_V := [zN, zN, zN, zN, zN, zI 0, zI 0]
theorem dfX1_ok (G : fz_G) (j : Nat) (hj : j < 7) : defaultValue (tyX1 j) = vp_V (dfX1.map (fz_v G)) j := by
  rcases (show j = 0 ∨ j = 1 ∨ j = 2 ∨ j = 3 ∨ j = 4 ∨ j = 5 ∨ j = 6 by omega) with rfl | rfl | rfl | rfl | rfl | rfl | rfl <;> rfl
abbrev dfX2 : List fz_V := [zN, zI 0, zI 0, zI 0, zI 0, zI 0]
theorem dfX2_ok (G : fz_G) (j : Nat) (hj : j < 6) : defaultValue (tyX2 j) = vp_V (dfX2.map (fz_v G)) j := by
  rcases (show j = 0 ∨ j = 1 ∨ j = 2 ∨ j = 3 ∨ j = 4 ∨ j = 5 by omega) with rfl | rfl | rfl | rfl | rfl | rfl <;> rfl
abbrev dfX3 : List fz_V := [zI 0]
theorem dfX3_ok (G : fz_G) (j : Nat) (hj : j < 1) : defaultValue (tyX3 j) = vp_V (dfX3.map (fz_v G)) j := by
  have e : j = 0 := by omega
  subst e; rfl
abbrev dfX4 : List fz_V := [zI 0, zI 0, zI 0, zI 0, zI 0, zI 0]
theorem dfX4_ok (G : fz_G) (j : Nat) (hj : j < 6) : defaultValue (tyX4 j) = vp_V (dfX4.map (fz_v G)) j := by
  rcases (show j = 0 ∨ j = 1 ∨ j = 2 ∨ j = 3 ∨ j = 4 ∨ j = 5 by omega) with rfl | rfl | rfl | rfl | rfl | rfl <;> rfl
abbrev dfX5 : List fz_V := [zN, zN, zN, zI 0, zI 0, zI 0, zI 0]
theorem dfX5_ok (G : fz_G) (j : Nat) (hj : j < 7) : defaultValue (tyX5 j) = vp_V (dfX5.map (fz_v G)) j := by
  rcases (show j = 0 ∨ j = 1 ∨ j = 2 ∨ j = 3 ∨ j = 4 ∨ j = 5 ∨ j = 6 by omega) with rfl | rfl | rfl | rfl | rfl | rfl | rfl <;> rfl
abbrev dfX6 : List fz_V := [zI 0, zI 0, zI 0, zI 0]
theorem dfX6_ok (G : fz_G) (j : Nat) (hj : j < 4) : defaultValue (tyX6 j) = vp_V (dfX6.map (fz_v G)) j := by
  rcases (show j = 0 ∨ j = 1 ∨ j = 2 ∨ j = 3 by omega) with rfl | rfl | rfl | rfl <;> rfl
abbrev dfX7 : List fz_V := [zI 0, zI 0, zI 0, zI 0, zI 0, zI 0, zI 0, zI 0, zI 0]
theorem dfX7_ok (G : fz_G) (j : Nat) (hj : j < 9) : defaultValue (tyX7 j) = vp_V (dfX7.map (fz_v G)) j := by
  rcases (show j = 0 ∨ j = 1 ∨ j = 2 ∨ j = 3 ∨ j = 4 ∨ j = 5 ∨ j = 6 ∨ j = 7 ∨ j = 8 by omega) with rfl | rfl | rfl | rfl | rfl | rfl | rfl | rfl | rfl <;> rfl
abbrev dfX8 : List fz_V := [zN, zN, zN, zN, zI 0]
theorem dfX8_ok (G : fz_G) (j : Nat) (hj : j < 5) : defaultValue (tyX8 j) = vp_V (dfX8.map (fz_v G)) j := by
  rcases (show j = 0 ∨ j = 1 ∨ j = 2 ∨ j = 3 ∨ j = 4 by omega) with rfl | rfl | rfl | rfl | rfl <;> rfl
abbrev dfX9 : List fz_V := [zN, zN, zN, zL 0, zL 0, zN, zI 0, zI 0, zI 0, zI 0]
theorem dfX9_ok (G : fz_G) (j : Nat) (hj : j < 10) : defaultValue (tyX9 j) = vp_V (dfX9.map (fz_v G)) j := by
  rcases (show j = 0 ∨ j = 1 ∨ j = 2 ∨ j = 3 ∨ j = 4 ∨ j = 5 ∨ j = 6 ∨ j = 7 ∨ j = 8 ∨ j = 9 by omega) with rfl | rfl | rfl | rfl | rfl | rfl | rfl | rfl | rfl | rfl <;> rfl
abbrev dfX10 : List fz_V := [zN, zN, zN, zN, zN, zI 0]
theorem dfX10_ok (G : fz_G) (j : Nat) (hj : j < 6) : defaultValue (tyX10 j) = vp_V (dfX10.map (fz_v G)) j := by
  rcases (show j = 0 ∨ j = 1 ∨ j = 2 ∨ j = 3 ∨ j = 4 ∨ j = 5 by omega) with rfl | rfl | rfl | rfl | rfl | rfl <;> rfl
abbrev dfX11 : List fz_V := [zI 0, zN, zI 0, zI 0, zI 0, zN, zN, zI 0, zI 0, zN, zN, zI 0, zI 0, zN, zN, zN, zN, zN, zN, zI 0, zI 0, zI 0, zI 0, zN, zN, zN, zN, zN, zI 0, zN, zN, zN, zN, zN, zN, zN, zN, zN, zN]
theorem dfX11_ok (G : fz_G) (j : Nat) (hj : j < 39) : defaultValue (tyX11 j) = vp_V (dfX11.map (fz_v G)) j := by
  rcases (show j = 0 ∨ j = 1 ∨ j = 2 ∨ j = 3 ∨ j = 4 ∨ j = 5 ∨ j = 6 ∨ j = 7 ∨ j = 8 ∨ j = 9 ∨ j = 10 ∨ j = 11 ∨ j = 12 ∨ j = 13 ∨ j = 14 ∨ j = 15 ∨ j = 16 ∨ j = 17 ∨ j = 18 ∨ j = 19 ∨ j = 20 ∨ j = 21 ∨ j = 22 ∨ j = 23 ∨ j = 24 ∨ j = 25 ∨ j = 26 ∨ j = 27 ∨ j = 28 ∨ j = 29 ∨ j = 30 ∨ j = 31 ∨ j = 32 ∨ j = 33 ∨ j = 34 ∨ j = 35 ∨ j = 36 ∨ j = 37 ∨ j = 38 by omega) with rfl | rfl | rfl | rfl | rfl | rfl | rfl | rfl | rfl | rfl | rfl | rfl | rfl | rfl | rfl | rfl | rfl | rfl | rfl | rfl | rfl | rfl | rfl | rfl | rfl | rfl | rfl | rfl | rfl | rfl | rfl | rfl | rfl | rfl | rfl | rfl | rfl | rfl | rfl <;> rfl
theorem cL_7 : Cond.classLink RL 7 RX10 ∈ fz_tb := fz_mem 79 (by decide +kernel) rfl
theorem wL_7 : fz_nC RL 7 10 dfX10 := ⟨RX10, TX10, 6, tyX10, rfl, izX10, tyX10_ok, fz_mems [79, 80, 64] (by decide +kernel) (by decide +kernel), rfl, dfX10_ok⟩
theorem cL_10 : Cond.classLink RL 10 RX11 ∈ fz_tb := fz_mem 917 (by decide +kernel) rfl
theorem wL_10 : fz_nC RL 10 11 dfX11 := ⟨RX11, TX11, 39, tyX11, rfl, izX11, tyX11_ok, fz_mems [917, 918, 75] (by decide +kernel) (by decide +kernel), rfl, dfX11_ok⟩
theorem cX0_9 : Cond.classLink RX0 9 RX6 ∈ fz_tb := fz_mem 255 (by decide +kernel) rfl
theorem wX0_9 : fz_nC RX0 9 6 dfX6 := ⟨RX6, TX6, 4, tyX6, rfl, izX6, tyX6_ok, fz_mems [255, 326, 74] (by decide +kernel) (by decide +kernel), rfl, dfX6_ok⟩
theorem cX0_17 : Cond.classLink RX0 17 RX8 ∈ fz_tb := fz_mem 257 (by decide +kernel) rfl
theorem wX0_17 : fz_nC RX0 17 8 dfX8 := ⟨RX8, TX8, 5, tyX8, rfl, izX8, tyX8_ok, fz_mems [257, 258, 71] (by decide +kernel) (by decide +kernel), rfl, dfX8_ok⟩
theorem cX0_24 : Cond.classLink RX0 24 RX3 ∈ fz_tb := fz_mem 279 (by decide +kernel) rfl
theorem wX0_24 : fz_nC RX0 24 3 dfX3 := ⟨RX3, TX3, 1, tyX3, rfl, izX3, tyX3_ok, fz_mems [279, 280, 72] (by decide +kernel) (by decide +kernel), rfl, dfX3_ok⟩
theorem cX0_39 : Cond.classLink RX0 39 RX9 ∈ fz_tb := fz_mem 289 (by decide +kernel) rfl
theorem wX0_39 : fz_nC RX0 39 9 dfX9 := ⟨RX9, TX9, 10, tyX9, rfl, izX9, tyX9_ok, fz_mems [289, 290, 73] (by decide +kernel) (by decide +kernel), rfl, dfX9_ok⟩
theorem cX10_9 : Cond.classLink RX10 9 RX1 ∈ fz_tb := fz_mem 87 (by decide +kernel) rfl
theorem wX10_9 : fz_nC RX10 9 1 dfX1 := ⟨RX1, TX1, 7, tyX1, rfl, izX1, tyX1_ok, fz_mems [87, 88, 65] (by decide +kernel) (by decide +kernel), rfl, dfX1_ok⟩
theorem cX10_19 : Cond.classLink RX10 19 RX2 ∈ fz_tb := fz_mem 119 (by decide +kernel) rfl
theorem wX10_19 : fz_nC RX10 19 2 dfX2 := ⟨RX2, TX2, 6, tyX2, rfl, izX2, tyX2_ok, fz_mems [119, 120, 66] (by decide +kernel) (by decide +kernel), rfl, dfX2_ok⟩
theorem cX10_26 : Cond.classLink RX10 26 RX5 ∈ fz_tb := fz_mem 144 (by decide +kernel) rfl
theorem wX10_26 : fz_nC RX10 26 5 dfX5 := ⟨RX5, TX5, 7, tyX5, rfl, izX5, tyX5_ok, fz_mems [144, 145, 67] (by decide +kernel) (by decide +kernel), rfl, dfX5_ok⟩
theorem cX10_33 : Cond.classLink RX10 33 RX0 ∈ fz_tb := fz_mem 249 (by decide +kernel) rfl
theorem wX10_33 : fz_nC RX10 33 0 dfX0 := ⟨RX0, TX0, 10, tyX0, rfl, izX0, tyX0_ok, fz_mems [249, 250, 70] (by decide +kernel) (by decide +kernel), rfl, dfX0_ok⟩
theorem cX5_9 : Cond.classLink RX5 9 RX4 ∈ fz_tb := fz_mem 150 (by decide +kernel) rfl
theorem wX5_9 : fz_nC RX5 9 4 dfX4 := ⟨RX4, TX4, 6, tyX4, rfl, izX4, tyX4_ok, fz_mems [150, 154, 68] (by decide +kernel) (by decide +kernel), rfl, dfX4_ok⟩
theorem cX5_17 : Cond.classLink RX5 17 RX7 ∈ fz_tb := fz_mem 152 (by decide +kernel) rfl
theorem wX5_17 : fz_nC RX5 17 7 dfX7 := ⟨RX7, TX7, 9, tyX7, rfl, izX7, tyX7_ok, fz_mems [152, 184, 69] (by decide +kernel) (by decide +kernel), rfl, dfX7_ok⟩
abbrev kX1 (g : Nat) : Nat → Nat → Bool := fun k i => decide (3 ≤ k ∧ k ≤ 7 ∧ i = g)
abbrev kX2 : Nat → Nat → Bool := fun k i => decide (k = 9 ∧ i = 0)
abbrev kX5 : Nat → Nat → Bool := fun k _ => decide (11 ≤ k ∧ k ≤ 15)
abbrev kX8 : Nat → Nat → Bool := fun k _ => decide (20 ≤ k ∧ k ≤ 23)
abbrev kX9 : Nat → Nat → Bool := fun k _ => decide (26 ≤ k ∧ k ≤ 27)
abbrev kX0 : Nat → Nat → Bool := fun k _ => decide (17 ≤ k ∧ k ≤ 27)
abbrev kX10 : Nat → Nat → Bool := fun k _ => decide (2 ≤ k ∧ k ≤ 27)
abbrev kX11 : Nat → Nat → Bool := fun k _ => decide (41 ≤ k ∧ k ≤ 78)
abbrev kL : Nat → Nat → Bool := fun k _ => decide (1 ≤ k ∧ k ≤ 78)
/-- final fields of an object in a pool -/
theorem fz_putFg {G : fz_G} {M : fz_M} {R : Room} {Z : List Frame → Array Value → State → State → Prop} {E0 : Nat → fz_E} {cs sl pc : Nat} {ls : List (Nat × fz_V)} {st : List fz_V} {V : fz_W} {idx ci j n k0 i0 : Nat} {ty : FieldType} {F : Nat → List fz_V} {v : fz_V} (F' : Nat → List fz_V) (hd : decode M.2.1 pc = .ok (.putfield idx, 3)) (hF : fz_F M.1.cls idx ci j ty true) (hin : M.1.name = "<init>") (hcl : (classes[ci]?).map (fun q => q.1) = some M.1.cls) (hV : fz_lk V k0 = some (zo ci n F)) (hi : i0 < n) (hlen : j < (F i0).length) (hok : fz_ok G ty v) (hF1 : F' i0 = (F i0).set j v) (hF2 : ∀ i', i' < n → i' ≠ i0 → F' i' = F i') (k : fz_J G M R Z E0 cs sl (pc + 3) ls st (fz_st V k0 (zo ci n F'))) : fz_J G M R Z E0 cs sl pc ls (v :: zR k0 i0 :: st) V := by
  intro p e s m args below meth c H locs la hC hR hS hl
  obtain ⟨C, T, N, t0, h1, h2, h3, h4, h5, h6, h7, h8, h9⟩ := hF
  obtain ⟨L, f, q0, hP, hD, hE, hJ, hq0, hs⟩ := fz_at hR hV (show i0 < fz_n (zo ci n F) from hi)
  have e1 : fz_c G (zo ci n F') i0 = .inr (ci, ((F i0).map (fz_v G)).set j (fz_v G v)) := by
    show Sum.inr (ci, (F' i0).map (fz_v G)) = _
    rw [hF1, List.map_set]
  rw [h1] at hcl
  have hcl2 : C = M.1.cls := Option.some.inj hcl
  refine va_putF (D := G.2.1) (ws := va_pl L f) hC.1 hC.2.1 hC.2.2.2.2.2.1 h2 t0 h8 h9 hC.2.2.2.2.1 hC.2.2.2.2.2.2.2.2.1 hP hD hS q0 hq0 h1 j h3 (hC.2.2.2.2.2.1 _ h4) (fun x hx => by rw [h5] at hx; exact hx) h6 (hC.2.2.2.2.2.2.2.1.trans hin) (h5.trans hcl2) h7 hok.1 hok.2 (by rw [List.length_map]; exact hlen) hd (fun H1 locs1 hP1 hD1 hS1 => ?_)
  rw [hs, ← e1] at hP1 hD1
  exact k p e s m args below meth c H1 locs1 la hC (fz_upd hV hi rfl (fun i' h1 h2 => by show Sum.inr (ci, (F' i').map (fz_v G)) = _; rw [hF2 i' h1 h2]; rfl) hE hJ hP1 hD1) hS1 hl
theorem tX4_init {G : fz_G} (i : Nat) : fz_T G mX4_init rX4_init [zR 14 i] [] (fun r U => r = none ∧ U = []) := by
  refine fz_T.of (by decide) (Nat.le_of_ble_eq_true rfl) (fun E0 => ?_)
  refine fz_aload_n dX4_init_0 rfl ?_
  refine fz_objInit dX4_init_1 oX4_3 (Nat.le_of_ble_eq_true rfl) (Nat.le_of_ble_eq_true rfl) ?_
  refine fz_vret dX4_init_4 rfl (Nat.zero_le _) (Nat.zero_le _) ⟨rfl, rfl⟩
theorem tX7_init {G : fz_G} (i : Nat) : fz_T G mX7_init rX7_init [zR 15 i] [] (fun r U => r = none ∧ U = []) := by
  refine fz_T.of (by decide) (Nat.le_of_ble_eq_true rfl) (fun E0 => ?_)
  refine fz_aload_n dX7_init_0 rfl ?_
  refine fz_objInit dX7_init_1 oX7_3 (Nat.le_of_ble_eq_true rfl) (Nat.le_of_ble_eq_true rfl) ?_
  refine fz_vret dX7_init_4 rfl (Nat.zero_le _) (Nat.zero_le _) ⟨rfl, rfl⟩
theorem tX3_init {G : fz_G} (i : Nat) : fz_T G mX3_init rX3_init [zR 24 i] [] (fun r U => r = none ∧ U = []) := by
  refine fz_T.of (by decide) (Nat.le_of_ble_eq_true rfl) (fun E0 => ?_)
  refine fz_aload_n dX3_init_0 rfl ?_
  refine fz_objInit dX3_init_1 oX3_3 (Nat.le_of_ble_eq_true rfl) (Nat.le_of_ble_eq_true rfl) ?_
  refine fz_vret dX3_init_4 rfl (Nat.zero_le _) (Nat.zero_le _) ⟨rfl, rfl⟩
theorem tX6_init {G : fz_G} (i : Nat) : fz_T G mX6_init rX6_init [zR 18 i] [] (fun r U => r = none ∧ U = []) := by
  refine fz_T.of (by decide) (Nat.le_of_ble_eq_true rfl) (fun E0 => ?_)
  refine fz_aload_n dX6_init_0 rfl ?_
  refine fz_objInit dX6_init_1 oX6_3 (Nat.le_of_ble_eq_true rfl) (Nat.le_of_ble_eq_true rfl) ?_
  refine fz_vret dX6_init_4 rfl (Nat.zero_le _) (Nat.zero_le _) ⟨rfl, rfl⟩
