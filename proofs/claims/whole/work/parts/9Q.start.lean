/-! THE START -/
theorem i_X0 : Cond.instantiable RX0 10 ∈ fz_tb := fz_mem 250 (by decide +kernel) rfl
theorem i_X1 : Cond.instantiable RX1 7 ∈ fz_tb := fz_mem 88 (by decide +kernel) rfl
theorem i_X2 : Cond.instantiable RX2 6 ∈ fz_tb := fz_mem 120 (by decide +kernel) rfl
theorem i_X3 : Cond.instantiable RX3 1 ∈ fz_tb := fz_mem 280 (by decide +kernel) rfl
theorem i_X4 : Cond.instantiable RX4 6 ∈ fz_tb := fz_mem 154 (by decide +kernel) rfl
theorem i_X5 : Cond.instantiable RX5 7 ∈ fz_tb := fz_mem 145 (by decide +kernel) rfl
theorem i_X6 : Cond.instantiable RX6 4 ∈ fz_tb := fz_mem 326 (by decide +kernel) rfl
theorem i_X7 : Cond.instantiable RX7 9 ∈ fz_tb := fz_mem 184 (by decide +kernel) rfl
theorem i_X8 : Cond.instantiable RX8 5 ∈ fz_tb := fz_mem 258 (by decide +kernel) rfl
theorem i_X9 : Cond.instantiable RX9 10 ∈ fz_tb := fz_mem 290 (by decide +kernel) rfl
theorem i_X10 : Cond.instantiable RX10 6 ∈ fz_tb := fz_mem 80 (by decide +kernel) rfl
theorem i_X11 : Cond.instantiable RX11 39 ∈ fz_tb := fz_mem 918 (by decide +kernel) rfl
theorem lw_cls {s : State} {args : Array Value} (ht : ∀ w ∈ fz_tb, w.before args s = true) (ci : Nat) : ∃ (cC : ClassId) (iS : Nat → Nat), ∀ q, classes[ci]? = some q → u_Kn s q.1 q.2.1 q.2.2 cC iS := by
  rcases Nat.lt_or_ge ci 12 with h | h
  · rcases (show ci = 0 ∨ ci = 1 ∨ ci = 2 ∨ ci = 3 ∨ ci = 4 ∨ ci = 5 ∨ ci = 6 ∨ ci = 7 ∨ ci = 8 ∨ ci = 9 ∨ ci = 10 ∨ ci = 11 by omega) with rfl | rfl | rfl | rfl | rfl | rfl | rfl | rfl | rfl | rfl | rfl | rfl
    · obtain ⟨cC, iS, h⟩ := u_known ht izX0 (ht _ i_X0)
      exact ⟨cC, iS, fun q hq => by cases hq; exact h⟩
    · obtain ⟨cC, iS, h⟩ := u_known ht izX1 (ht _ i_X1)
      exact ⟨cC, iS, fun q hq => by cases hq; exact h⟩
    · obtain ⟨cC, iS, h⟩ := u_known ht izX2 (ht _ i_X2)
      exact ⟨cC, iS, fun q hq => by cases hq; exact h⟩
    · obtain ⟨cC, iS, h⟩ := u_known ht izX3 (ht _ i_X3)
      exact ⟨cC, iS, fun q hq => by cases hq; exact h⟩
    · obtain ⟨cC, iS, h⟩ := u_known ht izX4 (ht _ i_X4)
      exact ⟨cC, iS, fun q hq => by cases hq; exact h⟩
    · obtain ⟨cC, iS, h⟩ := u_known ht izX5 (ht _ i_X5)
      exact ⟨cC, iS, fun q hq => by cases hq; exact h⟩
    · obtain ⟨cC, iS, h⟩ := u_known ht izX6 (ht _ i_X6)
      exact ⟨cC, iS, fun q hq => by cases hq; exact h⟩
    · obtain ⟨cC, iS, h⟩ := u_known ht izX7 (ht _ i_X7)
      exact ⟨cC, iS, fun q hq => by cases hq; exact h⟩
    · obtain ⟨cC, iS, h⟩ := u_known ht izX8 (ht _ i_X8)
      exact ⟨cC, iS, fun q hq => by cases hq; exact h⟩
    · obtain ⟨cC, iS, h⟩ := u_known ht izX9 (ht _ i_X9)
      exact ⟨cC, iS, fun q hq => by cases hq; exact h⟩
    · obtain ⟨cC, iS, h⟩ := u_known ht izX10 (ht _ i_X10)
      exact ⟨cC, iS, fun q hq => by cases hq; exact h⟩
    · obtain ⟨cC, iS, h⟩ := u_known ht izX11 (ht _ i_X11)
      exact ⟨cC, iS, fun q hq => by cases hq; exact h⟩
  · obtain ⟨cC, iS, -⟩ := u_known ht izX0 (ht _ i_X0)
    refine ⟨cC, iS, fun q hq => ?_⟩
    have := (List.getElem?_eq_some_iff.mp hq).1
    have : ci < 12 := this
    omega
theorem lw_arr {s : State} {args : Array Value} (ht : ∀ w ∈ fz_tb, w.before args s = true) (hN : fz_Nw s) (t : Nat) : ∃ cA : ClassId, ∀ ty, fz_tyL[t]? = some ty → ArrOfT s cA ty ∧ va_RA s cA ty := by
  rcases Nat.lt_or_ge t 6 with h | h
  · rcases (show t = 0 ∨ t = 1 ∨ t = 2 ∨ t = 3 ∨ t = 4 ∨ t = 5 by omega) with rfl | rfl | rfl | rfl | rfl | rfl
    · obtain ⟨c, k, comp, f1, f2, f3⟩ := Cond.arrayClass_spec (ht _ a_int)
      exact ⟨c, fun ty hty => by cases hty; exact ⟨fun n z => ⟨fun k h => (by cases h), k, f2, comp, f3⟩, f1⟩⟩
    · obtain ⟨c, k, comp, f1, f2, f3⟩ := Cond.arrayClass_spec (ht _ a_long)
      exact ⟨c, fun ty hty => by cases hty; exact ⟨fun n z => ⟨fun k h => (by cases h), k, f2, comp, f3⟩, f1⟩⟩
    · obtain ⟨c, k, comp, f1, f2, f3⟩ := Cond.arrayClass_spec (ht _ a_boolean)
      exact ⟨c, fun ty hty => by cases hty; exact ⟨fun n z => ⟨fun k h => (by cases h), k, f2, comp, f3⟩, f1⟩⟩
    · obtain ⟨comp, c, k, g1, g2, g3, g4, g5⟩ := Cond.arrayOver_spec (hN _ a_oX4)
      exact ⟨c, fun ty hty => by cases hty; exact ⟨fun n z => ⟨fun k h => (by cases h), k, g3, comp, g4⟩, k, comp, g3, g4, g1, g5⟩⟩
    · obtain ⟨comp, c, k, g1, g2, g3, g4, g5⟩ := Cond.arrayOver_spec (hN _ a_oX7)
      exact ⟨c, fun ty hty => by cases hty; exact ⟨fun n z => ⟨fun k h => (by cases h), k, g3, comp, g4⟩, k, comp, g3, g4, g1, g5⟩⟩
    · obtain ⟨comp, c, k, g1, g2, g3, g4, g5⟩ := Cond.arrayOver_spec (hN _ a_oX6)
      exact ⟨c, fun ty hty => by cases hty; exact ⟨fun n z => ⟨fun k h => (by cases h), k, g3, comp, g4⟩, k, comp, g3, g4, g1, g5⟩⟩
  · obtain ⟨c, k, comp, f1, f2, f3⟩ := Cond.arrayClass_spec (ht _ a_int)
    refine ⟨c, fun ty hty => ?_⟩
    have := (List.getElem?_eq_some_iff.mp hty).1
    have : t < 6 := this
    omega
theorem lw_K {s : State} {args : Array Value} (ht : ∀ w ∈ fz_tb, w.before args s = true) (hN : fz_Nw s) : ∃ (D : va_G) (cid : Nat → ClassId), ∀ (l : Launch) (B : Nat) (ad : Nat → Nat → Nat), va_K D classes (fz_tys (l, D, cid, B, ad)) s := by
  refine ⟨(fun ci => (lw_cls ht ci).choose, fun ci => (lw_cls ht ci).choose_spec.choose), fun t => (lw_arr ht hN t).choose, fun l B ad => ⟨fun c q hq => (lw_cls ht c).choose_spec.choose_spec q hq, fun k q hk => ?_⟩⟩
  cases h : fz_tyL[k]? with
  | none =>
    simp [fz_tys, List.getElem?_map, List.getElem?_zipIdx, h] at hk
  | some ty =>
    rw [fz_ty h] at hk
    cases hk
    exact (lw_arr ht hN k).choose_spec ty h
def sg0 : zS := (fun _ => 0, 0, -1, 0, 0, fun _ => 0, 0, 0, 0, fun _ _ => 0, fun _ _ => 0, fun _ _ => 0, fun _ => 0, fun _ _ => 0, 0, 0, 0, 0)
theorem inA_0 : inA sg0 := by
  refine ⟨⟨⟨by omega, by omega, by omega, by omega, by omega, fun i hi => absurd hi (Nat.not_lt_zero i), fun i hi => absurd hi (Nat.not_lt_zero i), fun i hi => absurd hi (Nat.not_lt_zero i), fun i hi => absurd hi (Nat.not_lt_zero i)⟩, fun _ => ⟨rfl, rfl, rfl⟩, fun z => absurd z (Nat.lt_irrefl 0)⟩, by omega, fun j hj => absurd hj (Nat.not_lt_zero j), fun z => absurd z (Nat.lt_irrefl 0), fun _ q hq => absurd hq (Nat.not_lt_zero q)⟩
theorem clR_0 : clR sg0 wX0 := by
  have e1 : (fun g => if g = 1 then [zR 3 1, zR 4 1, zR 5 1, zR 6 1, zR 7 1, zI 0, zI 0] else [zR 3 g, zR 4 g, zR 5 g, zR 6 g, zR 7 g, zI 0, zI 0]) = (fun g : Nat => ([zR 3 g, zR 4 g, zR 5 g, zR 6 g, zR 7 g, zI 0, zI 0] : List fz_V)) := by
    funext g
    by_cases h : g = 1
    · rw [if_pos h, h]
    · rw [if_neg h]
  have e2 : va_up (fun (_ : Nat) (_ : Nat) => (0 : Int32)) 0 (fun (_ : Nat) => (0 : Int32)) = fun (_ : Nat) (_ : Nat) => (0 : Int32) := va_upI (fun (_ : Nat) (_ : Nat) => (0 : Int32)) 0
  refine ⟨0, 0, 0, 0, 0, fun _ => 0, fun _ => 0, fun _ => 0, fun _ _ => 0, fun _ _ => 0, fun _ _ => 0, fun _ _ => 0, fun _ _ => 0, fun _ => 0, fun _ => 0, 0, 0, fun _ => 0, fun _ => 0, fun _ => 0, fun _ => 0, fun _ => 0, 0, 0, 0, 0, 0, 0, fun _ => 0, fun _ => 0, by omega, by omega, by omega, fun j hj => absurd hj (Nat.not_lt_zero j), ⟨rfl, by omega, fun z => absurd z (Nat.lt_irrefl 0)⟩, ⟨rfl, fun c _ => rfl, rfl⟩, fun z => absurd z (Nat.lt_irrefl 0), ?_⟩
  unfold wAl wSt
  rw [e2]
  unfold wX0
  rw [e1]
  rfl
theorem mdR_0 : mdR sg0 wM0 := by
  refine ⟨fun j => if j = 2 then -1 else 0, fun _ => 0, fun _ => 0, fun _ => 0, fun _ => 0, fun _ => 0, fun _ => 0, fun _ => 0, fun _ _ => 0, fun _ _ => 0, fun _ _ => 0, fun _ => 0, fun _ => 0, ⟨rfl, rfl, rfl, rfl, rfl, rfl, rfl, rfl, rfl, rfl, rfl⟩, by omega, fun j hj => absurd hj (Nat.not_lt_zero j), by omega, fun j hj => absurd hj (Nat.not_lt_zero j), fun c x hc => absurd hc (Nat.not_lt_zero c), fun q hq => absurd hq (Nat.not_lt_zero q), fun q hq => absurd hq (Nat.not_lt_zero q), fun q hq => absurd hq (Nat.not_lt_zero q), fun q hq => absurd hq (Nat.not_lt_zero q), rfl⟩
theorem fz_n0 {E : Nat → fz_E} (hE : ∀ k, fz_n (E k) = 0) : ∀ {V : fz_W}, (∀ q ∈ V, fz_n q.2 = 0) → ∀ k, fz_n (fz_d V E k) = 0
  | [], _, k => hE k
  | q :: V, h, k => by
    rw [fz_d_c]
    by_cases z : k = q.1
    · rw [if_pos z]; exact h q List.mem_cons_self
    · rw [if_neg z]; exact fz_n0 hE (fun q hq => h q (List.mem_cons_of_mem _ hq)) k
theorem wLw_0 : ∀ q ∈ wLw, fz_n q.2 = 0 := by
  intro q hq
  have h : wLw.all (fun q => fz_n q.2 == 0) = true := rfl
  exact beq_iff_eq.mp (List.all_eq_true.mp h q hq)
/-- YOUR PART: from the entry, for every script of at most 2560 ints, the law comes to its end with true -/
theorem whole_start {p : Program} {e : Env} {s : State} {m : MethodId} {below : List Frame} {meth : Method} {c : Code} (l : Launch) {b L : Nat} {xs : Nat → Int32} (hL : L ≤ 2560) (C0 : lw_At p s m meth c b L xs) : W p l e room_1 s m #[Value.ref b] below meth c s.heap [] 0 0 (lw_Z below #[Value.ref b] s) (entryFrame m ([Value.ref b] : List Value).toArray 4) := by
  obtain ⟨h1, h2, h3, h4, h5, hts, hX, hbl, hlk, hgv⟩ := C0
  have htb : ∀ w ∈ fz_tb, w.before #[Value.ref b] s = true := fun w hw => hts w (List.mem_filter.mp hw).1
  have hN : fz_Nw s := by
    intro w hw
    have h := hts w (fz_nest_in w hw)
    rcases fz_nest_ok w hw with ⟨a1, i1, x1, z1, rfl⟩ | ⟨a1, i1, b1, n1, d1, z1, rfl⟩ | ⟨C, rfl⟩
    · exact va_Nw.of rfl h
    · exact va_Nw.of rfl h
    · exact va_AO.of h
  obtain ⟨D, cid, hK⟩ := lw_K htb hN
  have hC : fz_C (l, D, cid, s.heap.size, fun _ _ => b) (mLw meth.name) p s m #[Value.ref b] meth c := ⟨h1, h2, h3, h4, h5, htb, hlk, rfl, hK l s.heap.size (fun _ _ => b), hN, Nat.le_refl _⟩
  have hz : ∀ k, fz_n (fz_d wLw (fun _ => zo 0 0 (fun _ => [])) k) = 0 := fz_n0 (fun _ => rfl) wLw_0
  have hR : fz_R (l, D, cid, s.heap.size, fun _ _ => b) (fz_d wLw (fun _ => zo 0 0 (fun _ => []))) s.heap := by
    refine ⟨[], fun _ => .inr (0, []), fun k q hk => ?_, ⟨fun i j x y hx => ?_, fun k q hk => ?_⟩, fun k i hi => ?_, fun k i k' i' hi => ?_⟩
    · cases hk
    · cases hx
    · cases hk
    · rw [hz] at hi; exact absurd hi (Nat.not_lt_zero i)
    · rw [hz] at hi; exact absurd hi (Nat.not_lt_zero i)
  have hl := lv_entry ([zR 99 0].map (fz_v (l, D, cid, s.heap.size, fun _ _ => b))) (n := 4) (by rw [fz_wd_sl]; exact Nat.le_of_ble_eq_true rfl)
  rw [fz_args_map] at hl
  have key := lw_begin (G0 := (l, D, cid, s.heap.size, fun _ _ => b)) (E0 := fun _ => zo 0 0 (fun _ => [])) (Z := lwZ s.heap.size b L xs) meth.name (fun k i hi => absurd hi (Nat.not_lt_zero i)) (fun G' hx => by
    obtain ⟨ad, rfl, had⟩ := hx
    exact lw_loop rfl (had 99 0 rfl) hL L 0 sg0 wX0 wM0 (Nat.zero_le _) (by omega) inA_0 clR_0 mdR_0) p e s m #[Value.ref b] below meth c s.heap [] _ hC hR va_S.rf hl
  rw [lg_entry_eq]
  intro T hT X
  obtain ⟨t, a1, a2⟩ := key T hT X
  exact ⟨t, a1, a2 ⟨rfl, hX, hbl, rfl⟩⟩
