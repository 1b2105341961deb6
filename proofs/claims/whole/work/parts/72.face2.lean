/-! FleetController: count, robot, tick, settle -/
def cnF (σ : zS) (x : Int32) : Int32 := match σ with
  | (tx, n, fp, cn, w, kn, on, tn, rn, O, T, P, te, B, t, A, wy, lg) => if x < 0 ∨ nI 11 ≤ x then -2 else if x = nI 0 then nI cn else if x = nI 1 then nI rn else if x = nI 2 then nI on else if x = nI 3 then nI (opO O on) else if x = nI 4 then nI tn else if x = nI 5 then nI (pnd T tn) else if x = nI 6 then nI t else if x = nI 7 then nI A else if x = nI 8 then nI wy else if x = nI 9 then nI lg else smI B rn
theorem tX10_count {G : fz_G} (σ : zS) (V : fz_W) (hI : inZ σ) (hV : clR σ V) (x : Int32) : fz_T G mX10_count rX10_count [zR 1 0, zI x] V (fun r U => r = some (zI (cnF σ x)) ∧ clR σ U) := by
  obtain ⟨tx, n, fp, cn, w, kn, on, tn, rn, O, T, P, te, B, t, A, wy, lg⟩ := σ
  have hrn : rn ≤ 6 := hI.1.2.2.1
  have hV2 := hV
  obtain ⟨g, tw, ln, co, tf, sg, sz, wd, st, op, ki, fa, qu, F, Q, nc, pn, pf, rows, en, et, ow, lo, hi, rb, ts, sh, go, re, al, hg, hn, htw, htq, hM, hoc, htt, rfl⟩ := hV2
  refine fz_T.of (by decide) (Nat.le_of_ble_eq_true rfl) (fun E0 => ?_)
  refine fz_iload_n dX10_count_0 rfl ?_
  rcases pk_ix x (n := 11) (by omega) with h | h | ⟨j, hj, rfl⟩
  · refine fz_tableOut (tgt := 148) dX10_count_1 (tw_out (n := 11) (by omega) (Or.inl h)) (by decide) ?_
    refine fz_bipush (v := -2) dX10_count_148 (by decide) ?_
    refine fz_iret dX10_count_150 rfl (Nat.zero_le _) (Nat.zero_le _) ⟨by unfold cnF; simp only [if_pos (show x < 0 ∨ nI 11 ≤ x from Or.inl h)], hV⟩
  · refine fz_tableOut (tgt := 148) dX10_count_1 (tw_out (n := 11) (by omega) (Or.inr h)) (by decide) ?_
    refine fz_bipush (v := -2) dX10_count_148 (by decide) ?_
    refine fz_iret dX10_count_150 rfl (Nat.zero_le _) (Nat.zero_le _) ⟨by unfold cnF; simp only [if_pos (show x < 0 ∨ nI 11 ≤ x from Or.inr h)], hV⟩
  · have e : cnF (tx, n, fp, cn, w, kn, on, tn, rn, O, T, P, te, B, t, A, wy, lg) (nI j) = if j = 0 then nI cn else if j = 1 then nI rn else if j = 2 then nI on else if j = 3 then nI (opO O on) else if j = 4 then nI tn else if j = 5 then nI (pnd T tn) else if j = 6 then nI t else if j = 7 then nI A else if j = 8 then nI wy else if j = 9 then nI lg else smI B rn := by
      unfold cnF
      have he : ∀ i, i < 11 → (nI j = nI i ↔ j = i) := fun i hi => nI_eq (by omega) (by omega)
      simp only [if_neg (ix_in hj (show 11 < 2 ^ 30 by omega)), he 0 (by omega), he 1 (by omega), he 2 (by omega), he 3 (by omega), he 4 (by omega), he 5 (by omega), he 6 (by omega), he 7 (by omega), he 8 (by omega), he 9 (by omega)]
    rw [e]
    rcases (show j = 0 ∨ j = 1 ∨ j = 2 ∨ j = 3 ∨ j = 4 ∨ j = 5 ∨ j = 6 ∨ j = 7 ∨ j = 8 ∨ j = 9 ∨ j = 10 by omega) with rfl | rfl | rfl | rfl | rfl | rfl | rfl | rfl | rfl | rfl | rfl
    · refine fz_tableIn (off := 59) (tgt := 60) dX10_count_1 (by decide) (by decide) (by decide) (by decide) ?_
      refine fz_aload_n dX10_count_60 rfl ?_
      refine fz_get dX10_count_61 fX10_12 rfl (Nat.one_pos) rfl ?_
      refine fz_callV (tX1_size g hg sz wd) dX10_count_64 kX10_64 rfl (hg) ⟨rfl, trivial⟩ (Nat.le_of_ble_eq_true rfl) (Nat.le_of_ble_eq_true rfl) (Nat.le_of_ble_eq_true rfl) (Nat.le_of_ble_eq_true rfl) (Nat.le_of_ble_eq_true rfl) rfl (fun r U hq => ?_)
      obtain ⟨rfl, rfl⟩ := hq
      refine fz_back rfl ?_
      refine fz_iret dX10_count_67 rfl (Nat.zero_le _) (Nat.zero_le _) ⟨by rw [hM.1]; rfl, hV⟩
    · refine fz_tableIn (off := 67) (tgt := 68) dX10_count_1 (by decide) (by decide) (by decide) (by decide) ?_
      refine fz_aload_n dX10_count_68 rfl ?_
      refine fz_get dX10_count_69 fX10_38 rfl (Nat.one_pos) rfl ?_
      refine fz_callV (tX0_size g (nI rn) (nI t) (nI wy) (nI lg)) dX10_count_72 kX10_131 rfl (Nat.one_pos) ⟨rfl, trivial⟩ (Nat.le_of_ble_eq_true rfl) (Nat.le_of_ble_eq_true rfl) (Nat.le_of_ble_eq_true rfl) (Nat.le_of_ble_eq_true rfl) (Nat.le_of_ble_eq_true rfl) rfl (fun r U hq => ?_)
      obtain ⟨rfl, rfl⟩ := hq
      refine fz_back rfl ?_
      refine fz_iret dX10_count_75 rfl (Nat.zero_le _) (Nat.zero_le _) ⟨rfl, hV⟩
    · refine fz_tableIn (off := 75) (tgt := 76) dX10_count_1 (by decide) (by decide) (by decide) (by decide) ?_
      refine fz_aload_n dX10_count_76 rfl ?_
      refine fz_get dX10_count_77 fX10_29 rfl (Nat.one_pos) rfl ?_
      refine fz_callV (tX5_size (nI on) (nI tn) (nI nc) (nI pn)) dX10_count_80 kX10_132 rfl (Nat.one_pos) ⟨rfl, trivial⟩ (Nat.le_of_ble_eq_true rfl) (Nat.le_of_ble_eq_true rfl) (Nat.le_of_ble_eq_true rfl) (Nat.le_of_ble_eq_true rfl) (Nat.le_of_ble_eq_true rfl) rfl (fun r U hq => ?_)
      obtain ⟨rfl, rfl⟩ := hq
      refine fz_back rfl ?_
      refine fz_iret dX10_count_83 rfl (Nat.zero_le _) (Nat.zero_le _) ⟨rfl, hV⟩
    · refine fz_tableIn (off := 83) (tgt := 84) dX10_count_1 (by decide) (by decide) (by decide) (by decide) ?_
      refine fz_aload_n dX10_count_84 rfl ?_
      refine fz_get dX10_count_85 fX10_29 rfl (Nat.one_pos) rfl ?_
      refine fz_callV (tX5_open (nI on) (nI tn) (nI nc) (nI pn)) dX10_count_88 kX10_113 rfl (Nat.one_pos) ⟨rfl, trivial⟩ (Nat.le_of_ble_eq_true rfl) (Nat.le_of_ble_eq_true rfl) (Nat.le_of_ble_eq_true rfl) (Nat.le_of_ble_eq_true rfl) (Nat.le_of_ble_eq_true rfl) rfl (fun r U hq => ?_)
      obtain ⟨rfl, rfl⟩ := hq
      refine fz_back rfl ?_
      refine fz_iret dX10_count_91 rfl (Nat.zero_le _) (Nat.zero_le _) ⟨by rw [hoc.2.2]; rfl, hV⟩
    · refine fz_tableIn (off := 91) (tgt := 92) dX10_count_1 (by decide) (by decide) (by decide) (by decide) ?_
      refine fz_aload_n dX10_count_92 rfl ?_
      refine fz_get dX10_count_93 fX10_29 rfl (Nat.one_pos) rfl ?_
      refine fz_callV (tX5_tasks (nI on) (nI tn) (nI nc) (nI pn)) dX10_count_96 kX10_133 rfl (Nat.one_pos) ⟨rfl, trivial⟩ (Nat.le_of_ble_eq_true rfl) (Nat.le_of_ble_eq_true rfl) (Nat.le_of_ble_eq_true rfl) (Nat.le_of_ble_eq_true rfl) (Nat.le_of_ble_eq_true rfl) rfl (fun r U hq => ?_)
      obtain ⟨rfl, rfl⟩ := hq
      refine fz_back rfl ?_
      refine fz_iret dX10_count_99 rfl (Nat.zero_le _) (Nat.zero_le _) ⟨rfl, hV⟩
    · refine fz_tableIn (off := 99) (tgt := 100) dX10_count_1 (by decide) (by decide) (by decide) (by decide) ?_
      refine fz_aload_n dX10_count_100 rfl ?_
      refine fz_get dX10_count_101 fX10_29 rfl (Nat.one_pos) rfl ?_
      refine fz_callV (tX5_pending (nI on) (nI tn) (nI nc) (nI pn)) dX10_count_104 kX10_136 rfl (Nat.one_pos) ⟨rfl, trivial⟩ (Nat.le_of_ble_eq_true rfl) (Nat.le_of_ble_eq_true rfl) (Nat.le_of_ble_eq_true rfl) (Nat.le_of_ble_eq_true rfl) (Nat.le_of_ble_eq_true rfl) rfl (fun r U hq => ?_)
      obtain ⟨rfl, rfl⟩ := hq
      refine fz_back rfl ?_
      refine fz_iret dX10_count_107 rfl (Nat.zero_le _) (Nat.zero_le _) ⟨by rw [hoc.1]; rfl, hV⟩
    · refine fz_tableIn (off := 107) (tgt := 108) dX10_count_1 (by decide) (by decide) (by decide) (by decide) ?_
      refine fz_aload_n dX10_count_108 rfl ?_
      refine fz_get dX10_count_109 fX10_38 rfl (Nat.one_pos) rfl ?_
      refine fz_callV (tX0_now g (nI rn) (nI t) (nI wy) (nI lg)) dX10_count_112 kX10_82 rfl (Nat.one_pos) ⟨rfl, trivial⟩ (Nat.le_of_ble_eq_true rfl) (Nat.le_of_ble_eq_true rfl) (Nat.le_of_ble_eq_true rfl) (Nat.le_of_ble_eq_true rfl) (Nat.le_of_ble_eq_true rfl) rfl (fun r U hq => ?_)
      obtain ⟨rfl, rfl⟩ := hq
      refine fz_back rfl ?_
      refine fz_iret dX10_count_115 rfl (Nat.zero_le _) (Nat.zero_le _) ⟨rfl, hV⟩
    · refine fz_tableIn (off := 115) (tgt := 116) dX10_count_1 (by decide) (by decide) (by decide) (by decide) ?_
      refine fz_aload_n dX10_count_116 rfl ?_
      refine fz_get dX10_count_117 fX10_38 rfl (Nat.one_pos) rfl ?_
      refine fz_callV (tX0_alarms g (nI rn) (nI t) (nI wy) (nI lg) (nI A)) dX10_count_120 kX10_139 rfl (Nat.one_pos) ⟨rfl, rfl, trivial⟩ (Nat.le_of_ble_eq_true rfl) (Nat.le_of_ble_eq_true rfl) (Nat.le_of_ble_eq_true rfl) (Nat.le_of_ble_eq_true rfl) (Nat.le_of_ble_eq_true rfl) rfl (fun r U hq => ?_)
      obtain ⟨rfl, rfl⟩ := hq
      refine fz_back rfl ?_
      refine fz_iret dX10_count_123 rfl (Nat.zero_le _) (Nat.zero_le _) ⟨rfl, hV⟩
    · refine fz_tableIn (off := 123) (tgt := 124) dX10_count_1 (by decide) (by decide) (by decide) (by decide) ?_
      refine fz_aload_n dX10_count_124 rfl ?_
      refine fz_get dX10_count_125 fX10_38 rfl (Nat.one_pos) rfl ?_
      refine fz_callV (tX0_ways g (nI rn) (nI t) (nI wy) (nI lg)) dX10_count_128 kX10_142 rfl (Nat.one_pos) ⟨rfl, trivial⟩ (Nat.le_of_ble_eq_true rfl) (Nat.le_of_ble_eq_true rfl) (Nat.le_of_ble_eq_true rfl) (Nat.le_of_ble_eq_true rfl) (Nat.le_of_ble_eq_true rfl) rfl (fun r U hq => ?_)
      obtain ⟨rfl, rfl⟩ := hq
      refine fz_back rfl ?_
      refine fz_iret dX10_count_131 rfl (Nat.zero_le _) (Nat.zero_le _) ⟨rfl, hV⟩
    · refine fz_tableIn (off := 131) (tgt := 132) dX10_count_1 (by decide) (by decide) (by decide) (by decide) ?_
      refine fz_aload_n dX10_count_132 rfl ?_
      refine fz_get dX10_count_133 fX10_38 rfl (Nat.one_pos) rfl ?_
      refine fz_callV (tX0_longestWay g (nI rn) (nI t) (nI wy) (nI lg)) dX10_count_136 kX10_145 rfl (Nat.one_pos) ⟨rfl, trivial⟩ (Nat.le_of_ble_eq_true rfl) (Nat.le_of_ble_eq_true rfl) (Nat.le_of_ble_eq_true rfl) (Nat.le_of_ble_eq_true rfl) (Nat.le_of_ble_eq_true rfl) rfl (fun r U hq => ?_)
      obtain ⟨rfl, rfl⟩ := hq
      refine fz_back rfl ?_
      refine fz_iret dX10_count_139 rfl (Nat.zero_le _) (Nat.zero_le _) ⟨rfl, hV⟩
    · refine fz_tableIn (off := 139) (tgt := 140) dX10_count_1 (by decide) (by decide) (by decide) (by decide) ?_
      refine fz_aload_n dX10_count_140 rfl ?_
      refine fz_get dX10_count_141 fX10_38 rfl (Nat.one_pos) rfl ?_
      refine fz_callV (tX0_moves g rn hrn (nI t) (nI wy) (nI lg) B) dX10_count_144 kX10_148 rfl (Nat.one_pos) ⟨rfl, rfl, rfl, trivial⟩ (Nat.le_of_ble_eq_true rfl) (Nat.le_of_ble_eq_true rfl) (Nat.le_of_ble_eq_true rfl) (Nat.le_of_ble_eq_true rfl) (Nat.le_of_ble_eq_true rfl) rfl (fun r U hq => ?_)
      obtain ⟨rfl, rfl⟩ := hq
      refine fz_back rfl ?_
      refine fz_iret dX10_count_147 rfl (Nat.zero_le _) (Nat.zero_le _) ⟨rfl, hV⟩
/-- a new robot in c -/
def adP (P : Nat → Nat → Nat) (rn c : Nat) : Nat → Nat → Nat := fun q τ => if q = rn then c else P q τ
def adE (te : Nat → Nat) (rn : Nat) : Nat → Nat := fun q => if q = rn then 0 else te q
def robF (σ : zS) (x : Int32) : Int32 × zS := match σ with
  | (tx, n, fp, cn, w, kn, on, tn, rn, O, T, P, te, B, t, A, wy, lg) => if cn = 0 ∨ ¬ t = 0 then (-4, σ) else if ¬ celK cn kn x = nI 4 then (-2, σ) else if rn = 6 then (-3, σ) else if eoB P te rn x.toNatClampNeg rn = true then (-1, σ) else (nI rn, (tx, n, fp, cn, w, kn, on, tn, rn + 1, O, T, adP P rn x.toNatClampNeg, adE te rn, va_up B rn (roN (B rn)), t, A, wy, lg))
theorem ttR_add {rn : Nat} {P : Nat → Nat → Nat} {te : Nat → Nat} {rows : Nat → Int64} {en et ow : Nat → Int32} {c : Nat} (hrn : rn < 6) (hc : c < 80) (h : ttR (fun _ => 0) rn P te rows en et ow) (hE : eoB P te rn c rn = false) : ttR (fun _ => 0) (rn + 1) (adP P rn c) (adE te rn) (vp_updL rows 0 (wby (rows 0) rn c)) (upd en rn (nI c)) (upd et rn (nI 0)) (upd ow c (nI rn)) := by
  have hno : ∀ q, q < rn → ¬ P q (te q) = c := by
    intro q h1 h2
    have := (eoB_iff (P := P) (te := te) (r := rn) (c := c) rn).mpr ⟨q, h1, by omega, h2⟩
    rw [hE] at this; cases this
  have hen : ∀ q, adP P rn c q (adE te rn q) = if q = rn then c else P q (te q) := by
    intro q
    unfold adP adE
    by_cases e : q = rn
    · rw [if_pos e, if_pos e]
    · rw [if_neg e, if_neg e, if_neg e]
  refine ⟨fun q hq => ?_, fun q hq => ?_, fun d hd hx => ?_⟩
  · by_cases e : q = rn
    · have e2 : adE te rn q = 0 := by unfold adE; rw [if_pos e]
      have e3 : ∀ τ, adP P rn c q τ = c := fun τ => by unfold adP; rw [if_pos e]
      refine ⟨by rw [e2, e, pk_us], by rw [e2]; omega, by rw [e3, e, pk_us], fun τ _ => by rw [e3, e3], fun τ hτ => ?_, fun τ => by rw [e3]; exact hc⟩
      rw [e2] at hτ
      have hτ0 : τ = 0 := by
        have hτ : τ ≤ 0 ∨ τ < 0 := hτ
        omega
      rw [e3, hτ0, pk_uLs, wby_bt _ (by omega) (by omega) (by omega), if_pos e]
    · obtain ⟨h1, h2, h3, h4, h5, h6⟩ := h.1 q (by omega)
      have e2 : adE te rn q = te q := by unfold adE; rw [if_neg e]
      have e3 : ∀ τ, adP P rn c q τ = P q τ := fun τ => by unfold adP; rw [if_neg e]
      refine ⟨by rw [e2, pk_un e]; exact h1, by rw [e2]; exact h2, by rw [e2, e3, pk_un e]; exact h3, fun τ hτ => ?_, fun τ hτ => ?_, fun τ => by rw [e3]; exact h6 τ⟩
      · rw [e2] at hτ ⊢
        rw [e3, e3]; exact h4 τ hτ
      · rw [e2] at hτ
        rw [e3]
        by_cases z : τ = 0
        · rw [z, pk_uLs, wby_bt _ (by omega) (by omega) (by omega), if_neg e, ← z]; exact h5 τ hτ
        · rw [pk_uLn z]; exact h5 τ hτ
  · rw [hen]
    by_cases e : q = rn
    · rw [if_pos e, pk_us, e]
    · rw [if_neg e, pk_un (hno q (by omega))]; exact h.2.1 q (by omega)
  · have hdc : ¬ d = c := fun z => hx rn (by omega) (by rw [hen, if_pos rfl, z])
    rw [pk_un hdc]
    refine h.2.2 d hd (fun q hq z => hx q (by omega) ?_)
    rw [hen, if_neg (by omega)]; exact z
theorem tX10_robot {G : fz_G} (σ : zS) (V : fz_W) (hI : inZ σ) (hV : clR σ V) (x : Int32) : fz_T G mX10_robot rX10_robot [zR 1 0, zI x] V (fun r U => r = some (zI (robF σ x).1) ∧ clR (robF σ x).2 U) := by
  obtain ⟨tx, n, fp, cn, w, kn, on, tn, rn, O, T, P, te, B, t, A, wy, lg⟩ := σ
  have hrn : rn ≤ 6 := hI.1.2.2.1
  have ht4 : t ≤ 4000 := hI.1.2.2.2.1
  have hV2 := hV
  obtain ⟨g, tw, ln, co, tf, sg, sz, wd, st, op, ki, fa, qu, F, Q, nc, pn, pf, rows, en, et, ow, lo, hi, rb, ts, sh, go, re, al, hg, hn, htw, htq, hM, hoc, htt, rfl⟩ := hV2
  obtain ⟨m1, m2, m3⟩ := id hM
  refine fz_T.of (by decide) (Nat.le_of_ble_eq_true rfl) (fun E0 => ?_)
  unfold robF
  refine fz_aload_n dX10_robot_0 rfl ?_
  refine fz_get dX10_robot_1 fX10_12 rfl (Nat.one_pos) rfl ?_
  refine fz_callV (tX1_size g hg sz wd) dX10_robot_4 kX10_64 rfl (hg) ⟨rfl, trivial⟩ (Nat.le_of_ble_eq_true rfl) (Nat.le_of_ble_eq_true rfl) (Nat.le_of_ble_eq_true rfl) (Nat.le_of_ble_eq_true rfl) (Nat.le_of_ble_eq_true rfl) rfl (fun r U hq => ?_)
  obtain ⟨rfl, rfl⟩ := hq
  refine fz_back rfl ?_
  refine fz_wo (V' := wAl g fp n tw ln co tf sg (wSt g sz wd st op ki fa qu F Q on tn nc pn pf O T rn t wy lg B rows en et ow A lo hi rb ts sh go re al)) rfl ?_
  rw [m1]
  refine fz_if_eq (tgt := 20) dX10_robot_7 (by decide) (fun c7 => ?_) (fun c7 => ?_)
  · have h0 : cn = 0 := (nI_eq (by omega) (by omega)).mp (c7.trans nI_0.symm)
    simp only [if_pos (show cn = 0 ∨ ¬ t = 0 from Or.inl h0)]
    refine fz_bipush (v := -4) dX10_robot_20 (by decide) ?_
    refine fz_iret dX10_robot_22 rfl (Nat.zero_le _) (Nat.zero_le _) ⟨rfl, hV⟩
  · have h0 : ¬ cn = 0 := fun z => c7 (by rw [z]; exact nI_0)
    have htt := htt (Nat.pos_of_ne_zero h0)
    refine fz_aload_n dX10_robot_10 rfl ?_
    refine fz_get dX10_robot_11 fX10_38 rfl (Nat.one_pos) rfl ?_
    refine fz_callV (tX0_now g (nI rn) (nI t) (nI wy) (nI lg)) dX10_robot_14 kX10_82 rfl (Nat.one_pos) ⟨rfl, trivial⟩ (Nat.le_of_ble_eq_true rfl) (Nat.le_of_ble_eq_true rfl) (Nat.le_of_ble_eq_true rfl) (Nat.le_of_ble_eq_true rfl) (Nat.le_of_ble_eq_true rfl) rfl (fun r U hq => ?_)
    obtain ⟨rfl, rfl⟩ := hq
    refine fz_back rfl ?_
    refine fz_wo (V' := wAl g fp n tw ln co tf sg (wSt g sz wd st op ki fa qu F Q on tn nc pn pf O T rn t wy lg B rows en et ow A lo hi rb ts sh go re al)) rfl ?_
    refine fz_if_eq (tgt := 23) dX10_robot_17 (by decide) (fun c17 => ?_) (fun c17 => ?_)
    · have ht0 : t = 0 := (nI_eq (by omega) (by omega)).mp (c17.trans nI_0.symm)
      simp only [if_neg (show ¬ (cn = 0 ∨ ¬ t = 0) from fun z => z.elim h0 (fun y => y ht0))]
      refine fz_aload_n dX10_robot_23 rfl ?_
      refine fz_get dX10_robot_24 fX10_12 rfl (Nat.one_pos) rfl ?_
      refine fz_iload_n dX10_robot_27 rfl ?_
      refine fz_callV (tX1_kindAt g hg sz wd ki cn w kn _ _ hM x) dX10_robot_28 kX10_67 rfl (hg) ⟨rfl, rfl, trivial⟩ (Nat.le_of_ble_eq_true rfl) (Nat.le_of_ble_eq_true rfl) (Nat.le_of_ble_eq_true rfl) (Nat.le_of_ble_eq_true rfl) (Nat.le_of_ble_eq_true rfl) rfl (fun r U hq => ?_)
      obtain ⟨rfl, rfl⟩ := hq
      refine fz_back rfl ?_
      refine fz_wo (V' := wAl g fp n tw ln co tf sg (wSt g sz wd st op ki fa qu F Q on tn nc pn pf O T rn t wy lg B rows en et ow A lo hi rb ts sh go re al)) rfl ?_
      refine fz_iconst (v := nI 4) dX10_robot_31 (by decide) ?_
      refine fz_icmp_eq (tgt := 38) dX10_robot_32 (by decide) (fun c32 => ?_) (fun c32 => ?_)
      · simp only [if_neg (show ¬ ¬ celK cn kn x = nI 4 from fun z => z c32)]
        refine fz_aload_n dX10_robot_38 rfl ?_
        refine fz_get dX10_robot_39 fX10_38 rfl (Nat.one_pos) rfl ?_
        refine fz_iload_n dX10_robot_42 rfl ?_
        by_cases h6 : rn = 6
        · simp only [if_pos h6]
          subst h6
          refine fz_callV (tX0_put_full g (nI t) (nI wy) (nI lg) x) dX10_robot_43 kX10_85 rfl (Nat.one_pos) ⟨rfl, trivial⟩ (Nat.le_of_ble_eq_true rfl) (Nat.le_of_ble_eq_true rfl) (Nat.le_of_ble_eq_true rfl) (Nat.le_of_ble_eq_true rfl) (Nat.le_of_ble_eq_true rfl) rfl (fun r U hq => ?_)
          obtain ⟨rfl, rfl⟩ := hq
          refine fz_back rfl ?_
          refine fz_iret dX10_robot_46 rfl (Nat.zero_le _) (Nat.zero_le _) ⟨rfl, hV⟩
        · simp only [if_neg h6]
          obtain ⟨c, hc, rfl⟩ : ∃ c, c < cn ∧ x = nI c := by
            rcases ix_cases x (n := cn) (by omega) with h | h
            · unfold celK at c32
              rw [if_pos h] at c32
              exact absurd c32.symm (oI_ne (by omega))
            · exact h
          rw [nI_clamp (by omega)]
          cases hE : eoB P te rn c rn with
          | true =>
            simp only [if_pos (rfl : true = true)]
            obtain ⟨q, a1, a2, a3⟩ := (eoB_iff rn).mp hE
            have how := htt.2.1 q a1
            rw [a3] at how
            refine fz_callV (tX0_put_taken g rn (by omega) (nI t) (nI wy) (nI lg) (nI rn) ow c (by omega) (by rw [how]; exact oI_ne (by omega))) dX10_robot_43 kX10_85 rfl (Nat.one_pos) ⟨rfl, rfl, rfl, trivial⟩ (Nat.le_of_ble_eq_true rfl) (Nat.le_of_ble_eq_true rfl) (Nat.le_of_ble_eq_true rfl) (Nat.le_of_ble_eq_true rfl) (Nat.le_of_ble_eq_true rfl) rfl (fun r U hq => ?_)
            obtain ⟨rfl, rfl⟩ := hq
            refine fz_back rfl ?_
            refine fz_iret dX10_robot_46 rfl (Nat.zero_le _) (Nat.zero_le _) ⟨rfl, hV⟩
          | false =>
            simp only [if_neg (show ¬ false = true from Bool.noConfusion)]
            have how : ow c = -1 := by
              refine htt.2.2 c (by omega) (fun q a1 a2 => ?_)
              have := (eoB_iff (P := P) (te := te) (r := rn) (c := c) rn).mpr ⟨q, a1, by omega, a2⟩
              rw [hE] at this; cases this
            subst ht0
            refine fz_callV (tX0_put g rn (by omega) (nI 0) (nI wy) (nI lg) rows en et ow B c (by omega) how) dX10_robot_43 kX10_85 rfl (Nat.one_pos) ⟨rfl, rfl, rfl, rfl, rfl, rfl, rfl, rfl, trivial⟩ (Nat.le_of_ble_eq_true rfl) (Nat.le_of_ble_eq_true rfl) (Nat.le_of_ble_eq_true rfl) (Nat.le_of_ble_eq_true rfl) (Nat.le_of_ble_eq_true rfl) rfl (fun r U hq => ?_)
            obtain ⟨rfl, rfl⟩ := hq
            refine fz_back rfl ?_
            refine fz_iret dX10_robot_46 rfl (Nat.zero_le _) (Nat.zero_le _) ⟨rfl, g, tw, ln, co, tf, sg, sz, wd, st, op, ki, fa, qu, F, Q, nc, pn, pf, _, _, _, _, lo, hi, rb, ts, sh, go, re, al, hg, hn, htw, htq, hM, hoc, fun _ => ttR_add (by omega) (by omega) htt hE, rfl⟩
      · simp only [if_pos c32]
        refine fz_bipush (v := -2) dX10_robot_35 (by decide) ?_
        refine fz_iret dX10_robot_37 rfl (Nat.zero_le _) (Nat.zero_le _) ⟨rfl, hV⟩
    · have ht0 : ¬ t = 0 := fun z => c17 (by rw [z]; exact nI_0)
      simp only [if_pos (show cn = 0 ∨ ¬ t = 0 from Or.inr ht0)]
      refine fz_bipush (v := -4) dX10_robot_20 (by decide) ?_
      refine fz_iret dX10_robot_22 rfl (Nat.zero_le _) (Nat.zero_le _) ⟨rfl, hV⟩
