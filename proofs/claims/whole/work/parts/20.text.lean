/-! THE TEXT: FleetController$MapText -/
abbrev eTx (len wd ln co fp : Int32) : fz_E := zo 2 1 (fun _ => [zR 9 0, zI len, zI wd, zI ln, zI co, zI fp])
abbrev eSg (sg : Nat → Int32) : fz_E := zi 0 1 90 (fun _ => sg)
theorem tX2_length {G : fz_G} (len wd ln co fp : Int32) : fz_T G mX2_length rX2_length [zR 8 0] [(8, eTx len wd ln co fp)] (fun r U => r = some (zI len) ∧ U = [(8, eTx len wd ln co fp)]) := by
  refine fz_T.of (by decide) (Nat.le_of_ble_eq_true rfl) (fun E0 => ?_)
  refine fz_aload_n dX2_length_0 rfl ?_
  refine fz_get dX2_length_1 fX2_15 rfl (Nat.one_pos) rfl ?_
  refine fz_iret dX2_length_4 rfl (Nat.zero_le _) (Nat.zero_le _) ⟨rfl, rfl⟩
theorem tX2_width {G : fz_G} (len wd ln co fp : Int32) : fz_T G mX2_width rX2_width [zR 8 0] [(8, eTx len wd ln co fp)] (fun r U => r = some (zI wd) ∧ U = [(8, eTx len wd ln co fp)]) := by
  refine fz_T.of (by decide) (Nat.le_of_ble_eq_true rfl) (fun E0 => ?_)
  refine fz_aload_n dX2_width_0 rfl ?_
  refine fz_get dX2_width_1 fX2_19 rfl (Nat.one_pos) rfl ?_
  refine fz_iret dX2_width_4 rfl (Nat.zero_le _) (Nat.zero_le _) ⟨rfl, rfl⟩
theorem tX2_faultPlace {G : fz_G} (len wd ln co fp : Int32) : fz_T G mX2_faultPlace rX2_faultPlace [zR 8 0] [(8, eTx len wd ln co fp)] (fun r U => r = some (zI fp) ∧ U = [(8, eTx len wd ln co fp)]) := by
  refine fz_T.of (by decide) (Nat.le_of_ble_eq_true rfl) (fun E0 => ?_)
  refine fz_aload_n dX2_faultPlace_0 rfl ?_
  refine fz_get dX2_faultPlace_1 fX2_22 rfl (Nat.one_pos) rfl ?_
  refine fz_iret dX2_faultPlace_4 rfl (Nat.zero_le _) (Nat.zero_le _) ⟨rfl, rfl⟩
theorem tX2_wipe {G : fz_G} (len wd ln co fp : Int32) : fz_T G mX2_wipe rX2_wipe [zR 8 0] [(8, eTx len wd ln co fp)] (fun r U => r = some (zI len) ∧ U = [(8, eTx 0 wd ln co fp)]) := by
  refine fz_T.of (by decide) (Nat.le_of_ble_eq_true rfl) (fun E0 => ?_)
  refine fz_aload_n dX2_wipe_0 rfl ?_
  refine fz_get dX2_wipe_1 fX2_15 rfl (Nat.one_pos) rfl ?_
  refine fz_istore_n dX2_wipe_4 (Nat.le_of_ble_eq_true rfl) ?_
  refine fz_aload_n dX2_wipe_5 rfl ?_
  refine fz_iconst (v := nI 0) dX2_wipe_6 (by decide) ?_
  refine fz_put1 dX2_wipe_7 fX2_15 rfl (Nat.le_of_ble_eq_true rfl) ⟨rfl, rfl⟩ ?_
  refine fz_iload_n dX2_wipe_10 rfl ?_
  refine fz_iret dX2_wipe_11 rfl (Nat.zero_le _) (Nat.zero_le _) ⟨rfl, rfl⟩
theorem tX2_byteOf {G : fz_G} (w : Int64) (k : Nat) (hk : k < 8) : fz_T G mX2_byteOf rX2_byteOf [zL w, zI (nI k)] [] (fun r U => r = some (zI (nI (bt w k))) ∧ U = []) := by
  refine fz_T.of (by decide) (Nat.le_of_ble_eq_true rfl) (fun E0 => ?_)
  refine fz_lload_n dX2_byteOf_0 rfl ?_
  refine fz_bipush (v := nI 8) dX2_byteOf_1 (by decide) ?_
  refine fz_iload_n dX2_byteOf_3 rfl ?_
  refine fz_imul dX2_byteOf_4 ?_
  refine fz_lushr dX2_byteOf_5 ?_
  refine fz_l2i dX2_byteOf_6 ?_
  refine fz_sipush (v := nI 255) dX2_byteOf_7 (by decide) ?_
  refine fz_iand dX2_byteOf_10 ?_
  refine fz_top (y := nI (bt w k)) ?_ ?_
  · rw [nI_mul]
    exact bt_u w hk
  · skip
    refine fz_iret dX2_byteOf_11 rfl (Nat.zero_le _) (Nat.zero_le _) ⟨rfl, rfl⟩
/-- how many bytes a call types: up to the first that is 0 -/
def nbx (w : Int64) : Nat → Nat → Nat
  | 0, k => k
  | f + 1, k => if bt w k = 0 then k else nbx w f (k + 1)
def nb (w : Int64) : Nat := nbx w 8 0
theorem nbx_le (w : Int64) : ∀ f k, nbx w f k ≤ k + f
  | 0, k => Nat.le_refl _
  | f + 1, k => by
    unfold nbx
    split
    · omega
    · have := nbx_le w f (k + 1)
      omega
theorem nb_le (w : Int64) : nb w ≤ 8 := nbx_le w 8 0
theorem lX2_append_2 {G : fz_G} {Z : List Frame → Array Value → State → State → Prop} {E0 : Nat → fz_E} {V : fz_W} (w : Int64) (kk : fz_J G mX2_append rX2_append Z E0 0 0 22 [(3, zI (nI (nb w))), (0, zR 8 0), (1, zL w)] [] V) : ∀ f k, k + f = 8 → nbx w f k = nb w → fz_J G mX2_append rX2_append Z E0 0 0 2 [(3, zI (nI k)), (0, zR 8 0), (1, zL w)] [] V := by
  intro f
  induction f with
  | zero =>
    intro k hk hn
    refine fz_iload_n dX2_append_2 rfl ?_
    refine fz_bipush (v := nI 8) dX2_append_3 (by decide) ?_
    refine fz_icmp_ge (tgt := 22) dX2_append_5 (by decide) (fun c5 => ?_) (fun c5 => ?_)
    · have e : k = nb w := hn
      rw [e]
      exact kk
    · exact absurd (nI_le (by omega) (by omega)) c5
  | succ f ih =>
    intro k hk hn
    refine fz_iload_n dX2_append_2 rfl ?_
    refine fz_bipush (v := nI 8) dX2_append_3 (by decide) ?_
    refine fz_icmp_ge (tgt := 22) dX2_append_5 (by decide) (fun c5 => ?_) (fun c5 => ?_)
    · exact absurd ((nI_leI (by omega) (by omega)).mp c5) (by omega)
    · skip
      refine fz_lload_n dX2_append_8 rfl ?_
      refine fz_iload_n dX2_append_9 rfl ?_
      refine fz_callS (tX2_byteOf w k (by omega)) dX2_append_10 kX2_25 trivial (Nat.le_of_ble_eq_true rfl) (Nat.le_of_ble_eq_true rfl) (Nat.le_of_ble_eq_true rfl) (Nat.le_of_ble_eq_true rfl) (Nat.le_of_ble_eq_true rfl) rfl (fun r U hq => ?_)
      obtain ⟨rfl, rfl⟩ := hq
      refine fz_if_eq (tgt := 22) dX2_append_13 (by decide) (fun c13 => ?_) (fun c13 => ?_)
      · have h0 : bt w k = 0 := (nI_eq (by have := bt_lt w k; omega) (by omega)).mp c13
        have e : k = nb w := by
          rw [← hn]
          unfold nbx
          rw [if_pos h0]
        rw [e]
        exact kk
      · have h0 : ¬ bt w k = 0 := fun z => c13 (by rw [z]; exact nI_0)
        refine fz_incN dX2_append_16 rfl (Nat.le_of_ble_eq_true rfl) ?_
        refine fz_goto (tgt := 2) dX2_append_19 (by decide) ?_
        refine ih (k + 1) (by omega) ?_
        rw [← hn, nbx, if_neg h0]
theorem lX2_append_39 {G : fz_G} {Z : List Frame → Array Value → State → State → Prop} {E0 : Nat → fz_E} (w : Int64) (n m : Nat) (hm : m ≤ 8) (hn : n + m ≤ 90) (wd ln co fp : Int32) (sg : Nat → Int32)
    (kk : ∀ sg' : Nat → Int32, (∀ j, sg' j = if n ≤ j ∧ j < n + m then nI (bt w (j - n)) else sg j) → fz_J G mX2_append rX2_append Z E0 0 0 69 [(4, zI (nI m)), (3, zI (nI m)), (0, zR 8 0), (1, zL w)] [] [(8, eTx (nI n) wd ln co fp), (9, eSg sg')]) :
    ∀ f i, i + f = m → ∀ sgi : Nat → Int32, (∀ j, sgi j = if n ≤ j ∧ j < n + i then nI (bt w (j - n)) else sg j) → fz_J G mX2_append rX2_append Z E0 0 0 39 [(4, zI (nI i)), (3, zI (nI m)), (0, zR 8 0), (1, zL w)] [] [(8, eTx (nI n) wd ln co fp), (9, eSg sgi)] := by
  intro f
  induction f with
  | zero =>
    intro i hi sgi hs
    have e : i = m := by omega
    subst e
    refine fz_iload dX2_append_39 rfl ?_
    refine fz_iload_n dX2_append_41 rfl ?_
    refine fz_icmp_ge (tgt := 69) dX2_append_42 (by decide) (fun c => ?_) (fun c => ?_)
    · exact kk sgi hs
    · exact absurd (nI_le (Nat.le_refl _) (by omega)) c
  | succ f ih =>
    intro i hi sgi hs
    refine fz_iload dX2_append_39 rfl ?_
    refine fz_iload_n dX2_append_41 rfl ?_
    refine fz_icmp_ge (tgt := 69) dX2_append_42 (by decide) (fun c => ?_) (fun c => ?_)
    · exact absurd ((nI_leI (by omega) (by omega)).mp c) (by omega)
    · skip
      refine fz_aload_n dX2_append_45 rfl ?_
      refine fz_get dX2_append_46 fX2_9 rfl (Nat.one_pos) rfl ?_
      refine fz_aload_n dX2_append_49 rfl ?_
      refine fz_get dX2_append_50 fX2_15 rfl (Nat.one_pos) rfl ?_
      refine fz_iload dX2_append_53 rfl ?_
      refine fz_iadd dX2_append_55 ?_
      refine fz_lload_n dX2_append_56 rfl ?_
      refine fz_iload dX2_append_57 rfl ?_
      refine fz_callS (tX2_byteOf w i (by omega)) dX2_append_59 kX2_25 trivial (Nat.le_of_ble_eq_true rfl) (Nat.le_of_ble_eq_true rfl) (Nat.le_of_ble_eq_true rfl) (Nat.le_of_ble_eq_true rfl) (Nat.le_of_ble_eq_true rfl) rfl (fun r U hq => ?_)
      obtain ⟨rfl, rfl⟩ := hq
      refine fz_iast1 dX2_append_62 rfl rfl (in_add (by omega) (by omega)) ?_
      refine fz_incN dX2_append_63 rfl (Nat.le_of_ble_eq_true rfl) ?_
      refine fz_goto (tgt := 39) dX2_append_66 (by decide) ?_
      refine ih (i + 1) (by omega) _ ?_
      intro j
      show upd sgi (nI n + nI i).toNatClampNeg (nI (bt w i)) j = _
      rw [cl_add (by omega)]
      by_cases hj : j = n + i
      · subst hj
        rw [pk_us, if_pos (by omega), Nat.add_sub_cancel_left]
      · rw [pk_un hj, hs j]
        by_cases h1 : n ≤ j ∧ j < n + i
        · rw [if_pos h1, if_pos (by omega)]
        · rw [if_neg h1, if_neg (by omega)]
/-- the text's signs are these numbers -/
def tq (sg : Nat → Int32) (tx : Nat → Nat) (n : Nat) : Prop := ∀ j, j < n → sg j = nI (tx j) ∧ tx j < 256
/-- the text with a call's bytes more -/
def apx (tx : Nat → Nat) (n : Nat) (w : Int64) : Nat → Nat := fun j => if j < n then tx j else bt w (j - n)
theorem tX2_append {G : fz_G} (w : Int64) (n : Nat) (hn : n ≤ 90) (wd ln co fp : Int32) (sg : Nat → Int32) (tx : Nat → Nat) (ht : tq sg tx n) : fz_T G mX2_append rX2_append [zR 8 0, zL w] [(8, eTx (nI n) wd ln co fp), (9, eSg sg)] (fun r U => if n + nb w ≤ 90 then r = some (zI (nI (n + nb w))) ∧ ∃ sg', tq sg' (apx tx n w) (n + nb w) ∧ U = [(8, eTx (nI (n + nb w)) wd ln co fp), (9, eSg sg')] else r = some (zI (-3)) ∧ U = [(8, eTx (nI n) wd ln co fp), (9, eSg sg)]) := by
  refine fz_T.of (by decide) (Nat.le_of_ble_eq_true rfl) (fun E0 => ?_)
  have hb := nb_le w
  refine fz_iconst (v := nI 0) dX2_append_0 (by decide) ?_
  refine fz_istore_n dX2_append_1 (Nat.le_of_ble_eq_true rfl) ?_
  refine lX2_append_2 w ?_ 8 0 rfl rfl
  refine fz_aload_n dX2_append_22 rfl ?_
  refine fz_get dX2_append_23 fX2_15 rfl (Nat.one_pos) rfl ?_
  refine fz_iload_n dX2_append_26 rfl ?_
  refine fz_iadd dX2_append_27 ?_
  refine fz_bipush (v := nI 90) dX2_append_28 (by decide) ?_
  refine fz_icmp_le (tgt := 36) dX2_append_30 (by decide) (fun c => ?_) (fun c => ?_)
  · rw [nI_add] at c
    have h1 : n + nb w ≤ 90 := (nI_leI (by omega) (by omega)).mp c
    refine fz_iconst (v := nI 0) dX2_append_36 (by decide) ?_
    refine fz_istore dX2_append_37 (Nat.le_of_ble_eq_true rfl) ?_
    refine lX2_append_39 w n (nb w) hb h1 wd ln co fp sg (fun sg' hs => ?_) (nb w) 0 (by omega) sg (fun j => ?_)
    · skip
      refine fz_aload_n dX2_append_69 rfl ?_
      refine fz_dup dX2_append_70 rfl ?_
      refine fz_get dX2_append_71 fX2_15 rfl (Nat.one_pos) rfl ?_
      refine fz_iload_n dX2_append_74 rfl ?_
      refine fz_iadd dX2_append_75 ?_
      refine fz_put1 dX2_append_76 fX2_15 rfl (Nat.le_of_ble_eq_true rfl) ⟨rfl, rfl⟩ ?_
      refine fz_aload_n dX2_append_79 rfl ?_
      refine fz_get dX2_append_80 fX2_15 rfl (Nat.one_pos) rfl ?_
      refine fz_iret dX2_append_83 rfl (Nat.zero_le _) (Nat.zero_le _) ?_
      rw [if_pos h1]
      refine ⟨by rw [← nI_add], sg', fun j hj => ?_, by rw [← nI_add]; rfl⟩
      rw [hs j]
      unfold apx
      by_cases h2 : j < n
      · rw [if_neg (by omega), if_pos h2]
        exact ht j h2
      · rw [if_pos (by omega), if_neg h2]
        exact ⟨rfl, bt_lt _ _⟩
    · rw [if_neg (by omega)]
  · rw [nI_add] at c
    have h1 : ¬ n + nb w ≤ 90 := fun z => c (nI_le z (by omega))
    refine fz_bipush (v := -3) dX2_append_33 (by decide) ?_
    refine fz_iret dX2_append_35 rfl (Nat.zero_le _) (Nat.zero_le _) ?_
    rw [if_neg h1]
    exact ⟨rfl, rfl⟩
