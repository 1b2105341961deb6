/-! THE TEXT: FleetController$MapText -/
abbrev eTx (len wd ln co fp : Int32) : fz_E := zo 2 1 (fun _ => [zR 9 0, zI len, zI wd, zI ln, zI co, zI fp])
abbrev eSg (sg : Nat → Int32) : fz_E := zi 0 1 90 (fun _ => sg)
theorem tX2_length {G : fz_G} (len wd ln co fp : Int32) : fz_T G mX2_length rX2_length [zR 8 0] [(8, eTx len wd ln co fp)] (fun r U => r = some (zI len) ∧ U = [(8, eTx len wd ln co fp)]) := by
  refine fz_T.of (by decide) (Nat.le_of_ble_eq_true rfl) (fun E0 => ?_)
  refine fz_aload_n dX2_length_0 rfl ?_
  refine fz_get dX2_length_1 fX2_15 rfl (Nat.one_pos) rfl ?_
  refine fz_iret dX2_length_4 rfl (Nat.zero_le _) (Nat.zero_le _) ⟨rfl, rfl⟩
theorem tX2_width {G : fz_G} (len wd ln co fp : Int32) : fz_T G mX2_width rX2_width [zR 8 0] [(8, eTx len wd ln co fp)] (fun r U => r = some (zI wd) ∧ U = [(8, eTx len wd ln co fp)]) := by
  refine fz_T.of (by decide) (Nat.le_of_ble_eq_true rfl) (fun E0 => ?_)
  refine fz_aload_n dX2_width_0 rfl ?_
  refine fz_get dX2_width_1 fX2_19 rfl (Nat.one_pos) rfl ?_
  refine fz_iret dX2_width_4 rfl (Nat.zero_le _) (Nat.zero_le _) ⟨rfl, rfl⟩
theorem tX2_faultPlace {G : fz_G} (len wd ln co fp : Int32) : fz_T G mX2_faultPlace rX2_faultPlace [zR 8 0] [(8, eTx len wd ln co fp)] (fun r U => r = some (zI fp) ∧ U = [(8, eTx len wd ln co fp)]) := by
  refine fz_T.of (by decide) (Nat.le_of_ble_eq_true rfl) (fun E0 => ?_)
  refine fz_aload_n dX2_faultPlace_0 rfl ?_
  refine fz_get dX2_faultPlace_1 fX2_22 rfl (Nat.one_pos) rfl ?_
  refine fz_iret dX2_faultPlace_4 rfl (Nat.zero_le _) (Nat.zero_le _) ⟨rfl, rfl⟩
theorem tX2_wipe {G : fz_G} (len wd ln co fp : Int32) : fz_T G mX2_wipe rX2_wipe [zR 8 0] [(8, eTx len wd ln co fp)] (fun r U => r = some (zI len) ∧ U = [(8, eTx 0 wd ln co fp)]) := by
  refine fz_T.of (by decide) (Nat.le_of_ble_eq_true rfl) (fun E0 => ?_)
  refine fz_aload_n dX2_wipe_0 rfl ?_
  refine fz_get dX2_wipe_1 fX2_15 rfl (Nat.one_pos) rfl ?_
  refine fz_istore_n dX2_wipe_4 (Nat.le_of_ble_eq_true rfl) ?_
  refine fz_aload_n dX2_wipe_5 rfl ?_
  refine fz_iconst (v := nI 0) dX2_wipe_6 (by decide) ?_
  refine fz_put1 dX2_wipe_7 fX2_15 rfl (Nat.le_of_ble_eq_true rfl) ⟨rfl, rfl⟩ ?_
  refine fz_iload_n dX2_wipe_10 rfl ?_
  refine fz_iret dX2_wipe_11 rfl (Nat.zero_le _) (Nat.zero_le _) ⟨rfl, rfl⟩
theorem tX2_byteOf {G : fz_G} (w : Int64) (k : Nat) (hk : k < 8) : fz_T G mX2_byteOf rX2_byteOf [zL w, zI (nI k)] [] (fun r U => r = some (zI (nI (bt w k))) ∧ U = []) := by
  refine fz_T.of (by decide) (Nat.le_of_ble_eq_true rfl) (fun E0 => ?_)
  refine fz_lload_n dX2_byteOf_0 rfl ?_
  refine fz_bipush (v := nI 8) dX2_byteOf_1 (by decide) ?_
  refine fz_iload_n dX2_byteOf_3 rfl ?_
  refine fz_imul dX2_byteOf_4 ?_
  refine fz_lushr dX2_byteOf_5 ?_
  refine fz_l2i dX2_byteOf_6 ?_
  refine fz_sipush (v := nI 255) dX2_byteOf_7 (by decide) ?_
  refine fz_iand dX2_byteOf_10 ?_
  refine fz_top (y := nI (bt w k)) ?_ ?_
  · rw [nI_mul]
    exact bt_u w hk
  · skip
    refine fz_iret dX2_byteOf_11 rfl (Nat.zero_le _) (Nat.zero_le _) ⟨rfl, rfl⟩
/-- how many bytes a call types: up to the first that is 0 -/
def nbx (w : Int64) : Nat → Nat → Nat
  | 0, k => k
  | f + 1, k => if bt w k = 0 then k else nbx w f (k + 1)
def nb (w : Int64) : Nat := nbx w 8 0
theorem nbx_le (w : Int64) : ∀ f k, nbx w f k ≤ k + f
  | 0, k => Nat.le_refl _
  | f + 1, k => by
    unfold nbx
    split
    · omega
    · have := nbx_le w f (k + 1)
      omega
theorem nb_le (w : Int64) : nb w ≤ 8 := nbx_le w 8 0
theorem lX2_append_2 {G : fz_G} {Z : List Frame → Array Value → State → State → Prop} {E0 : Nat → fz_E} {V : fz_W} (w : Int64) (kk : fz_J G mX2_append rX2_append Z E0 0 0 22 [(3, zI (nI (nb w))), (0, zR 8 0), (1, zL w)] [] V) : ∀ f k, k + f = 8 → nbx w f k = nb w → fz_J G mX2_append rX2_append Z E0 0 0 2 [(3, zI (nI k)), (0, zR 8 0), (1, zL w)] [] V := by
  intro f
  induction f with
  | zero =>
    intro k hk hn
    refine fz_iload_n dX2_append_2 rfl ?_
    refine fz_bipush (v := nI 8) dX2_append_3 (by decide) ?_
    refine fz_icmp_ge (tgt := 22) dX2_append_5 (by decide) (fun c5 => ?_) (fun c5 => ?_)
    · have e : k = nb w := hn
      rw [e]
      exact kk
    · exact absurd (nI_le (by omega) (by omega)) c5
  | succ f ih =>
    intro k hk hn
    refine fz_iload_n dX2_append_2 rfl ?_
    refine fz_bipush (v := nI 8) dX2_append_3 (by decide) ?_
    refine fz_icmp_ge (tgt := 22) dX2_append_5 (by decide) (fun c5 => ?_) (fun c5 => ?_)
    · exact absurd ((nI_leI (by omega) (by omega)).mp c5) (by omega)
    · skip
      refine fz_lload_n dX2_append_8 rfl ?_
      refine fz_iload_n dX2_append_9 rfl ?_
      refine fz_callS (tX2_byteOf w k (by omega)) dX2_append_10 kX2_25 trivial (by decide) (by decide) (by decide) (by decide) (by decide) rfl (fun r U hq => ?_)
      obtain ⟨rfl, rfl⟩ := hq
      refine fz_if_eq (tgt := 22) dX2_append_13 (by decide) (fun c13 => ?_) (fun c13 => ?_)
      · have h0 : bt w k = 0 := (nI_eq (by have := bt_lt w k; omega) (by omega)).mp c13
        have e : k = nb w := by
          rw [← hn]
          unfold nbx
          rw [if_pos h0]
        rw [e]
        exact kk
      · have h0 : ¬ bt w k = 0 := fun z => c13 (by rw [z]; exact nI_0)
        refine fz_iinc dX2_append_16 rfl (Nat.le_of_ble_eq_true rfl) ?_
        refine fz_goto (tgt := 2) dX2_append_19 (by decide) ?_
        refine fz_ls (ls' := [(3, zI (nI (k + 1))), (0, zR 8 0), (1, zL w)]) ?_ (ih (k + 1) (by omega) ?_)
        · rw [← nI_1]; rfl
        · rw [← hn]
          rw [nbx, if_neg h0]
