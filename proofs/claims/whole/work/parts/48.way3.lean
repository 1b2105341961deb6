/-! WaySearch: lookAtOthers -/
theorem fz_Jm {G : fz_G} {M : fz_M} {R : Room} {E0 : Nat → fz_E} {mc ms cs sl pc : Nat} {ls : List (Nat × fz_V)} {st : List fz_V} {V : fz_W} {Q Q' : Option fz_V → fz_W → Prop} (h : fz_J G M R (fz_Z G E0 mc ms Q) E0 cs sl pc ls st V) (hq : ∀ r U, Q r U → Q' r U) : fz_J G M R (fz_Z G E0 mc ms Q') E0 cs sl pc ls st V := by
  intro p e s m args below meth c H locs la hC hR hS hll T hT X
  obtain ⟨t, a1, o, b1, b2, ⟨⟨r, V', c1, c2, c5⟩, c6⟩, b4⟩ := h p e s m args below meth c H locs la hC hR hS hll T hT X
  exact ⟨t, a1, o, b1, b2, ⟨⟨r, V', c1, hq r V' c2, c5⟩, c6⟩, b4⟩
/-- a robot before o that changes places with one that makes move m from c -/
def blk (P : Nat → Nat → Nat) (st : Nat → Int32) (r τ m c : Nat) : Nat → Bool
  | 0 => false
  | o + 1 => blk P st r τ m c o || (decide (¬ o = r) && (decide (1 ≤ m) && (decide (c = P o (τ + 1)) && decide (nI (P o (τ + 1)) + st m = nI (P o τ)))))
/-- a robot before o that is in c then -/
def tkn (P : Nat → Nat → Nat) (r τ c : Nat) : Nat → Bool
  | 0 => false
  | o + 1 => tkn P r τ c o || (decide (¬ o = r) && decide (c = P o (τ + 1)))
abbrev wLk (g : Nat) (sz wd : Nat → Int32) (st : Nat → Nat → Int32) (op : Nat → Nat → Int64) (rn : Nat) (rows : Nat → Int64) (en et : Nat → Int32) (lo hi : Int64) (r t : Nat) (sh go : Int32) (al : Nat → Int64) : fz_W := [(2, eGr sz wd), (3, e5 st), (4, eL op), (19, eTT (nI rn)), (20, eRw rows), (21, e6 en), (22, e6 et), (25, eWS g lo hi (nI r) (nI t) sh go), (27, eAl al)]
/-- what the search sees of the others at tick τ, of those before o -/
def seen (P : Nat → Nat → Nat) (st : Nat → Int32) (op : Nat → Int64) (r τ o : Nat) (lo hi : Int64) (al : Nat → Int64) : Prop := (∀ c, c < 128 → X2 lo hi c = tkn P r τ c o) ∧ ∀ m c, m < 5 → c < 128 → inS al (2 * m) c = (inS op (2 * m) c && !blk P st r τ m c o)
theorem lX9_look {G : fz_G} {E0 : Nat → fz_E} (g : Nat) (hg : g < 2) (sz wd : Nat → Int32) (st : Nat → Nat → Int32) (op : Nat → Nat → Int64) (rn : Nat) (rows : Nat → Int64) (en et : Nat → Int32) (P : Nat → Nat → Nat) (hrn : rn ≤ 6) (hP : ∀ r τ, r < rn → τ < 5001 → cAt rows en et r τ = nI (P r τ)) (hP8 : ∀ r τ, r < rn → P r τ < 80) (r t k : Nat) (hr : r < 6) (htk : t + k + 1 < 5001) (sh go : Int32) :
    ∀ q o, o + q = rn → ∀ lo hi al, seen P (st g) (op g) r (t + k) o lo hi al → fz_J G mX9_lookAtOthers rX9_lookAtOthers (fz_Z G E0 0 0 (fun x U => x = none ∧ ∃ lo' hi' al', seen P (st g) (op g) r (t + k) rn lo' hi' al' ∧ U = wLk g sz wd st op rn rows en et lo' hi' r t sh go al')) E0 0 0 30 [(2, zI (nI o)), (0, zR 25 0), (1, zI (nI k))] [] (wLk g sz wd st op rn rows en et lo hi r t sh go al) := by
  intro q
  induction q with
  | zero =>
    intro o ho lo hi al hs
    have e : o = rn := by omega
    subst e
    refine fz_iload_n dX9_lookAtOthers_30 rfl ?_
    refine fz_aload_n dX9_lookAtOthers_31 rfl ?_
    refine fz_get dX9_lookAtOthers_32 fX9_22 rfl (Nat.one_pos) rfl ?_
    refine fz_callV (tX8_robots (nI o)) dX9_lookAtOthers_35 kX9_77 rfl (Nat.one_pos) ⟨rfl, trivial⟩ (Nat.le_of_ble_eq_true rfl) (Nat.le_of_ble_eq_true rfl) (Nat.le_of_ble_eq_true rfl) (Nat.le_of_ble_eq_true rfl) (Nat.le_of_ble_eq_true rfl) rfl (fun r U hq => ?_)
    obtain ⟨rfl, rfl⟩ := hq
    refine fz_back rfl ?_
    refine fz_icmp_ge (tgt := 89) dX9_lookAtOthers_38 (by decide) (fun c38 => ?_) (fun c38 => ?_)
    · skip
      refine fz_vret dX9_lookAtOthers_89 rfl (Nat.zero_le _) (Nat.zero_le _) ⟨rfl, lo, hi, al, hs, rfl⟩
    · exact absurd (nI_le (Nat.le_refl _) (by omega)) c38
  | succ q ih =>
    intro o ho lo hi al hs
    refine fz_iload_n dX9_lookAtOthers_30 rfl ?_
    refine fz_aload_n dX9_lookAtOthers_31 rfl ?_
    refine fz_get dX9_lookAtOthers_32 fX9_22 rfl (Nat.one_pos) rfl ?_
    refine fz_callV (tX8_robots (nI rn)) dX9_lookAtOthers_35 kX9_77 rfl (Nat.one_pos) ⟨rfl, trivial⟩ (Nat.le_of_ble_eq_true rfl) (Nat.le_of_ble_eq_true rfl) (Nat.le_of_ble_eq_true rfl) (Nat.le_of_ble_eq_true rfl) (Nat.le_of_ble_eq_true rfl) rfl (fun r U hq => ?_)
    obtain ⟨rfl, rfl⟩ := hq
    refine fz_back rfl ?_
    refine fz_wo (V' := wLk g sz wd st op rn rows en et lo hi r t sh go al) rfl ?_
    refine fz_icmp_ge (tgt := 89) dX9_lookAtOthers_38 (by decide) (fun c38 => ?_) (fun c38 => ?_)
    · exact absurd ((nI_leI (by omega) (by omega)).mp c38) (by omega)
    · skip
      refine fz_iload_n dX9_lookAtOthers_41 rfl ?_
      refine fz_aload_n dX9_lookAtOthers_42 rfl ?_
      refine fz_get dX9_lookAtOthers_43 fX9_26 rfl (Nat.one_pos) rfl ?_
      refine fz_icmp_eq (tgt := 83) dX9_lookAtOthers_46 (by decide) (fun c46 => ?_) (fun c46 => ?_)
      · have hor : o = r := (nI_eq (by omega) (by omega)).mp c46
        refine fz_incN dX9_lookAtOthers_83 rfl (Nat.le_of_ble_eq_true rfl) ?_
        refine fz_goto (tgt := 30) dX9_lookAtOthers_86 (by decide) ?_
        refine ih (o + 1) (by omega) lo hi al ⟨fun c hc => ?_, fun m c hm hc => ?_⟩
        · rw [hs.1 c hc]
          show _ = (tkn P r (t + k) c o || _)
          simp [hor]
        · rw [hs.2 m c hm hc]
          show _ = (_ && !(blk P (st g) r (t + k) m c o || _))
          simp [hor]
      · have hor : ¬ o = r := fun z => c46 (by rw [z])
        refine fz_aload_n dX9_lookAtOthers_49 rfl ?_
        refine fz_aload_n dX9_lookAtOthers_50 rfl ?_
        refine fz_get dX9_lookAtOthers_51 fX9_22 rfl (Nat.one_pos) rfl ?_
        refine fz_iload_n dX9_lookAtOthers_54 rfl ?_
        refine fz_aload_n dX9_lookAtOthers_55 rfl ?_
        refine fz_get dX9_lookAtOthers_56 fX9_30 rfl (Nat.one_pos) rfl ?_
        refine fz_iload_n dX9_lookAtOthers_59 rfl ?_
        refine fz_iadd dX9_lookAtOthers_60 ?_
        rw [nI_add]
        refine fz_callV (tX8_cellAt (nI rn) rows en et o (t + k) (by omega) (by omega)) dX9_lookAtOthers_61 kX9_39 rfl (Nat.one_pos) ⟨rfl, rfl, rfl, rfl, trivial⟩ (Nat.le_of_ble_eq_true rfl) (Nat.le_of_ble_eq_true rfl) (Nat.le_of_ble_eq_true rfl) (Nat.le_of_ble_eq_true rfl) (Nat.le_of_ble_eq_true rfl) rfl (fun r U hq => ?_)
        obtain ⟨rfl, rfl⟩ := hq
        refine fz_back rfl ?_
        rw [hP o (t + k) (by omega) (by omega)]
        refine fz_aload_n dX9_lookAtOthers_64 rfl ?_
        refine fz_get dX9_lookAtOthers_65 fX9_22 rfl (Nat.one_pos) rfl ?_
        refine fz_iload_n dX9_lookAtOthers_68 rfl ?_
        refine fz_aload_n dX9_lookAtOthers_69 rfl ?_
        refine fz_get dX9_lookAtOthers_70 fX9_30 rfl (Nat.one_pos) rfl ?_
        refine fz_iload_n dX9_lookAtOthers_73 rfl ?_
        refine fz_iadd dX9_lookAtOthers_74 ?_
        refine fz_iconst (v := nI 1) dX9_lookAtOthers_75 (by decide) ?_
        refine fz_iadd dX9_lookAtOthers_76 ?_
        rw [nI_add, nI_add]
        refine fz_callV (tX8_cellAt (nI rn) rows en et o (t + k + 1) (by omega) (by omega)) dX9_lookAtOthers_77 kX9_39 rfl (Nat.one_pos) ⟨rfl, rfl, rfl, rfl, trivial⟩ (Nat.le_of_ble_eq_true rfl) (Nat.le_of_ble_eq_true rfl) (Nat.le_of_ble_eq_true rfl) (Nat.le_of_ble_eq_true rfl) (Nat.le_of_ble_eq_true rfl) rfl (fun r U hq => ?_)
        obtain ⟨rfl, rfl⟩ := hq
        refine fz_back rfl ?_
        rw [hP o (t + k + 1) (by omega) (by omega)]
        refine fz_wo (V' := wLk g sz wd st op rn rows en et lo hi r t sh go al) rfl ?_
        refine fz_callV (tX9_avoid g hg sz wd st lo hi (nI r) (nI t) sh go al (P o (t + k + 1)) (P o (t + k)) (hP8 o _ (by omega))) dX9_lookAtOthers_80 kX9_102 rfl (Nat.one_pos) ⟨rfl, rfl, rfl, rfl, trivial⟩ (Nat.le_of_ble_eq_true rfl) (Nat.le_of_ble_eq_true rfl) (Nat.le_of_ble_eq_true rfl) (Nat.le_of_ble_eq_true rfl) (Nat.le_of_ble_eq_true rfl) rfl (fun r U hq => ?_)
        obtain ⟨rfl, lo', hi', al', hx, ha, rfl⟩ := hq
        refine fz_back rfl ?_
        refine fz_wo (V' := wLk g sz wd st op rn rows en et lo' hi' r t sh go al') rfl ?_
        refine fz_incN dX9_lookAtOthers_83 rfl (Nat.le_of_ble_eq_true rfl) ?_
        refine fz_goto (tgt := 30) dX9_lookAtOthers_86 (by decide) ?_
        refine ih (o + 1) (by omega) lo' hi' al' ⟨fun c hc => ?_, fun m c hm hc => ?_⟩
        · rw [hx c hc, hs.1 c hc]
          show _ = (tkn P r (t + k) c o || _)
          simp [hor]
        · rw [ha m c hm hc, hs.2 m c hm hc]
          show _ = (_ && !(blk P (st g) r (t + k) m c o || _))
          have e : decide (1 ≤ m ∧ m < 5) = decide (1 ≤ m) := by simp only [decide_eq_decide]; omega
          rw [e]
          simp only [hor, not_false_eq_true, decide_true, Bool.true_and, Bool.not_or, Bool.and_assoc]
theorem tX9_lookAtOthers {G : fz_G} (g : Nat) (hg : g < 2) (sz wd : Nat → Int32) (st : Nat → Nat → Int32) (op : Nat → Nat → Int64) (rn : Nat) (rows : Nat → Int64) (en et : Nat → Int32) (P : Nat → Nat → Nat) (hrn : rn ≤ 6) (hP : ∀ r τ, r < rn → τ < 5001 → cAt rows en et r τ = nI (P r τ)) (hP8 : ∀ r τ, r < rn → P r τ < 80) (r t k : Nat) (hr : r < 6) (htk : t + k + 1 < 5001) (sh go : Int32) (lo hi : Int64) (al : Nat → Int64) :
    fz_T G mX9_lookAtOthers rX9_lookAtOthers [zR 25 0, zI (nI k)] (wLk g sz wd st op rn rows en et lo hi r t sh go al) (fun x U => x = none ∧ ∃ lo' hi' al', seen P (st g) (op g) r (t + k) rn lo' hi' al' ∧ U = wLk g sz wd st op rn rows en et lo' hi' r t sh go al') := by
  refine fz_T.of (by decide) (Nat.le_of_ble_eq_true rfl) (fun E0 => ?_)
  refine fz_aload_n dX9_lookAtOthers_0 rfl ?_
  refine fz_get dX9_lookAtOthers_1 fX9_18 rfl (Nat.one_pos) rfl ?_
  refine fz_get dX9_lookAtOthers_4 fX9_84 rfl (hg) rfl ?_
  refine fz_iconst (v := nI 0) dX9_lookAtOthers_7 (by decide) ?_
  refine fz_aload_n dX9_lookAtOthers_8 rfl ?_
  refine fz_get dX9_lookAtOthers_9 fX9_15 rfl (Nat.one_pos) rfl ?_
  refine fz_iconst (v := nI 0) dX9_lookAtOthers_12 (by decide) ?_
  refine fz_bipush (v := nI 10) dX9_lookAtOthers_13 (by decide) ?_
  refine fz_copyl dX9_lookAtOthers_15 oX9_89 rfl hg rfl (nI_pos (by omega)) (nI_pos (by omega)) (nI_pos (by omega)) (by rw [nI_clamp (by omega), nI_clamp (by omega)]; omega) (by rw [nI_clamp (by omega), nI_clamp (by omega)]; omega) (Nat.le_of_ble_eq_true rfl) (by decide +kernel) ?_
  refine fz_aload_n dX9_lookAtOthers_18 rfl ?_
  refine fz_lconst (v := 0) dX9_lookAtOthers_19 (by decide) ?_
  refine fz_put1 dX9_lookAtOthers_20 fX9_95 rfl (Nat.le_of_ble_eq_true rfl) ⟨rfl, rfl⟩ ?_
  refine fz_aload_n dX9_lookAtOthers_23 rfl ?_
  refine fz_lconst (v := 0) dX9_lookAtOthers_24 (by decide) ?_
  refine fz_put1 dX9_lookAtOthers_25 fX9_99 rfl (Nat.le_of_ble_eq_true rfl) ⟨rfl, rfl⟩ ?_
  refine fz_iconst (v := nI 0) dX9_lookAtOthers_28 (by decide) ?_
  refine fz_istore_n dX9_lookAtOthers_29 (Nat.le_of_ble_eq_true rfl) ?_
  refine lX9_look g hg sz wd st op rn rows en et P hrn hP hP8 r t k hr htk sh go rn 0 (by omega) 0 0 _ ⟨fun c hc => ?_, fun m c hm hc => ?_⟩
  · unfold X2
    rw [bl_0, bl_0]
    simp [tkn]
  · unfold inS
    rw [nI_clamp (by omega), nI_clamp (by omega), pk_cpy_in (by omega) (by omega)]
    simp [blk]
