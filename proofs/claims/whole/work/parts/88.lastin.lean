/-! THE MODEL: lastIn -/
/-- the last tick in which another robot of those looked at comes through c -/
def laI (P : Nat → Nat → Nat) (te : Nat → Nat) (rn r t c o k : Nat) (l : Option Nat) : Prop := (∀ j, l = some j → j < 5200 ∧ ∃ q, q < rn ∧ ¬ q = r ∧ t ≤ j ∧ j < te q ∧ P q j = c) ∧ ∀ q j, (q < o ∨ (q = o ∧ j < k)) → q < rn → ¬ q = r → t ≤ j → j < te q → P q j = c → ∃ i, l = some i ∧ j ≤ i
theorem laI_end {P : Nat → Nat → Nat} {te : Nat → Nat} {rn r t c k : Nat} {l : Option Nat} (ht : t ≤ 4000) (h : laI P te rn r t c rn k l) (n : Nat) (hn : n ≤ 1000) : oI l < nI (t + n) ↔ clr P te rn r t c n := by
  constructor
  · intro hl q τ hq hqr h1 h2 h3
    obtain ⟨i, hi, hle⟩ := h.2 q τ (Or.inl hq) hq hqr (by omega) h2 h3
    have hi5 := (h.1 i hi).1
    rw [hi] at hl
    have := (nI_ltI (by omega) (by omega)).mp hl
    omega
  · intro hc
    cases l with
    | none =>
      show (-1 : Int32) < nI (t + n)
      rw [Int32.lt_iff_toInt_lt, nI_toInt (by omega)]
      have e : (-1 : Int32).toInt = -1 := by decide
      omega
    | some j =>
      obtain ⟨h5, q, h1, h2, h3, h4, h6⟩ := h.1 j rfl
      refine (nI_ltI (by omega) (by omega)).mpr ?_
      rcases Nat.lt_or_ge j (t + n) with z | z
      · exact z
      · exact absurd h6 (hc q j h1 h2 z h4)
abbrev wLa (f wh en : Nat → Int32) : fz_W := wAt f wh en
theorem lX11_lastIn_40 {G : fz_G} {E0 : Nat → fz_E} {Z : List Frame → Array Value → State → State → Prop} (f wh en : Nat → Int32) (E : Nat → Nat) (rn : Nat) (hrn : rn ≤ 6) (P : Nat → Nat → Nat) (te : Nat → Nat) (h : mtR E rn P te wh en) (r t c : Nat) (ht : t ≤ 4000) (hr : r < 6) (hc : c < 80) (o : Nat) (ho : o < rn) (hno : ¬ o = r → ¬ P o (te o) = c)
    (kk : ∀ l, laI P te rn r t c (o + 1) 0 l → fz_J G mX11_lastIn rX11_lastIn Z E0 0 0 5 [(4, zI (nI (o + 1))), (3, zI (oI l)), (0, zR 30 0), (1, zI (nI r)), (2, zI (nI c))] [] (wAt f wh en)) :
    ∀ q k, t ≤ k → k + q = max t (E o) → ∀ l, laI P te rn r t c o k l → fz_J G mX11_lastIn rX11_lastIn Z E0 0 0 40 [(5, zI (nI k)), (4, zI (nI o)), (3, zI (oI l)), (0, zR 30 0), (1, zI (nI r)), (2, zI (nI c))] [] (wAt f wh en) := by
  obtain ⟨h1, h2, h3, h4, h5, h6⟩ := h o ho
  intro q
  have out : ∀ k l, laI P te rn r t c o k l → (o = r ∨ te o ≤ k) → fz_J G mX11_lastIn rX11_lastIn Z E0 0 0 89 [(5, zI (nI k)), (4, zI (nI o)), (3, zI (oI l)), (0, zR 30 0), (1, zI (nI r)), (2, zI (nI c))] [] (wAt f wh en) := by
    intro k l hl hx
    refine fz_incN dX11_lastIn_89 rfl (Nat.le_of_ble_eq_true rfl) ?_
    refine fz_goto (tgt := 5) dX11_lastIn_92 (by decide) ?_
    refine fz_pk [0, 2, 3, 4, 5] rfl ?_
    refine kk l ⟨hl.1, fun q j hqj hq hqr h7 h8 h9 => ?_⟩
    by_cases e : q = o
    · subst e
      rcases hx with z | z
      · exact absurd z hqr
      · exact hl.2 q j (Or.inr ⟨rfl, by omega⟩) hq hqr h7 h8 h9
    · exact hl.2 q j (Or.inl (by omega)) hq hqr h7 h8 h9
  induction q with
  | zero =>
    intro k htk hk l hl
    refine fz_iload dX11_lastIn_40 rfl ?_
    refine fz_iload_n dX11_lastIn_42 rfl ?_
    refine fz_icmp_eq (tgt := 89) dX11_lastIn_43 (by decide) (fun c43 => ?_) (fun c43 => ?_)
    · exact out k l hl (Or.inl ((nI_eq (by omega) (by omega)).mp c43))
    · skip
      refine fz_iload dX11_lastIn_46 rfl ?_
      refine fz_aload_n dX11_lastIn_48 rfl ?_
      refine fz_get dX11_lastIn_49 fX11_33 rfl (Nat.one_pos) rfl ?_
      refine fz_iload dX11_lastIn_52 rfl ?_
      refine fz_iald dX11_lastIn_54 rfl rfl (Nat.one_pos) (vp_in_nI (by omega) (by omega)) ?_
      rw [nI_clamp (by omega), h1]
      refine fz_icmp_ge (tgt := 89) dX11_lastIn_55 (by decide) (fun c55 => ?_) (fun c55 => ?_)
      · exact out k l hl (Or.inr (by omega))
      · exact absurd (nI_le (show E o ≤ k by omega) (by omega)) c55
  | succ q ih =>
    intro k htk hk l hl
    refine fz_iload dX11_lastIn_40 rfl ?_
    refine fz_iload_n dX11_lastIn_42 rfl ?_
    refine fz_icmp_eq (tgt := 89) dX11_lastIn_43 (by decide) (fun c43 => ?_) (fun c43 => ?_)
    · exact out k l hl (Or.inl ((nI_eq (by omega) (by omega)).mp c43))
    · have hor : ¬ o = r := fun z => c43 (by rw [z])
      have hkE : k < E o := by omega
      refine fz_iload dX11_lastIn_46 rfl ?_
      refine fz_aload_n dX11_lastIn_48 rfl ?_
      refine fz_get dX11_lastIn_49 fX11_33 rfl (Nat.one_pos) rfl ?_
      refine fz_iload dX11_lastIn_52 rfl ?_
      refine fz_iald dX11_lastIn_54 rfl rfl (Nat.one_pos) (vp_in_nI (by omega) (by omega)) ?_
      rw [nI_clamp (by omega), h1]
      refine fz_icmp_ge (tgt := 89) dX11_lastIn_55 (by decide) (fun c55 => ?_) (fun c55 => ?_)
      · exact absurd ((nI_leI (by omega) (by omega)).mp c55) (by omega)
      · have p1 := h6 k
        have keep : ∀ l', laI P te rn r t c o (k + 1) l' → fz_J G mX11_lastIn rX11_lastIn Z E0 0 0 82 [(5, zI (nI k)), (4, zI (nI o)), (3, zI (oI l)), (0, zR 30 0), (1, zI (nI r)), (2, zI (nI c))] [zI (oI l')] (wAt f wh en) := by
          intro l' hl'
          refine fz_istore_n dX11_lastIn_82 (Nat.le_of_ble_eq_true rfl) ?_
          refine fz_incN dX11_lastIn_83 rfl (Nat.le_of_ble_eq_true rfl) ?_
          refine fz_goto (tgt := 40) dX11_lastIn_86 (by decide) ?_
          refine fz_pk [0, 2, 1, 3, 4, 5] rfl ?_
          exact ih (k + 1) (by omega) (by omega) l' hl'
        have nok : (P o k = c → k < te o → ∃ i, l = some i ∧ k ≤ i) → laI P te rn r t c o (k + 1) l := by
          intro hx
          refine ⟨hl.1, fun q j hqj hq hqr h7 h8 h9 => ?_⟩
          by_cases e : q = o ∧ j = k
          · obtain ⟨rfl, rfl⟩ := e
            exact hx h9 h8
          · exact hl.2 q j (by omega) hq hqr h7 h8 h9
        refine fz_aload_n dX11_lastIn_58 rfl ?_
        refine fz_iload dX11_lastIn_59 rfl ?_
        refine fz_iload dX11_lastIn_61 rfl ?_
        refine fz_callV (tX11_at f wh en E rn hrn P te h o k ho (by omega)) dX11_lastIn_63 kX11_166 rfl (Nat.one_pos) ⟨rfl, rfl, rfl, trivial⟩ (Nat.le_of_ble_eq_true rfl) (Nat.le_of_ble_eq_true rfl) (Nat.le_of_ble_eq_true rfl) (Nat.le_of_ble_eq_true rfl) (Nat.le_of_ble_eq_true rfl) rfl (fun r U hq => ?_)
        obtain ⟨rfl, rfl⟩ := hq
        refine fz_back rfl ?_
        refine fz_wo (V' := wAt f wh en) rfl ?_
        refine fz_iload_n dX11_lastIn_66 rfl ?_
        refine fz_icmp_ne (tgt := 81) dX11_lastIn_67 (by decide) (fun c67 => ?_) (fun c67 => ?_)
        · have hne : ¬ P o k = c := fun z => c67 (by rw [z])
          refine fz_iload_n dX11_lastIn_81 rfl ?_
          exact keep l (nok (fun z => absurd z hne))
        · have he : P o k = c := (nI_eq (by omega) (by omega)).mp c67
          have hkt : k < te o := by
            rcases Nat.lt_or_ge k (te o) with z | z
            · exact z
            · exact absurd ((h5 k z).symm.trans he) (hno hor)
          refine fz_iload dX11_lastIn_70 rfl ?_
          refine fz_iload_n dX11_lastIn_72 rfl ?_
          refine fz_icmp_le (tgt := 81) dX11_lastIn_73 (by decide) (fun c73 => ?_) (fun c73 => ?_)
          · skip
            refine fz_iload_n dX11_lastIn_81 rfl ?_
            refine keep l (nok (fun _ _ => ?_))
            cases hlv : l with
            | none =>
              rw [hlv] at c73
              have c73 : nI k ≤ (-1 : Int32) := c73
              rw [Int32.le_iff_toInt_le, nI_toInt (by omega)] at c73
              have e : (-1 : Int32).toInt = -1 := by decide
              omega
            | some i =>
              have hi5 := (hl.1 i hlv).1
              rw [hlv] at c73
              exact ⟨i, rfl, (nI_leI (by omega) (by omega)).mp c73⟩
          · skip
            refine fz_iload dX11_lastIn_76 rfl ?_
            refine fz_goto (tgt := 82) dX11_lastIn_78 (by decide) ?_
            refine keep (some k) ⟨fun j hj => ?_, fun q j hqj hq hqr h7 h8 h9 => ?_⟩
            · cases hj
              exact ⟨by omega, o, ho, hor, htk, hkt, he⟩
            · by_cases e : q = o ∧ j = k
              · exact ⟨k, rfl, by omega⟩
              · obtain ⟨i, hi, hji⟩ := hl.2 q j (by omega) hq hqr h7 h8 h9
                have hi5 := (hl.1 i hi).1
                refine ⟨k, rfl, ?_⟩
                rcases Nat.lt_or_ge i k with z | z
                · omega
                · exfalso
                  apply c73
                  rw [hi]
                  exact nI_le z (by omega)
theorem lX11_lastIn_5 {G : fz_G} {E0 : Nat → fz_E} (f wh en : Nat → Int32) (E : Nat → Nat) (rn : Nat) (hrn : rn ≤ 6) (hf12 : f 12 = nI rn) (P : Nat → Nat → Nat) (te : Nat → Nat) (h : mtR E rn P te wh en) (r t c : Nat) (hf11 : f 11 = nI t) (ht : t ≤ 4000) (hr : r < 6) (hc : c < 80) (hE : eoB P te r c rn = false) :
    ∀ q o, o + q = rn → ∀ l, laI P te rn r t c o 0 l → fz_J G mX11_lastIn rX11_lastIn (fz_Z G E0 rX11_lastIn.cells rX11_lastIn.slots (fun x U => (∃ la : Int32, x = some (zI la) ∧ ∀ n, n ≤ 1000 → (la < nI (t + n) ↔ clr P te rn r t c n)) ∧ U = wAt f wh en)) E0 0 0 5 [(4, zI (nI o)), (3, zI (oI l)), (0, zR 30 0), (1, zI (nI r)), (2, zI (nI c))] [] (wAt f wh en) := by
  intro q
  induction q with
  | zero =>
    intro o ho l hl
    have e : o = rn := by omega
    subst e
    refine fz_iload dX11_lastIn_5 rfl ?_
    refine fz_aload_n dX11_lastIn_7 rfl ?_
    refine fz_get dX11_lastIn_8 fX11_144 rfl (Nat.one_pos) rfl ?_
    rw [hf12]
    refine fz_icmp_ge (tgt := 95) dX11_lastIn_11 (by decide) (fun c11 => ?_) (fun c11 => ?_)
    · skip
      refine fz_iload_n dX11_lastIn_95 rfl ?_
      refine fz_iret dX11_lastIn_96 rfl (Nat.zero_le _) (Nat.zero_le _) ⟨⟨_, rfl, fun n hn => laI_end ht hl n hn⟩, rfl⟩
    · exact absurd (nI_le (Nat.le_refl _) (by omega)) c11
  | succ q ih =>
    intro o ho l hl
    obtain ⟨h1, h2, h3, h4, h5, h6⟩ := h o (by omega)
    have hno : ¬ o = r → ¬ P o (te o) = c := by
      intro hor z
      have := (eoB_iff (P := P) (te := te) (r := r) (c := c) rn).mpr ⟨o, by omega, hor, z⟩
      rw [hE] at this; cases this
    have inner : fz_J G mX11_lastIn rX11_lastIn (fz_Z G E0 rX11_lastIn.cells rX11_lastIn.slots (fun x U => (∃ la : Int32, x = some (zI la) ∧ ∀ n, n ≤ 1000 → (la < nI (t + n) ↔ clr P te rn r t c n)) ∧ U = wAt f wh en)) E0 0 0 34 [(4, zI (nI o)), (3, zI (oI l)), (0, zR 30 0), (1, zI (nI r)), (2, zI (nI c))] [] (wAt f wh en) := by
      refine fz_aload_n dX11_lastIn_34 rfl ?_
      refine fz_get dX11_lastIn_35 fX11_141 rfl (Nat.one_pos) rfl ?_
      rw [hf11]
      refine fz_istore dX11_lastIn_38 (Nat.le_of_ble_eq_true rfl) ?_
      refine lX11_lastIn_40 f wh en E rn hrn P te h r t c ht hr hc o (by omega) hno (fun l' hl' => ih (o + 1) (by omega) l' hl') (max t (E o) - t) t (Nat.le_refl _) (by omega) l ⟨hl.1, fun q j hqj hq hqr h7 h8 h9 => hl.2 q j (by omega) hq hqr h7 h8 h9⟩
    refine fz_iload dX11_lastIn_5 rfl ?_
    refine fz_aload_n dX11_lastIn_7 rfl ?_
    refine fz_get dX11_lastIn_8 fX11_144 rfl (Nat.one_pos) rfl ?_
    rw [hf12]
    refine fz_icmp_ge (tgt := 95) dX11_lastIn_11 (by decide) (fun c11 => ?_) (fun c11 => ?_)
    · exact absurd ((nI_leI (by omega) (by omega)).mp c11) (by omega)
    · skip
      refine fz_iload dX11_lastIn_14 rfl ?_
      refine fz_iload_n dX11_lastIn_16 rfl ?_
      refine fz_icmp_eq (tgt := 34) dX11_lastIn_17 (by decide) (fun c17 => ?_) (fun c17 => ?_)
      · exact inner
      · have hor : ¬ o = r := fun z => c17 (by rw [z])
        refine fz_aload_n dX11_lastIn_20 rfl ?_
        refine fz_iload dX11_lastIn_21 rfl ?_
        refine fz_callV (tX11_endOf f wh en E rn hrn P te h o (by omega)) dX11_lastIn_23 kX11_182 rfl (Nat.one_pos) ⟨rfl, rfl, rfl, trivial⟩ (Nat.le_of_ble_eq_true rfl) (Nat.le_of_ble_eq_true rfl) (Nat.le_of_ble_eq_true rfl) (Nat.le_of_ble_eq_true rfl) (Nat.le_of_ble_eq_true rfl) rfl (fun r U hq => ?_)
        obtain ⟨rfl, rfl⟩ := hq
        refine fz_back rfl ?_
        refine fz_wo (V' := wAt f wh en) rfl ?_
        refine fz_iload_n dX11_lastIn_26 rfl ?_
        refine fz_icmp_ne (tgt := 34) dX11_lastIn_27 (by decide) (fun c27 => ?_) (fun c27 => ?_)
        · exact inner
        · exact absurd ((nI_eq (by have := h6 (te o); omega) (by omega)).mp c27) (hno hor)
theorem tX11_lastIn {G : fz_G} (f wh en : Nat → Int32) (E : Nat → Nat) (rn : Nat) (hrn : rn ≤ 6) (hf12 : f 12 = nI rn) (P : Nat → Nat → Nat) (te : Nat → Nat) (h : mtR E rn P te wh en) (r t c : Nat) (hf11 : f 11 = nI t) (ht : t ≤ 4000) (hr : r < 6) (hc : c < 80) (hE : eoB P te r c rn = false) :
    fz_T G mX11_lastIn rX11_lastIn [zR 30 0, zI (nI r), zI (nI c)] (wAt f wh en) (fun x U => (∃ la : Int32, x = some (zI la) ∧ ∀ n, n ≤ 1000 → (la < nI (t + n) ↔ clr P te rn r t c n)) ∧ U = wAt f wh en) := by
  refine fz_T.of (by decide) (Nat.le_of_ble_eq_true rfl) (fun E0 => ?_)
  refine fz_iconst (v := -1) dX11_lastIn_0 (by decide) ?_
  refine fz_istore_n dX11_lastIn_1 (Nat.le_of_ble_eq_true rfl) ?_
  refine fz_iconst (v := nI 0) dX11_lastIn_2 (by decide) ?_
  refine fz_istore dX11_lastIn_3 (Nat.le_of_ble_eq_true rfl) ?_
  exact lX11_lastIn_5 f wh en E rn hrn hf12 P te h r t c hf11 ht hr hc hE rn 0 (by omega) none ⟨fun j hj => (by cases hj), fun q j hqj => by omega⟩
