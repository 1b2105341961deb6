/-! THE MODEL: watch -/
abbrev fW (f : Nat → Int32) (A : Nat) : Nat → Int32 := upd f 19 (nI A)
theorem fW_k {f : Nat → Int32} {A j : Nat} (h : j ≠ 19) : upd f 19 (nI A) j = f j := upk h
theorem fW_u {f : Nat → Int32} {A B : Nat} : upd (upd f 19 (nI A)) 19 (nI B) = upd f 19 (nI B) := upd_uu _ _ _ _
theorem lX11_watch_125 {G : fz_G} {E0 : Nat → fz_E} {Z : List Frame → Array Value → State → State → Prop} (f ki wh en : Nat → Int32) (E : Nat → Nat) (rn : Nat) (hrn : rn ≤ 6) (P : Nat → Nat → Nat) (te : Nat → Nat) (h : mtR E rn P te wh en) (t : Nat) (ht1 : 1 ≤ t) (ht : t ≤ 4000) (m11 : f 11 = nI t) (r : Nat) (hr : r < rn) (A : Nat)
    (kk : fz_J G mX11_watch rX11_watch Z E0 0 0 2 [(1, zI (nI (r + 1))), (0, zR 30 0)] [] (wGo (upd f 19 (nI (A + wcq P t r r))) ki wh en)) (x4 : Int32) :
    ∀ q o, o + q = r → fz_J G mX11_watch rX11_watch Z E0 0 0 125 [(5, zI (nI o)), (4, zI x4), (3, zI (nI (P r (t - 1)))), (2, zI (nI (P r t))), (1, zI (nI r)), (0, zR 30 0)] [] (wGo (upd f 19 (nI (A + wcq P t r o))) ki wh en) := by
  have g0 := (h r hr).2.2.2.2.2 t
  have g1 := (h r hr).2.2.2.2.2 (t - 1)
  intro q
  induction q with
  | zero =>
    intro o ho
    have e : o = r := by omega
    subst e
    refine fz_iload dX11_watch_125 rfl ?_
    refine fz_iload_n dX11_watch_127 rfl ?_
    refine fz_icmp_ge (tgt := 214) dX11_watch_128 (by decide) (fun c128 => ?_) (fun c128 => ?_)
    · skip
      refine fz_incN dX11_watch_214 rfl (Nat.le_of_ble_eq_true rfl) ?_
      refine fz_goto (tgt := 2) dX11_watch_217 (by decide) ?_
      refine fz_pk [0, 5] rfl ?_
      exact kk
    · exact absurd (nI_le (Nat.le_refl _) (by omega)) c128
  | succ q ih =>
    intro o ho
    have g2 := (h o (by omega)).2.2.2.2.2 t
    have g3 := (h o (by omega)).2.2.2.2.2 (t - 1)
    have hw : wcq P t r (o + 1) = wcq P t r o + ((if P r t = P o t then 1 else 0) + (if ¬ P r t = P r (t - 1) ∧ P r t = P o (t - 1) ∧ P r (t - 1) = P o t then 1 else 0)) := rfl
    have m11' : ∀ A, upd f 19 (nI A) 11 = nI t := fun A => by rw [upk (by decide)]; exact m11
    have two : ∀ A2 v, A + wcq P t r (o + 1) = A2 + v → v = (if ¬ P r t = P r (t - 1) ∧ P r t = P o (t - 1) ∧ P r (t - 1) = P o t then 1 else 0) → fz_J G mX11_watch rX11_watch Z E0 0 0 204 [(5, zI (nI o)), (4, zI x4), (3, zI (nI (P r (t - 1)))), (2, zI (nI (P r t))), (1, zI (nI r)), (0, zR 30 0)] [zI (nI v), zI (nI A2), zR 30 0] (wGo (upd f 19 (nI A2)) ki wh en) := by
      intro A2 v hA hv
      refine fz_iadd dX11_watch_204 ?_
      rw [nI_add, ← hA]
      refine fz_putM dX11_watch_205 fX11_153 (by decide) rfl ⟨rfl, rfl⟩ ?_
      refine fz_incN dX11_watch_208 rfl (Nat.le_of_ble_eq_true rfl) ?_
      refine fz_goto (tgt := 125) dX11_watch_211 (by decide) ?_
      refine fz_wo (V' := wGo (upd f 19 (nI (A + wcq P t r (o + 1)))) ki wh en) (by rw [← upd_uu f 19 (nI A2)]; rfl) ?_
      exact ih (o + 1) (by omega)
    have one : ∀ v, v = (if P r t = P o t then 1 else 0) → fz_J G mX11_watch rX11_watch Z E0 0 0 155 [(5, zI (nI o)), (4, zI x4), (3, zI (nI (P r (t - 1)))), (2, zI (nI (P r t))), (1, zI (nI r)), (0, zR 30 0)] [zI (nI v), zI (nI (A + wcq P t r o)), zR 30 0] (wGo (upd f 19 (nI (A + wcq P t r o))) ki wh en) := by
      intro v hv
      refine fz_iadd dX11_watch_155 ?_
      rw [nI_add]
      refine fz_putM dX11_watch_156 fX11_153 (by decide) rfl ⟨rfl, rfl⟩ ?_
      refine fz_wo (V' := wGo (upd f 19 (nI (A + wcq P t r o + v))) ki wh en) (by rw [← upd_uu f 19 (nI (A + wcq P t r o))]; rfl) ?_
      refine fz_aload_n dX11_watch_159 rfl ?_
      refine fz_dup dX11_watch_160 rfl ?_
      refine fz_get dX11_watch_161 fX11_153 rfl (Nat.one_pos) rfl ?_
      rw [pk_us]
      refine fz_iload_n dX11_watch_164 rfl ?_
      refine fz_iload_n dX11_watch_165 rfl ?_
      refine fz_icmp_eq (tgt := 203) dX11_watch_166 (by decide) (fun c166 => ?_) (fun c166 => ?_)
      · have e1 : P r t = P r (t - 1) := (nI_eq (by omega) (by omega)).mp c166
        have z : ¬ (¬ P r t = P r (t - 1) ∧ P r t = P o (t - 1) ∧ P r (t - 1) = P o t) := fun z => z.1 e1
        refine fz_iconst (v := nI 0) dX11_watch_203 (by decide) ?_
        exact two (A + wcq P t r o + v) 0 (by rw [hw, if_neg z, hv]; omega) (by rw [if_neg z])
      · have e1 : ¬ P r t = P r (t - 1) := fun z => c166 (by rw [z])
        refine fz_aload_n dX11_watch_169 rfl ?_
        refine fz_iload dX11_watch_170 rfl ?_
        refine fz_aload_n dX11_watch_172 rfl ?_
        refine fz_get dX11_watch_173 fX11_141 rfl (Nat.one_pos) rfl ?_
        rw [m11']
        refine fz_callV (tX11_at _ wh en E rn hrn P te h o t (by omega) (by omega)) dX11_watch_176 kX11_166 rfl (Nat.one_pos) ⟨rfl, rfl, rfl, trivial⟩ (Nat.le_of_ble_eq_true rfl) (Nat.le_of_ble_eq_true rfl) (Nat.le_of_ble_eq_true rfl) (Nat.le_of_ble_eq_true rfl) (Nat.le_of_ble_eq_true rfl) rfl (fun r U hq => ?_)
        obtain ⟨rfl, rfl⟩ := hq
        refine fz_back rfl ?_
        refine fz_wo (V' := wGo (upd f 19 (nI (A + wcq P t r o + v))) ki wh en) rfl ?_
        refine fz_iload_n dX11_watch_179 rfl ?_
        refine fz_icmp_ne (tgt := 203) dX11_watch_180 (by decide) (fun c180 => ?_) (fun c180 => ?_)
        · have e2 : ¬ P r (t - 1) = P o t := fun z => c180 (by rw [z])
          have z : ¬ (¬ P r t = P r (t - 1) ∧ P r t = P o (t - 1) ∧ P r (t - 1) = P o t) := fun z => e2 z.2.2
          refine fz_iconst (v := nI 0) dX11_watch_203 (by decide) ?_
          exact two (A + wcq P t r o + v) 0 (by rw [hw, if_neg z, hv]; omega) (by rw [if_neg z])
        · have e2 : P r (t - 1) = P o t := ((nI_eq (by omega) (by omega)).mp c180).symm
          refine fz_aload_n dX11_watch_183 rfl ?_
          refine fz_iload dX11_watch_184 rfl ?_
          refine fz_aload_n dX11_watch_186 rfl ?_
          refine fz_get dX11_watch_187 fX11_141 rfl (Nat.one_pos) rfl ?_
          rw [m11']
          refine fz_iconst (v := nI 1) dX11_watch_190 (by decide) ?_
          refine fz_isub dX11_watch_191 ?_
          rw [show nI t - nI 1 = nI (t - 1) from pk_sub (by omega)]
          refine fz_callV (tX11_at _ wh en E rn hrn P te h o (t - 1) (by omega) (by omega)) dX11_watch_192 kX11_166 rfl (Nat.one_pos) ⟨rfl, rfl, rfl, trivial⟩ (Nat.le_of_ble_eq_true rfl) (Nat.le_of_ble_eq_true rfl) (Nat.le_of_ble_eq_true rfl) (Nat.le_of_ble_eq_true rfl) (Nat.le_of_ble_eq_true rfl) rfl (fun r U hq => ?_)
          obtain ⟨rfl, rfl⟩ := hq
          refine fz_back rfl ?_
          refine fz_wo (V' := wGo (upd f 19 (nI (A + wcq P t r o + v))) ki wh en) rfl ?_
          refine fz_iload_n dX11_watch_195 rfl ?_
          refine fz_icmp_ne (tgt := 203) dX11_watch_196 (by decide) (fun c196 => ?_) (fun c196 => ?_)
          · have e3 : ¬ P r t = P o (t - 1) := fun z => c196 (by rw [z])
            have z : ¬ (¬ P r t = P r (t - 1) ∧ P r t = P o (t - 1) ∧ P r (t - 1) = P o t) := fun z => e3 z.2.1
            refine fz_iconst (v := nI 0) dX11_watch_203 (by decide) ?_
            exact two (A + wcq P t r o + v) 0 (by rw [hw, if_neg z, hv]; omega) (by rw [if_neg z])
          · have e3 : P r t = P o (t - 1) := ((nI_eq (by omega) (by omega)).mp c196).symm
            have z : ¬ P r t = P r (t - 1) ∧ P r t = P o (t - 1) ∧ P r (t - 1) = P o t := ⟨e1, e3, e2⟩
            refine fz_iconst (v := nI 1) dX11_watch_199 (by decide) ?_
            refine fz_goto (tgt := 204) dX11_watch_200 (by decide) ?_
            exact two (A + wcq P t r o + v) 1 (by rw [hw, if_pos z, hv]; omega) (by rw [if_pos z])
    refine fz_iload dX11_watch_125 rfl ?_
    refine fz_iload_n dX11_watch_127 rfl ?_
    refine fz_icmp_ge (tgt := 214) dX11_watch_128 (by decide) (fun c128 => ?_) (fun c128 => ?_)
    · exact absurd ((nI_leI (by omega) (by omega)).mp c128) (by omega)
    · skip
      refine fz_aload_n dX11_watch_131 rfl ?_
      refine fz_dup dX11_watch_132 rfl ?_
      refine fz_get dX11_watch_133 fX11_153 rfl (Nat.one_pos) rfl ?_
      rw [pk_us]
      refine fz_aload_n dX11_watch_136 rfl ?_
      refine fz_iload dX11_watch_137 rfl ?_
      refine fz_aload_n dX11_watch_139 rfl ?_
      refine fz_get dX11_watch_140 fX11_141 rfl (Nat.one_pos) rfl ?_
      rw [m11']
      refine fz_callV (tX11_at _ wh en E rn hrn P te h o t (by omega) (by omega)) dX11_watch_143 kX11_166 rfl (Nat.one_pos) ⟨rfl, rfl, rfl, trivial⟩ (Nat.le_of_ble_eq_true rfl) (Nat.le_of_ble_eq_true rfl) (Nat.le_of_ble_eq_true rfl) (Nat.le_of_ble_eq_true rfl) (Nat.le_of_ble_eq_true rfl) rfl (fun r U hq => ?_)
      obtain ⟨rfl, rfl⟩ := hq
      refine fz_back rfl ?_
      refine fz_wo (V' := wGo (upd f 19 (nI (A + wcq P t r o))) ki wh en) rfl ?_
      refine fz_iload_n dX11_watch_146 rfl ?_
      refine fz_icmp_ne (tgt := 154) dX11_watch_147 (by decide) (fun c147 => ?_) (fun c147 => ?_)
      · have e1 : ¬ P r t = P o t := fun z => c147 (by rw [z])
        refine fz_iconst (v := nI 0) dX11_watch_154 (by decide) ?_
        exact one 0 (by rw [if_neg e1])
      · have e1 : P r t = P o t := ((nI_eq (by omega) (by omega)).mp c147).symm
        refine fz_iconst (v := nI 1) dX11_watch_150 (by decide) ?_
        refine fz_goto (tgt := 155) dX11_watch_151 (by decide) ?_
        exact one 1 (by rw [if_pos e1])
theorem lX11_watch_38 {G : fz_G} {E0 : Nat → fz_E} {Z : List Frame → Array Value → State → State → Prop} (f ki wh en : Nat → Int32) (cn w : Nat) (h0 : 0 < w) (hw : w ≤ 10) (h80 : cn ≤ 80) (m3 : f 3 = nI cn) (m4 : f 4 = nI w) (a b r : Nat) (ha : a < 80) (hb : b < 80)
    (kk : ∀ x5 : Int32, fz_J G mX11_watch rX11_watch Z E0 0 0 80 [(5, zI x5), (4, zI (bI (nrB cn w a b 5))), (3, zI (nI a)), (2, zI (nI b)), (1, zI (nI r)), (0, zR 30 0)] [] (wGo f ki wh en)) :
    ∀ q m, m + q = 5 → fz_J G mX11_watch rX11_watch Z E0 0 0 38 [(5, zI (nI m)), (4, zI (bI (nrB cn w a b m))), (3, zI (nI a)), (2, zI (nI b)), (1, zI (nI r)), (0, zR 30 0)] [] (wGo f ki wh en) := by
  intro q
  induction q with
  | zero =>
    intro m hm
    have e : m = 5 := by omega
    subst e
    refine fz_iload dX11_watch_38 rfl ?_
    refine fz_iconst (v := nI 5) dX11_watch_40 (by decide) ?_
    refine fz_icmp_ge (tgt := 80) dX11_watch_41 (by decide) (fun c41 => ?_) (fun c41 => ?_)
    · exact kk _
    · exact absurd (by decide) c41
  | succ q ih =>
    intro m hm
    have hst : nrB cn w a b (m + 1) = (nrB cn w a b m || decide (nx cn w a m = some b)) := rfl
    have yes : nrB cn w a b (m + 1) = true → ∀ y, fz_J G mX11_watch rX11_watch Z E0 0 0 67 [(5, zI (nI m)), (4, zI y), (3, zI (nI a)), (2, zI (nI b)), (1, zI (nI r)), (0, zR 30 0)] [] (wGo f ki wh en) := by
      intro he y
      refine fz_iconst (v := nI 1) dX11_watch_67 (by decide) ?_
      refine fz_goto (tgt := 72) dX11_watch_68 (by decide) ?_
      refine fz_istore dX11_watch_72 (Nat.le_of_ble_eq_true rfl) ?_
      refine fz_incN dX11_watch_74 rfl (Nat.le_of_ble_eq_true rfl) ?_
      refine fz_goto (tgt := 38) dX11_watch_77 (by decide) ?_
      have := ih (m + 1) (by omega)
      rw [he] at this
      exact this
    refine fz_iload dX11_watch_38 rfl ?_
    refine fz_iconst (v := nI 5) dX11_watch_40 (by decide) ?_
    refine fz_icmp_ge (tgt := 80) dX11_watch_41 (by decide) (fun c41 => ?_) (fun c41 => ?_)
    · exact absurd ((nI_leI (by omega) (by omega)).mp c41) (by omega)
    · skip
      refine fz_iload dX11_watch_44 rfl ?_
      cases hv : nrB cn w a b m with
      | true =>
        refine fz_if_ne (tgt := 67) dX11_watch_46 (by decide) (fun c46 => ?_) (fun c46 => ?_)
        · exact yes (by rw [hst, hv]; rfl) _
        · exact absurd c46 (by decide)
      | false =>
        refine fz_if_ne (tgt := 67) dX11_watch_46 (by decide) (fun c46 => ?_) (fun c46 => ?_)
        · exact absurd rfl c46
        · skip
          refine fz_iload_n dX11_watch_49 rfl ?_
          refine fz_iload dX11_watch_50 rfl ?_
          refine fz_aload_n dX11_watch_52 rfl ?_
          refine fz_get dX11_watch_53 fX11_135 rfl (Nat.one_pos) rfl ?_
          refine fz_aload_n dX11_watch_56 rfl ?_
          refine fz_get dX11_watch_57 fX11_132 rfl (Nat.one_pos) rfl ?_
          rw [m3, m4]
          refine fz_callS (tX11_beside a m w cn ha (by omega) h0 hw h80) dX11_watch_60 kX11_113 trivial (Nat.le_of_ble_eq_true rfl) (Nat.le_of_ble_eq_true rfl) (Nat.le_of_ble_eq_true rfl) (Nat.le_of_ble_eq_true rfl) (Nat.le_of_ble_eq_true rfl) rfl (fun r U hq => ?_)
          obtain ⟨rfl, rfl⟩ := hq
          refine fz_back rfl ?_
          refine fz_wo (V' := wGo f ki wh en) rfl ?_
          refine fz_iload_n dX11_watch_63 rfl ?_
          refine fz_icmp_ne (tgt := 71) dX11_watch_64 (by decide) (fun c64 => ?_) (fun c64 => ?_)
          · have hne : ¬ nx cn w a m = some b := fun z => c64 (by rw [z]; rfl)
            refine fz_iconst (v := nI 0) dX11_watch_71 (by decide) ?_
            refine fz_istore dX11_watch_72 (Nat.le_of_ble_eq_true rfl) ?_
            refine fz_incN dX11_watch_74 rfl (Nat.le_of_ble_eq_true rfl) ?_
            refine fz_goto (tgt := 38) dX11_watch_77 (by decide) ?_
            have := ih (m + 1) (by omega)
            rw [hst, hv, decide_eq_false hne] at this
            exact this
          · have he : nx cn w a m = some b := by
              cases hx : nx cn w a m with
              | none => rw [hx] at c64; exact absurd c64.symm (oI_ne (by omega))
              | some d =>
                rw [hx] at c64
                have hd : d < 2 ^ 31 := by
                  unfold nx at hx
                  repeat' split at hx
                  all_goals (first | (cases hx; omega) | cases hx)
                rw [(nI_eq hd (by omega)).mp c64]
            exact yes (by rw [hst, hv, decide_eq_true he]; rfl) _
theorem lX11_watch_2 {G : fz_G} {E0 : Nat → fz_E} (f ki wh en : Nat → Int32) (E : Nat → Nat) (cn w rn : Nat) (kn : Nat → Nat) (h0 : 0 < w) (hw : w ≤ 10) (h80 : cn ≤ 80) (hk : kiR cn kn ki) (m3 : f 3 = nI cn) (m4 : f 4 = nI w) (hrn : rn ≤ 6) (m12 : f 12 = nI rn) (P : Nat → Nat → Nat) (te : Nat → Nat) (h : mtR E rn P te wh en) (hPc : ∀ r, r < rn → ∀ τ, P r τ < cn ∧ ¬ kn (P r τ) = 0) (t : Nat) (ht1 : 1 ≤ t) (ht : t ≤ 4000) (m11 : f 11 = nI t) (A : Nat) :
    ∀ q r, r + q = rn → fz_J G mX11_watch rX11_watch (fz_Z G E0 rX11_watch.cells rX11_watch.slots (fun x U => x = none ∧ U = wGo (upd f 19 (nI (A + wct cn w kn P t rn))) ki wh en)) E0 0 0 2 [(1, zI (nI r)), (0, zR 30 0)] [] (wGo (upd f 19 (nI (A + wct cn w kn P t r))) ki wh en) := by
  intro q
  induction q with
  | zero =>
    intro r hr
    have e : r = rn := by omega
    subst e
    refine fz_iload_n dX11_watch_2 rfl ?_
    refine fz_aload_n dX11_watch_3 rfl ?_
    refine fz_get dX11_watch_4 fX11_144 rfl (Nat.one_pos) rfl ?_
    rw [upk (by decide), m12]
    refine fz_icmp_ge (tgt := 220) dX11_watch_7 (by decide) (fun c7 => ?_) (fun c7 => ?_)
    · skip
      refine fz_vret dX11_watch_220 rfl (Nat.zero_le _) (Nat.zero_le _) ⟨rfl, rfl⟩
    · exact absurd (nI_le (Nat.le_refl _) (by omega)) c7
  | succ q ih =>
    intro r hr
    obtain ⟨p1, p2⟩ := hPc r (by omega) t
    obtain ⟨p3, p4⟩ := hPc r (by omega) (t - 1)
    have m11' : ∀ A, upd f 19 (nI A) 11 = nI t := fun A => by rw [upk (by decide)]; exact m11
    have hwr : wct cn w kn P t (r + 1) = wct cn w kn P t r + ((if kn (P r t) = 0 then 1 else 0) + (if nrB cn w (P r (t - 1)) (P r t) 5 then 0 else 1) + wcq P t r r) := rfl
    rw [if_neg p2] at hwr
    refine fz_iload_n dX11_watch_2 rfl ?_
    refine fz_aload_n dX11_watch_3 rfl ?_
    refine fz_get dX11_watch_4 fX11_144 rfl (Nat.one_pos) rfl ?_
    rw [upk (by decide), m12]
    refine fz_icmp_ge (tgt := 220) dX11_watch_7 (by decide) (fun c7 => ?_) (fun c7 => ?_)
    · exact absurd ((nI_leI (by omega) (by omega)).mp c7) (by omega)
    · skip
      refine fz_aload_n dX11_watch_10 rfl ?_
      refine fz_iload_n dX11_watch_11 rfl ?_
      refine fz_aload_n dX11_watch_12 rfl ?_
      refine fz_get dX11_watch_13 fX11_141 rfl (Nat.one_pos) rfl ?_
      rw [m11']
      refine fz_callV (tX11_at _ wh en E rn hrn P te h r t (by omega) (by omega)) dX11_watch_16 kX11_166 rfl (Nat.one_pos) ⟨rfl, rfl, rfl, trivial⟩ (Nat.le_of_ble_eq_true rfl) (Nat.le_of_ble_eq_true rfl) (Nat.le_of_ble_eq_true rfl) (Nat.le_of_ble_eq_true rfl) (Nat.le_of_ble_eq_true rfl) rfl (fun r U hq => ?_)
      obtain ⟨rfl, rfl⟩ := hq
      refine fz_back rfl ?_
      refine fz_wo (V' := wGo (upd f 19 (nI (A + wct cn w kn P t r))) ki wh en) rfl ?_
      refine fz_istore_n dX11_watch_19 (Nat.le_of_ble_eq_true rfl) ?_
      refine fz_aload_n dX11_watch_20 rfl ?_
      refine fz_iload_n dX11_watch_21 rfl ?_
      refine fz_aload_n dX11_watch_22 rfl ?_
      refine fz_get dX11_watch_23 fX11_141 rfl (Nat.one_pos) rfl ?_
      rw [m11']
      refine fz_iconst (v := nI 1) dX11_watch_26 (by decide) ?_
      refine fz_isub dX11_watch_27 ?_
      rw [show nI t - nI 1 = nI (t - 1) from pk_sub (by omega)]
      refine fz_callV (tX11_at _ wh en E rn hrn P te h r (t - 1) (by omega) (by omega)) dX11_watch_28 kX11_166 rfl (Nat.one_pos) ⟨rfl, rfl, rfl, trivial⟩ (Nat.le_of_ble_eq_true rfl) (Nat.le_of_ble_eq_true rfl) (Nat.le_of_ble_eq_true rfl) (Nat.le_of_ble_eq_true rfl) (Nat.le_of_ble_eq_true rfl) rfl (fun r U hq => ?_)
      obtain ⟨rfl, rfl⟩ := hq
      refine fz_back rfl ?_
      refine fz_wo (V' := wGo (upd f 19 (nI (A + wct cn w kn P t r))) ki wh en) rfl ?_
      refine fz_istore_n dX11_watch_31 (Nat.le_of_ble_eq_true rfl) ?_
      refine fz_iconst (v := nI 0) dX11_watch_32 (by decide) ?_
      refine fz_istore dX11_watch_33 (Nat.le_of_ble_eq_true rfl) ?_
      refine fz_iconst (v := nI 0) dX11_watch_35 (by decide) ?_
      refine fz_istore dX11_watch_36 (Nat.le_of_ble_eq_true rfl) ?_
      refine lX11_watch_38 _ ki wh en cn w h0 hw h80 (by rw [upk (by decide)]; exact m3) (by rw [upk (by decide)]; exact m4) (P r (t - 1)) (P r t) r (by omega) (by omega) (fun x5 => ?_) 5 0 rfl
      refine fz_aload_n dX11_watch_80 rfl ?_
      refine fz_dup dX11_watch_81 rfl ?_
      refine fz_get dX11_watch_82 fX11_153 rfl (Nat.one_pos) rfl ?_
      rw [pk_us]
      refine fz_aload_n dX11_watch_85 rfl ?_
      refine fz_get dX11_watch_86 fX11_17 rfl (Nat.one_pos) rfl ?_
      refine fz_iload_n dX11_watch_89 rfl ?_
      refine fz_iald dX11_watch_90 rfl rfl (Nat.one_pos) (vp_in_nI (by omega) (by omega)) ?_
      rw [nI_clamp (by omega), (hk _ p1).1]
      refine fz_if_ne (tgt := 98) dX11_watch_91 (by decide) (fun c91 => ?_) (fun c91 => ?_)
      · skip
        refine fz_iconst (v := nI 0) dX11_watch_98 (by decide) ?_
        refine fz_iadd dX11_watch_99 ?_
        rw [nI_add]
        refine fz_putM dX11_watch_100 fX11_153 (by decide) rfl ⟨rfl, rfl⟩ ?_
        refine fz_wo (V' := wGo (upd f 19 (nI (A + wct cn w kn P t r))) ki wh en) (by rw [← upd_uu f 19 (nI (A + wct cn w kn P t r)) (nI (A + wct cn w kn P t r))]; rfl) ?_
        refine fz_aload_n dX11_watch_103 rfl ?_
        refine fz_dup dX11_watch_104 rfl ?_
        refine fz_get dX11_watch_105 fX11_153 rfl (Nat.one_pos) rfl ?_
        rw [pk_us]
        refine fz_iload dX11_watch_108 rfl ?_
        have last : ∀ v, v = (if nrB cn w (P r (t - 1)) (P r t) 5 = true then 0 else 1) → fz_J G mX11_watch rX11_watch (fz_Z G E0 rX11_watch.cells rX11_watch.slots (fun x U => x = none ∧ U = wGo (upd f 19 (nI (A + wct cn w kn P t rn))) ki wh en)) E0 0 0 118 [(5, zI x5), (4, zI (bI (nrB cn w (P r (t - 1)) (P r t) 5))), (3, zI (nI (P r (t - 1)))), (2, zI (nI (P r t))), (1, zI (nI r)), (0, zR 30 0)] [zI (nI v), zI (nI (A + wct cn w kn P t r)), zR 30 0] (wGo (upd f 19 (nI (A + wct cn w kn P t r))) ki wh en) := by
          intro v hv
          refine fz_iadd dX11_watch_118 ?_
          rw [nI_add]
          refine fz_putM dX11_watch_119 fX11_153 (by decide) rfl ⟨rfl, rfl⟩ ?_
          refine fz_iconst (v := nI 0) dX11_watch_122 (by decide) ?_
          refine fz_istore dX11_watch_123 (Nat.le_of_ble_eq_true rfl) ?_
          refine fz_wo (V' := wGo (upd f 19 (nI (A + wct cn w kn P t r + v + wcq P t r 0))) ki wh en) (by rw [← upd_uu f 19 (nI (A + wct cn w kn P t r))]; rfl) ?_
          refine lX11_watch_125 f ki wh en E rn hrn P te h t ht1 ht m11 r (by omega) (A + wct cn w kn P t r + v) ?_ _ r 0 (by omega)
          have e : A + wct cn w kn P t r + v + wcq P t r r = A + wct cn w kn P t (r + 1) := by rw [hwr, hv]; omega
          rw [e]
          exact ih (r + 1) (by omega)
        cases hv : nrB cn w (P r (t - 1)) (P r t) 5 with
        | true =>
          rw [hv] at last
          refine fz_if_eq (tgt := 117) dX11_watch_110 (by decide) (fun c110 => ?_) (fun c110 => ?_)
          · exact absurd c110 (by decide)
          · skip
            refine fz_iconst (v := nI 0) dX11_watch_113 (by decide) ?_
            refine fz_goto (tgt := 118) dX11_watch_114 (by decide) ?_
            exact last 0 rfl
        | false =>
          rw [hv] at last
          refine fz_if_eq (tgt := 117) dX11_watch_110 (by decide) (fun c110 => ?_) (fun c110 => ?_)
          · skip
            refine fz_iconst (v := nI 1) dX11_watch_117 (by decide) ?_
            exact last 1 rfl
          · exact absurd rfl c110
      · exact absurd ((nI_eq (by have := (hk _ p1).2; omega) (by omega)).mp (c91.trans nI_0.symm)) p2
theorem tX11_watch {G : fz_G} (f ki wh en : Nat → Int32) (E : Nat → Nat) (cn w rn : Nat) (kn : Nat → Nat) (h0 : 0 < w) (hw : w ≤ 10) (h80 : cn ≤ 80) (hk : kiR cn kn ki) (m3 : f 3 = nI cn) (m4 : f 4 = nI w) (hrn : rn ≤ 6) (m12 : f 12 = nI rn) (P : Nat → Nat → Nat) (te : Nat → Nat) (h : mtR E rn P te wh en) (hPc : ∀ r, r < rn → ∀ τ, P r τ < cn ∧ ¬ kn (P r τ) = 0) (t : Nat) (ht1 : 1 ≤ t) (ht : t ≤ 4000) (m11 : f 11 = nI t) (A : Nat) (m19 : f 19 = nI A) :
    fz_T G mX11_watch rX11_watch [zR 30 0] (wGo f ki wh en) (fun x U => x = none ∧ U = wGo (upd f 19 (nI (A + wct cn w kn P t rn))) ki wh en) := by
  refine fz_T.of (by decide) (Nat.le_of_ble_eq_true rfl) (fun E0 => ?_)
  refine fz_iconst (v := nI 0) dX11_watch_0 (by decide) ?_
  refine fz_istore_n dX11_watch_1 (Nat.le_of_ble_eq_true rfl) ?_
  refine fz_wo (V' := wGo (upd f 19 (nI (A + wct cn w kn P t 0))) ki wh en) (by rw [show A + wct cn w kn P t 0 = A from rfl, upd_id m19]) ?_
  exact lX11_watch_2 f ki wh en E cn w rn kn h0 hw h80 hk m3 m4 hrn m12 P te h hPc t ht1 ht m11 A rn 0 (by omega)
