/-! THE MODEL: aside, stay -/
abbrev wAs (f ki fa wh en : Nat → Int32) (Od Ta : Nat → Nat → Int32) : fz_W := [(30, eM f), (45, eKi ki), (49, eFa fa), (53, eWh wh), (54, e6 en), (63, e40 (Od 0)), (69, e90 (Ta 0)), (71, e90 (Ta 3))]
theorem lX11_aside {G : fz_G} {E0 : Nat → fz_E} (f ki fa wh en : Nat → Int32) (Od Ta : Nat → Nat → Int32) (E : Nat → Nat) (cn w rn : Nat) (kn : Nat → Nat) (h80 : cn ≤ 80) (hk : kiR cn kn ki) (hf3 : f 3 = nI cn) (hfa : faR cn w kn fa) (hrn : rn ≤ 6) (hf12 : f 12 = nI rn) (P : Nat → Nat → Nat) (te : Nat → Nat) (h : mtR E rn P te wh en) (on tn : Nat) (hon : on ≤ 40) (htn : tn ≤ 90) (O T : Nat → Nat → Int32) (hw : tWf cn kn on tn O T) (hO : odR on O Od) (hT : taR tn T Ta) (hf28 : f 28 = nI tn) (r c : Nat) (hr : r < 6) (hc : c < cn) :
    ∀ q i, i + q = cn → ∀ x5 : List (Nat × fz_V), fz_J G mX11_aside rX11_aside (fz_Z G E0 rX11_aside.cells rX11_aside.slots (fun x U => x = some (zI (oI (bst (rfB kn (fun c => wnB T c tn) (fun c => eoB P te r c rn)) (fun d => dsF cn w kn c d) cn))) ∧ U = wAs f ki fa wh en Od Ta)) E0 0 0 15 ((4, zI (nI i)) :: (3, zI (oI (bst (rfB kn (fun c => wnB T c tn) (fun c => eoB P te r c rn)) (fun d => dsF cn w kn c d) i))) :: (2, zI (nI c)) :: (0, zR 30 0) :: (1, zI (nI r)) :: x5) [] (wAs f ki fa wh en Od Ta) := by
  intro q
  induction q with
  | zero =>
    intro i hi x5
    have e : i = cn := by omega
    subst e
    refine fz_pk [0, 1, 2, 3, 4] rfl ?_
    refine fz_iload dX11_aside_15 rfl ?_
    refine fz_aload_n dX11_aside_17 rfl ?_
    refine fz_get dX11_aside_18 fX11_132 rfl (Nat.one_pos) rfl ?_
    rw [hf3]
    refine fz_icmp_ge (tgt := 109) dX11_aside_21 (by decide) (fun c21 => ?_) (fun c21 => ?_)
    · skip
      refine fz_iload_n dX11_aside_109 rfl ?_
      refine fz_iret dX11_aside_110 rfl (Nat.zero_le _) (Nat.zero_le _) ⟨rfl, rfl⟩
    · exact absurd (nI_le (Nat.le_refl _) (by omega)) c21
  | succ q ih =>
    intro i hi x5
    obtain ⟨k1, k2⟩ := hk i (by omega)
    have hstep : bst (rfB kn (fun c => wnB T c tn) (fun c => eoB P te r c rn)) (fun d => dsF cn w kn c d) (i + 1) = (match bst (rfB kn (fun c => wnB T c tn) (fun c => eoB P te r c rn)) (fun d => dsF cn w kn c d) i with
      | none => if rfB kn (fun c => wnB T c tn) (fun c => eoB P te r c rn) i then some i else none
      | some b => if rfB kn (fun c => wnB T c tn) (fun c => eoB P te r c rn) i && decide (dsF cn w kn c i < dsF cn w kn c b) then some i else some b) := rfl
    refine fz_pk [0, 1, 2, 3, 4] rfl ?_
    have put : ∀ (v : Option Nat) (y : Int32), bst (rfB kn (fun c => wnB T c tn) (fun c => eoB P te r c rn)) (fun d => dsF cn w kn c d) (i + 1) = v → fz_J G mX11_aside rX11_aside (fz_Z G E0 rX11_aside.cells rX11_aside.slots (fun x U => x = some (zI (oI (bst (rfB kn (fun c => wnB T c tn) (fun c => eoB P te r c rn)) (fun d => dsF cn w kn c d) cn))) ∧ U = wAs f ki fa wh en Od Ta)) E0 0 0 102 [(5, zI y), (4, zI (nI i)), (3, zI (oI (bst (rfB kn (fun c => wnB T c tn) (fun c => eoB P te r c rn)) (fun d => dsF cn w kn c d) i))), (2, zI (nI c)), (0, zR 30 0), (1, zI (nI r))] [zI (oI v)] (wAs f ki fa wh en Od Ta) := by
      intro v y hv
      refine fz_istore_n dX11_aside_102 (Nat.le_of_ble_eq_true rfl) ?_
      refine fz_incN dX11_aside_103 rfl (Nat.le_of_ble_eq_true rfl) ?_
      refine fz_goto (tgt := 15) dX11_aside_106 (by decide) ?_
      refine fz_pk [0, 1, 3, 4, 5] rfl ?_
      rw [← hv]
      exact ih (i + 1) (by omega) []
    have nofit : rfB kn (fun c => wnB T c tn) (fun c => eoB P te r c rn) i = false → fz_J G mX11_aside rX11_aside (fz_Z G E0 rX11_aside.cells rX11_aside.slots (fun x U => x = some (zI (oI (bst (rfB kn (fun c => wnB T c tn) (fun c => eoB P te r c rn)) (fun d => dsF cn w kn c d) cn))) ∧ U = wAs f ki fa wh en Od Ta)) E0 0 0 58 [(4, zI (nI i)), (3, zI (oI (bst (rfB kn (fun c => wnB T c tn) (fun c => eoB P te r c rn)) (fun d => dsF cn w kn c d) i))), (2, zI (nI c)), (0, zR 30 0), (1, zI (nI r))] [] (wAs f ki fa wh en Od Ta) := by
      intro hn
      refine fz_iconst (v := nI 0) dX11_aside_58 (by decide) ?_
      refine fz_istore dX11_aside_59 (Nat.le_of_ble_eq_true rfl) ?_
      refine fz_iload dX11_aside_61 rfl ?_
      refine fz_if_eq (tgt := 101) dX11_aside_63 (by decide) (fun c63 => ?_) (fun c63 => ?_)
      · skip
        refine fz_iload_n dX11_aside_101 rfl ?_
        refine put _ _ ?_
        rw [hstep, hn]
        cases bst (rfB kn (fun c => wnB T c tn) (fun c => eoB P te r c rn)) (fun d => dsF cn w kn c d) i <;> rfl
      · exact absurd (by decide) c63
    refine fz_iload dX11_aside_15 rfl ?_
    refine fz_aload_n dX11_aside_17 rfl ?_
    refine fz_get dX11_aside_18 fX11_132 rfl (Nat.one_pos) rfl ?_
    rw [hf3]
    refine fz_icmp_ge (tgt := 109) dX11_aside_21 (by decide) (fun c21 => ?_) (fun c21 => ?_)
    · exact absurd ((nI_leI (by omega) (by omega)).mp c21) (by omega)
    · skip
      refine fz_aload_n dX11_aside_24 rfl ?_
      refine fz_get dX11_aside_25 fX11_17 rfl (Nat.one_pos) rfl ?_
      refine fz_iload dX11_aside_28 rfl ?_
      refine fz_iald dX11_aside_30 rfl rfl (Nat.one_pos) (vp_in_nI (by omega) (by omega)) ?_
      refine fz_iconst (v := nI 1) dX11_aside_31 (by decide) ?_
      rw [nI_clamp (by omega), k1]
      refine fz_icmp_le (tgt := 58) dX11_aside_32 (by decide) (fun c32 => ?_) (fun c32 => ?_)
      · have := (nI_leI (by omega) (by omega)).mp c32
        exact nofit (by unfold rfB; rw [decide_eq_false (by omega)]; rfl)
      · have e3 : 1 < kn i := by
          rcases Nat.lt_or_ge 1 (kn i) with z | z
          · exact z
          · exact absurd (nI_le z (by omega)) c32
        refine fz_aload_n dX11_aside_35 rfl ?_
        refine fz_iload dX11_aside_36 rfl ?_
        refine fz_callV (tX11_isWanted f Od Ta cn h80 kn on tn hon htn O T hw hO hT hf28 i (by omega)) dX11_aside_38 kX11_210 rfl (Nat.one_pos) ⟨rfl, rfl, rfl, rfl, trivial⟩ (Nat.le_of_ble_eq_true rfl) (Nat.le_of_ble_eq_true rfl) (Nat.le_of_ble_eq_true rfl) (Nat.le_of_ble_eq_true rfl) (Nat.le_of_ble_eq_true rfl) rfl (fun r U hq => ?_)
        obtain ⟨rfl, rfl⟩ := hq
        refine fz_back rfl ?_
        refine fz_wo (V' := wAs f ki fa wh en Od Ta) rfl ?_
        cases v1 : wnB T i tn with
        | true =>
          refine fz_if_ne (tgt := 58) dX11_aside_41 (by decide) (fun c41 => ?_) (fun c41 => ?_)
          · exact nofit (by unfold rfB; simp only [v1]; simp)
          · exact absurd c41 (by decide)
        | false =>
          refine fz_if_ne (tgt := 58) dX11_aside_41 (by decide) (fun c41 => ?_) (fun c41 => ?_)
          · exact absurd rfl c41
          · skip
            refine fz_aload_n dX11_aside_44 rfl ?_
            refine fz_iload_n dX11_aside_45 rfl ?_
            refine fz_iload dX11_aside_46 rfl ?_
            refine fz_callV (tX11_isOthersEnd f wh en E rn hrn hf12 P te h r i hr (by omega)) dX11_aside_48 kX11_207 rfl (Nat.one_pos) ⟨rfl, rfl, rfl, trivial⟩ (Nat.le_of_ble_eq_true rfl) (Nat.le_of_ble_eq_true rfl) (Nat.le_of_ble_eq_true rfl) (Nat.le_of_ble_eq_true rfl) (Nat.le_of_ble_eq_true rfl) rfl (fun r U hq => ?_)
            obtain ⟨rfl, rfl⟩ := hq
            refine fz_back rfl ?_
            refine fz_wo (V' := wAs f ki fa wh en Od Ta) rfl ?_
            cases v2 : eoB P te r i rn with
            | true =>
              refine fz_if_ne (tgt := 58) dX11_aside_51 (by decide) (fun c51 => ?_) (fun c51 => ?_)
              · exact nofit (by unfold rfB; simp only [v2]; simp)
              · exact absurd c51 (by decide)
            | false =>
              have hfit : rfB kn (fun c => wnB T c tn) (fun c => eoB P te r c rn) i = true := by unfold rfB; simp only [v1, v2]; simp [e3]
              refine fz_if_ne (tgt := 58) dX11_aside_51 (by decide) (fun c51 => ?_) (fun c51 => ?_)
              · exact absurd rfl c51
              · skip
                refine fz_iconst (v := nI 1) dX11_aside_54 (by decide) ?_
                refine fz_goto (tgt := 59) dX11_aside_55 (by decide) ?_
                refine fz_istore dX11_aside_59 (Nat.le_of_ble_eq_true rfl) ?_
                refine fz_iload dX11_aside_61 rfl ?_
                refine fz_if_eq (tgt := 101) dX11_aside_63 (by decide) (fun c63 => ?_) (fun c63 => ?_)
                · exact absurd c63 (by decide)
                · skip
                  refine fz_iload_n dX11_aside_66 rfl ?_
                  cases hb : bst (rfB kn (fun c => wnB T c tn) (fun c => eoB P te r c rn)) (fun d => dsF cn w kn c d) i with
                  | none =>
                    rw [hb] at put
                    refine fz_if_lt (tgt := 96) dX11_aside_67 (by decide) (fun c67 => ?_) (fun c67 => ?_)
                    · skip
                      refine fz_iload dX11_aside_96 rfl ?_
                      refine fz_goto (tgt := 102) dX11_aside_98 (by decide) ?_
                      exact put (some i) _ (by rw [hstep, hb, hfit]; rfl)
                    · exact absurd (by decide) c67
                  | some b =>
                    rw [hb] at put
                    have hbl := (bst_lt hb).1
                    refine fz_if_lt (tgt := 96) dX11_aside_67 (by decide) (fun c67 => ?_) (fun c67 => ?_)
                    · exact absurd c67 (nI_pos (by omega))
                    · skip
                      refine fz_aload_n dX11_aside_70 rfl ?_
                      refine fz_get dX11_aside_71 fX11_23 rfl (Nat.one_pos) rfl ?_
                      refine fz_bipush (v := nI 80) dX11_aside_74 (by decide) ?_
                      refine fz_iload_n dX11_aside_76 rfl ?_
                      refine fz_imul dX11_aside_77 ?_
                      rw [nI_mul]
                      refine fz_iload dX11_aside_78 rfl ?_
                      refine fz_iadd dX11_aside_80 ?_
                      rw [nI_add]
                      refine fz_iald dX11_aside_81 rfl rfl (Nat.one_pos) (vp_in_nI (by omega) (by omega)) ?_
                      rw [nI_clamp (by omega), hfa c i hc (by omega)]
                      refine fz_aload_n dX11_aside_82 rfl ?_
                      refine fz_get dX11_aside_83 fX11_23 rfl (Nat.one_pos) rfl ?_
                      refine fz_bipush (v := nI 80) dX11_aside_86 (by decide) ?_
                      refine fz_iload_n dX11_aside_88 rfl ?_
                      refine fz_imul dX11_aside_89 ?_
                      rw [nI_mul]
                      refine fz_iload_n dX11_aside_90 rfl ?_
                      refine fz_top (y := nI b) rfl ?_
                      refine fz_iadd dX11_aside_91 ?_
                      rw [nI_add]
                      refine fz_iald dX11_aside_92 rfl rfl (Nat.one_pos) (vp_in_nI (by omega) (by omega)) ?_
                      rw [nI_clamp (by omega), hfa c b hc (by omega)]
                      refine fz_icmp_ge (tgt := 101) dX11_aside_93 (by decide) (fun c93 => ?_) (fun c93 => ?_)
                      · have hn : ¬ dsF cn w kn c i < dsF cn w kn c b := Int32.not_lt.mpr c93
                        refine fz_iload_n dX11_aside_101 rfl ?_
                        exact put (some b) _ (by rw [hstep, hb, hfit]; simp [hn])
                      · have hl : dsF cn w kn c i < dsF cn w kn c b := Int32.not_le.mp c93
                        refine fz_iload dX11_aside_96 rfl ?_
                        refine fz_goto (tgt := 102) dX11_aside_98 (by decide) ?_
                        exact put (some i) _ (by rw [hstep, hb, hfit]; simp [hl])
theorem tX11_aside {G : fz_G} (f ki fa wh en : Nat → Int32) (Od Ta : Nat → Nat → Int32) (E : Nat → Nat) (cn w rn : Nat) (kn : Nat → Nat) (h80 : cn ≤ 80) (hk : kiR cn kn ki) (hf3 : f 3 = nI cn) (hfa : faR cn w kn fa) (hrn : rn ≤ 6) (hf12 : f 12 = nI rn) (P : Nat → Nat → Nat) (te : Nat → Nat) (h : mtR E rn P te wh en) (on tn : Nat) (hon : on ≤ 40) (htn : tn ≤ 90) (O T : Nat → Nat → Int32) (hw : tWf cn kn on tn O T) (hO : odR on O Od) (hT : taR tn T Ta) (hf28 : f 28 = nI tn) (r t : Nat) (hr : r < rn) (hf11 : f 11 = nI t) (ht : t ≤ 4000) (hc : P r t < cn) :
    fz_T G mX11_aside rX11_aside [zR 30 0, zI (nI r)] (wAs f ki fa wh en Od Ta) (fun x U => x = some (zI (oI (bst (rfB kn (fun c => wnB T c tn) (fun c => eoB P te r c rn)) (fun d => dsF cn w kn (P r t) d) cn))) ∧ U = wAs f ki fa wh en Od Ta) := by
  refine fz_T.of (by decide) (Nat.le_of_ble_eq_true rfl) (fun E0 => ?_)
  refine fz_aload_n dX11_aside_0 rfl ?_
  refine fz_iload_n dX11_aside_1 rfl ?_
  refine fz_aload_n dX11_aside_2 rfl ?_
  refine fz_get dX11_aside_3 fX11_141 rfl (Nat.one_pos) rfl ?_
  rw [hf11]
  refine fz_callV (tX11_at f wh en E rn hrn P te h r t hr (by omega)) dX11_aside_6 kX11_166 rfl (Nat.one_pos) ⟨rfl, rfl, rfl, trivial⟩ (Nat.le_of_ble_eq_true rfl) (Nat.le_of_ble_eq_true rfl) (Nat.le_of_ble_eq_true rfl) (Nat.le_of_ble_eq_true rfl) (Nat.le_of_ble_eq_true rfl) rfl (fun r U hq => ?_)
  obtain ⟨rfl, rfl⟩ := hq
  refine fz_back rfl ?_
  refine fz_wo (V' := wAs f ki fa wh en Od Ta) rfl ?_
  refine fz_istore_n dX11_aside_9 (Nat.le_of_ble_eq_true rfl) ?_
  refine fz_iconst (v := -1) dX11_aside_10 (by decide) ?_
  refine fz_istore_n dX11_aside_11 (Nat.le_of_ble_eq_true rfl) ?_
  refine fz_iconst (v := nI 0) dX11_aside_12 (by decide) ?_
  refine fz_istore dX11_aside_13 (Nat.le_of_ble_eq_true rfl) ?_
  exact lX11_aside f ki fa wh en Od Ta E cn w rn kn h80 hk hf3 hfa hrn hf12 P te h on tn hon htn O T hw hO hT hf28 r (P r t) (by omega) hc cn 0 (by omega) []
/-- robot r's row written up to t -/
def exE (E : Nat → Nat) (r t : Nat) : Nat → Nat := fun q => if q = r then t else E q
theorem tX11_stay {G : fz_G} (f wh en : Nat → Int32) (E : Nat → Nat) (rn : Nat) (hrn : rn ≤ 6) (P : Nat → Nat → Nat) (te : Nat → Nat) (h : mtR E rn P te wh en) (r t : Nat) (hr : r < rn) (hf11 : f 11 = nI t) (ht : t ≤ 4000) (hE : t ≤ E r + 1) (hte : te r ≤ t) : fz_T G mX11_stay rX11_stay [zR 30 0, zI (nI r)] (wAt f wh en) (fun x U => x = none ∧ ∃ wh' en', mtR (exE E r t) rn P te wh' en' ∧ U = wAt f wh' en') := by
  obtain ⟨h1, h2, h3, h4, h5, h6⟩ := h r hr
  refine fz_T.of (by decide) (Nat.le_of_ble_eq_true rfl) (fun E0 => ?_)
  refine fz_aload_n dX11_stay_0 rfl ?_
  refine fz_get dX11_stay_1 fX11_30 rfl (Nat.one_pos) rfl ?_
  refine fz_sipush (v := nI 5200) dX11_stay_4 (by decide) ?_
  refine fz_iload_n dX11_stay_7 rfl ?_
  refine fz_imul dX11_stay_8 ?_
  refine fz_aload_n dX11_stay_9 rfl ?_
  refine fz_get dX11_stay_10 fX11_141 rfl (Nat.one_pos) rfl ?_
  rw [nI_mul, hf11]
  refine fz_iadd dX11_stay_13 ?_
  rw [nI_add]
  refine fz_aload_n dX11_stay_14 rfl ?_
  refine fz_iload_n dX11_stay_15 rfl ?_
  refine fz_callV (tX11_endOf f wh en E rn hrn P te h r hr) dX11_stay_16 kX11_182 rfl (Nat.one_pos) ⟨rfl, rfl, rfl, trivial⟩ (Nat.le_of_ble_eq_true rfl) (Nat.le_of_ble_eq_true rfl) (Nat.le_of_ble_eq_true rfl) (Nat.le_of_ble_eq_true rfl) (Nat.le_of_ble_eq_true rfl) rfl (fun r U hq => ?_)
  obtain ⟨rfl, rfl⟩ := hq
  refine fz_back rfl ?_
  refine fz_wo (V' := wAt f wh en) rfl ?_
  refine fz_iast1 dX11_stay_19 rfl rfl (vp_in_nI (by omega) (by omega)) ?_
  rw [nI_clamp (by omega)]
  refine fz_aload_n dX11_stay_20 rfl ?_
  refine fz_get dX11_stay_21 fX11_33 rfl (Nat.one_pos) rfl ?_
  refine fz_iload_n dX11_stay_24 rfl ?_
  refine fz_aload_n dX11_stay_25 rfl ?_
  refine fz_get dX11_stay_26 fX11_141 rfl (Nat.one_pos) rfl ?_
  rw [hf11]
  refine fz_iast1 dX11_stay_29 rfl rfl (vp_in_nI (by omega) (by omega)) ?_
  rw [nI_clamp (by omega)]
  refine fz_vret dX11_stay_30 rfl (Nat.zero_le _) (Nat.zero_le _) ⟨rfl, _, _, fun q hq => ?_, rfl⟩
  obtain ⟨g1, g2, g3, g4, g5, g6⟩ := h q hq
  unfold exE
  by_cases e : q = r
  · subst e
    rw [if_pos rfl]
    refine ⟨pk_us, hte, by omega, fun τ hτ => ?_, g5, g6⟩
    by_cases z : τ = t
    · rw [z, pk_us, g5 t hte]
    · rw [pk_un (by omega)]; exact g4 τ (by omega)
  · rw [if_neg e]
    refine ⟨by rw [pk_un e]; exact g1, g2, g3, fun τ hτ => ?_, g5, g6⟩
    rw [pk_un (by omega)]; exact g4 τ hτ
