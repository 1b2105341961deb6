/-! Going on (pure) -/
/-- an order with one open task fewer -/
def finI (b : Nat → Int32) (t : Int32) : Nat → Int32 := if b 3 = nI 1 then upd (upd b 3 (nI 0)) 5 t else upd b 3 (b 3 - 1)
theorem finI_fin1 {b : Nat → Int32} {u : Nat} (hu : u < 1000) (h : b 3 = nI (u + 1)) (t : Int32) : finI b t = fin1 b u t := by
  unfold finI fin1
  by_cases e : u = 0
  · rw [if_pos e, if_pos (by rw [h, e])]
  · rw [if_neg e, if_neg (fun z => e (by have := (nI_eq (by omega) (by omega)).mp (h.symm.trans z); omega)), h]
    rw [show (1 : Int32) = nI 1 from rfl, nI_sub1]
theorem fin1_k {b : Nat → Int32} {u : Nat} {t : Int32} {j : Nat} (h3 : j ≠ 3) (h5 : j ≠ 5) : fin1 b u t j = b j := by
  unfold fin1
  split
  · rw [upk h5, upk h3]
  · rw [upk h3]
theorem fin1_3 {b : Nat → Int32} {u : Nat} {t : Int32} : fin1 b u t 3 = nI u := by
  unfold fin1
  split
  · rename_i h
    rw [upk (by decide), pk_us, h]
  · rw [pk_us]
def bT (B : Nat → Nat → Int32) (r : Nat) : Nat := (B r 0).toNatClampNeg
/-- robot r has made its tick: it may pick, and bring -/
def pkT (T : Nat → Nat → Int32) (k c t : Nat) : Nat → Nat → Int32 := if T k 3 = nI 1 ∧ nI c = T k 1 then va_up T k (upd (upd (T k) 3 (nI 2)) 7 (nI t)) else T
def tor (T : Nat → Nat → Int32) (k : Nat) : Nat := (T k 0).toNatClampNeg
def wkO (s : fS) (r : Nat) : fS := match s with
  | (O, T, P, te, B, t, A, wy, lg) => if B r 0 = -1 then (O, T, P, te, B, t, A, wy, lg) else
    if pkT T (bT B r) (P r t) t (bT B r) 3 = nI 2 ∧ te r ≤ t then (va_up O (tor T (bT B r)) (finI (O (tor T (bT B r))) (nI t)), va_up (pkT T (bT B r) (P r t) t) (bT B r) (upd (upd (pkT T (bT B r) (P r t) t (bT B r)) 3 (nI 3)) 8 (nI t)), P, te, va_up B r (upd (upd (B r) 0 (-1)) 2 (B r 2 + 1)), t, A, wy, lg)
    else (O, pkT T (bT B r) (P r t) t, P, te, B, t, A, wy, lg)
def mvB (s : fS) (r : Nat) : fS := match s with
  | (O, T, P, te, B, t, A, wy, lg) => (O, T, P, te, if P r t = P r (t - 1) then B else va_up B r (upd (B r) 1 (B r 1 + 1)), t, A, wy, lg)
def gOn (s : fS) (r : Nat) : fS := wkO (mvB s r) r
theorem pkT_sT (T : Nat → Nat → Int32) (k c t : Nat) : sT T (pkT T k c t) := by
  unfold pkT
  split
  · exact up_sT (fun j hj => by rw [upk (by omega), upk (by omega)])
  · exact fun i j hj => rfl
theorem pkT_3 (T : Nat → Nat → Int32) (k c t i : Nat) : pkT T k c t i 3 = T i 3 ∨ (T i 3 = nI 1 ∧ pkT T k c t i 3 = nI 2) := by
  unfold pkT
  split
  · rename_i h
    by_cases e : i = k
    · right
      rw [e, va_up_self, upk (by decide), pk_us]
      exact ⟨h.1, rfl⟩
    · left
      rw [va_up_ne _ _ e]
  · left; rfl
theorem pkT_lt (T : Nat → Nat → Int32) (k c t i : Nat) : pkT T k c t i 3 < nI 3 ↔ T i 3 < nI 3 := by
  rcases pkT_3 T k c t i with h | ⟨h1, h2⟩
  · rw [h]
  · rw [h1, h2]; decide
theorem pkT_0 (T : Nat → Nat → Int32) (k c t i : Nat) : pkT T k c t i 3 = nI 0 ↔ T i 3 = nI 0 := by
  rcases pkT_3 T k c t i with h | ⟨h1, h2⟩
  · rw [h]
  · rw [h1, h2]; decide
/-- counts where waiting tasks stay the same -/
theorem oCt_same {on tn : Nat} {O O' T T' : Nat → Nat → Int32} {nc nc' pn : Nat} {pf : Nat → Int32} (hs : sT T T') (h0 : ∀ i, i < tn → (T' i 3 = nI 0 ↔ T i 3 = nI 0)) (hn : nc' = opO O' on) (h : oCt on tn O T nc pn pf) : oCt on tn O' T' nc' pn pf := by
  obtain ⟨h1, h2, h3⟩ := h
  refine ⟨h1.trans (cnt_congr (fun i hi => ?_)), fun c hc => (h2 c hc).trans (congrArg nI (cnt_congr (fun i hi => ?_))), hn⟩
  · simp only [decide_eq_decide]; exact (h0 i hi).symm
  · rw [sT_st hs]
    congr 1
    simp only [decide_eq_decide]; exact (h0 i hi).symm
/-- a task is brought: the orders stay well formed -/
theorem oWf_br {cn : Nat} {kn : Nat → Nat} {on tn : Nat} {O T : Nat → Nat → Int32} {k : Nat} {b : Nat → Int32} {t : Nat} (hk : k < tn) (htn : tn ≤ 90) (hon : on ≤ 40) (ht : t ≤ 4000) (h3 : T k 3 < nI 3) (hb3 : ¬ b 3 < nI 3) (hb : ∀ j, j < 3 → b j = T k j) (hw : tWf cn kn on tn O T) (ho : oWf on tn O T) : ∃ o u, o < on ∧ T k 0 = nI o ∧ tor T k = o ∧ u < 1000 ∧ O o 3 = nI (u + 1) ∧ oWf on tn (va_up O o (fin1 (O o) u (nI t))) (va_up T k b) ∧ tWf cn kn on tn (va_up O o (fin1 (O o) u (nI t))) (va_up T k b) ∧ 0 < opO O on ∧ (if u = 0 then opO O on - 1 else opO O on) = opO (va_up O o (fin1 (O o) u (nI t))) on := by
  obtain ⟨-, -, o, c1, c2, c3⟩ := hw k hk
  obtain ⟨a, n, d1, d2, d3, d4, d5, d6, d7, d8⟩ := ho o c1
  have hin := (d6 k hk).mp c2
  have hs : sT T (va_up T k b) := up_sT hb
  have hdn : opn T a n = opn (va_up T k b) a n + 1 := by
    refine cnt_one (a := k - a) (by omega) ?_ ?_ (fun q hq hqk => ?_)
    · rw [show a + (k - a) = k by omega]; exact decide_eq_true h3
    · rw [show a + (k - a) = k by omega, va_up_self]; exact decide_eq_false hb3
    · rw [va_up_ne _ _ (by omega)]
  have hle : opn (va_up T k b) a n ≤ n := cnt_le _ _
  have h3o : O o 3 = nI (opn (va_up T k b) a n + 1) := by rw [d7, hdn]
  refine ⟨o, opn (va_up T k b) a n, c1, c2, by unfold tor; rw [c2, nI_clamp (by omega)], by omega, h3o, ?_, ?_, ?_, ?_⟩
  · intro o' ho'
    by_cases e : o' = o
    · subst e
      rw [va_up_self]
      refine ⟨a, n, ?_, ?_, d3, d4, d5, fun i hi => ?_, fin1_3, ?_⟩
      · rw [fin1_k (by decide) (by decide)]; exact d1
      · rw [fin1_k (by decide) (by decide)]; exact d2
      · rw [hs i 0 (by omega)]; exact d6 i hi
      · unfold fin1
        by_cases z : opn (va_up T k b) a n = 0
        · rw [if_pos z, if_pos z, pk_us, Int32.le_iff_toInt_le, nI_toInt (by omega)]
          simp
        · rw [if_neg z, if_neg z, upk (by decide)]
          rw [if_neg (by omega)] at d8; exact d8
    · rw [va_up_ne _ _ e]
      obtain ⟨a', n', e1, e2, e3, e4, e5, e6, e7, e8⟩ := ho o' ho'
      have hno : ∀ q, q < n' → ¬ a' + q = k := by
        intro q hq z
        have := (e6 k hk).mpr (by omega)
        exact e ((nI_eq (by omega) (by omega)).mp (this.symm.trans c2))
      have e9 : opn (va_up T k b) a' n' = opn T a' n' := opn_c (fun q hq => by rw [va_up_ne _ _ (hno q hq)])
      exact ⟨a', n', e1, e2, e3, e4, e5, fun i hi => by rw [hs i 0 (by omega)]; exact e6 i hi, by rw [e9]; exact e7, by rw [e9]; exact e8⟩
  · refine tWf_sT hs (fun o' => ?_) hw
    by_cases e : o' = o
    · rw [e, va_up_self, fin1_k (by decide) (by decide)]
    · rw [va_up_ne _ _ e]
  · refine cnt_pos (p := fun o => decide (¬ O o 3 = nI 0)) c1 ?_
    rw [h3o]
    exact decide_eq_true (fun z => by have := (nI_eq (by omega) (by omega)).mp z; omega)
  · have ne : ¬ O o 3 = nI 0 := by
      rw [h3o]
      exact fun z => by have := (nI_eq (by omega) (by omega)).mp z; omega
    by_cases z : opn (va_up T k b) a n = 0
    · rw [if_pos z]
      have e1 : opO O on = opO (va_up O o (fin1 (O o) (opn (va_up T k b) a n) (nI t))) on + 1 := by
        refine cnt_one c1 (by simp [ne]) ?_ (fun d hd hdo => ?_)
        · rw [va_up_self, fin1_3, z]; simp
        · rw [va_up_ne _ _ hdo]
      omega
    · rw [if_neg z]
      refine cnt_congr (fun d hd => ?_)
      by_cases e : d = o
      · rw [e, va_up_self, fin1_3]
        simp only [decide_eq_decide]
        constructor
        · intro _ y
          exact z ((nI_eq (by omega) (by omega)).mp y)
        · intro _; exact ne
      · rw [va_up_ne _ _ e]
theorem inF_mv {cn : Nat} {kn : Nat → Nat} {on tn rn : Nat} {s : fS} {r : Nat} (h : inF cn kn on tn rn s) : inF cn kn on tn rn (mvB s r) := by
  obtain ⟨O, T, P, te, B, t, A, wy, lg⟩ := s
  obtain ⟨i1, i2, i3, i4, i5, i6, i7, i8, i9⟩ := h
  refine ⟨i1, i2, i3, i4, i5, i6, i7, i8, fun q hq => ?_⟩
  split
  · exact i9 q hq
  · by_cases e : q = r
    · rw [e, va_up_self, upk (by decide), ← e]; exact i9 q hq
    · rw [va_up_ne _ _ e]; exact i9 q hq
theorem bT_of {B : Nat → Nat → Int32} {r k : Nat} (h : B r 0 = nI k) (hk : k < 1000) : bT B r = k := by unfold bT; rw [h, nI_clamp (by omega)]
theorem inF_wk {cn : Nat} {kn : Nat → Nat} {on tn rn : Nat} {s : fS} {r : Nat} (hr : r < rn) (h : inF cn kn on tn rn s) : inF cn kn on tn rn (wkO s r) := by
  obtain ⟨O, T, P, te, B, t, A, wy, lg⟩ := s
  have hh := h
  obtain ⟨i1, i2, i3, i4, i5, i6, i7, i8, i9⟩ := h
  unfold wkO
  by_cases hb : B r 0 = -1
  · simp only [if_pos hb]; exact hh
  · simp only [if_neg hb]
    obtain ⟨k, hk, hbk⟩ : ∃ k, k < tn ∧ B r 0 = nI k := (i9 r hr).resolve_left hb
    rw [bT_of hbk (by omega)]
    have hs1 := pkT_sT T k (P r t) t
    have w1 : tWf cn kn on tn O (pkT T k (P r t) t) := tWf_sT hs1 (fun _ => rfl) i6
    have w2 : oWf on tn O (pkT T k (P r t) t) := oWf_sT hs1 (fun i _ => pkT_lt T k (P r t) t i) i7
    by_cases hc : pkT T k (P r t) t k 3 = nI 2 ∧ te r ≤ t
    · rw [if_pos hc]
      obtain ⟨o, u, x1, x2, x3, x4, x5, x6, x7, x8, x9⟩ := oWf_br (b := upd (upd (pkT T k (P r t) t k) 3 (nI 3)) 8 (nI t)) hk i2 i1 i4 (by rw [hc.1]; decide) (by rw [upk (by decide), pk_us]; decide) (fun j hj => by rw [upk (by omega), upk (by omega)]) w1 w2
      have e : tor T k = o := by rw [← x3]; unfold tor; rw [hs1 k 0 (by omega)]
      rw [e, finI_fin1 x4 x5]
      refine ⟨i1, i2, i3, i4, i5, x7, x6, i8, fun q hq => ?_⟩
      by_cases e : q = r
      · left; rw [e, va_up_self, upk (by decide), pk_us]
      · rw [va_up_ne _ _ e]; exact i9 q hq
    · rw [if_neg hc]
      exact ⟨i1, i2, i3, i4, i5, w1, w2, i8, i9⟩
theorem inF_gOn {cn : Nat} {kn : Nat → Nat} {on tn rn : Nat} {s : fS} {r : Nat} (hr : r < rn) (h : inF cn kn on tn rn s) : inF cn kn on tn rn (gOn s r) := inF_wk hr (inF_mv h)
theorem inF_lfw {cn w : Nat} {kn : Nat → Nat} {on tn rn : Nat} {s : fS} {r : Nat} (h0 : 0 < w) (hh : ∃ h, cn = w * h) (hr : r < rn) (h : inF cn kn on tn rn s) : inF cn kn on tn rn (lfw cn w kn tn rn s r) := by
  obtain ⟨O, T, P, te, B, t, A, wy, lg⟩ := s
  have hi := h
  obtain ⟨i1, i2, i3, i4, i5, i6, i7, i8, i9⟩ := h
  obtain ⟨pc, pk⟩ := i8 r hr t
  have path : ∀ sho goal x, wyF cn w kn P te rn r t sho goal = some x → x.1 < 1000 ∧ ∀ q, q < rn → ∀ τ, nwP P r t x.1 x.2 q τ < cn ∧ ¬ kn (nwP P r t x.1 x.2 q τ) = 0 := by
    intro sho goal x hx
    obtain ⟨w1, w2, w3, sp, w4⟩ := wyF_is hx
    refine ⟨w1, fun q hq τ => ?_⟩
    unfold nwP
    split
    · exact isW_in h0 hh pc pk (s0f_lt _ _) w2.2 w4 (Nat.min_le_right _ _)
    · exact i8 q hq τ
  cases hb : bst (ftB T (fun c => eoB P te r c rn)) (fun i => dsF cn w kn (P r t) (tsh T i)) tn with
  | some k =>
    obtain ⟨hk, hft⟩ := bst_lt hb
    unfold ftB at hft
    simp only [Bool.and_eq_true, decide_eq_true_eq, Bool.not_eq_true'] at hft
    cases hx : wyF cn w kn P te rn r t (some (tsh T k)) (tst T k) with
    | none =>
      have e : lfw cn w kn tn rn (O, T, P, te, B, t, A, wy, lg) r = (O, T, P, te, B, t, A, wy, lg) := by
        unfold lfw
        simp only [hb, hx]
      rw [e]; exact hi
    | some x =>
      have e : lfw cn w kn tn rn (O, T, P, te, B, t, A, wy, lg) r = (O, va_up T k (tkU (T k) r t (P r t)), nwP P r t x.1 x.2, nwE te r t x.1, va_up B r (upd (B r) 0 (nI k)), t, A, wy + 1, max lg x.1) := by
        unfold lfw
        simp only [hb, hx]
      rw [e]
      obtain ⟨y1, y2⟩ := path _ _ x hx
      have hs1 : sT T (va_up T k (tkU (T k) r t (P r t))) := up_sT (fun j hj => tkU_k _ _ _ _ (by omega) (by omega) (by omega) (by omega))
      refine ⟨i1, i2, i3, i4, by omega, tWf_sT hs1 (fun _ => rfl) i6, oWf_sT hs1 (fun i hi => ?_) i7, y2, fun q hq => ?_⟩
      · by_cases e : i = k
        · rw [e, va_up_self, hft.1]
          rcases tkU_3 (T k) r t (P r t) with z | z <;> rw [z] <;> decide
        · rw [va_up_ne _ _ e]
      · by_cases e : q = r
        · right; exact ⟨k, hk, by rw [e, va_up_self, pk_us]⟩
        · rw [va_up_ne _ _ e]; exact i9 q hq
  | none =>
    cases hv : wnB T (P r t) tn with
    | false =>
      have e : lfw cn w kn tn rn (O, T, P, te, B, t, A, wy, lg) r = (O, T, P, te, B, t, A, wy, lg) := by
        unfold lfw
        simp only [hb, hv]
        rfl
      rw [e]; exact hi
    | true =>
      cases hb2 : bst (rfB kn (fun c => wnB T c tn) (fun c => eoB P te r c rn)) (fun d => dsF cn w kn (P r t) d) cn with
      | none =>
        have e : lfw cn w kn tn rn (O, T, P, te, B, t, A, wy, lg) r = (O, T, P, te, B, t, A, wy, lg) := by
          unfold lfw
          simp only [hb, hv, hb2]
          rfl
        rw [e]; exact hi
      | some d =>
        cases hx : wyF cn w kn P te rn r t none d with
        | none =>
          have e : lfw cn w kn tn rn (O, T, P, te, B, t, A, wy, lg) r = (O, T, P, te, B, t, A, wy, lg) := by
            unfold lfw
            simp only [hb, hv, hb2, hx]
            rfl
          rw [e]; exact hi
        | some x =>
          have e : lfw cn w kn tn rn (O, T, P, te, B, t, A, wy, lg) r = (O, T, nwP P r t x.1 x.2, nwE te r t x.1, va_up B r (upd (B r) 3 (B r 3 + 1)), t, A, wy + 1, max lg x.1) := by
            unfold lfw
            simp only [hb, hv, hb2, hx]
            rfl
          rw [e]
          obtain ⟨y1, y2⟩ := path _ _ x hx
          refine ⟨i1, i2, i3, i4, by omega, i6, i7, y2, fun q hq => ?_⟩
          by_cases e : q = r
          · rw [e, va_up_self, upk (by decide), ← e]; exact i9 q hq
          · rw [va_up_ne _ _ e]; exact i9 q hq
