/-! THE STATE: orders and tasks (pure) -/
def opn (T : Nat → Nat → Int32) (a n : Nat) : Nat := cnt (fun q => decide (T (a + q) 3 < nI 3)) n
/-- tasks are well formed -/
def tWf (cn : Nat) (kn : Nat → Nat) (on tn : Nat) (O T : Nat → Nat → Int32) : Prop := ∀ i, i < tn → (T i 1 = nI (tsh T i) ∧ tsh T i < cn ∧ kn (tsh T i) = 2) ∧ (T i 2 = nI (tst T i) ∧ tst T i < cn ∧ kn (tst T i) = 3) ∧ ∃ o, o < on ∧ T i 0 = nI o ∧ O o 0 = T i 2
/-- orders are well formed -/
def oWf (on tn : Nat) (O T : Nat → Nat → Int32) : Prop := ∀ o, o < on → ∃ a n, O o 1 = nI n ∧ O o 2 = nI a ∧ 1 ≤ n ∧ n ≤ 3 ∧ a + n ≤ tn ∧ (∀ i, i < tn → (T i 0 = nI o ↔ a ≤ i ∧ i < a + n)) ∧ O o 3 = nI (opn T a n) ∧ (if opn T a n = 0 then 0 ≤ O o 5 else O o 5 = -1)
def pnd (T : Nat → Nat → Int32) (tn : Nat) : Nat := cnt (fun i => decide (T i 3 = nI 0)) tn
def pnf (T : Nat → Nat → Int32) (c tn : Nat) : Nat := cnt (fun i => decide (T i 3 = nI 0) && decide (tst T i = c)) tn
def opO (O : Nat → Nat → Int32) (on : Nat) : Nat := cnt (fun o => decide (¬ O o 3 = nI 0)) on
/-- a waiting task wants c -/
def wnB (T : Nat → Nat → Int32) (c : Nat) : Nat → Bool
  | 0 => false
  | n + 1 => wnB T c n || (decide (T n 3 = nI 0) && decide (tst T n = c))
theorem cnt_wn (T : Nat → Nat → Int32) (c : Nat) : ∀ n, wnB T c n = decide (0 < pnf T c n)
  | 0 => rfl
  | n + 1 => by
    show (wnB T c n || _) = decide (0 < pnf T c n + if (decide (T n 3 = nI 0) && decide (tst T n = c)) = true then 1 else 0)
    rw [cnt_wn T c n]
    cases (decide (T n 3 = nI 0) && decide (tst T n = c)) with
    | true => simp
    | false => simp
theorem wnB_pnd {T : Nat → Nat → Int32} {c : Nat} : ∀ {n}, wnB T c n = true → 0 < pnd T n
  | 0, h => by cases h
  | n + 1, h => by
    have h : (wnB T c n || (decide (T n 3 = nI 0) && decide (tst T n = c))) = true := h
    show 0 < pnd T n + if decide (T n 3 = nI 0) = true then 1 else 0
    rw [Bool.or_eq_true] at h
    rcases h with h | h
    · have := wnB_pnd h; omega
    · rw [Bool.and_eq_true] at h
      rw [if_pos h.1]; omega
theorem bst_pnd {T : Nat → Nat → Int32} {E : Nat → Bool} {D : Nat → Int32} {n k : Nat} (h : bst (ftB T E) D n = some k) : 0 < pnd T n := by
  obtain ⟨h1, h2⟩ := bst_lt h
  unfold ftB at h2
  rw [Bool.and_eq_true] at h2
  exact cnt_pos (p := fun i => decide (T i 3 = nI 0)) h1 h2.1
theorem pfW_of {T : Nat → Nat → Int32} {tn : Nat} {pf : Nat → Int32} (ht : tn ≤ 90) (h : ∀ c, c < 80 → pf c = nI (pnf T c tn)) : pfW pf (fun c => wnB T c tn) := by
  intro c hc
  have hl : pnf T c tn ≤ tn := cnt_le _ _
  show _ = bI (wnB T c tn)
  rw [h c hc, cnt_wn]
  by_cases e : 0 < pnf T c tn
  · rw [if_neg (nI_nle e (by omega)), decide_eq_true e]; rfl
  · rw [if_pos (by rw [show pnf T c tn = 0 by omega]; decide), decide_eq_false e]; rfl
theorem upk {a : Nat → Int32} {j k : Nat} {x : Int32} (h : j ≠ k) : upd a k x j = a j := pk_un h
theorem tkU_k (a : Nat → Int32) (r t c : Nat) {j : Nat} (h3 : j ≠ 3) (h4 : j ≠ 4) (h6 : j ≠ 6) (h7 : j ≠ 7) : tkU a r t c j = a j := by
  unfold tkU
  split
  · rw [upk h7, upk h3, upk h6, upk h4, upk h3]
  · rw [upk h6, upk h4, upk h3]
theorem tkU_3 (a : Nat → Int32) (r t c : Nat) : tkU a r t c 3 = nI 1 ∨ tkU a r t c 3 = nI 2 := by
  unfold tkU
  split
  · right; rw [upk (by decide), pk_us]
  · left; rw [upk (by decide), upk (by decide), pk_us]
/-- two tables of tasks with the same orders and places -/
def sT (T T' : Nat → Nat → Int32) : Prop := ∀ i j, j < 3 → T' i j = T i j
theorem sT_sh {T T' : Nat → Nat → Int32} (h : sT T T') (i : Nat) : tsh T' i = tsh T i := by unfold tsh; rw [h i 1 (by omega)]
theorem sT_st {T T' : Nat → Nat → Int32} (h : sT T T') (i : Nat) : tst T' i = tst T i := by unfold tst; rw [h i 2 (by omega)]
theorem tWf_sT {cn : Nat} {kn : Nat → Nat} {on tn : Nat} {O O' T T' : Nat → Nat → Int32} (h : sT T T') (hO : ∀ o, O' o 0 = O o 0) (hw : tWf cn kn on tn O T) : tWf cn kn on tn O' T' := by
  intro i hi
  obtain ⟨⟨a1, a2, a3⟩, ⟨b1, b2, b3⟩, o, c1, c2, c3⟩ := hw i hi
  rw [sT_sh h, sT_st h, h i 0 (by omega), h i 1 (by omega), h i 2 (by omega)]
  exact ⟨⟨a1, a2, a3⟩, ⟨b1, b2, b3⟩, o, c1, c2, by rw [hO]; exact c3⟩
theorem opn_c {T T' : Nat → Nat → Int32} {a n : Nat} (h : ∀ q, q < n → (T' (a + q) 3 < nI 3 ↔ T (a + q) 3 < nI 3)) : opn T' a n = opn T a n := cnt_congr (fun q hq => by simp only [decide_eq_decide]; exact h q hq)
theorem oWf_sT {on tn : Nat} {O T T' : Nat → Nat → Int32} (h : sT T T') (h3 : ∀ i, i < tn → (T' i 3 < nI 3 ↔ T i 3 < nI 3)) (hw : oWf on tn O T) : oWf on tn O T' := by
  intro o ho
  obtain ⟨a, n, c1, c2, c3, c4, c5, c6, c7, c8⟩ := hw o ho
  have e : opn T' a n = opn T a n := opn_c (fun q hq => h3 _ (by omega))
  exact ⟨a, n, c1, c2, c3, c4, c5, fun i hi => by rw [h i 0 (by omega)]; exact c6 i hi, by rw [e]; exact c7, by rw [e]; exact c8⟩
theorem up_sT {T : Nat → Nat → Int32} {k : Nat} {b : Nat → Int32} (h : ∀ j, j < 3 → b j = T k j) : sT T (va_up T k b) := by
  intro i j hj
  by_cases e : i = k
  · rw [e, va_up_self, h j hj]
  · rw [va_up_ne _ _ e]
/-- task k goes from waiting into another state -/
theorem pnd_dn {T : Nat → Nat → Int32} {tn k : Nat} {b : Nat → Int32} (hk : k < tn) (h0 : T k 3 = nI 0) (hb : ¬ b 3 = nI 0) : pnd T tn = pnd (va_up T k b) tn + 1 := by
  refine cnt_one hk (by simp [h0]) ?_ (fun d hd hdk => ?_)
  · show decide (va_up T k b k 3 = nI 0) = false
    rw [va_up_self]; simp [hb]
  · show decide (va_up T k b d 3 = nI 0) = _
    rw [va_up_ne _ _ hdk]
theorem pnf_dn {T : Nat → Nat → Int32} {tn k : Nat} {b : Nat → Int32} (hk : k < tn) (h0 : T k 3 = nI 0) (hb : ¬ b 3 = nI 0) (h2 : b 2 = T k 2) (c : Nat) : pnf T c tn = pnf (va_up T k b) c tn + if c = tst T k then 1 else 0 := by
  have es : ∀ d, tst (va_up T k b) d = tst T d := by
    intro d
    unfold tst
    by_cases e : d = k
    · rw [e, va_up_self, h2]
    · rw [va_up_ne _ _ e]
  by_cases e : c = tst T k
  · rw [if_pos e]
    refine cnt_one hk (by simp [h0, e]) ?_ (fun d hd hdk => ?_)
    · show (decide (va_up T k b k 3 = nI 0) && _) = false
      rw [va_up_self]; simp [hb]
    · show (decide (va_up T k b d 3 = nI 0) && decide (tst (va_up T k b) d = c)) = _
      rw [va_up_ne _ _ hdk, es]
  · rw [if_neg e, Nat.add_zero]
    refine cnt_congr (fun d hd => ?_)
    show _ = (decide (va_up T k b d 3 = nI 0) && decide (tst (va_up T k b) d = c))
    rw [es]
    by_cases e2 : d = k
    · have : ¬ tst T k = c := fun z => e z.symm
      rw [e2]; simp [this]
    · rw [va_up_ne _ _ e2]
/-- what the class counts along -/
def oCt (on tn : Nat) (O T : Nat → Nat → Int32) (nc pn : Nat) (pf : Nat → Int32) : Prop := pn = pnd T tn ∧ (∀ c, c < 80 → pf c = nI (pnf T c tn)) ∧ nc = opO O on
/-- a task is taken: the counts -/
theorem oCt_take {on tn : Nat} {O T : Nat → Nat → Int32} {nc pn : Nat} {pf : Nat → Int32} {k : Nat} {b : Nat → Int32} (hk : k < tn) (h0 : T k 3 = nI 0) (hb : ¬ b 3 = nI 0) (h2 : b 2 = T k 2) (hs : tst T k < 80) (h : oCt on tn O T nc pn pf) : ∃ p m, pn = p + 1 ∧ pf (tst T k) = nI (m + 1) ∧ oCt on tn O (va_up T k b) nc p (upd pf (tst T k) (nI m)) := by
  obtain ⟨h1, h3, h4⟩ := h
  have e1 := pnd_dn hk h0 hb
  have e2 := pnf_dn hk h0 hb h2 (tst T k)
  rw [if_pos rfl] at e2
  refine ⟨pnd (va_up T k b) tn, pnf (va_up T k b) (tst T k) tn, by rw [h1, e1], by rw [h3 _ hs, e2], rfl, fun c hc => ?_, h4⟩
  by_cases e : c = tst T k
  · rw [e, pk_us]
  · have e3 := pnf_dn hk h0 hb h2 c
    rw [if_neg e, Nat.add_zero] at e3
    rw [pk_un e, h3 c hc, e3]
