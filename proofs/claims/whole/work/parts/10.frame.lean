/-! OWN MACHINE. Values, cells, worlds: an address is a pair (which entry of the world, which one of it); a world is a list of entries over a base; a walk's goal fz_J hides all that the kit's W carries along. -/
abbrev fz_V : Type := Int32 ⊕ (Int64 ⊕ Option (Nat × Nat))
abbrev zI (x : Int32) : fz_V := .inl x
abbrev zL (x : Int64) : fz_V := .inr (.inl x)
abbrev zR (k i : Nat) : fz_V := .inr (.inr (some (k, i)))
abbrev zN : fz_V := .inr (.inr none)
/-- objects (class, how many, fields); arrays of int kinds (type, how many, length, contents); of longs; of references -/
abbrev fz_E : Type := (Nat × Nat × (Nat → List fz_V)) ⊕ ((Nat × Nat × Nat × (Nat → Nat → Int32)) ⊕ ((Nat × Nat × Nat × (Nat → Nat → Int64)) ⊕ (Nat × Nat × Nat × (Nat → Nat → Option (Nat × Nat)))))
abbrev fz_W : Type := List (Nat × fz_E)
abbrev fz_G : Type := Launch × va_G × (Nat → ClassId) × Nat × (Nat → Nat → Nat)
/-- a method: name, code, locals, what it returns -/
abbrev fz_M : Type := MethodName × ByteArray × Nat × Option FieldType
abbrev zo (ci n : Nat) (F : Nat → List fz_V) : fz_E := .inl (ci, n, F)
abbrev zi (t n len : Nat) (f : Nat → Nat → Int32) : fz_E := .inr (.inl (t, n, len, f))
abbrev zl (t n len : Nat) (f : Nat → Nat → Int64) : fz_E := .inr (.inr (.inl (t, n, len, f)))
abbrev zq (t n len : Nat) (f : Nat → Nat → Option (Nat × Nat)) : fz_E := .inr (.inr (.inr (t, n, len, f)))
def fz_v (G : fz_G) (v : fz_V) : Value := match v with
  | .inl x => .int x
  | .inr (.inl x) => .long x
  | .inr (.inr none) => .null
  | .inr (.inr (some q)) => .ref (G.2.2.2.2 q.1 q.2)
def fz_n (x : fz_E) : Nat := match x with
  | .inl a => a.2.1
  | .inr (.inl a) => a.2.1
  | .inr (.inr (.inl a)) => a.2.1
  | .inr (.inr (.inr a)) => a.2.1
def fz_c (G : fz_G) (x : fz_E) (i : Nat) : va_E := match x with
  | .inl a => .inr (a.1, (a.2.2 i).map (fz_v G))
  | .inr (.inl a) => .inl (G.2.2.1 a.1, a.2.2.1, .inl (a.2.2.2 i))
  | .inr (.inr (.inl a)) => .inl (G.2.2.1 a.1, a.2.2.1, .inr (.inl (a.2.2.2 i)))
  | .inr (.inr (.inr a)) => .inl (G.2.2.1 a.1, a.2.2.1, .inr (.inr (.inr (.inr (fun j => (a.2.2.2 i j).map (fun q => G.2.2.2.2 q.1 q.2))))))
def fz_A (G : fz_G) : Nat → Prop := fun q => G.2.2.2.1 ≤ q
def fz_tys (G : fz_G) : List (ClassId × FieldType) := fz_tyL.zipIdx.map (fun q => (G.2.2.1 q.2, q.1))
theorem fz_ty {G : fz_G} {t : Nat} {ty : FieldType} (h : fz_tyL[t]? = some ty) : (fz_tys G)[t]? = some (G.2.2.1 t, ty) := by
  simp [fz_tys, List.getElem?_map, List.getElem?_zipIdx, h]
def fz_d : fz_W → (Nat → fz_E) → Nat → fz_E
  | [], E => E
  | q :: V, E => fun j => if j = q.1 then q.2 else fz_d V E j
def fz_lk : fz_W → Nat → Option fz_E
  | [], _ => none
  | q :: V, k => if k = q.1 then some q.2 else fz_lk V k
def fz_st : fz_W → Nat → fz_E → fz_W
  | [], _, _ => []
  | q :: V, k, x => if k = q.1 then (q.1, x) :: V else q :: fz_st V k x
theorem fz_d_c {E : Nat → fz_E} {q : Nat × fz_E} {V : fz_W} {j : Nat} : fz_d (q :: V) E j = if j = q.1 then q.2 else fz_d V E j := rfl
theorem fz_lk_c {q : Nat × fz_E} {V : fz_W} {k : Nat} : fz_lk (q :: V) k = if k = q.1 then some q.2 else fz_lk V k := rfl
theorem fz_st_c {q : Nat × fz_E} {V : fz_W} {k : Nat} {x : fz_E} : fz_st (q :: V) k x = if k = q.1 then (q.1, x) :: V else q :: fz_st V k x := rfl
theorem fz_d_eq {E : Nat → fz_E} {k : Nat} : ∀ {V : fz_W}, fz_d V E k = (fz_lk V k).getD (E k)
  | [] => rfl
  | q :: V => by
    rw [fz_d_c, fz_lk_c]
    by_cases hk : k = q.1
    · rw [if_pos hk, if_pos hk, Option.getD_some]
    · rw [if_neg hk, if_neg hk]
      exact fz_d_eq
theorem fz_d_lk {E : Nat → fz_E} {k : Nat} {x : fz_E} {V : fz_W} (h : fz_lk V k = some x) : fz_d V E k = x := by
  rw [fz_d_eq, h]; rfl
theorem fz_lk_st {k : Nat} {x y : fz_E} {j : Nat} : ∀ {V : fz_W}, fz_lk V k = some y → fz_lk (fz_st V k x) j = if j = k then some x else fz_lk V j
  | [], h => by cases h
  | q :: V, h => by
    rw [fz_lk_c] at h
    rw [fz_st_c]
    by_cases hk : k = q.1
    · rw [if_pos hk, fz_lk_c, fz_lk_c, ← hk]
      by_cases hj : j = k
      · simp only [if_pos hj]
      · simp only [if_neg hj]
    · rw [if_neg hk] at h ⊢
      rw [fz_lk_c, fz_lk_c, fz_lk_st h]
      by_cases hj : j = q.1
      · have hjk : ¬ j = k := fun z => hk (z.symm.trans hj)
        simp only [if_pos hj, if_neg hjk]
      · simp only [if_neg hj]
theorem fz_d_st {E : Nat → fz_E} {k : Nat} {x y : fz_E} {V : fz_W} (h : fz_lk V k = some y) : fz_d (fz_st V k x) E = va_up (fz_d V E) k x := by
  funext j
  rw [fz_d_eq, fz_lk_st h]
  unfold va_up
  by_cases hj : j = k
  · rw [if_pos hj, if_pos hj]; rfl
  · rw [if_neg hj, if_neg hj, fz_d_eq]
/-- the first world's entries are the second's -/
def fz_sub : fz_W → fz_W → Prop
  | [], _ => True
  | q :: U, V => fz_lk V q.1 = some q.2 ∧ fz_sub U V
theorem fz_d_sub {E : Nat → fz_E} {V : fz_W} : ∀ {U : fz_W}, fz_sub U V → fz_d U (fz_d V E) = fz_d V E
  | [], _ => rfl
  | q :: U, h => by
    funext j
    rw [fz_d_c]
    by_cases hj : j = q.1
    · rw [if_pos hj, hj]
      exact (fz_d_lk h.1).symm
    · rw [if_neg hj]
      exact congrFun (fz_d_sub h.2) j
/-- behind a call: the callee's entries in the caller's order -/
def fz_mg (U : fz_W) : fz_W → fz_W
  | [] => []
  | q :: V => (q.1, (fz_lk U q.1).getD q.2) :: fz_mg U V
def fz_in : fz_W → fz_W → Bool
  | [], _ => true
  | q :: U, V => (fz_lk V q.1).isSome && fz_in U V
theorem fz_mg_c {U : fz_W} {q : Nat × fz_E} {V : fz_W} : fz_mg U (q :: V) = (q.1, (fz_lk U q.1).getD q.2) :: fz_mg U V := rfl
theorem fz_lk_mg {U : fz_W} {k : Nat} : ∀ {V : fz_W}, fz_lk (fz_mg U V) k = (fz_lk V k).map (fun y => (fz_lk U k).getD y)
  | [] => rfl
  | q :: V => by
    rw [fz_mg_c, fz_lk_c, fz_lk_c]
    by_cases hk : k = q.1
    · rw [if_pos hk, if_pos hk, Option.map_some, hk]
    · rw [if_neg hk, if_neg hk]
      exact fz_lk_mg
theorem fz_in_lk {V : fz_W} {k : Nat} {x : fz_E} : ∀ {U : fz_W}, fz_in U V = true → fz_lk U k = some x → (fz_lk V k).isSome = true
  | [], _, h => by cases h
  | q :: U, h, h2 => by
    have h : ((fz_lk V q.1).isSome && fz_in U V) = true := h
    rw [Bool.and_eq_true] at h
    rw [fz_lk_c] at h2
    by_cases hk : k = q.1
    · rw [hk]; exact h.1
    · rw [if_neg hk] at h2
      exact fz_in_lk h.2 h2
theorem fz_d_mg {E : Nat → fz_E} {U V : fz_W} (h : fz_in U V = true) : fz_d U (fz_d V E) = fz_d (fz_mg U V) E := by
  funext k
  rw [fz_d_eq, fz_d_eq, fz_d_eq, fz_lk_mg]
  cases h1 : fz_lk U k with
  | none => cases h2 : fz_lk V k <;> rfl
  | some x =>
    have h3 := fz_in_lk h h1
    cases h2 : fz_lk V k with
    | none => rw [h2] at h3; cases h3
    | some y => rfl
/-- the heap holds the world -/
def fz_R (G : fz_G) (E : Nat → fz_E) (H : Heap) : Prop := ∃ (L : List Nat) (f : Nat → va_E), va_P G.2.1 classes (va_pl L f) H ∧ va_D (fz_A G) (va_pl L f) ∧ (∀ k i, i < fz_n (E k) → G.2.2.2.2 k i ∈ L ∧ f (G.2.2.2.2 k i) = fz_c G (E k) i) ∧ (∀ k i k' i', i < fz_n (E k) → i' < fz_n (E k') → G.2.2.2.2 k i = G.2.2.2.2 k' i' → k = k' ∧ i = i')
theorem fz_upd {G : fz_G} {V : fz_W} {E0 : Nat → fz_E} {k i : Nat} {y x : fz_E} {L : List Nat} {f : Nat → va_E} {H1 : Heap} (hV : fz_lk V k = some y) (hi : i < fz_n y) (hn : fz_n x = fz_n y) (ho : ∀ i', i' < fz_n y → i' ≠ i → fz_c G x i' = fz_c G y i')
    (hE : ∀ k i, i < fz_n (fz_d V E0 k) → G.2.2.2.2 k i ∈ L ∧ f (G.2.2.2.2 k i) = fz_c G (fz_d V E0 k) i) (hJ : ∀ k i k' i', i < fz_n (fz_d V E0 k) → i' < fz_n (fz_d V E0 k') → G.2.2.2.2 k i = G.2.2.2.2 k' i' → k = k' ∧ i = i')
    (hP : va_P G.2.1 classes (va_pl L (va_up f (G.2.2.2.2 k i) (fz_c G x i))) H1) (hD : va_D (fz_A G) (va_pl L (va_up f (G.2.2.2.2 k i) (fz_c G x i)))) : fz_R G (fz_d (fz_st V k x) E0) H1 := by
  have hk : fz_d V E0 k = y := fz_d_lk hV
  have key : ∀ k', fz_n (va_up (fz_d V E0) k x k') = fz_n (fz_d V E0 k') := by
    intro k'
    unfold va_up
    by_cases h : k' = k
    · rw [if_pos h, h, hk, hn]
    · rw [if_neg h]
  rw [fz_d_st hV]
  refine ⟨L, _, hP, hD, fun k' i' h' => ?_, fun k1 i1 k2 i2 h1 h2 => ?_⟩
  · rw [key] at h'
    obtain ⟨g1, g2⟩ := hE k' i' h'
    refine ⟨g1, ?_⟩
    by_cases hq : k' = k
    · subst hq
      by_cases hqi : i' = i
      · subst hqi
        rw [va_up_self, va_up_self]
      · rw [va_up_ne _ _ (fun z => hqi (hJ k' i' k' i h' (by rw [hk]; exact hi) z).2), va_up_self, g2, hk]
        exact (ho i' (by rw [← hk]; exact h') hqi).symm
    · rw [va_up_ne _ _ (fun z => hq (hJ k' i' k i h' (by rw [hk]; exact hi) z).1), va_up_ne _ _ hq, g2]
  · rw [key] at h1 h2
    exact hJ k1 i1 k2 i2 h1 h2
/-- the nest mates' words -/
def fz_Nw (U : State) : Prop := ∀ w ∈ fz_nest, va_Nw w U
/-- what a walk knows of the machine: the method's own and the tables' -/
def fz_C (G : fz_G) (M : fz_M) (p : Program) (s : State) (m : MethodId) (args : Array Value) (meth : Method) (c : Code) : Prop :=
  p.tables.exec = Jvm.exec ∧ c.code = M.2.1 ∧ meth.sig.returnType = M.2.2.2 ∧ c.maxLocals = M.2.2.1 ∧ s.vm.findClass M.1.cls = some m.cls ∧ (∀ w ∈ fz_tb, w.before args s = true) ∧ meth.locks = false ∧ meth.name = M.1.name ∧ va_K G.2.1 classes (fz_tys G) s ∧ fz_Nw s ∧ G.2.2.2.1 ≤ s.heap.size
/-- THE GOAL OF A WALK: method M, room R, end Z, base E0, made so far cs cells of sl slots, at pc with locals ls, stack st, world V -/
def fz_J (G : fz_G) (M : fz_M) (R : Room) (Z : List Frame → Array Value → State → State → Prop) (E0 : Nat → fz_E) (cs sl : Nat) (pc : Nat) (ls : List (Nat × fz_V)) (st : List fz_V) (V : fz_W) : Prop :=
  ∀ (p : Program) (e : Env) (s : State) (m : MethodId) (args : Array Value) (below : List Frame) (meth : Method) (c : Code) (H : Heap) (locs : List Loc) (la : Array Slot),
    fz_C G M p s m args meth c → fz_R G (fz_d V E0) H → va_S (fz_A G) s.heap H locs → lv_has la M.2.2.1 (ls.map fun q => (q.1, fz_v G q.2)) →
    W p G.1 e R s m args below meth c H locs cs sl (Z below args s) (F0 m pc la (st.map (fz_v G)))
def fz_Qc (G : fz_G) (E0 : Nat → fz_E) (Q : Option fz_V → fz_W → Prop) : Array Value → State → Outcome → State → Prop := fun _ st o t => (∃ (r : Option fz_V) (V : fz_W), o = .returned (r.map (fz_v G)) ∧ Q r V ∧ fz_R G (fz_d V E0) t.heap) ∧ va_F (fz_A G) st t
def fz_Z (G : fz_G) (E0 : Nat → fz_E) (mc ms : Nat) (Q : Option fz_V → fz_W → Prop) : List Frame → Array Value → State → State → Prop := fun below args s => MQ below (fz_Qc G E0 Q) args s mc ms (fz_A G)
def fz_Pc (G : fz_G) (E0 : Nat → fz_E) (as : List fz_V) (V : fz_W) : Array Value → State → Prop := fun v U => v = (as.map (fz_v G)).toArray ∧ fz_R G (fz_d V E0) U.heap ∧ va_K G.2.1 classes (fz_tys G) U ∧ fz_Nw U ∧ G.2.2.2.1 ≤ U.heap.size
def fz_ws (M : fz_M) : List Cond := .code M.1 M.2.1 M.2.2.1 M.2.2.2 :: fz_tb
/-- A METHOD'S CONTRACT: called with as over world V it answers r and leaves a world V', and 'Q r V'' -/
def fz_T (G : fz_G) (M : fz_M) (R : Room) (as : List fz_V) (V : fz_W) (Q : Option fz_V → fz_W → Prop) : Prop := ∀ E0 : Nat → fz_E, Met G.1 M.1 (fz_ws M) R (fz_Pc G E0 as V) (fz_Qc G E0 Q) R.cells R.slots (fz_A G)
def fz_cat (v : fz_V) : Nat := match v with
  | .inr (.inl _) => 2
  | _ => 1
theorem fz_cat_eq (G : fz_G) (v : fz_V) : (fz_v G v).category = fz_cat v := by
  rcases v with x | x | x | x <;> rfl
def fz_args : Nat → List fz_V → List (Nat × fz_V)
  | _, [] => []
  | i, v :: vs => (i, v) :: fz_args (if fz_cat v = 2 then i + 2 else i + 1) vs
theorem fz_args_map (G : fz_G) : ∀ (vs : List fz_V) (i : Nat), lv_args i (vs.map (fz_v G)) = (fz_args i vs).map fun q => (q.1, fz_v G q.2)
  | [], _ => rfl
  | v :: vs, i => by
    show (i, fz_v G v) :: lv_args (if (fz_v G v).category = 2 then i + 2 else i + 1) (vs.map (fz_v G)) = _
    rw [fz_cat_eq, fz_args_map G vs]
    rfl
def fz_wd : List fz_V → Nat
  | [] => 0
  | v :: vs => fz_cat v + fz_wd vs
theorem fz_wd_sl (G : fz_G) : ∀ vs : List fz_V, (lg_sl (vs.map (fz_v G))).length = fz_wd vs
  | [] => rfl
  | v :: vs => by
    have h : lg_sl ((v :: vs).map (fz_v G)) = (if (fz_v G v).category = 2 then [.val (fz_v G v), .second] else [.val (fz_v G v)]) ++ lg_sl (vs.map (fz_v G)) := rfl
    rw [h, List.length_append, fz_wd_sl G vs, fz_cat_eq]
    rcases v with x | x | x | x <;> rfl
theorem fz_wd_sum (G : fz_G) : ∀ vs : List fz_V, (((vs.map (fz_v G)).map fun v => v.category).sum) = fz_wd vs
  | [] => rfl
  | v :: vs => by
    show (fz_v G v).category + (((vs.map (fz_v G)).map fun v => v.category).sum) = _
    rw [fz_cat_eq, fz_wd_sum G vs]
    rfl
theorem fz_T.of {G : fz_G} {M : fz_M} {R : Room} {as : List fz_V} {V : fz_W} {Q : Option fz_V → fz_W → Prop} (hy : plainName M.1.cls = true) (hn : fz_wd as ≤ M.2.2.1) (h : ∀ E0, fz_J G M R (fz_Z G E0 R.cells R.slots Q) E0 0 0 0 (fz_args 0 as) [] V) : fz_T G M R as V Q := by
  intro E0
  refine Met.ofW (cc := M.2.1) (maxL := M.2.2.1) (ret := M.2.2.2) hy rfl ?_
  intro p e s m args below meth c s₁ B hml hv
  obtain ⟨rfl, hR, hK, hN, hb⟩ := hv
  have hts := atoms_spec (ws := fz_ws M) B.pre
  have hl := lv_entry (as.map (fz_v G)) (n := M.2.2.1) (by rw [fz_wd_sl]; exact hn)
  rw [fz_args_map] at hl
  rw [lg_entry_eq]
  exact h E0 p e s m _ below meth c s.heap [] _ ⟨B.exec, B.bytes, B.returns, hml, findClass_of_methodNamed B.named, fun w hw => hts w (List.mem_cons_of_mem _ hw), B.notSynchronized, (name_of_methodNamed B.named B.method).1, hK, hN, hb⟩ hR va_S.rf hl
theorem fz_T.mono {G : fz_G} {M : fz_M} {R : Room} {as : List fz_V} {V : fz_W} {Q Q' : Option fz_V → fz_W → Prop} (h : fz_T G M R as V Q) (hq : ∀ r V', Q r V' → Q' r V') : fz_T G M R as V Q' := by
  intro E0 p e ha hc hk s m args below hf h1 h2 h3
  obtain ⟨k, o, a1, a2, a3, a4⟩ := h E0 p e ha hc hk s m args below hf h1 h2 h3
  obtain ⟨⟨⟨r, V', b1, b2, b3⟩, b4⟩, b5⟩ := a4
  exact ⟨k, o, a1, a2, a3, ⟨⟨r, V', b1, hq r V' b2, b3⟩, b4⟩, b5⟩
section FZ
variable {G : fz_G} {M : fz_M} {R : Room} {Z : List Frame → Array Value → State → State → Prop} {E0 : Nat → fz_E} {cs sl pc : Nat} {ls : List (Nat × fz_V)} {st : List fz_V} {V : fz_W}
theorem fz_iadd {x y : Int32} (hd : decode M.2.1 pc = .ok (.iadd, 1)) (k : fz_J G M R Z E0 cs sl (pc + 1) ls (zI (x + y) :: st) V) : fz_J G M R Z E0 cs sl pc ls (zI y :: zI x :: st) V := by
  intro p e s m args below meth c H locs la hC hR hS hl
  exact lv_iadd hC.1 hC.2.1 hd  (k p e s m args below meth c H locs la hC hR hS hl)
theorem fz_isub {x y : Int32} (hd : decode M.2.1 pc = .ok (.isub, 1)) (k : fz_J G M R Z E0 cs sl (pc + 1) ls (zI (x - y) :: st) V) : fz_J G M R Z E0 cs sl pc ls (zI y :: zI x :: st) V := by
  intro p e s m args below meth c H locs la hC hR hS hl
  exact lv_isub hC.1 hC.2.1 hd  (k p e s m args below meth c H locs la hC hR hS hl)
theorem fz_imul {x y : Int32} (hd : decode M.2.1 pc = .ok (.imul, 1)) (k : fz_J G M R Z E0 cs sl (pc + 1) ls (zI (x * y) :: st) V) : fz_J G M R Z E0 cs sl pc ls (zI y :: zI x :: st) V := by
  intro p e s m args below meth c H locs la hC hR hS hl
  exact lv_imul hC.1 hC.2.1 hd  (k p e s m args below meth c H locs la hC hR hS hl)
theorem fz_iand {x y : Int32} (hd : decode M.2.1 pc = .ok (.iand, 1)) (k : fz_J G M R Z E0 cs sl (pc + 1) ls (zI (x &&& y) :: st) V) : fz_J G M R Z E0 cs sl pc ls (zI y :: zI x :: st) V := by
  intro p e s m args below meth c H locs la hC hR hS hl
  exact lv_iand hC.1 hC.2.1 hd  (k p e s m args below meth c H locs la hC hR hS hl)
theorem fz_ior {x y : Int32} (hd : decode M.2.1 pc = .ok (.ior, 1)) (k : fz_J G M R Z E0 cs sl (pc + 1) ls (zI (x ||| y) :: st) V) : fz_J G M R Z E0 cs sl pc ls (zI y :: zI x :: st) V := by
  intro p e s m args below meth c H locs la hC hR hS hl
  exact lv_ior hC.1 hC.2.1 hd  (k p e s m args below meth c H locs la hC hR hS hl)
theorem fz_ixor {x y : Int32} (hd : decode M.2.1 pc = .ok (.ixor, 1)) (k : fz_J G M R Z E0 cs sl (pc + 1) ls (zI (x ^^^ y) :: st) V) : fz_J G M R Z E0 cs sl pc ls (zI y :: zI x :: st) V := by
  intro p e s m args below meth c H locs la hC hR hS hl
  exact lv_ixor hC.1 hC.2.1 hd  (k p e s m args below meth c H locs la hC hR hS hl)
theorem fz_ineg {x : Int32} (hd : decode M.2.1 pc = .ok (.ineg, 1)) (k : fz_J G M R Z E0 cs sl (pc + 1) ls (zI (-x) :: st) V) : fz_J G M R Z E0 cs sl pc ls (zI x :: st) V := by
  intro p e s m args below meth c H locs la hC hR hS hl
  exact lv_ineg hC.1 hC.2.1 hd  (k p e s m args below meth c H locs la hC hR hS hl)
theorem fz_ladd {x y : Int64} (hd : decode M.2.1 pc = .ok (.ladd, 1)) (k : fz_J G M R Z E0 cs sl (pc + 1) ls (zL (x + y) :: st) V) : fz_J G M R Z E0 cs sl pc ls (zL y :: zL x :: st) V := by
  intro p e s m args below meth c H locs la hC hR hS hl
  exact lv_ladd hC.1 hC.2.1 hd  (k p e s m args below meth c H locs la hC hR hS hl)
theorem fz_lsub {x y : Int64} (hd : decode M.2.1 pc = .ok (.lsub, 1)) (k : fz_J G M R Z E0 cs sl (pc + 1) ls (zL (x - y) :: st) V) : fz_J G M R Z E0 cs sl pc ls (zL y :: zL x :: st) V := by
  intro p e s m args below meth c H locs la hC hR hS hl
  exact lv_lsub hC.1 hC.2.1 hd  (k p e s m args below meth c H locs la hC hR hS hl)
theorem fz_land {x y : Int64} (hd : decode M.2.1 pc = .ok (.land, 1)) (k : fz_J G M R Z E0 cs sl (pc + 1) ls (zL (x &&& y) :: st) V) : fz_J G M R Z E0 cs sl pc ls (zL y :: zL x :: st) V := by
  intro p e s m args below meth c H locs la hC hR hS hl
  exact lv_land hC.1 hC.2.1 hd  (k p e s m args below meth c H locs la hC hR hS hl)
theorem fz_lor {x y : Int64} (hd : decode M.2.1 pc = .ok (.lor, 1)) (k : fz_J G M R Z E0 cs sl (pc + 1) ls (zL (x ||| y) :: st) V) : fz_J G M R Z E0 cs sl pc ls (zL y :: zL x :: st) V := by
  intro p e s m args below meth c H locs la hC hR hS hl
  exact lv_lor hC.1 hC.2.1 hd  (k p e s m args below meth c H locs la hC hR hS hl)
theorem fz_lxor {x y : Int64} (hd : decode M.2.1 pc = .ok (.lxor, 1)) (k : fz_J G M R Z E0 cs sl (pc + 1) ls (zL (x ^^^ y) :: st) V) : fz_J G M R Z E0 cs sl pc ls (zL y :: zL x :: st) V := by
  intro p e s m args below meth c H locs la hC hR hS hl
  exact lv_lxor hC.1 hC.2.1 hd  (k p e s m args below meth c H locs la hC hR hS hl)
theorem fz_ishl {x y : Int32} (hd : decode M.2.1 pc = .ok (.ishl, 1)) (k : fz_J G M R Z E0 cs sl (pc + 1) ls (zI (x <<< (y &&& 31)) :: st) V) : fz_J G M R Z E0 cs sl pc ls (zI y :: zI x :: st) V := by
  intro p e s m args below meth c H locs la hC hR hS hl
  exact lv_ishl hC.1 hC.2.1 hd  (k p e s m args below meth c H locs la hC hR hS hl)
theorem fz_ishr {x y : Int32} (hd : decode M.2.1 pc = .ok (.ishr, 1)) (k : fz_J G M R Z E0 cs sl (pc + 1) ls (zI (x >>> (y &&& 31)) :: st) V) : fz_J G M R Z E0 cs sl pc ls (zI y :: zI x :: st) V := by
  intro p e s m args below meth c H locs la hC hR hS hl
  exact lv_ishr hC.1 hC.2.1 hd  (k p e s m args below meth c H locs la hC hR hS hl)
theorem fz_iushr {x y : Int32} (hd : decode M.2.1 pc = .ok (.iushr, 1)) (k : fz_J G M R Z E0 cs sl (pc + 1) ls (zI (x.toUInt32 >>> (y.toUInt32 &&& Int32.toUInt32 31)).toInt32 :: st) V) : fz_J G M R Z E0 cs sl pc ls (zI y :: zI x :: st) V := by
  intro p e s m args below meth c H locs la hC hR hS hl
  exact lv_iushr hC.1 hC.2.1 hd rfl (k p e s m args below meth c H locs la hC hR hS hl)
theorem fz_lshl {x : Int64} {y : Int32} (hd : decode M.2.1 pc = .ok (.lshl, 1)) (k : fz_J G M R Z E0 cs sl (pc + 1) ls (zL (x <<< (y.toInt64 &&& 63)) :: st) V) : fz_J G M R Z E0 cs sl pc ls (zI y :: zL x :: st) V := by
  intro p e s m args below meth c H locs la hC hR hS hl
  exact lv_lshl hC.1 hC.2.1 hd rfl (k p e s m args below meth c H locs la hC hR hS hl)
theorem fz_lshr {x : Int64} {y : Int32} (hd : decode M.2.1 pc = .ok (.lshr, 1)) (k : fz_J G M R Z E0 cs sl (pc + 1) ls (zL (x >>> (y.toInt64 &&& 63)) :: st) V) : fz_J G M R Z E0 cs sl pc ls (zI y :: zL x :: st) V := by
  intro p e s m args below meth c H locs la hC hR hS hl
  exact lv_lshr hC.1 hC.2.1 hd rfl (k p e s m args below meth c H locs la hC hR hS hl)
theorem fz_lushr {x : Int64} {y : Int32} (hd : decode M.2.1 pc = .ok (.lushr, 1)) (k : fz_J G M R Z E0 cs sl (pc + 1) ls (zL (x.toUInt64 >>> (y.toInt64.toUInt64 &&& Int64.toUInt64 63)).toInt64 :: st) V) : fz_J G M R Z E0 cs sl pc ls (zI y :: zL x :: st) V := by
  intro p e s m args below meth c H locs la hC hR hS hl
  exact lv_lushr hC.1 hC.2.1 hd rfl (k p e s m args below meth c H locs la hC hR hS hl)
theorem fz_i2l {x : Int32} (hd : decode M.2.1 pc = .ok (.i2l, 1)) (k : fz_J G M R Z E0 cs sl (pc + 1) ls (zL x.toInt64 :: st) V) : fz_J G M R Z E0 cs sl pc ls (zI x :: st) V := by
  intro p e s m args below meth c H locs la hC hR hS hl
  exact lv_i2l hC.1 hC.2.1 hd rfl (k p e s m args below meth c H locs la hC hR hS hl)
theorem fz_l2i {x : Int64} (hd : decode M.2.1 pc = .ok (.l2i, 1)) (k : fz_J G M R Z E0 cs sl (pc + 1) ls (zI x.toInt32 :: st) V) : fz_J G M R Z E0 cs sl pc ls (zL x :: st) V := by
  intro p e s m args below meth c H locs la hC hR hS hl
  exact lv_l2i hC.1 hC.2.1 hd rfl (k p e s m args below meth c H locs la hC hR hS hl)
theorem fz_lcmp {x y : Int64} (hd : decode M.2.1 pc = .ok (.lcmp, 1)) (k : fz_J G M R Z E0 cs sl (pc + 1) ls (zI (lg_cmp x y) :: st) V) : fz_J G M R Z E0 cs sl pc ls (zL y :: zL x :: st) V := by
  intro p e s m args below meth c H locs la hC hR hS hl
  exact W.lcmp hC.1 hC.2.1 hd  (k p e s m args below meth c H locs la hC hR hS hl)
theorem fz_null  (hd : decode M.2.1 pc = .ok (.aconst_null, 1)) (k : fz_J G M R Z E0 cs sl (pc + 1) ls (zN :: st) V) : fz_J G M R Z E0 cs sl pc ls (st) V := by
  intro p e s m args below meth c H locs la hC hR hS hl
  exact lv_null hC.1 hC.2.1 hd  (k p e s m args below meth c H locs la hC hR hS hl)
theorem fz_iconst {n : Int} {v : Int32} (hd : decode M.2.1 pc = .ok (.iconst n, 1)) (hv : Int32.ofInt n = v) (k : fz_J G M R Z E0 cs sl (pc + 1) ls (zI v :: st) V) : fz_J G M R Z E0 cs sl pc ls st V := by
  intro p e s m args below meth c H locs la hC hR hS hl
  exact lv_iconst hC.1 hC.2.1 hd hv (k p e s m args below meth c H locs la hC hR hS hl)
theorem fz_bipush {n : Int} {v : Int32} (hd : decode M.2.1 pc = .ok (.bipush n, 2)) (hv : (Int8.ofInt n).toInt32 = v) (k : fz_J G M R Z E0 cs sl (pc + 2) ls (zI v :: st) V) : fz_J G M R Z E0 cs sl pc ls st V := by
  intro p e s m args below meth c H locs la hC hR hS hl
  exact lv_bipush hC.1 hC.2.1 hd hv (k p e s m args below meth c H locs la hC hR hS hl)
theorem fz_sipush {n : Int} {v : Int32} (hd : decode M.2.1 pc = .ok (.sipush n, 3)) (hv : (Int16.ofInt n).toInt32 = v) (k : fz_J G M R Z E0 cs sl (pc + 3) ls (zI v :: st) V) : fz_J G M R Z E0 cs sl pc ls st V := by
  intro p e s m args below meth c H locs la hC hR hS hl
  exact lv_sipush hC.1 hC.2.1 hd hv (k p e s m args below meth c H locs la hC hR hS hl)
theorem fz_lconst {n : Fin 2} {v : Int64} (hd : decode M.2.1 pc = .ok (.lconst n, 1)) (hv : Int64.ofNat (n : Nat) = v) (k : fz_J G M R Z E0 cs sl (pc + 1) ls (zL v :: st) V) : fz_J G M R Z E0 cs sl pc ls st V := by
  intro p e s m args below meth c H locs la hC hR hS hl
  exact lv_lconst hC.1 hC.2.1 hd hv (k p e s m args below meth c H locs la hC hR hS hl)
theorem fz_ldc {idx : Nat} {v : Int32} (hd : decode M.2.1 pc = .ok (.ldc idx, 2)) (hw : Cond.constant M.1.cls idx v ∈ fz_tb) (k : fz_J G M R Z E0 cs sl (pc + 2) ls (zI v :: st) V) : fz_J G M R Z E0 cs sl pc ls st V := by
  intro p e s m args below meth c H locs la hC hR hS hl
  exact lv_ldc hC.1 hC.2.1 hC.2.2.2.2.1 (hC.2.2.2.2.2.1 _ hw) hd (k p e s m args below meth c H locs la hC hR hS hl)
theorem fz_ldc2 {idx : Nat} {v : Int64} (hd : decode M.2.1 pc = .ok (.ldc2_w idx, 3)) (hw : Cond.constantLong M.1.cls idx v ∈ fz_tb) (k : fz_J G M R Z E0 cs sl (pc + 3) ls (zL v :: st) V) : fz_J G M R Z E0 cs sl pc ls st V := by
  intro p e s m args below meth c H locs la hC hR hS hl
  exact lv_ldc2 hC.1 hC.2.1 hC.2.2.2.2.1 (hC.2.2.2.2.2.1 _ hw) hd (k p e s m args below meth c H locs la hC hR hS hl)
def fz_lo : List (Nat × fz_V) → Nat → Option fz_V
  | [], _ => none
  | q :: l, i => if i = q.1 then some q.2 else fz_lo l i
theorem fz_lo_at {la : Array Slot} {nL i : Nat} {v : fz_V} : ∀ {l : List (Nat × fz_V)}, lv_has la nL (l.map fun q => (q.1, fz_v G q.2)) → fz_lo l i = some v → la[i]? = some (.val (fz_v G v))
  | [], _, h => by cases h
  | q :: l, hl, h => by
    unfold fz_lo at h
    by_cases hi : i = q.1
    · rw [if_pos hi] at h
      cases h
      rw [hi]
      exact hl.2.2 (q.1, fz_v G q.2) (by simp)
    · rw [if_neg hi] at h
      exact fz_lo_at (l := l) ⟨hl.1, hl.2.1, fun z hz => hl.2.2 z (by simp at hz ⊢; exact Or.inr hz)⟩ h
def fz_s1 (l : List (Nat × fz_V)) (i : Nat) (v : fz_V) : List (Nat × fz_V) := (i, v) :: l.filter (fun q => !(q.1 == i) && !(q.1 + 1 == i && fz_cat q.2 == 2))
def fz_s2 (l : List (Nat × fz_V)) (i : Nat) (v : fz_V) : List (Nat × fz_V) := (i, v) :: l.filter (fun q => !(q.1 == i) && (!(q.1 == i + 1) && !(q.1 + 1 == i && fz_cat q.2 == 2)))
theorem fz_s1_map (l : List (Nat × fz_V)) (i : Nat) (v : fz_V) : (i, fz_v G v) :: (l.map fun q => (q.1, fz_v G q.2)).filter (fun q => !(q.1 == i) && !(q.1 + 1 == i && q.2.category == 2)) = (fz_s1 l i v).map fun q => (q.1, fz_v G q.2) := by
  unfold fz_s1
  rw [List.map_cons, List.filter_map]
  congr 2
  apply List.filter_congr
  intro q _
  simp only [Function.comp, fz_cat_eq]
theorem fz_s2_map (l : List (Nat × fz_V)) (i : Nat) (v : fz_V) : (i, fz_v G v) :: (l.map fun q => (q.1, fz_v G q.2)).filter (fun q => !(q.1 == i) && (!(q.1 == i + 1) && !(q.1 + 1 == i && q.2.category == 2))) = (fz_s2 l i v).map fun q => (q.1, fz_v G q.2) := by
  unfold fz_s2
  rw [List.map_cons, List.filter_map]
  congr 2
  apply List.filter_congr
  intro q _
  simp only [Function.comp, fz_cat_eq]
theorem fz_iload_n {k4 : Fin 4} {x : Int32} (hd : decode M.2.1 pc = .ok (.iload_n k4, 1)) (hv : fz_lo ls k4 = some (zI x)) (k : fz_J G M R Z E0 cs sl (pc + 1) ls (zI x :: st) V) : fz_J G M R Z E0 cs sl pc ls st V := by
  intro p e s m args below meth c H locs la hC hR hS hl
  exact lv_iload_n hC.1 hC.2.1 hd rfl (fz_lo_at hl hv) (k p e s m args below meth c H locs la hC hR hS hl)
theorem fz_iload {i : Nat} {x : Int32} (hd : decode M.2.1 pc = .ok (.iload i, 2)) (hv : fz_lo ls i = some (zI x)) (k : fz_J G M R Z E0 cs sl (pc + 2) ls (zI x :: st) V) : fz_J G M R Z E0 cs sl pc ls st V := by
  intro p e s m args below meth c H locs la hC hR hS hl
  exact lv_iload hC.1 hC.2.1 hd (fz_lo_at hl hv) (k p e s m args below meth c H locs la hC hR hS hl)
theorem fz_istore_n {k4 : Fin 4} {x : Int32} (hd : decode M.2.1 pc = .ok (.istore_n k4, 1)) (hb : (k4 : Nat) < M.2.2.1) (k : fz_J G M R Z E0 cs sl (pc + 1) (fz_s1 ls k4 (zI x)) st V) : fz_J G M R Z E0 cs sl pc ls (zI x :: st) V := by
  intro p e s m args below meth c H locs la hC hR hS hl
  exact lv_istore_n hC.1 hC.2.1 hd rfl hl hb (fz_s1_map ls _ (zI x)) (fun la hl => (k p e s m args below meth c H locs la hC hR hS hl))
theorem fz_istore {i : Nat} {x : Int32} (hd : decode M.2.1 pc = .ok (.istore i, 2)) (hb : i < M.2.2.1) (k : fz_J G M R Z E0 cs sl (pc + 2) (fz_s1 ls i (zI x)) st V) : fz_J G M R Z E0 cs sl pc ls (zI x :: st) V := by
  intro p e s m args below meth c H locs la hC hR hS hl
  exact lv_istore hC.1 hC.2.1 hd hl hb (fz_s1_map ls _ (zI x)) (fun la hl => (k p e s m args below meth c H locs la hC hR hS hl))
theorem fz_lload_n {k4 : Fin 4} {x : Int64} (hd : decode M.2.1 pc = .ok (.lload_n k4, 1)) (hv : fz_lo ls k4 = some (zL x)) (k : fz_J G M R Z E0 cs sl (pc + 1) ls (zL x :: st) V) : fz_J G M R Z E0 cs sl pc ls st V := by
  intro p e s m args below meth c H locs la hC hR hS hl
  exact lv_lload_n hC.1 hC.2.1 hd rfl (fz_lo_at hl hv) (k p e s m args below meth c H locs la hC hR hS hl)
theorem fz_lload {i : Nat} {x : Int64} (hd : decode M.2.1 pc = .ok (.lload i, 2)) (hv : fz_lo ls i = some (zL x)) (k : fz_J G M R Z E0 cs sl (pc + 2) ls (zL x :: st) V) : fz_J G M R Z E0 cs sl pc ls st V := by
  intro p e s m args below meth c H locs la hC hR hS hl
  exact lv_lload hC.1 hC.2.1 hd (fz_lo_at hl hv) (k p e s m args below meth c H locs la hC hR hS hl)
theorem fz_lstore_n {k4 : Fin 4} {x : Int64} (hd : decode M.2.1 pc = .ok (.lstore_n k4, 1)) (hb : (k4 : Nat) + 1 < M.2.2.1) (k : fz_J G M R Z E0 cs sl (pc + 1) (fz_s2 ls k4 (zL x)) st V) : fz_J G M R Z E0 cs sl pc ls (zL x :: st) V := by
  intro p e s m args below meth c H locs la hC hR hS hl
  exact lv_lstore_n hC.1 hC.2.1 hd rfl hl hb (fz_s2_map ls _ (zL x)) (fun la hl => (k p e s m args below meth c H locs la hC hR hS hl))
theorem fz_lstore {i : Nat} {x : Int64} (hd : decode M.2.1 pc = .ok (.lstore i, 2)) (hb : i + 1 < M.2.2.1) (k : fz_J G M R Z E0 cs sl (pc + 2) (fz_s2 ls i (zL x)) st V) : fz_J G M R Z E0 cs sl pc ls (zL x :: st) V := by
  intro p e s m args below meth c H locs la hC hR hS hl
  exact lv_lstore hC.1 hC.2.1 hd hl hb (fz_s2_map ls _ (zL x)) (fun la hl => (k p e s m args below meth c H locs la hC hR hS hl))
theorem fz_aload_n {k4 : Fin 4} {k0 i0 : Nat} (hd : decode M.2.1 pc = .ok (.aload_n k4, 1)) (hv : fz_lo ls k4 = some (zR k0 i0)) (k : fz_J G M R Z E0 cs sl (pc + 1) ls (zR k0 i0 :: st) V) : fz_J G M R Z E0 cs sl pc ls st V := by
  intro p e s m args below meth c H locs la hC hR hS hl
  exact lv_aload_n hC.1 hC.2.1 hd rfl (fz_lo_at hl hv) (k p e s m args below meth c H locs la hC hR hS hl)
theorem fz_aload {i k0 i0 : Nat} (hd : decode M.2.1 pc = .ok (.aload i, 2)) (hv : fz_lo ls i = some (zR k0 i0)) (k : fz_J G M R Z E0 cs sl (pc + 2) ls (zR k0 i0 :: st) V) : fz_J G M R Z E0 cs sl pc ls st V := by
  intro p e s m args below meth c H locs la hC hR hS hl
  exact lv_aload hC.1 hC.2.1 hd (fz_lo_at hl hv) (k p e s m args below meth c H locs la hC hR hS hl)
theorem fz_astore_n {k4 : Fin 4} {k0 i0 : Nat} (hd : decode M.2.1 pc = .ok (.astore_n k4, 1)) (hb : (k4 : Nat) < M.2.2.1) (k : fz_J G M R Z E0 cs sl (pc + 1) (fz_s1 ls k4 (zR k0 i0)) st V) : fz_J G M R Z E0 cs sl pc ls (zR k0 i0 :: st) V := by
  intro p e s m args below meth c H locs la hC hR hS hl
  exact lv_astore_n hC.1 hC.2.1 hd rfl hl hb (fz_s1_map ls _ (zR k0 i0)) (fun la hl => (k p e s m args below meth c H locs la hC hR hS hl))
theorem fz_astore {i k0 i0 : Nat} (hd : decode M.2.1 pc = .ok (.astore i, 2)) (hb : i < M.2.2.1) (k : fz_J G M R Z E0 cs sl (pc + 2) (fz_s1 ls i (zR k0 i0)) st V) : fz_J G M R Z E0 cs sl pc ls (zR k0 i0 :: st) V := by
  intro p e s m args below meth c H locs la hC hR hS hl
  exact lv_astore hC.1 hC.2.1 hd hl hb (fz_s1_map ls _ (zR k0 i0)) (fun la hl => (k p e s m args below meth c H locs la hC hR hS hl))
theorem fz_iinc {i : Nat} {n : Int} {x : Int32} (hd : decode M.2.1 pc = .ok (.iinc i n, 3)) (hv : fz_lo ls i = some (zI x)) (hb : i < M.2.2.1) (k : fz_J G M R Z E0 cs sl (pc + 3) (fz_s1 ls i (zI (x + Int32.ofInt n))) st V) : fz_J G M R Z E0 cs sl pc ls st V := by
  intro p e s m args below meth c H locs la hC hR hS hl
  obtain ⟨z, hz⟩ : ∃ z : Nat, (ls.map fun q => (q.1, fz_v G q.2))[z]? = some (i, .int x) := by
    have key : ∀ l : List (Nat × fz_V), fz_lo l i = some (zI x) → (i, Value.int x) ∈ (l.map fun q => (q.1, fz_v G q.2)) := by
      intro l
      induction l with
      | nil => intro h; cases h
      | cons q l ih =>
        intro h
        unfold fz_lo at h
        by_cases hi : i = q.1
        · rw [if_pos hi] at h
          have h2 := Option.some.inj h
          rw [List.map_cons, h2, hi]
          exact List.mem_cons_self
        · rw [if_neg hi] at h
          exact List.mem_cons_of_mem _ (ih h)
    exact List.getElem?_of_mem (key ls hv)
  exact lv_iinc hC.1 hC.2.1 hd hl (k := z) hz rfl hb (fz_s1_map ls _ (zI (x + Int32.ofInt n))) (fun la hl => (k p e s m args below meth c H locs la hC hR hS hl))
theorem fz_dup {a : fz_V} (hd : decode M.2.1 pc = .ok (.dup, 1)) (ha : fz_cat a = 1) (k : fz_J G M R Z E0 cs sl (pc + 1) ls (a :: a :: st) V) : fz_J G M R Z E0 cs sl pc ls (a :: st) V := by
  intro p e s m args below meth c H locs la hC hR hS hl
  exact lv_dup hC.1 hC.2.1 hd ((fz_cat_eq G a).trans ha) (k p e s m args below meth c H locs la hC hR hS hl)
theorem fz_pop {a : fz_V} (hd : decode M.2.1 pc = .ok (.pop, 1)) (ha : fz_cat a = 1) (k : fz_J G M R Z E0 cs sl (pc + 1) ls (st) V) : fz_J G M R Z E0 cs sl pc ls (a :: st) V := by
  intro p e s m args below meth c H locs la hC hR hS hl
  exact lv_pop hC.1 hC.2.1 hd ((fz_cat_eq G a).trans ha) (k p e s m args below meth c H locs la hC hR hS hl)
theorem fz_dup_x1 {a b : fz_V} (hd : decode M.2.1 pc = .ok (.dup_x1, 1)) (ha : fz_cat a = 1) (hb : fz_cat b = 1) (k : fz_J G M R Z E0 cs sl (pc + 1) ls (a :: b :: a :: st) V) : fz_J G M R Z E0 cs sl pc ls (a :: b :: st) V := by
  intro p e s m args below meth c H locs la hC hR hS hl
  exact lv_dup_x1 hC.1 hC.2.1 hd ((fz_cat_eq G a).trans ha) ((fz_cat_eq G b).trans hb) (k p e s m args below meth c H locs la hC hR hS hl)
theorem fz_dup_x2 {a b w : fz_V} (hd : decode M.2.1 pc = .ok (.dup_x2, 1)) (ha : fz_cat a = 1) (hb : fz_cat b = 1) (hw : fz_cat w = 1) (k : fz_J G M R Z E0 cs sl (pc + 1) ls (a :: b :: w :: a :: st) V) : fz_J G M R Z E0 cs sl pc ls (a :: b :: w :: st) V := by
  intro p e s m args below meth c H locs la hC hR hS hl
  exact lv_dup_x2 hC.1 hC.2.1 hd ((fz_cat_eq G a).trans ha) ((fz_cat_eq G b).trans hb) ((fz_cat_eq G w).trans hw) (k p e s m args below meth c H locs la hC hR hS hl)
theorem fz_dup2_11 {a b : fz_V} (hd : decode M.2.1 pc = .ok (.dup2, 1)) (ha : fz_cat a = 1) (hb : fz_cat b = 1) (k : fz_J G M R Z E0 cs sl (pc + 1) ls (a :: b :: a :: b :: st) V) : fz_J G M R Z E0 cs sl pc ls (a :: b :: st) V := by
  intro p e s m args below meth c H locs la hC hR hS hl
  exact lv_dup2_11 hC.1 hC.2.1 hd ((fz_cat_eq G a).trans ha) ((fz_cat_eq G b).trans hb) (k p e s m args below meth c H locs la hC hR hS hl)
theorem fz_dup2_2 {a : fz_V} (hd : decode M.2.1 pc = .ok (.dup2, 1)) (ha : fz_cat a = 2) (k : fz_J G M R Z E0 cs sl (pc + 1) ls (a :: a :: st) V) : fz_J G M R Z E0 cs sl pc ls (a :: st) V := by
  intro p e s m args below meth c H locs la hC hR hS hl
  exact lv_dup2_2 hC.1 hC.2.1 hd ((fz_cat_eq G a).trans ha) (k p e s m args below meth c H locs la hC hR hS hl)
theorem fz_dup2_x2_2 {a b w : fz_V} (hd : decode M.2.1 pc = .ok (.dup2_x2, 1)) (ha : fz_cat a = 2) (hb : fz_cat b = 1) (hw : fz_cat w = 1) (k : fz_J G M R Z E0 cs sl (pc + 1) ls (a :: b :: w :: a :: st) V) : fz_J G M R Z E0 cs sl pc ls (a :: b :: w :: st) V := by
  intro p e s m args below meth c H locs la hC hR hS hl
  exact lv_dup2_x2_2 hC.1 hC.2.1 hd ((fz_cat_eq G a).trans ha) ((fz_cat_eq G b).trans hb) ((fz_cat_eq G w).trans hw) (k p e s m args below meth c H locs la hC hR hS hl)
theorem fz_dup2_x1_2 {a b : fz_V} (hd : decode M.2.1 pc = .ok (.dup2_x1, 1)) (ha : fz_cat a = 2) (hb : fz_cat b = 1) (k : fz_J G M R Z E0 cs sl (pc + 1) ls (a :: b :: a :: st) V) : fz_J G M R Z E0 cs sl pc ls (a :: b :: st) V := by
  intro p e s m args below meth c H locs la hC hR hS hl
  exact lv_dup2_x1_2 hC.1 hC.2.1 hd ((fz_cat_eq G a).trans ha) ((fz_cat_eq G b).trans hb) (k p e s m args below meth c H locs la hC hR hS hl)
theorem fz_if_eq {x : Int32} {off : Int} {tgt : Nat} (hd : decode M.2.1 pc = .ok (.ifCond .eq off, 3)) (ht : (pc : Int) + off = (tgt : Int)) (k1 : x = 0 → fz_J G M R Z E0 cs sl tgt ls st V) (k2 : ¬ x = 0 → fz_J G M R Z E0 cs sl (pc + 3) ls st V) : fz_J G M R Z E0 cs sl pc ls (zI x :: st) V := by
  intro p e s m args below meth c H locs la hC hR hS hl
  exact lv_if_eq hC.1 hC.2.1 hd ht (fun z => k1 z p e s m args below meth c H locs la hC hR hS hl) (fun z => k2 z p e s m args below meth c H locs la hC hR hS hl)
theorem fz_icmp_eq {x y : Int32} {off : Int} {tgt : Nat} (hd : decode M.2.1 pc = .ok (.if_icmp .eq off, 3)) (ht : (pc : Int) + off = (tgt : Int)) (k1 : x = y → fz_J G M R Z E0 cs sl tgt ls st V) (k2 : ¬ x = y → fz_J G M R Z E0 cs sl (pc + 3) ls st V) : fz_J G M R Z E0 cs sl pc ls (zI y :: zI x :: st) V := by
  intro p e s m args below meth c H locs la hC hR hS hl
  exact lv_icmp_eq hC.1 hC.2.1 hd ht (fun z => k1 z p e s m args below meth c H locs la hC hR hS hl) (fun z => k2 z p e s m args below meth c H locs la hC hR hS hl)
theorem fz_if_ne {x : Int32} {off : Int} {tgt : Nat} (hd : decode M.2.1 pc = .ok (.ifCond .ne off, 3)) (ht : (pc : Int) + off = (tgt : Int)) (k1 : ¬ x = 0 → fz_J G M R Z E0 cs sl tgt ls st V) (k2 : x = 0 → fz_J G M R Z E0 cs sl (pc + 3) ls st V) : fz_J G M R Z E0 cs sl pc ls (zI x :: st) V := by
  intro p e s m args below meth c H locs la hC hR hS hl
  exact lv_if_ne hC.1 hC.2.1 hd ht (fun z => k1 z p e s m args below meth c H locs la hC hR hS hl) (fun z => k2 z p e s m args below meth c H locs la hC hR hS hl)
theorem fz_icmp_ne {x y : Int32} {off : Int} {tgt : Nat} (hd : decode M.2.1 pc = .ok (.if_icmp .ne off, 3)) (ht : (pc : Int) + off = (tgt : Int)) (k1 : ¬ x = y → fz_J G M R Z E0 cs sl tgt ls st V) (k2 : x = y → fz_J G M R Z E0 cs sl (pc + 3) ls st V) : fz_J G M R Z E0 cs sl pc ls (zI y :: zI x :: st) V := by
  intro p e s m args below meth c H locs la hC hR hS hl
  exact lv_icmp_ne hC.1 hC.2.1 hd ht (fun z => k1 z p e s m args below meth c H locs la hC hR hS hl) (fun z => k2 z p e s m args below meth c H locs la hC hR hS hl)
theorem fz_if_lt {x : Int32} {off : Int} {tgt : Nat} (hd : decode M.2.1 pc = .ok (.ifCond .lt off, 3)) (ht : (pc : Int) + off = (tgt : Int)) (k1 : x < 0 → fz_J G M R Z E0 cs sl tgt ls st V) (k2 : ¬ x < 0 → fz_J G M R Z E0 cs sl (pc + 3) ls st V) : fz_J G M R Z E0 cs sl pc ls (zI x :: st) V := by
  intro p e s m args below meth c H locs la hC hR hS hl
  exact lv_if_lt hC.1 hC.2.1 hd ht (fun z => k1 z p e s m args below meth c H locs la hC hR hS hl) (fun z => k2 z p e s m args below meth c H locs la hC hR hS hl)
theorem fz_icmp_lt {x y : Int32} {off : Int} {tgt : Nat} (hd : decode M.2.1 pc = .ok (.if_icmp .lt off, 3)) (ht : (pc : Int) + off = (tgt : Int)) (k1 : x < y → fz_J G M R Z E0 cs sl tgt ls st V) (k2 : ¬ x < y → fz_J G M R Z E0 cs sl (pc + 3) ls st V) : fz_J G M R Z E0 cs sl pc ls (zI y :: zI x :: st) V := by
  intro p e s m args below meth c H locs la hC hR hS hl
  exact lv_icmp_lt hC.1 hC.2.1 hd ht (fun z => k1 z p e s m args below meth c H locs la hC hR hS hl) (fun z => k2 z p e s m args below meth c H locs la hC hR hS hl)
theorem fz_if_ge {x : Int32} {off : Int} {tgt : Nat} (hd : decode M.2.1 pc = .ok (.ifCond .ge off, 3)) (ht : (pc : Int) + off = (tgt : Int)) (k1 : 0 ≤ x → fz_J G M R Z E0 cs sl tgt ls st V) (k2 : ¬ 0 ≤ x → fz_J G M R Z E0 cs sl (pc + 3) ls st V) : fz_J G M R Z E0 cs sl pc ls (zI x :: st) V := by
  intro p e s m args below meth c H locs la hC hR hS hl
  exact lv_if_ge hC.1 hC.2.1 hd ht (fun z => k1 z p e s m args below meth c H locs la hC hR hS hl) (fun z => k2 z p e s m args below meth c H locs la hC hR hS hl)
theorem fz_icmp_ge {x y : Int32} {off : Int} {tgt : Nat} (hd : decode M.2.1 pc = .ok (.if_icmp .ge off, 3)) (ht : (pc : Int) + off = (tgt : Int)) (k1 : y ≤ x → fz_J G M R Z E0 cs sl tgt ls st V) (k2 : ¬ y ≤ x → fz_J G M R Z E0 cs sl (pc + 3) ls st V) : fz_J G M R Z E0 cs sl pc ls (zI y :: zI x :: st) V := by
  intro p e s m args below meth c H locs la hC hR hS hl
  exact lv_icmp_ge hC.1 hC.2.1 hd ht (fun z => k1 z p e s m args below meth c H locs la hC hR hS hl) (fun z => k2 z p e s m args below meth c H locs la hC hR hS hl)
theorem fz_if_gt {x : Int32} {off : Int} {tgt : Nat} (hd : decode M.2.1 pc = .ok (.ifCond .gt off, 3)) (ht : (pc : Int) + off = (tgt : Int)) (k1 : 0 < x → fz_J G M R Z E0 cs sl tgt ls st V) (k2 : ¬ 0 < x → fz_J G M R Z E0 cs sl (pc + 3) ls st V) : fz_J G M R Z E0 cs sl pc ls (zI x :: st) V := by
  intro p e s m args below meth c H locs la hC hR hS hl
  exact lv_if_gt hC.1 hC.2.1 hd ht (fun z => k1 z p e s m args below meth c H locs la hC hR hS hl) (fun z => k2 z p e s m args below meth c H locs la hC hR hS hl)
theorem fz_icmp_gt {x y : Int32} {off : Int} {tgt : Nat} (hd : decode M.2.1 pc = .ok (.if_icmp .gt off, 3)) (ht : (pc : Int) + off = (tgt : Int)) (k1 : y < x → fz_J G M R Z E0 cs sl tgt ls st V) (k2 : ¬ y < x → fz_J G M R Z E0 cs sl (pc + 3) ls st V) : fz_J G M R Z E0 cs sl pc ls (zI y :: zI x :: st) V := by
  intro p e s m args below meth c H locs la hC hR hS hl
  exact lv_icmp_gt hC.1 hC.2.1 hd ht (fun z => k1 z p e s m args below meth c H locs la hC hR hS hl) (fun z => k2 z p e s m args below meth c H locs la hC hR hS hl)
theorem fz_if_le {x : Int32} {off : Int} {tgt : Nat} (hd : decode M.2.1 pc = .ok (.ifCond .le off, 3)) (ht : (pc : Int) + off = (tgt : Int)) (k1 : x ≤ 0 → fz_J G M R Z E0 cs sl tgt ls st V) (k2 : ¬ x ≤ 0 → fz_J G M R Z E0 cs sl (pc + 3) ls st V) : fz_J G M R Z E0 cs sl pc ls (zI x :: st) V := by
  intro p e s m args below meth c H locs la hC hR hS hl
  exact lv_if_le hC.1 hC.2.1 hd ht (fun z => k1 z p e s m args below meth c H locs la hC hR hS hl) (fun z => k2 z p e s m args below meth c H locs la hC hR hS hl)
theorem fz_icmp_le {x y : Int32} {off : Int} {tgt : Nat} (hd : decode M.2.1 pc = .ok (.if_icmp .le off, 3)) (ht : (pc : Int) + off = (tgt : Int)) (k1 : x ≤ y → fz_J G M R Z E0 cs sl tgt ls st V) (k2 : ¬ x ≤ y → fz_J G M R Z E0 cs sl (pc + 3) ls st V) : fz_J G M R Z E0 cs sl pc ls (zI y :: zI x :: st) V := by
  intro p e s m args below meth c H locs la hC hR hS hl
  exact lv_icmp_le hC.1 hC.2.1 hd ht (fun z => k1 z p e s m args below meth c H locs la hC hR hS hl) (fun z => k2 z p e s m args below meth c H locs la hC hR hS hl)
theorem fz_goto {off : Int} {tgt : Nat} (hd : decode M.2.1 pc = .ok (.goto off, 3)) (ht : (pc : Int) + off = (tgt : Int)) (k : fz_J G M R Z E0 cs sl tgt ls st V) : fz_J G M R Z E0 cs sl pc ls st V := by
  intro p e s m args below meth c H locs la hC hR hS hl
  exact lv_goto hC.1 hC.2.1 hd ht (k p e s m args below meth c H locs la hC hR hS hl)
theorem fz_idiv {x y : Int32} (hd : decode M.2.1 pc = .ok (.idiv, 1)) (hne : ¬ y = 0) (k : fz_J G M R Z E0 cs sl (pc + 1) ls (zI (x / y) :: st) V) : fz_J G M R Z E0 cs sl pc ls (zI y :: zI x :: st) V := by
  intro p e s m args below meth c H locs la hC hR hS hl
  exact lv_idiv hC.1 hC.2.1 hd hne (k p e s m args below meth c H locs la hC hR hS hl)
theorem fz_irem {x y : Int32} (hd : decode M.2.1 pc = .ok (.irem, 1)) (hne : ¬ y = 0) (k : fz_J G M R Z E0 cs sl (pc + 1) ls (zI (x - x / y * y) :: st) V) : fz_J G M R Z E0 cs sl pc ls (zI y :: zI x :: st) V := by
  intro p e s m args below meth c H locs la hC hR hS hl
  exact lv_irem hC.1 hC.2.1 hd hne (k p e s m args below meth c H locs la hC hR hS hl)
theorem fz_lookup {dflt : Int} {ps : Array (Int × Int)} {len : Nat} {x : Int32} {off : Int} {tgt : Nat} (hd : decode M.2.1 pc = .ok (.lookupswitch dflt ps, len)) (hp : (ps.toList.zip (ps.toList.drop 1)).all (fun (a, next) => a.1 < next.1) = true) (ho : Op.lookupswitch.offset ps.toList dflt x.toInt = off) (ht : (pc : Int) + off = (tgt : Int)) (k : fz_J G M R Z E0 cs sl tgt ls st V) : fz_J G M R Z E0 cs sl pc ls (zI x :: st) V := by
  intro p e s m args below meth c H locs la hC hR hS hl
  exact lv_lookup hC.1 hC.2.1 hd hp ho ht (k p e s m args below meth c H locs la hC hR hS hl)
theorem fz_tableOut {dflt lo hi : Int} {offs : Array Int} {len : Nat} {x : Int32} {tgt : Nat} (hd : decode M.2.1 pc = .ok (.tableswitch dflt lo hi offs, len)) (h : x.toInt < lo ∨ hi < x.toInt) (ht : (pc : Int) + dflt = (tgt : Int)) (k : fz_J G M R Z E0 cs sl tgt ls st V) : fz_J G M R Z E0 cs sl pc ls (zI x :: st) V := by
  intro p e s m args below meth c H locs la hC hR hS hl
  exact lv_tableOut hC.1 hC.2.1 hd h ht (k p e s m args below meth c H locs la hC hR hS hl)
theorem fz_tableIn {dflt lo hi : Int} {offs : Array Int} {len : Nat} {x : Int32} {off : Int} {tgt : Nat} (hd : decode M.2.1 pc = .ok (.tableswitch dflt lo hi offs, len)) (h1 : ¬ x.toInt < lo) (h2 : ¬ hi < x.toInt) (ho : offs[(x.toInt - lo).toNat]? = some off) (ht : (pc : Int) + off = (tgt : Int)) (k : fz_J G M R Z E0 cs sl tgt ls st V) : fz_J G M R Z E0 cs sl pc ls (zI x :: st) V := by
  intro p e s m args below meth c H locs la hC hR hS hl
  exact lv_tableIn hC.1 hC.2.1 hd h1 h2 ho ht (k p e s m args below meth c H locs la hC hR hS hl)
theorem fz_name {x : Int32} (k : ∀ y : Int32, y = x → fz_J G M R Z E0 cs sl pc ls (zI y :: st) V) : fz_J G M R Z E0 cs sl pc ls (zI x :: st) V := k x rfl
theorem fz_nameL {x : Int64} (k : ∀ y : Int64, y = x → fz_J G M R Z E0 cs sl pc ls (zL y :: st) V) : fz_J G M R Z E0 cs sl pc ls (zL x :: st) V := k x rfl
theorem fz_top {x y : Int32} (h : x = y) (k : fz_J G M R Z E0 cs sl pc ls (zI y :: st) V) : fz_J G M R Z E0 cs sl pc ls (zI x :: st) V := h ▸ k
theorem fz_topL {x y : Int64} (h : x = y) (k : fz_J G M R Z E0 cs sl pc ls (zL y :: st) V) : fz_J G M R Z E0 cs sl pc ls (zL x :: st) V := h ▸ k
theorem fz_ls {ls' : List (Nat × fz_V)} (h : ls = ls') (k : fz_J G M R Z E0 cs sl pc ls' st V) : fz_J G M R Z E0 cs sl pc ls st V := h ▸ k
theorem fz_wo {V' : fz_W} (h : V = V') (k : fz_J G M R Z E0 cs sl pc ls st V') : fz_J G M R Z E0 cs sl pc ls st V := h ▸ k
/-- fewer locals -/
theorem fz_keep {ls' : List (Nat × fz_V)} (h : ∀ q ∈ ls', q ∈ ls) (k : fz_J G M R Z E0 cs sl pc ls' st V) : fz_J G M R Z E0 cs sl pc ls st V := by
  intro p e s m args below meth c H locs la hC hR hS hl
  refine k p e s m args below meth c H locs la hC hR hS ⟨hl.1, hl.2.1, fun z hz => ?_⟩
  obtain ⟨q, hq, rfl⟩ := List.mem_map.mp hz
  exact hl.2.2 _ (List.mem_map.mpr ⟨q, h q hq, rfl⟩)
/-- field j of class number ci, as the method's class spells it at idx -/
def fz_F (own : String) (idx ci j : Nat) (ty : FieldType) (fin : Bool) : Prop := ∃ (C : String) (T : u_T) (N : Nat) (t0 : Nat → FieldType), classes[ci]? = some (C, T, N) ∧ (∀ w ∈ u_ws C T N, w ∈ fz_tb) ∧ j < N ∧ Cond.fieldLink own idx C (T j).2.1 (T j).2.2.1 ∈ fz_tb ∧ (T j).1 = C ∧ (T j).2.2.2 = fin ∧ parseFieldDescriptor (T j).2.2.1 = some ty ∧ (∀ k, k < N → parseFieldDescriptor (T k).2.2.1 = some (t0 k)) ∧ (∀ a, a < N → ∀ b, b < N → a ≠ b → (T a).2.1 ≠ (T b).2.1)
def fz_ok (G : fz_G) (ty : FieldType) (v : fz_V) : Prop := narrow ty (fz_v G v) = fz_v G v ∧ fits ty (fz_v G v) = true
theorem fz_at {V : fz_W} {E0 : Nat → fz_E} {H : Heap} {k0 i0 : Nat} {x : fz_E} (hR : fz_R G (fz_d V E0) H) (hV : fz_lk V k0 = some x) (hi : i0 < fz_n x) : ∃ (L : List Nat) (f : Nat → va_E) (q0 : Nat), va_P G.2.1 classes (va_pl L f) H ∧ va_D (fz_A G) (va_pl L f) ∧ (∀ k i, i < fz_n (fz_d V E0 k) → G.2.2.2.2 k i ∈ L ∧ f (G.2.2.2.2 k i) = fz_c G (fz_d V E0 k) i) ∧ (∀ k i k' i', i < fz_n (fz_d V E0 k) → i' < fz_n (fz_d V E0 k') → G.2.2.2.2 k i = G.2.2.2.2 k' i' → k = k' ∧ i = i') ∧
    (va_pl L f)[q0]? = some (G.2.2.2.2 k0 i0, fz_c G x i0) ∧ ∀ e : va_E, (va_pl L f).set q0 (G.2.2.2.2 k0 i0, e) = va_pl L (va_up f (G.2.2.2.2 k0 i0) e) := by
  obtain ⟨L, f, hP, hD, hE, hJ⟩ := hR
  have hk : fz_d V E0 k0 = x := fz_d_lk hV
  obtain ⟨g1, g2⟩ := hE k0 i0 (by rw [hk]; exact hi)
  obtain ⟨q0, hq0⟩ := va_pl_get (X := []) (f := f) g1
  have hs := fun e : va_E => va_pl_set (X := []) (e := e) (A := fz_A G) hD g1 hq0
  rw [g2, hk] at hq0
  exact ⟨L, f, q0, hP, hD, hE, hJ, hq0, hs⟩
theorem fz_get {idx ci j n k0 i0 : Nat} {ty : FieldType} {fin : Bool} {F : Nat → List fz_V} {v : fz_V} (hd : decode M.2.1 pc = .ok (.getfield idx, 3)) (hF : fz_F M.1.cls idx ci j ty fin) (hV : fz_lk V k0 = some (zo ci n F)) (hi : i0 < n) (hv : (F i0)[j]? = some v) (k : fz_J G M R Z E0 cs sl (pc + 3) ls (v :: st) V) : fz_J G M R Z E0 cs sl pc ls (zR k0 i0 :: st) V := by
  intro p e s m args below meth c H locs la hC hR hS hl
  obtain ⟨C, T, N, t0, h1, h2, h3, h4, h5, h6, h7, h8, h9⟩ := hF
  obtain ⟨L, f, q0, hP, hD, hE, hJ, hq0, hs⟩ := fz_at hR hV (show i0 < fz_n (zo ci n F) from hi)
  exact va_get (D := G.2.1) (ws := va_pl L f) hC.1 hC.2.1 hC.2.2.2.2.2.1 h2 hC.2.2.2.2.1 hC.2.2.2.2.2.2.2.2.1 hP q0 hq0 h1 j h3 (hC.2.2.2.2.2.1 _ h4) (fun x hx => by rw [h5] at hx; exact hx) (v := fz_v G v) (by rw [List.getElem?_map, hv]; rfl) hd (k p e s m args below meth c H locs la hC hR hS hl)
theorem fz_put {idx ci j n k0 i0 : Nat} {ty : FieldType} {F : Nat → List fz_V} {v : fz_V} (F' : Nat → List fz_V) (hd : decode M.2.1 pc = .ok (.putfield idx, 3)) (hF : fz_F M.1.cls idx ci j ty false) (hV : fz_lk V k0 = some (zo ci n F)) (hi : i0 < n) (hlen : j < (F i0).length) (hok : fz_ok G ty v) (hF1 : F' i0 = (F i0).set j v) (hF2 : ∀ i', i' < n → i' ≠ i0 → F' i' = F i') (k : fz_J G M R Z E0 cs sl (pc + 3) ls st (fz_st V k0 (zo ci n F'))) : fz_J G M R Z E0 cs sl pc ls (v :: zR k0 i0 :: st) V := by
  intro p e s m args below meth c H locs la hC hR hS hl
  obtain ⟨C, T, N, t0, h1, h2, h3, h4, h5, h6, h7, h8, h9⟩ := hF
  obtain ⟨L, f, q0, hP, hD, hE, hJ, hq0, hs⟩ := fz_at hR hV (show i0 < fz_n (zo ci n F) from hi)
  have e1 : fz_c G (zo ci n F') i0 = .inr (ci, ((F i0).map (fz_v G)).set j (fz_v G v)) := by
    show Sum.inr (ci, (F' i0).map (fz_v G)) = _
    rw [hF1, List.map_set]
  refine va_put (D := G.2.1) (ws := va_pl L f) hC.1 hC.2.1 hC.2.2.2.2.2.1 h2 t0 h8 h9 hC.2.2.2.2.1 hC.2.2.2.2.2.2.2.2.1 hP hD hS q0 hq0 h1 j h3 (hC.2.2.2.2.2.1 _ h4) (fun x hx => by rw [h5] at hx; exact hx) h6 h7 hok.1 hok.2 (by rw [List.length_map]; exact hlen) hd (fun H1 locs1 hP1 hD1 hS1 => ?_)
  rw [hs, ← e1] at hP1 hD1
  exact k p e s m args below meth c H1 locs1 la hC (fz_upd hV hi rfl (fun i' h1 h2 => by show Sum.inr (ci, (F' i').map (fz_v G)) = _; rw [hF2 i' h1 h2]; rfl) hE hJ hP1 hD1) hS1 hl
theorem fz_put1 {idx ci j k0 : Nat} {ty : FieldType} {F : Nat → List fz_V} {v : fz_V} (hd : decode M.2.1 pc = .ok (.putfield idx, 3)) (hF : fz_F M.1.cls idx ci j ty false) (hV : fz_lk V k0 = some (zo ci 1 F)) (hlen : j < (F 0).length) (hok : fz_ok G ty v) (k : fz_J G M R Z E0 cs sl (pc + 3) ls st (fz_st V k0 (zo ci 1 (fun _ => (F 0).set j v)))) : fz_J G M R Z E0 cs sl pc ls (v :: zR k0 0 :: st) V :=
  fz_put _ hd hF hV Nat.one_pos hlen hok rfl (fun i' h1 h2 => absurd (Nat.lt_one_iff.mp h1) h2) k
theorem fz_putn {idx ci j n k0 i0 : Nat} {ty : FieldType} {F : Nat → List fz_V} {v : fz_V} (hd : decode M.2.1 pc = .ok (.putfield idx, 3)) (hF : fz_F M.1.cls idx ci j ty false) (hV : fz_lk V k0 = some (zo ci n F)) (hi : i0 < n) (hlen : j < (F i0).length) (hok : fz_ok G ty v) (k : fz_J G M R Z E0 cs sl (pc + 3) ls st (fz_st V k0 (zo ci n (va_up F i0 ((F i0).set j v))))) : fz_J G M R Z E0 cs sl pc ls (v :: zR k0 i0 :: st) V :=
  fz_put _ hd hF hV hi hlen hok (va_up_self _ _ _) (fun i' _ h2 => va_up_ne _ _ h2) k
theorem fz_putF {idx ci j k0 : Nat} {ty : FieldType} {F : Nat → List fz_V} {v : fz_V} (hd : decode M.2.1 pc = .ok (.putfield idx, 3)) (hF : fz_F M.1.cls idx ci j ty true) (hin : M.1.name = "<init>") (hcl : (classes[ci]?).map (fun q => q.1) = some M.1.cls) (hV : fz_lk V k0 = some (zo ci 1 F)) (hlen : j < (F 0).length) (hok : fz_ok G ty v) (k : fz_J G M R Z E0 cs sl (pc + 3) ls st (fz_st V k0 (zo ci 1 (fun _ => (F 0).set j v)))) : fz_J G M R Z E0 cs sl pc ls (v :: zR k0 0 :: st) V := by
  intro p e s m args below meth c H locs la hC hR hS hl
  obtain ⟨C, T, N, t0, h1, h2, h3, h4, h5, h6, h7, h8, h9⟩ := hF
  obtain ⟨L, f, q0, hP, hD, hE, hJ, hq0, hs⟩ := fz_at hR hV (show 0 < fz_n (zo ci 1 F) from Nat.one_pos)
  have e1 : fz_c G (zo ci 1 (fun _ => (F 0).set j v)) 0 = .inr (ci, ((F 0).map (fz_v G)).set j (fz_v G v)) := by
    show Sum.inr (ci, ((F 0).set j v).map (fz_v G)) = _
    rw [List.map_set]
  rw [h1] at hcl
  have hcl2 : C = M.1.cls := Option.some.inj hcl
  refine va_putF (D := G.2.1) (ws := va_pl L f) hC.1 hC.2.1 hC.2.2.2.2.2.1 h2 t0 h8 h9 hC.2.2.2.2.1 hC.2.2.2.2.2.2.2.2.1 hP hD hS q0 hq0 h1 j h3 (hC.2.2.2.2.2.1 _ h4) (fun x hx => by rw [h5] at hx; exact hx) h6 (hC.2.2.2.2.2.2.2.1.trans hin) (h5.trans hcl2) h7 hok.1 hok.2 (by rw [List.length_map]; exact hlen) hd (fun H1 locs1 hP1 hD1 hS1 => ?_)
  rw [hs, ← e1] at hP1 hD1
  exact k p e s m args below meth c H1 locs1 la hC (fz_upd hV Nat.one_pos rfl (fun i' h1 h2 => absurd (Nat.lt_one_iff.mp h1) h2) hE hJ hP1 hD1) hS1 hl
theorem fz_iald {t n len k0 i0 : Nat} {f : Nat → Nat → Int32} {j : Int32} (hd : decode M.2.1 pc = .ok (.iaload, 1)) (ht : fz_tyL[t]? = some .int) (hV : fz_lk V k0 = some (zi t n len f)) (hi : i0 < n) (hj : vp_in j len) (k : fz_J G M R Z E0 cs sl (pc + 1) ls (zI (f i0 j.toNatClampNeg) :: st) V) : fz_J G M R Z E0 cs sl pc ls (zI j :: zR k0 i0 :: st) V := by
  intro p e s m args below meth c H locs la hC hR hS hl
  obtain ⟨L, g, q0, hP, hD, hE, hJ, hq0, hs⟩ := fz_at hR hV (show i0 < fz_n (zi t n len f) from hi)
  exact va_iald (D := G.2.1) (ws := va_pl L g) hC.1 hC.2.1 hC.2.2.2.2.2.2.2.2.1 hP q0 t hq0 (fz_ty ht) hj hd (k p e s m args below meth c H locs la hC hR hS hl)
theorem fz_iast0 {t n len k0 i0 : Nat} {f : Nat → Nat → Int32} {j : Int32} {x : Int32} (f' : Nat → Nat → Int32) (hd : decode M.2.1 pc = .ok (.iastore, 1)) (ht : fz_tyL[t]? = some .int) (hV : fz_lk V k0 = some (zi t n len f)) (hi : i0 < n) (hj : vp_in j len) (h1 : f' i0 = upd (f i0) j.toNatClampNeg x) (h2 : ∀ i', i' < n → i' ≠ i0 → f' i' = f i') (k : fz_J G M R Z E0 cs sl (pc + 1) ls st (fz_st V k0 (zi t n len f'))) : fz_J G M R Z E0 cs sl pc ls (zI x :: zI j :: zR k0 i0 :: st) V := by
  intro p e s m args below meth c H locs la hC hR hS hl
  obtain ⟨L, g, q0, hP, hD, hE, hJ, hq0, hs⟩ := fz_at hR hV (show i0 < fz_n (zi t n len f) from hi)
  have e1 : fz_c G (zi t n len f') i0 = .inl (G.2.2.1 t, len, .inl (upd (f i0) j.toNatClampNeg x)) := by
    rw [← h1]; rfl
  refine va_iast (D := G.2.1) (ws := va_pl L g) hC.1 hC.2.1 hC.2.2.2.2.2.2.2.2.1 hP hD hS q0 t hq0 (fz_ty ht) hj hd (fun H1 locs1 hP1 hD1 hS1 => ?_)
  rw [hs, ← e1] at hP1 hD1
  exact k p e s m args below meth c H1 locs1 la hC (fz_upd hV hi rfl (fun i' h3 h4 => congrArg (fun z => (Sum.inl (G.2.2.1 t, len, .inl z) : va_E)) (h2 i' h3 h4)) hE hJ hP1 hD1) hS1 hl
theorem fz_iast1 {t len k0 : Nat} {f : Nat → Nat → Int32} {j : Int32} {x : Int32} (hd : decode M.2.1 pc = .ok (.iastore, 1)) (ht : fz_tyL[t]? = some .int) (hV : fz_lk V k0 = some (zi t 1 len f)) (hj : vp_in j len) (k : fz_J G M R Z E0 cs sl (pc + 1) ls st (fz_st V k0 (zi t 1 len (fun _ => upd (f 0) j.toNatClampNeg x)))) : fz_J G M R Z E0 cs sl pc ls (zI x :: zI j :: zR k0 0 :: st) V :=
  fz_iast0 _ hd ht hV Nat.one_pos hj rfl (fun i' h1 h2 => absurd (Nat.lt_one_iff.mp h1) h2) k
theorem fz_iastn {t n len k0 i0 : Nat} {f : Nat → Nat → Int32} {j : Int32} {x : Int32} (hd : decode M.2.1 pc = .ok (.iastore, 1)) (ht : fz_tyL[t]? = some .int) (hV : fz_lk V k0 = some (zi t n len f)) (hi : i0 < n) (hj : vp_in j len) (k : fz_J G M R Z E0 cs sl (pc + 1) ls st (fz_st V k0 (zi t n len (va_up f i0 (upd (f i0) j.toNatClampNeg x))))) : fz_J G M R Z E0 cs sl pc ls (zI x :: zI j :: zR k0 i0 :: st) V :=
  fz_iast0 _ hd ht hV hi hj (va_up_self _ _ _) (fun i' _ h2 => va_up_ne _ _ h2) k
theorem fz_lald {t n len k0 i0 : Nat} {f : Nat → Nat → Int64} {j : Int32} (hd : decode M.2.1 pc = .ok (.laload, 1)) (ht : fz_tyL[t]? = some .long) (hV : fz_lk V k0 = some (zl t n len f)) (hi : i0 < n) (hj : vp_in j len) (k : fz_J G M R Z E0 cs sl (pc + 1) ls (zL (f i0 j.toNatClampNeg) :: st) V) : fz_J G M R Z E0 cs sl pc ls (zI j :: zR k0 i0 :: st) V := by
  intro p e s m args below meth c H locs la hC hR hS hl
  obtain ⟨L, g, q0, hP, hD, hE, hJ, hq0, hs⟩ := fz_at hR hV (show i0 < fz_n (zl t n len f) from hi)
  exact va_lald (D := G.2.1) (ws := va_pl L g) hC.1 hC.2.1 hC.2.2.2.2.2.2.2.2.1 hP q0 t hq0 (fz_ty ht) hj hd (k p e s m args below meth c H locs la hC hR hS hl)
theorem fz_last0 {t n len k0 i0 : Nat} {f : Nat → Nat → Int64} {j : Int32} {x : Int64} (f' : Nat → Nat → Int64) (hd : decode M.2.1 pc = .ok (.lastore, 1)) (ht : fz_tyL[t]? = some .long) (hV : fz_lk V k0 = some (zl t n len f)) (hi : i0 < n) (hj : vp_in j len) (h1 : f' i0 = vp_updL (f i0) j.toNatClampNeg x) (h2 : ∀ i', i' < n → i' ≠ i0 → f' i' = f i') (k : fz_J G M R Z E0 cs sl (pc + 1) ls st (fz_st V k0 (zl t n len f'))) : fz_J G M R Z E0 cs sl pc ls (zL x :: zI j :: zR k0 i0 :: st) V := by
  intro p e s m args below meth c H locs la hC hR hS hl
  obtain ⟨L, g, q0, hP, hD, hE, hJ, hq0, hs⟩ := fz_at hR hV (show i0 < fz_n (zl t n len f) from hi)
  have e1 : fz_c G (zl t n len f') i0 = .inl (G.2.2.1 t, len, .inr (.inl (vp_updL (f i0) j.toNatClampNeg x))) := by
    rw [← h1]; rfl
  refine va_last (D := G.2.1) (ws := va_pl L g) hC.1 hC.2.1 hC.2.2.2.2.2.2.2.2.1 hP hD hS q0 t hq0 (fz_ty ht) hj hd (fun H1 locs1 hP1 hD1 hS1 => ?_)
  rw [hs, ← e1] at hP1 hD1
  exact k p e s m args below meth c H1 locs1 la hC (fz_upd hV hi rfl (fun i' h3 h4 => congrArg (fun z => (Sum.inl (G.2.2.1 t, len, .inr (.inl z)) : va_E)) (h2 i' h3 h4)) hE hJ hP1 hD1) hS1 hl
theorem fz_last1 {t len k0 : Nat} {f : Nat → Nat → Int64} {j : Int32} {x : Int64} (hd : decode M.2.1 pc = .ok (.lastore, 1)) (ht : fz_tyL[t]? = some .long) (hV : fz_lk V k0 = some (zl t 1 len f)) (hj : vp_in j len) (k : fz_J G M R Z E0 cs sl (pc + 1) ls st (fz_st V k0 (zl t 1 len (fun _ => vp_updL (f 0) j.toNatClampNeg x)))) : fz_J G M R Z E0 cs sl pc ls (zL x :: zI j :: zR k0 0 :: st) V :=
  fz_last0 _ hd ht hV Nat.one_pos hj rfl (fun i' h1 h2 => absurd (Nat.lt_one_iff.mp h1) h2) k
theorem fz_lastn {t n len k0 i0 : Nat} {f : Nat → Nat → Int64} {j : Int32} {x : Int64} (hd : decode M.2.1 pc = .ok (.lastore, 1)) (ht : fz_tyL[t]? = some .long) (hV : fz_lk V k0 = some (zl t n len f)) (hi : i0 < n) (hj : vp_in j len) (k : fz_J G M R Z E0 cs sl (pc + 1) ls st (fz_st V k0 (zl t n len (va_up f i0 (vp_updL (f i0) j.toNatClampNeg x))))) : fz_J G M R Z E0 cs sl pc ls (zL x :: zI j :: zR k0 i0 :: st) V :=
  fz_last0 _ hd ht hV hi hj (va_up_self _ _ _) (fun i' _ h2 => va_up_ne _ _ h2) k
theorem fz_zald {t n len k0 i0 : Nat} {f : Nat → Nat → Int32} {j : Int32} (hd : decode M.2.1 pc = .ok (.baload, 1)) (ht : fz_tyL[t]? = some .boolean) (hV : fz_lk V k0 = some (zi t n len f)) (hi : i0 < n) (hj : vp_in j len) (k : fz_J G M R Z E0 cs sl (pc + 1) ls (zI (f i0 j.toNatClampNeg) :: st) V) : fz_J G M R Z E0 cs sl pc ls (zI j :: zR k0 i0 :: st) V := by
  intro p e s m args below meth c H locs la hC hR hS hl
  obtain ⟨L, g, q0, hP, hD, hE, hJ, hq0, hs⟩ := fz_at hR hV (show i0 < fz_n (zi t n len f) from hi)
  exact va_zald (D := G.2.1) (ws := va_pl L g) hC.1 hC.2.1 hC.2.2.2.2.2.2.2.2.1 hP q0 t hq0 (fz_ty ht) hj hd (k p e s m args below meth c H locs la hC hR hS hl)
theorem fz_zast0 {t n len k0 i0 : Nat} {f : Nat → Nat → Int32} {j : Int32} {x : Int32} (f' : Nat → Nat → Int32) (hd : decode M.2.1 pc = .ok (.bastore, 1)) (ht : fz_tyL[t]? = some .boolean) (hV : fz_lk V k0 = some (zi t n len f)) (hi : i0 < n) (hj : vp_in j len) (h1 : f' i0 = upd (f i0) j.toNatClampNeg (vp_nar .boolean x)) (h2 : ∀ i', i' < n → i' ≠ i0 → f' i' = f i') (k : fz_J G M R Z E0 cs sl (pc + 1) ls st (fz_st V k0 (zi t n len f'))) : fz_J G M R Z E0 cs sl pc ls (zI x :: zI j :: zR k0 i0 :: st) V := by
  intro p e s m args below meth c H locs la hC hR hS hl
  obtain ⟨L, g, q0, hP, hD, hE, hJ, hq0, hs⟩ := fz_at hR hV (show i0 < fz_n (zi t n len f) from hi)
  have e1 : fz_c G (zi t n len f') i0 = .inl (G.2.2.1 t, len, .inl (upd (f i0) j.toNatClampNeg (vp_nar .boolean x))) := by
    rw [← h1]; rfl
  refine va_zast (D := G.2.1) (ws := va_pl L g) hC.1 hC.2.1 hC.2.2.2.2.2.2.2.2.1 hP hD hS q0 t hq0 (fz_ty ht) hj hd (fun H1 locs1 hP1 hD1 hS1 => ?_)
  rw [hs, ← e1] at hP1 hD1
  exact k p e s m args below meth c H1 locs1 la hC (fz_upd hV hi rfl (fun i' h3 h4 => congrArg (fun z => (Sum.inl (G.2.2.1 t, len, .inl z) : va_E)) (h2 i' h3 h4)) hE hJ hP1 hD1) hS1 hl
theorem fz_zast1 {t len k0 : Nat} {f : Nat → Nat → Int32} {j : Int32} {x : Int32} (hd : decode M.2.1 pc = .ok (.bastore, 1)) (ht : fz_tyL[t]? = some .boolean) (hV : fz_lk V k0 = some (zi t 1 len f)) (hj : vp_in j len) (k : fz_J G M R Z E0 cs sl (pc + 1) ls st (fz_st V k0 (zi t 1 len (fun _ => upd (f 0) j.toNatClampNeg (vp_nar .boolean x))))) : fz_J G M R Z E0 cs sl pc ls (zI x :: zI j :: zR k0 0 :: st) V :=
  fz_zast0 _ hd ht hV Nat.one_pos hj rfl (fun i' h1 h2 => absurd (Nat.lt_one_iff.mp h1) h2) k
theorem fz_zastn {t n len k0 i0 : Nat} {f : Nat → Nat → Int32} {j : Int32} {x : Int32} (hd : decode M.2.1 pc = .ok (.bastore, 1)) (ht : fz_tyL[t]? = some .boolean) (hV : fz_lk V k0 = some (zi t n len f)) (hi : i0 < n) (hj : vp_in j len) (k : fz_J G M R Z E0 cs sl (pc + 1) ls st (fz_st V k0 (zi t n len (va_up f i0 (upd (f i0) j.toNatClampNeg (vp_nar .boolean x)))))) : fz_J G M R Z E0 cs sl pc ls (zI x :: zI j :: zR k0 i0 :: st) V :=
  fz_zast0 _ hd ht hV hi hj (va_up_self _ _ _) (fun i' _ h2 => va_up_ne _ _ h2) k
theorem fz_bald {t n len k0 i0 : Nat} {f : Nat → Nat → Int32} {j : Int32} (hd : decode M.2.1 pc = .ok (.baload, 1)) (ht : fz_tyL[t]? = some .byte) (hV : fz_lk V k0 = some (zi t n len f)) (hi : i0 < n) (hj : vp_in j len) (k : fz_J G M R Z E0 cs sl (pc + 1) ls (zI (f i0 j.toNatClampNeg) :: st) V) : fz_J G M R Z E0 cs sl pc ls (zI j :: zR k0 i0 :: st) V := by
  intro p e s m args below meth c H locs la hC hR hS hl
  obtain ⟨L, g, q0, hP, hD, hE, hJ, hq0, hs⟩ := fz_at hR hV (show i0 < fz_n (zi t n len f) from hi)
  exact va_bald (D := G.2.1) (ws := va_pl L g) hC.1 hC.2.1 hC.2.2.2.2.2.2.2.2.1 hP q0 t hq0 (fz_ty ht) hj hd (k p e s m args below meth c H locs la hC hR hS hl)
theorem fz_bast0 {t n len k0 i0 : Nat} {f : Nat → Nat → Int32} {j : Int32} {x : Int32} (f' : Nat → Nat → Int32) (hd : decode M.2.1 pc = .ok (.bastore, 1)) (ht : fz_tyL[t]? = some .byte) (hV : fz_lk V k0 = some (zi t n len f)) (hi : i0 < n) (hj : vp_in j len) (h1 : f' i0 = upd (f i0) j.toNatClampNeg (vp_nar .byte x)) (h2 : ∀ i', i' < n → i' ≠ i0 → f' i' = f i') (k : fz_J G M R Z E0 cs sl (pc + 1) ls st (fz_st V k0 (zi t n len f'))) : fz_J G M R Z E0 cs sl pc ls (zI x :: zI j :: zR k0 i0 :: st) V := by
  intro p e s m args below meth c H locs la hC hR hS hl
  obtain ⟨L, g, q0, hP, hD, hE, hJ, hq0, hs⟩ := fz_at hR hV (show i0 < fz_n (zi t n len f) from hi)
  have e1 : fz_c G (zi t n len f') i0 = .inl (G.2.2.1 t, len, .inl (upd (f i0) j.toNatClampNeg (vp_nar .byte x))) := by
    rw [← h1]; rfl
  refine va_bast (D := G.2.1) (ws := va_pl L g) hC.1 hC.2.1 hC.2.2.2.2.2.2.2.2.1 hP hD hS q0 t hq0 (fz_ty ht) hj hd (fun H1 locs1 hP1 hD1 hS1 => ?_)
  rw [hs, ← e1] at hP1 hD1
  exact k p e s m args below meth c H1 locs1 la hC (fz_upd hV hi rfl (fun i' h3 h4 => congrArg (fun z => (Sum.inl (G.2.2.1 t, len, .inl z) : va_E)) (h2 i' h3 h4)) hE hJ hP1 hD1) hS1 hl
theorem fz_bast1 {t len k0 : Nat} {f : Nat → Nat → Int32} {j : Int32} {x : Int32} (hd : decode M.2.1 pc = .ok (.bastore, 1)) (ht : fz_tyL[t]? = some .byte) (hV : fz_lk V k0 = some (zi t 1 len f)) (hj : vp_in j len) (k : fz_J G M R Z E0 cs sl (pc + 1) ls st (fz_st V k0 (zi t 1 len (fun _ => upd (f 0) j.toNatClampNeg (vp_nar .byte x))))) : fz_J G M R Z E0 cs sl pc ls (zI x :: zI j :: zR k0 0 :: st) V :=
  fz_bast0 _ hd ht hV Nat.one_pos hj rfl (fun i' h1 h2 => absurd (Nat.lt_one_iff.mp h1) h2) k
theorem fz_bastn {t n len k0 i0 : Nat} {f : Nat → Nat → Int32} {j : Int32} {x : Int32} (hd : decode M.2.1 pc = .ok (.bastore, 1)) (ht : fz_tyL[t]? = some .byte) (hV : fz_lk V k0 = some (zi t n len f)) (hi : i0 < n) (hj : vp_in j len) (k : fz_J G M R Z E0 cs sl (pc + 1) ls st (fz_st V k0 (zi t n len (va_up f i0 (upd (f i0) j.toNatClampNeg (vp_nar .byte x)))))) : fz_J G M R Z E0 cs sl pc ls (zI x :: zI j :: zR k0 i0 :: st) V :=
  fz_bast0 _ hd ht hV hi hj (va_up_self _ _ _) (fun i' _ h2 => va_up_ne _ _ h2) k
theorem fz_cald {t n len k0 i0 : Nat} {f : Nat → Nat → Int32} {j : Int32} (hd : decode M.2.1 pc = .ok (.caload, 1)) (ht : fz_tyL[t]? = some .char) (hV : fz_lk V k0 = some (zi t n len f)) (hi : i0 < n) (hj : vp_in j len) (k : fz_J G M R Z E0 cs sl (pc + 1) ls (zI (f i0 j.toNatClampNeg) :: st) V) : fz_J G M R Z E0 cs sl pc ls (zI j :: zR k0 i0 :: st) V := by
  intro p e s m args below meth c H locs la hC hR hS hl
  obtain ⟨L, g, q0, hP, hD, hE, hJ, hq0, hs⟩ := fz_at hR hV (show i0 < fz_n (zi t n len f) from hi)
  exact va_cald (D := G.2.1) (ws := va_pl L g) hC.1 hC.2.1 hC.2.2.2.2.2.2.2.2.1 hP q0 t hq0 (fz_ty ht) hj hd (k p e s m args below meth c H locs la hC hR hS hl)
theorem fz_cast0 {t n len k0 i0 : Nat} {f : Nat → Nat → Int32} {j : Int32} {x : Int32} (f' : Nat → Nat → Int32) (hd : decode M.2.1 pc = .ok (.castore, 1)) (ht : fz_tyL[t]? = some .char) (hV : fz_lk V k0 = some (zi t n len f)) (hi : i0 < n) (hj : vp_in j len) (h1 : f' i0 = upd (f i0) j.toNatClampNeg (vp_nar .char x)) (h2 : ∀ i', i' < n → i' ≠ i0 → f' i' = f i') (k : fz_J G M R Z E0 cs sl (pc + 1) ls st (fz_st V k0 (zi t n len f'))) : fz_J G M R Z E0 cs sl pc ls (zI x :: zI j :: zR k0 i0 :: st) V := by
  intro p e s m args below meth c H locs la hC hR hS hl
  obtain ⟨L, g, q0, hP, hD, hE, hJ, hq0, hs⟩ := fz_at hR hV (show i0 < fz_n (zi t n len f) from hi)
  have e1 : fz_c G (zi t n len f') i0 = .inl (G.2.2.1 t, len, .inl (upd (f i0) j.toNatClampNeg (vp_nar .char x))) := by
    rw [← h1]; rfl
  refine va_cast (D := G.2.1) (ws := va_pl L g) hC.1 hC.2.1 hC.2.2.2.2.2.2.2.2.1 hP hD hS q0 t hq0 (fz_ty ht) hj hd (fun H1 locs1 hP1 hD1 hS1 => ?_)
  rw [hs, ← e1] at hP1 hD1
  exact k p e s m args below meth c H1 locs1 la hC (fz_upd hV hi rfl (fun i' h3 h4 => congrArg (fun z => (Sum.inl (G.2.2.1 t, len, .inl z) : va_E)) (h2 i' h3 h4)) hE hJ hP1 hD1) hS1 hl
theorem fz_cast1 {t len k0 : Nat} {f : Nat → Nat → Int32} {j : Int32} {x : Int32} (hd : decode M.2.1 pc = .ok (.castore, 1)) (ht : fz_tyL[t]? = some .char) (hV : fz_lk V k0 = some (zi t 1 len f)) (hj : vp_in j len) (k : fz_J G M R Z E0 cs sl (pc + 1) ls st (fz_st V k0 (zi t 1 len (fun _ => upd (f 0) j.toNatClampNeg (vp_nar .char x))))) : fz_J G M R Z E0 cs sl pc ls (zI x :: zI j :: zR k0 0 :: st) V :=
  fz_cast0 _ hd ht hV Nat.one_pos hj rfl (fun i' h1 h2 => absurd (Nat.lt_one_iff.mp h1) h2) k
theorem fz_castn {t n len k0 i0 : Nat} {f : Nat → Nat → Int32} {j : Int32} {x : Int32} (hd : decode M.2.1 pc = .ok (.castore, 1)) (ht : fz_tyL[t]? = some .char) (hV : fz_lk V k0 = some (zi t n len f)) (hi : i0 < n) (hj : vp_in j len) (k : fz_J G M R Z E0 cs sl (pc + 1) ls st (fz_st V k0 (zi t n len (va_up f i0 (upd (f i0) j.toNatClampNeg (vp_nar .char x)))))) : fz_J G M R Z E0 cs sl pc ls (zI x :: zI j :: zR k0 i0 :: st) V :=
  fz_cast0 _ hd ht hV hi hj (va_up_self _ _ _) (fun i' _ h2 => va_up_ne _ _ h2) k
theorem fz_aald {t n len k0 i0 : Nat} {C : String} {f : Nat → Nat → Option (Nat × Nat)} {j : Int32} {r : Option (Nat × Nat)} (hd : decode M.2.1 pc = .ok (.aaload, 1)) (ht : fz_tyL[t]? = some (.object C)) (hV : fz_lk V k0 = some (zq t n len f)) (hi : i0 < n) (hj : vp_in j len) (hr : f i0 j.toNatClampNeg = r) (k : fz_J G M R Z E0 cs sl (pc + 1) ls (.inr (.inr r) :: st) V) : fz_J G M R Z E0 cs sl pc ls (zI j :: zR k0 i0 :: st) V := by
  intro p e s m args below meth c H locs la hC hR hS hl
  subst hr
  obtain ⟨L, g, q0, hP, hD, hE, hJ, hq0, hs⟩ := fz_at hR hV (show i0 < fz_n (zq t n len f) from hi)
  refine va_aldq (D := G.2.1) (ws := va_pl L g) hC.1 hC.2.1 hC.2.2.2.2.2.2.2.2.1 hP q0 t hq0 (fz_ty ht) hj hd ?_
  have e2 : va_rf ((f i0 j.toNatClampNeg).map (fun q => G.2.2.2.2 q.1 q.2)) = fz_v G (.inr (.inr (f i0 j.toNatClampNeg))) := by
    cases f i0 j.toNatClampNeg <;> rfl
  show W _ _ _ _ _ _ _ _ _ _ _ _ _ _ _ (F0 m (pc + 1) la (va_rf ((f i0 j.toNatClampNeg).map (fun q => G.2.2.2.2 q.1 q.2)) :: st.map (fz_v G)))
  rw [e2]
  exact (k p e s m args below meth c H locs la hC hR hS hl)
theorem fz_alen_zi {t n len k0 i0 : Nat} {ty : FieldType} {f : Nat → Nat → Int32} {v : Int32} (hd : decode M.2.1 pc = .ok (.arraylength, 1)) (ht : fz_tyL[t]? = some ty) (hV : fz_lk V k0 = some (zi t n len f)) (hi : i0 < n) (hv : Int32.ofNat len = v) (k : fz_J G M R Z E0 cs sl (pc + 1) ls (zI v :: st) V) : fz_J G M R Z E0 cs sl pc ls (zR k0 i0 :: st) V := by
  intro p e s m args below meth c H locs la hC hR hS hl
  obtain ⟨L, g, q0, hP, hD, hE, hJ, hq0, hs⟩ := fz_at hR hV (show i0 < fz_n (zi t n len f) from hi)
  exact va_alen (D := G.2.1) (ws := va_pl L g) hC.1 hC.2.1 hC.2.2.2.2.2.2.2.2.1 hP q0 t hq0 (fz_ty ht) hv hd (k p e s m args below meth c H locs la hC hR hS hl)
theorem fz_alen_zl {t n len k0 i0 : Nat} {ty : FieldType} {f : Nat → Nat → Int64} {v : Int32} (hd : decode M.2.1 pc = .ok (.arraylength, 1)) (ht : fz_tyL[t]? = some ty) (hV : fz_lk V k0 = some (zl t n len f)) (hi : i0 < n) (hv : Int32.ofNat len = v) (k : fz_J G M R Z E0 cs sl (pc + 1) ls (zI v :: st) V) : fz_J G M R Z E0 cs sl pc ls (zR k0 i0 :: st) V := by
  intro p e s m args below meth c H locs la hC hR hS hl
  obtain ⟨L, g, q0, hP, hD, hE, hJ, hq0, hs⟩ := fz_at hR hV (show i0 < fz_n (zl t n len f) from hi)
  exact va_alen (D := G.2.1) (ws := va_pl L g) hC.1 hC.2.1 hC.2.2.2.2.2.2.2.2.1 hP q0 t hq0 (fz_ty ht) hv hd (k p e s m args below meth c H locs la hC hR hS hl)
theorem fz_alen_zq {t n len k0 i0 : Nat} {ty : FieldType} {f : Nat → Nat → Option (Nat × Nat)} {v : Int32} (hd : decode M.2.1 pc = .ok (.arraylength, 1)) (ht : fz_tyL[t]? = some ty) (hV : fz_lk V k0 = some (zq t n len f)) (hi : i0 < n) (hv : Int32.ofNat len = v) (k : fz_J G M R Z E0 cs sl (pc + 1) ls (zI v :: st) V) : fz_J G M R Z E0 cs sl pc ls (zR k0 i0 :: st) V := by
  intro p e s m args below meth c H locs la hC hR hS hl
  obtain ⟨L, g, q0, hP, hD, hE, hJ, hq0, hs⟩ := fz_at hR hV (show i0 < fz_n (zq t n len f) from hi)
  exact va_alen (D := G.2.1) (ws := va_pl L g) hC.1 hC.2.1 hC.2.2.2.2.2.2.2.2.1 hP q0 t hq0 (fz_ty ht) hv hd (k p e s m args below meth c H locs la hC hR hS hl)
theorem fz_iret {mc ms : Nat} {Q : Option fz_V → fz_W → Prop} {x : Int32} (hd : decode M.2.1 pc = .ok (.ireturn, 1)) (hr : M.2.2.2 = some .int) (hc : cs ≤ mc) (hs : sl ≤ ms) (hq : Q (some (zI x)) V) : fz_J G M R (fz_Z G E0 mc ms Q) E0 cs sl pc ls [zI x] V := by
  intro p e s m args below meth c H locs la hC hR hS hl
  refine W.widen (k := mc) (n := ms) hc hs ?_
  exact W.iret (v := x) hC.1 hC.2.1 (hC.2.2.1.trans hr) (fun t ht hW => ⟨⟨some (zI x), V, rfl, hq, by rw [ht]; exact hR⟩, hS.F ht⟩) hS.2.2 hd hC.2.2.2.2.2.2.1
theorem fz_zret {mc ms : Nat} {Q : Option fz_V → fz_W → Prop} {x : Int32} {ty : FieldType} (hd : decode M.2.1 pc = .ok (.ireturn, 1)) (hr : M.2.2.2 = some ty) (hn : narrow ty (.int x) = .int x) (hc : cs ≤ mc) (hs : sl ≤ ms) (hq : Q (some (zI x)) V) : fz_J G M R (fz_Z G E0 mc ms Q) E0 cs sl pc ls [zI x] V := by
  intro p e s m args below meth c H locs la hC hR hS hl
  refine W.widen (k := mc) (n := ms) hc hs ?_
  exact W.zret (v := x) hC.1 hC.2.1 (hC.2.2.1.trans hr) hn (fun t ht hW => ⟨⟨some (zI x), V, rfl, hq, by rw [ht]; exact hR⟩, hS.F ht⟩) hS.2.2 hd hC.2.2.2.2.2.2.1
theorem fz_lret {mc ms : Nat} {Q : Option fz_V → fz_W → Prop} {x : Int64} (hd : decode M.2.1 pc = .ok (.lreturn, 1)) (hr : M.2.2.2 = some .long) (hc : cs ≤ mc) (hs : sl ≤ ms) (hq : Q (some (zL x)) V) : fz_J G M R (fz_Z G E0 mc ms Q) E0 cs sl pc ls [zL x] V := by
  intro p e s m args below meth c H locs la hC hR hS hl
  refine W.widen (k := mc) (n := ms) hc hs ?_
  exact W.lret (v := x) hC.1 hC.2.1 (hC.2.2.1.trans hr) (fun t ht hW => ⟨⟨some (zL x), V, rfl, hq, by rw [ht]; exact hR⟩, hS.F ht⟩) hS.2.2 hd hC.2.2.2.2.2.2.1
theorem fz_vret {mc ms : Nat} {Q : Option fz_V → fz_W → Prop} (hd : decode M.2.1 pc = .ok (.return_, 1)) (hr : M.2.2.2 = none) (hc : cs ≤ mc) (hs : sl ≤ ms) (hq : Q none V) : fz_J G M R (fz_Z G E0 mc ms Q) E0 cs sl pc ls [] V := by
  intro p e s m args below meth c H locs la hC hR hS hl
  refine W.widen (k := mc) (n := ms) hc hs ?_
  exact W.vret hC.1 hC.2.1 (hC.2.2.1.trans hr) (fun t ht hW => ⟨⟨none, V, rfl, hq, by rw [ht]; exact hR⟩, hS.F ht⟩) hS.2.2 hd hC.2.2.2.2.2.2.1
theorem fz_aret {mc ms : Nat} {Q : Option fz_V → fz_W → Prop} {r : Option (Nat × Nat)} {rt : FieldType} (hd : decode M.2.1 pc = .ok (.areturn, 1)) (hr : M.2.2.2 = some rt) (hrt : (∃ n, rt = .object n) ∨ ∃ t, rt = .array t) (hc : cs ≤ mc) (hs : sl ≤ ms) (hq : Q (some (.inr (.inr r))) V) : fz_J G M R (fz_Z G E0 mc ms Q) E0 cs sl pc ls [.inr (.inr r)] V := by
  intro p e s m args below meth c H locs la hC hR hS hl
  refine W.widen (k := mc) (n := ms) hc hs ?_
  exact W.aret (v := fz_v G (.inr (.inr r))) hC.1 hC.2.1 (hC.2.2.1.trans hr) hrt (by cases r with | none => exact Or.inl rfl | some q => exact Or.inr ⟨_, rfl⟩) (fun t ht hW => ⟨⟨some (.inr (.inr r)), V, rfl, hq, by rw [ht]; exact hR⟩, hS.F ht⟩) hS.2.2 hd hC.2.2.2.2.2.2.1
end FZ
