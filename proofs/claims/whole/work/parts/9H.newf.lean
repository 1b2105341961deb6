/-! WHAT IS MADE ANEW: a constructor's contract gives each new cell its address; so the table of addresses grows -/
def fz_nv (K : Nat → Nat → Bool) (v : fz_V) : Bool := match v with
  | .inl _ => true
  | .inr (.inl _) => true
  | .inr (.inr none) => true
  | .inr (.inr (some q)) => !K q.1 q.2
/-- an entry names none of the pairs K -/
def fz_nm (K : Nat → Nat → Bool) (x : fz_E) : Prop := match x with
  | .inl a => ∀ i, i < a.2.1 → (a.2.2 i).all (fz_nv K) = true
  | .inr (.inl _) => True
  | .inr (.inr (.inl _)) => True
  | .inr (.inr (.inr a)) => ∀ i, i < a.2.1 → ∀ j q, a.2.2.2 i j = some q → K q.1 q.2 = false
def fz_nE (K : Nat → Nat → Bool) (E : Nat → fz_E) : Prop := ∀ k, fz_nm K (E k)
def fz_nW (K : Nat → Nat → Bool) : fz_W → Prop
  | [] => True
  | q :: V => fz_nm K q.2 ∧ fz_nW K V
theorem fz_nE_d {K : Nat → Nat → Bool} {E : Nat → fz_E} (hE : fz_nE K E) : ∀ {V : fz_W}, fz_nW K V → fz_nE K (fz_d V E)
  | [], _ => hE
  | q :: V, h => by
    intro j
    rw [fz_d_c]
    by_cases hj : j = q.1
    · rw [if_pos hj]; exact h.1
    · rw [if_neg hj]; exact fz_nE_d hE h.2 j
def fz_le (K' K : Nat → Nat → Bool) : Prop := ∀ k i, K' k i = true → K k i = true
theorem fz_nv_le {K' K : Nat → Nat → Bool} (h : fz_le K' K) {v : fz_V} (hv : fz_nv K v = true) : fz_nv K' v = true := by
  rcases v with x | x | x | q
  · rfl
  · rfl
  · rfl
  · have hv : (!K q.1 q.2) = true := hv
    show (!K' q.1 q.2) = true
    cases h1 : K' q.1 q.2 with
    | false => rfl
    | true => rw [h _ _ h1] at hv; exact hv
theorem fz_nm_le {K' K : Nat → Nat → Bool} (h : fz_le K' K) {x : fz_E} (hx : fz_nm K x) : fz_nm K' x := by
  rcases x with a | a | a | a
  · intro i hi
    have h1 := hx i hi
    rw [List.all_eq_true] at h1 ⊢
    exact fun v hv => fz_nv_le h (h1 v hv)
  · exact trivial
  · exact trivial
  · intro i hi j q hq
    have h1 := hx i hi j q hq
    cases h2 : K' q.1 q.2 with
    | false => rfl
    | true => rw [h _ _ h2] at h1; cases h1
/-- the same but for addresses of the pairs K -/
def fz_ex (K : Nat → Nat → Bool) (G G' : fz_G) : Prop := ∃ ad : Nat → Nat → Nat, G' = (G.1, G.2.1, G.2.2.1, G.2.2.2.1, ad) ∧ ∀ k i, K k i = false → ad k i = G.2.2.2.2 k i
theorem fz_ex_rf {K : Nat → Nat → Bool} {G : fz_G} : fz_ex K G G := ⟨G.2.2.2.2, rfl, fun _ _ _ => rfl⟩
theorem fz_ex_tr {K K1 K2 : Nat → Nat → Bool} {G G1 G2 : fz_G} (h1 : fz_ex K1 G G1) (h2 : fz_ex K2 G1 G2) (l1 : fz_le K1 K) (l2 : fz_le K2 K) : fz_ex K G G2 := by
  obtain ⟨a1, rfl, e1⟩ := h1
  obtain ⟨a2, rfl, e2⟩ := h2
  refine ⟨a2, rfl, fun k i hk => ?_⟩
  have f1 : K1 k i = false := by
    cases z : K1 k i with
    | false => rfl
    | true => rw [l1 _ _ z] at hk; cases hk
  have f2 : K2 k i = false := by
    cases z : K2 k i with
    | false => rfl
    | true => rw [l2 _ _ z] at hk; cases hk
  exact (e2 k i f2).trans (e1 k i f1)
theorem fz_v_ex {K : Nat → Nat → Bool} {G G' : fz_G} (h : fz_ex K G G') {v : fz_V} (hv : fz_nv K v = true) : fz_v G' v = fz_v G v := by
  obtain ⟨ad, rfl, e⟩ := h
  rcases v with x | x | x | q
  · rfl
  · rfl
  · rfl
  · have hv : (!K q.1 q.2) = true := hv
    show Value.ref (ad q.1 q.2) = Value.ref (G.2.2.2.2 q.1 q.2)
    rw [e q.1 q.2 (by simpa using hv)]
theorem fz_vs_ex {K : Nat → Nat → Bool} {G G' : fz_G} (h : fz_ex K G G') {l : List fz_V} (hv : l.all (fz_nv K) = true) : l.map (fz_v G') = l.map (fz_v G) := by
  rw [List.all_eq_true] at hv
  exact List.map_congr_left (fun v h1 => fz_v_ex h (hv v h1))
theorem fz_ls_ex {K : Nat → Nat → Bool} {G G' : fz_G} (h : fz_ex K G G') {l : List (Nat × fz_V)} (hv : l.all (fun q => fz_nv K q.2) = true) : (l.map fun q => (q.1, fz_v G' q.2)) = l.map fun q => (q.1, fz_v G q.2) := by
  rw [List.all_eq_true] at hv
  exact List.map_congr_left (fun v h1 => by rw [fz_v_ex h (hv v h1)])
theorem fz_c_ex {K : Nat → Nat → Bool} {G G' : fz_G} (h : fz_ex K G G') {x : fz_E} {i : Nat} (hx : fz_nm K x) (hi : i < fz_n x) : fz_c G' x i = fz_c G x i := by
  have h' := h
  obtain ⟨ad, rfl, e⟩ := h
  rcases x with a | a | a | a
  · show (Sum.inr (a.1, _) : va_E) = Sum.inr (a.1, _)
    rw [fz_vs_ex h' (hx i hi)]
  · rfl
  · rfl
  · have e2 : (fun j => (a.2.2.2 i j).map (fun q => ad q.1 q.2)) = (fun j => (a.2.2.2 i j).map (fun q => G.2.2.2.2 q.1 q.2)) := by
      funext j
      cases hq : a.2.2.2 i j with
      | none => rfl
      | some q =>
        show some (ad q.1 q.2) = some (G.2.2.2.2 q.1 q.2)
        rw [e q.1 q.2 (hx i hi j q hq)]
    show (Sum.inl (G.2.2.1 a.1, a.2.2.1, .inr (.inr (.inr (.inr (fun j => (a.2.2.2 i j).map (fun q => ad q.1 q.2)))))) : va_E) = _
    rw [e2]
    rfl
theorem fz_C_ex {K : Nat → Nat → Bool} {G G' : fz_G} (h : fz_ex K G G') {M : fz_M} {p : Program} {s : State} {m : MethodId} {args : Array Value} {meth : Method} {c : Code} (hC : fz_C G M p s m args meth c) : fz_C G' M p s m args meth c := by
  obtain ⟨ad, rfl, -⟩ := h
  exact hC
theorem fz_A_ex {K : Nat → Nat → Bool} {G G' : fz_G} (h : fz_ex K G G') : fz_A G' = fz_A G := by
  obtain ⟨ad, rfl, -⟩ := h
  rfl
def fz_k1 (k n : Nat) : Nat → Nat → Bool := fun k' i' => decide (k' = k ∧ i' = n)
theorem fz_k1_le {K : Nat → Nat → Bool} {k n : Nat} (h : K k n = true) : fz_le (fz_k1 k n) K := by
  intro k' i' z
  have z := of_decide_eq_true z
  rw [z.1, z.2]; exact h
def fz_ga (G : fz_G) (k n q : Nat) : fz_G := (G.1, G.2.1, G.2.2.1, G.2.2.2.1, fun k' i' => if k' = k ∧ i' = n then q else G.2.2.2.2 k' i')
theorem fz_ga_ex (G : fz_G) (k n q : Nat) : fz_ex (fz_k1 k n) G (fz_ga G k n q) := ⟨_, rfl, fun k' i' h => if_neg (of_decide_eq_false h)⟩
theorem fz_R_new {G : fz_G} {V : fz_W} {E0 : Nat → fz_E} {k n q : Nat} {y x : fz_E} {e : va_E} {L : List Nat} {f : Nat → va_E} {H1 : Heap} (hV : fz_lk V k = some y) (hny : fz_n y = n) (hnx : fz_n x = n + 1) (ho : ∀ i, i < n → fz_c (fz_ga G k n q) x i = fz_c (fz_ga G k n q) y i) (he : fz_c (fz_ga G k n q) x n = e) (hnm : fz_nE (fz_k1 k n) (fz_d V E0))
    (hE : ∀ k i, i < fz_n (fz_d V E0 k) → G.2.2.2.2 k i ∈ L ∧ f (G.2.2.2.2 k i) = fz_c G (fz_d V E0 k) i) (hJ : ∀ k i k' i', i < fz_n (fz_d V E0 k) → i' < fz_n (fz_d V E0 k') → G.2.2.2.2 k i = G.2.2.2.2 k' i' → k = k' ∧ i = i')
    (hq : q ∉ L) (hP : va_P G.2.1 classes (va_pl L f ++ [(q, e)]) H1) (hD : va_D (fz_A G) (va_pl L f ++ [(q, e)])) : fz_R (fz_ga G k n q) (fz_d (fz_st V k x) E0) H1 := by
  rw [va_pl_push hq] at hP hD
  have hk : fz_d V E0 k = y := fz_d_lk hV
  have adE : ∀ k' i', (fz_ga G k n q).2.2.2.2 k' i' = if k' = k ∧ i' = n then q else G.2.2.2.2 k' i' := fun _ _ => rfl
  have key : ∀ k' i', i' < fz_n (fz_d (fz_st V k x) E0 k') → (k' = k ∧ i' = n) ∨ (i' < fz_n (fz_d V E0 k') ∧ ¬ (k' = k ∧ i' = n) ∧ fz_c (fz_ga G k n q) (fz_d (fz_st V k x) E0 k') i' = fz_c G (fz_d V E0 k') i') := by
    intro k' i' hi
    rw [fz_d_st hV] at hi ⊢
    unfold va_up at hi ⊢
    by_cases z : k' = k
    · rw [if_pos z] at hi ⊢
      by_cases z2 : i' = n
      · exact Or.inl ⟨z, z2⟩
      · right
        rw [z, hk]
        have h3 : i' < fz_n y := by omega
        refine ⟨h3, fun w => z2 w.2, ?_⟩
        rw [ho i' (by omega)]
        have := hnm k
        rw [hk] at this
        exact fz_c_ex (fz_ga_ex G k n q) this h3
    · rw [if_neg z] at hi ⊢
      exact Or.inr ⟨hi, fun w => z w.1, fz_c_ex (fz_ga_ex G k n q) (hnm k') hi⟩
  refine ⟨L ++ [q], va_up f q e, hP, hD, fun k' i' hi => ?_, fun k1 i1 k2 i2 h1 h2 h3 => ?_⟩
  · rw [adE]
    rcases key k' i' hi with ⟨z1, z2⟩ | ⟨z1, z2, z3⟩
    · rw [if_pos ⟨z1, z2⟩]
      refine ⟨List.mem_append_right _ (List.mem_singleton.mpr rfl), ?_⟩
      rw [va_up_self, z1, z2, fz_d_st hV, va_up_self, he]
    · rw [if_neg z2, z3]
      obtain ⟨w1, w2⟩ := hE k' i' z1
      refine ⟨List.mem_append_left _ w1, ?_⟩
      rw [va_up_ne _ _ (fun w => hq (by rw [← w]; exact w1))]
      exact w2
  · rw [adE, adE] at h3
    rcases key k1 i1 h1 with ⟨z1, z2⟩ | ⟨z1, z2, -⟩ <;> rcases key k2 i2 h2 with ⟨y1, y2⟩ | ⟨y1, y2, -⟩
    · exact ⟨z1.trans y1.symm, z2.trans y2.symm⟩
    · rw [if_pos ⟨z1, z2⟩, if_neg y2] at h3
      exact absurd (by rw [h3]; exact (hE k2 i2 y1).1) hq
    · rw [if_neg z2, if_pos ⟨y1, y2⟩] at h3
      exact absurd (by rw [← h3]; exact (hE k1 i1 z1).1) hq
    · rw [if_neg z2, if_neg y2] at h3
      exact hJ k1 i1 k2 i2 z1 y1 h3
/-- what a constructor's call comes to: addresses for the pairs K, a world -/
def fz_QN (G : fz_G) (K : Nat → Nat → Bool) (E0 : Nat → fz_E) (Q : fz_W → Prop) : Array Value → State → Outcome → State → Prop := fun _ st o t => (∃ (G' : fz_G) (V : fz_W), fz_ex K G G' ∧ o = .returned none ∧ Q V ∧ fz_R G' (fz_d V E0) t.heap) ∧ va_F (fz_A G) st t
def fz_ZN (G : fz_G) (K : Nat → Nat → Bool) (E0 : Nat → fz_E) (mc ms : Nat) (Q : fz_W → Prop) : List Frame → Array Value → State → State → Prop := fun below args s => MQ below (fz_QN G K E0 Q) args s mc ms (fz_A G)
def fz_TN (G : fz_G) (K : Nat → Nat → Bool) (M : fz_M) (R : Room) (as : List fz_V) (V : fz_W) (Q : fz_W → Prop) : Prop := ∀ E0 : Nat → fz_E, fz_nE K E0 → Met G.1 M.1 (fz_ws M) R (fz_Pc G E0 as V) (fz_QN G K E0 Q) R.cells R.slots (fz_A G)
theorem fz_TN.of {G : fz_G} {K : Nat → Nat → Bool} {M : fz_M} {R : Room} {as : List fz_V} {V : fz_W} {Q : fz_W → Prop} (hy : plainName M.1.cls = true) (hn : fz_wd as ≤ M.2.2.1) (h : ∀ E0, fz_nE K E0 → fz_J G M R (fz_ZN G K E0 R.cells R.slots Q) E0 0 0 0 (fz_args 0 as) [] V) : fz_TN G K M R as V Q := by
  intro E0 hE0
  refine Met.ofW (cc := M.2.1) (maxL := M.2.2.1) (ret := M.2.2.2) hy rfl ?_
  intro p e s m args below meth c s₁ B hml hv
  obtain ⟨rfl, hR, hK, hN, hb⟩ := hv
  have hts := atoms_spec (ws := fz_ws M) B.pre
  have hl := lv_entry (as.map (fz_v G)) (n := M.2.2.1) (by rw [fz_wd_sl]; exact hn)
  rw [fz_args_map] at hl
  rw [lg_entry_eq]
  exact h E0 hE0 p e s m _ below meth c s.heap [] _ ⟨B.exec, B.bytes, B.returns, hml, findClass_of_methodNamed B.named, fun w hw => hts w (List.mem_cons_of_mem _ hw), B.notSynchronized, (name_of_methodNamed B.named B.method).1, hK, hN, hb⟩ hR va_S.rf hl
section FZN
variable {G G0 : fz_G} {K : Nat → Nat → Bool} {M : fz_M} {R : Room} {Z : List Frame → Array Value → State → State → Prop} {E0 : Nat → fz_E} {cs sl pc : Nat} {ls : List (Nat × fz_V)} {st : List fz_V} {V : fz_W}
theorem fz_vretN {mc ms : Nat} {Q : fz_W → Prop} (hd : decode M.2.1 pc = .ok (.return_, 1)) (hr : M.2.2.2 = none) (hx : fz_ex K G0 G) (hc : cs ≤ mc) (hs : sl ≤ ms) (hq : Q V) : fz_J G M R (fz_ZN G0 K E0 mc ms Q) E0 cs sl pc ls [] V := by
  intro p e s m args below meth c H locs la hC hR hS hl
  refine W.widen (k := mc) (n := ms) hc hs ?_
  have hx2 := hx
  obtain ⟨ad, rfl, -⟩ := hx
  exact W.vret (Qc := fz_QN G0 K E0 Q) (free := fz_A G0) hC.1 hC.2.1 (hC.2.2.1.trans hr) (fun t ht hW => ⟨⟨_, V, hx2, rfl, hq, by rw [ht]; exact hR⟩, hS.F ht⟩) hS.2.2 hd hC.2.2.2.2.2.2.1
/-- a new object of class number ci, its fields fs -/
def fz_nC (own : String) (idx ci : Nat) (fs : List fz_V) : Prop := ∃ (C : String) (T : u_T) (N : Nat) (ty : Nat → FieldType), classes[ci]? = some (C, T, N) ∧ (∀ w ∈ u_ws C T N, w ∈ fz_tb) ∧ (∀ k, k < N → parseFieldDescriptor (T k).2.2.1 = some (ty k)) ∧ (∀ w ∈ ([.classLink own idx C, .instantiable C N, .initialized C] : List Cond), w ∈ fz_tb) ∧ fs.length = N ∧ ∀ (G : fz_G) j, j < N → defaultValue (ty j) = vp_V (fs.map (fz_v G)) j
theorem fz_new {k ci n idx : Nat} {F : Nat → List fz_V} {fs : List fz_V} (F' : Nat → List fz_V) (hd : decode M.2.1 pc = .ok (.new idx, 3)) (hw : fz_nC M.1.cls idx ci fs) (hx : fz_ex K G0 G) (hK : K k n = true) (hn0 : fz_nE K E0) (hnV : fz_nW (fz_k1 k n) V) (hnl : ls.all (fun q => fz_nv (fz_k1 k n) q.2) = true) (hns : st.all (fz_nv (fz_k1 k n)) = true) (hV : fz_lk V k = some (zo ci n F)) (hF1 : F' n = fs) (hF2 : ∀ i, i < n → F' i = F i) (hfs : fs.all (fz_nv (fun _ _ => true)) = true) (hc : cs + 1 ≤ R.cells) (hs : sl + fs.length ≤ R.slots)
    (kk : ∀ G', fz_ex K G0 G' → fz_J G' M R Z E0 (cs + 1) (sl + fs.length) (pc + 3) ls (zR k n :: st) (fz_st V k (zo ci (n + 1) F'))) : fz_J G M R Z E0 cs sl pc ls st V := by
  intro p e s m args below meth c H locs la hC hR hS hl
  obtain ⟨C, T, N, ty, w1, w2, w3, w4, w5, w6⟩ := hw
  have ht := hC.2.2.2.2.2.1
  obtain ⟨L, f, hP, hD, hE, hJ⟩ := hR
  rw [w5] at hs kk
  refine va_new (D := G.2.1) (ws := va_pl L f) hC.1 hC.2.1 ht w2 ty w3 hC.2.2.2.2.1 (ht _ (w4 _ (by simp))) (ht _ (w4 _ (by simp))) (ht _ (w4 _ (by simp))) hC.2.2.2.2.2.2.2.2.1 hP hD hS (fun q hq => Nat.le_trans hC.2.2.2.2.2.2.2.2.2.2 hq) w1 (w6 G) hc hs hd (fun q H1 hP1 hD1 hS1 => ?_)
  have hfr : q ∉ L := va_pl_fresh2 (X := []) hD1
  have hxx := fz_ga_ex G k n q
  have hx1 : fz_ex K G0 (fz_ga G k n q) := fz_ex_tr hx hxx (fun _ _ h => h) (fz_k1_le hK)
  have hR1 : fz_R (fz_ga G k n q) (fz_d (fz_st V k (zo ci (n + 1) F')) E0) H1 := by
    refine fz_R_new hV rfl rfl (fun i hi => ?_) ?_ (fz_nE_d (fun j => fz_nm_le (fz_k1_le hK) (hn0 j)) hnV) hE hJ hfr hP1 hD1
    · show (Sum.inr (ci, (F' i).map _) : va_E) = Sum.inr (ci, (F i).map _)
      rw [hF2 i hi]
    · show (Sum.inr (ci, (F' n).map _) : va_E) = _
      rw [hF1, fz_vs_ex hxx]
      rw [List.all_eq_true] at hfs ⊢
      exact fun v hv => fz_nv_le (fun _ _ _ => rfl) (hfs v hv)
  have k2 := kk (fz_ga G k n q) hx1 p e s m args below meth c H1 locs la (fz_C_ex hxx hC) hR1 hS1 (by rw [fz_ls_ex hxx hnl]; exact hl)
  have e3 : (zR k n :: st).map (fz_v (fz_ga G k n q)) = Value.ref q :: st.map (fz_v G) := by
    rw [List.map_cons, fz_vs_ex hxx hns]
    congr 1
    show Value.ref (if k = k ∧ n = n then q else _) = _
    rw [if_pos ⟨rfl, rfl⟩]
  rw [e3] at k2
  exact k2
theorem fz_RA_f {U : State} {cA : ClassId} {ty : FieldType} (h : va_RA U cA ty) : U.vm.findClass ("[" ++ ty.toString) = some cA := by
  cases ty
  case object C =>
    obtain ⟨_, _, _, _, _, h4⟩ := h
    exact h4
  all_goals exact h
theorem fz_cA {s : State} {D : va_G} {cl : List vw_C} {t : Nat} {ty : FieldType} {cA : ClassId} (hK : va_K D cl (fz_tys G) s) (ht : fz_tyL[t]? = some ty) (hK1 : va_K D cl (fz_tys G ++ [(cA, ty)]) s) : cA = G.2.2.1 t := by
  have h1 := fz_RA_f (hK.2 t _ (fz_ty ht)).2
  have h2 := fz_RA_f (hK1.2 (fz_tys G).length (cA, ty) (by simp)).2
  exact Option.some.inj (h2.symm.trans h1)
theorem fz_newi {k n t len : Nat} {x : Int32} {atype : ArrayType} {f : Nat → Nat → Int32} (f' : Nat → Nat → Int32) (hd : decode M.2.1 pc = .ok (.newarray atype, 2)) (ht : fz_tyL[t]? = some (newarray.typeOf atype)) (harr : Cond.arrayClass (newarray.typeOf atype) ∈ fz_tb) (hdv : defaultValue (newarray.typeOf atype) = .int 0) (hx : fz_ex K G0 G) (hK : K k n = true) (hn0 : fz_nE K E0) (hnV : fz_nW (fz_k1 k n) V) (hnl : ls.all (fun q => fz_nv (fz_k1 k n) q.2) = true) (hns : st.all (fz_nv (fz_k1 k n)) = true) (hV : fz_lk V k = some (zi t n len f)) (hf1 : f' n = fun _ => 0) (hf2 : ∀ i, i < n → f' i = f i) (hx0 : ¬ x < 0) (hlen : x.toNatClampNeg = len) (hby : len * componentBytes (newarray.typeOf atype) ≤ 536870912) (hc : cs + 1 ≤ R.cells) (hs : sl + len ≤ R.slots)
    (kk : ∀ G', fz_ex K G0 G' → fz_J G' M R Z E0 (cs + 1) (sl + len) (pc + 2) ls (zR k n :: st) (fz_st V k (zi t (n + 1) len f'))) : fz_J G M R Z E0 cs sl pc ls (zI x :: st) V := by
  intro p e s m args below meth c H locs la hC hR hS hl
  have htt := hC.2.2.2.2.2.1
  obtain ⟨L, g, hP, hD, hE, hJ⟩ := hR
  refine va_newa (D := G.2.1) (ws := va_pl L g) (a0 := (len, .inl (fun _ => 0))) hC.1 hC.2.1 (htt _ harr) rfl hC.2.2.2.2.2.2.2.2.1 hP hD hS (fun q hq => Nat.le_trans hC.2.2.2.2.2.2.2.2.2.2 hq) (fun cA => by show arrV cA len (fun _ => Value.int 0) = _; rw [hdv]) hx0 hlen hby hc hs hd (fun q cA H1 hK1 hP1 hD1 hS1 => ?_)
  have ecA := fz_cA hC.2.2.2.2.2.2.2.2.1 ht hK1
  subst ecA
  have hfr : q ∉ L := va_pl_fresh2 (X := []) hD1
  have hxx := fz_ga_ex G k n q
  have hx1 : fz_ex K G0 (fz_ga G k n q) := fz_ex_tr hx hxx (fun _ _ h => h) (fz_k1_le hK)
  have hR1 : fz_R (fz_ga G k n q) (fz_d (fz_st V k (zi t (n + 1) len f')) E0) H1 := by
    refine fz_R_new hV rfl rfl (fun i hi => ?_) ?_ (fz_nE_d (fun j => fz_nm_le (fz_k1_le hK) (hn0 j)) hnV) hE hJ hfr hP1 hD1
    · show (Sum.inl (G.2.2.1 t, len, .inl (f' i)) : va_E) = Sum.inl (G.2.2.1 t, len, .inl (f i))
      rw [hf2 i hi]
    · show (Sum.inl (G.2.2.1 t, len, .inl (f' n)) : va_E) = _
      rw [hf1]
  have k2 := kk (fz_ga G k n q) hx1 p e s m args below meth c H1 locs la (fz_C_ex hxx hC) hR1 hS1 (by rw [fz_ls_ex hxx hnl]; exact hl)
  have e3 : (zR k n :: st).map (fz_v (fz_ga G k n q)) = Value.ref q :: st.map (fz_v G) := by
    rw [List.map_cons, fz_vs_ex hxx hns]
    congr 1
    show Value.ref (if k = k ∧ n = n then q else _) = _
    rw [if_pos ⟨rfl, rfl⟩]
  rw [e3] at k2
  exact k2
theorem fz_newl {k n t len : Nat} {x : Int32} {atype : ArrayType} {f : Nat → Nat → Int64} (f' : Nat → Nat → Int64) (hd : decode M.2.1 pc = .ok (.newarray atype, 2)) (ht : fz_tyL[t]? = some (newarray.typeOf atype)) (harr : Cond.arrayClass (newarray.typeOf atype) ∈ fz_tb) (hdv : defaultValue (newarray.typeOf atype) = .long 0) (hx : fz_ex K G0 G) (hK : K k n = true) (hn0 : fz_nE K E0) (hnV : fz_nW (fz_k1 k n) V) (hnl : ls.all (fun q => fz_nv (fz_k1 k n) q.2) = true) (hns : st.all (fz_nv (fz_k1 k n)) = true) (hV : fz_lk V k = some (zl t n len f)) (hf1 : f' n = fun _ => 0) (hf2 : ∀ i, i < n → f' i = f i) (hx0 : ¬ x < 0) (hlen : x.toNatClampNeg = len) (hby : len * componentBytes (newarray.typeOf atype) ≤ 536870912) (hc : cs + 1 ≤ R.cells) (hs : sl + len ≤ R.slots)
    (kk : ∀ G', fz_ex K G0 G' → fz_J G' M R Z E0 (cs + 1) (sl + len) (pc + 2) ls (zR k n :: st) (fz_st V k (zl t (n + 1) len f'))) : fz_J G M R Z E0 cs sl pc ls (zI x :: st) V := by
  intro p e s m args below meth c H locs la hC hR hS hl
  have htt := hC.2.2.2.2.2.1
  obtain ⟨L, g, hP, hD, hE, hJ⟩ := hR
  refine va_newa (D := G.2.1) (ws := va_pl L g) (a0 := (len, .inr (.inl (fun _ => 0)))) hC.1 hC.2.1 (htt _ harr) rfl hC.2.2.2.2.2.2.2.2.1 hP hD hS (fun q hq => Nat.le_trans hC.2.2.2.2.2.2.2.2.2.2 hq) (fun cA => by show arrV cA len (fun _ => Value.long 0) = _; rw [hdv]) hx0 hlen hby hc hs hd (fun q cA H1 hK1 hP1 hD1 hS1 => ?_)
  have ecA := fz_cA hC.2.2.2.2.2.2.2.2.1 ht hK1
  subst ecA
  have hfr : q ∉ L := va_pl_fresh2 (X := []) hD1
  have hxx := fz_ga_ex G k n q
  have hx1 : fz_ex K G0 (fz_ga G k n q) := fz_ex_tr hx hxx (fun _ _ h => h) (fz_k1_le hK)
  have hR1 : fz_R (fz_ga G k n q) (fz_d (fz_st V k (zl t (n + 1) len f')) E0) H1 := by
    refine fz_R_new hV rfl rfl (fun i hi => ?_) ?_ (fz_nE_d (fun j => fz_nm_le (fz_k1_le hK) (hn0 j)) hnV) hE hJ hfr hP1 hD1
    · show (Sum.inl (G.2.2.1 t, len, .inr (.inl (f' i))) : va_E) = Sum.inl (G.2.2.1 t, len, .inr (.inl (f i)))
      rw [hf2 i hi]
    · show (Sum.inl (G.2.2.1 t, len, .inr (.inl (f' n))) : va_E) = _
      rw [hf1]
  have k2 := kk (fz_ga G k n q) hx1 p e s m args below meth c H1 locs la (fz_C_ex hxx hC) hR1 hS1 (by rw [fz_ls_ex hxx hnl]; exact hl)
  have e3 : (zR k n :: st).map (fz_v (fz_ga G k n q)) = Value.ref q :: st.map (fz_v G) := by
    rw [List.map_cons, fz_vs_ex hxx hns]
    congr 1
    show Value.ref (if k = k ∧ n = n then q else _) = _
    rw [if_pos ⟨rfl, rfl⟩]
  rw [e3] at k2
  exact k2
theorem fz_newq {k n t len idx : Nat} {x : Int32} {C : String} {f : Nat → Nat → Option (Nat × Nat)} (f' : Nat → Nat → Option (Nat × Nat)) (hd : decode M.2.1 pc = .ok (.anewarray idx, 3)) (ht : fz_tyL[t]? = some (.object C)) (hcl : Cond.classLink M.1.cls idx C ∈ fz_tb) (hao : Cond.arrayOver (.object C) ∈ fz_nest) (hx : fz_ex K G0 G) (hK : K k n = true) (hn0 : fz_nE K E0) (hnV : fz_nW (fz_k1 k n) V) (hnl : ls.all (fun q => fz_nv (fz_k1 k n) q.2) = true) (hns : st.all (fz_nv (fz_k1 k n)) = true) (hV : fz_lk V k = some (zq t n len f)) (hf1 : f' n = fun _ => none) (hf2 : ∀ i, i < n → f' i = f i) (hx0 : ¬ x < 0) (hlen : x.toNatClampNeg = len) (hby : len * 4 ≤ 536870912) (hc : cs + 1 ≤ R.cells) (hs : sl + len ≤ R.slots)
    (kk : ∀ G', fz_ex K G0 G' → fz_J G' M R Z E0 (cs + 1) (sl + len) (pc + 3) ls (zR k n :: st) (fz_st V k (zq t (n + 1) len f'))) : fz_J G M R Z E0 cs sl pc ls (zI x :: st) V := by
  intro p e s m args below meth c H locs la hC hR hS hl
  have htt := hC.2.2.2.2.2.1
  obtain ⟨L, g, hP, hD, hE, hJ⟩ := hR
  refine va_newq (D := G.2.1) (ws := va_pl L g) hC.1 hC.2.1 hC.2.2.2.2.1 (htt _ hcl) (hC.2.2.2.2.2.2.2.2.2.1 _ hao) hC.2.2.2.2.2.2.2.2.1 hP hD hS (fun q hq => Nat.le_trans hC.2.2.2.2.2.2.2.2.2.2 hq) hx0 hlen hby hc hs hd (fun q cA H1 hK1 hP1 hD1 hS1 => ?_)
  have ecA := fz_cA hC.2.2.2.2.2.2.2.2.1 ht hK1
  subst ecA
  have hfr : q ∉ L := va_pl_fresh2 (X := []) hD1
  have hxx := fz_ga_ex G k n q
  have hx1 : fz_ex K G0 (fz_ga G k n q) := fz_ex_tr hx hxx (fun _ _ h => h) (fz_k1_le hK)
  have hR1 : fz_R (fz_ga G k n q) (fz_d (fz_st V k (zq t (n + 1) len f')) E0) H1 := by
    refine fz_R_new hV rfl rfl (fun i hi => ?_) ?_ (fz_nE_d (fun j => fz_nm_le (fz_k1_le hK) (hn0 j)) hnV) hE hJ hfr hP1 hD1
    · show (Sum.inl (G.2.2.1 t, len, .inr (.inr (.inr (.inr (fun j => (f' i j).map _))))) : va_E) = Sum.inl (G.2.2.1 t, len, .inr (.inr (.inr (.inr (fun j => (f i j).map _)))))
      rw [hf2 i hi]
    · show (Sum.inl (G.2.2.1 t, len, .inr (.inr (.inr (.inr (fun j => (f' n j).map _))))) : va_E) = _
      rw [hf1]
      rfl
  have k2 := kk (fz_ga G k n q) hx1 p e s m args below meth c H1 locs la (fz_C_ex hxx hC) hR1 hS1 (by rw [fz_ls_ex hxx hnl]; exact hl)
  have e3 : (zR k n :: st).map (fz_v (fz_ga G k n q)) = Value.ref q :: st.map (fz_v G) := by
    rw [List.map_cons, fz_vs_ex hxx hns]
    congr 1
    show Value.ref (if k = k ∧ n = n then q else _) = _
    rw [if_pos ⟨rfl, rfl⟩]
  rw [e3] at k2
  exact k2
theorem fz_aast {t n len k0 i0 k1 i1 ci n1 : Nat} {f : Nat → Nat → Option (Nat × Nat)} {F1 : Nat → List fz_V} {j : Int32} {C : String} (f' : Nat → Nat → Option (Nat × Nat)) (hd : decode M.2.1 pc = .ok (.aastore, 1)) (ht : fz_tyL[t]? = some (.object C)) (hcl : (classes[ci]?).map (fun q => q.1) = some C) (hV : fz_lk V k0 = some (zq t n len f)) (hi : i0 < n) (hV1 : fz_lk V k1 = some (zo ci n1 F1)) (hi1 : i1 < n1) (hj : vp_in j len) (h1 : f' i0 = va_up (f i0) j.toNatClampNeg (some (k1, i1))) (h2 : ∀ i', i' < n → i' ≠ i0 → f' i' = f i') (k : fz_J G M R Z E0 cs sl (pc + 1) ls st (fz_st V k0 (zq t n len f'))) : fz_J G M R Z E0 cs sl pc ls (zR k1 i1 :: zI j :: zR k0 i0 :: st) V := by
  intro p e s m args below meth c H locs la hC hR hS hl
  obtain ⟨L, g, q0, hP, hD, hE, hJ, hq0, hset⟩ := fz_at hR hV (show i0 < fz_n (zq t n len f) from hi)
  have hk : fz_d V E0 k1 = zo ci n1 F1 := fz_d_lk hV1
  obtain ⟨g1, g2⟩ := hE k1 i1 (by rw [hk]; exact hi1)
  obtain ⟨qk, hqk⟩ := va_pl_get (X := []) (f := g) g1
  rw [g2, hk] at hqk
  obtain ⟨r, hr1, hr2⟩ := Option.map_eq_some_iff.mp hcl
  have e1 : fz_c G (zq t n len f') i0 = .inl (G.2.2.1 t, len, .inr (.inr (.inr (.inr (va_up (fun j => (f i0 j).map (fun q => G.2.2.2.2 q.1 q.2)) j.toNatClampNeg (some (G.2.2.2.2 k1 i1))))))) := by
    have e2 : (fun j' => (f' i0 j').map (fun q => G.2.2.2.2 q.1 q.2)) = va_up (fun j => (f i0 j).map (fun q => G.2.2.2.2 q.1 q.2)) j.toNatClampNeg (some (G.2.2.2.2 k1 i1)) := by
      funext j'
      rw [h1]
      unfold va_up
      by_cases z : j' = j.toNatClampNeg
      · rw [if_pos z, if_pos z]; rfl
      · rw [if_neg z, if_neg z]
    rw [← e2]; rfl
  have ht2 : fz_tyL[t]? = some (.object r.1) := by rw [hr2]; exact ht
  refine va_astq (D := G.2.1) (ws := va_pl L g) (r := r) hC.1 hC.2.1 hC.2.2.2.2.2.2.2.2.1 hP hD hS q0 t qk ci hq0 (fz_ty ht2) hqk hr1 hj hd (fun H1 locs1 hP1 hD1 hS1 => ?_)
  rw [hset, ← e1] at hP1 hD1
  refine k p e s m args below meth c H1 locs1 la hC (fz_upd hV hi rfl (fun i' h3 h4 => ?_) hE hJ hP1 hD1) hS1 hl
  show (Sum.inl (G.2.2.1 t, len, .inr (.inr (.inr (.inr (fun j => (f' i' j).map _))))) : va_E) = Sum.inl (G.2.2.1 t, len, .inr (.inr (.inr (.inr (fun j => (f i' j).map _)))))
  rw [h2 i' h3 h4]
theorem fz_afterN {p : Program} {e : Env} {s : State} {m : MethodId} {args : Array Value} {below : List Frame} {meth : Method} {c : Code} {H : Heap} {locs : List Loc} {la : Array Slot} {E1 : Nat → fz_E} {K2 : Nat → Nat → Bool} {Q : fz_W → Prop} {a : Array Value} {mc ms : Nat} {st0 rest : List Value} {Qz : State → Prop} (hr : va_Run p G.1 e R s m args below meth c H locs cs sl mc ms (F0 m pc la st0) rest (fz_QN G K2 E1 Q a) (fz_A G)) (hS : va_S (fz_A G) s.heap H locs)
    (kk : ∀ (G' : fz_G) (U : fz_W) (H1 : Heap) (locs1 : List Loc), fz_ex K2 G G' → Q U → fz_R G' (fz_d U E1) H1 → va_S (fz_A G) s.heap H1 locs1 → W p G.1 e R s m args below meth c H1 locs1 (cs + mc) (sl + ms) Qz (F0 m (pc + 3) la rest)) : W p G.1 e R s m args below meth c H locs cs sl Qz (F0 m pc la st0) := by
  intro T hT X
  obtain ⟨v, st₀, t, T', L, h0, X', hL, e1, e2, ⟨⟨G', U, hx, hv, hq, hRU⟩, hz, hk⟩, stp⟩ := hr T hT X
  cases hv
  rw [h0] at hz hk
  obtain ⟨t2, a1, b1⟩ := kk G' U T'.heap (locs ++ L) hx hq (by rw [e1]; exact hRU)
    ⟨Nat.le_trans hS.1 (by rw [e1]; exact hz), fun q h1 h2 => by rw [e1, hk q (Nat.lt_of_lt_of_le h1 hS.1) h2]; exact hS.2.1 q h1 h2, fun q hq => by
      rcases List.mem_append.mp hq with h | h
      · exact hS.2.2 q h
      · exact hL q h⟩ T' rfl X'
  exact ⟨t2, stp t2 a1, b1⟩
theorem fz_callN {M' : fz_M} {R' : Room} {K2 : Nat → Nat → Bool} {as : List fz_V} {V' : fz_W} {Q' : fz_W → Prop} {k0 i0 idx : Nat} {stk : List fz_V} (hT : fz_TN G K2 M' R' (zR k0 i0 :: as) V' Q') (hd : decode M.2.1 pc = .ok (.invokespecial idx, 3)) (hw : fz_cI M.1.cls idx M' as.length) (hx : fz_ex K G0 G) (hKK : fz_le K2 K) (hn0 : fz_nE K E0) (hnV : fz_nW K2 V) (hnl : ls.all (fun q => fz_nv K2 q.2) = true) (hns : st.all (fz_nv K2) = true) (hsub : fz_sub V' V) (hfr : R'.frames + 1 ≤ R.frames) (hlo : 8 + (M'.2.2.1 + 11) + R'.locals ≤ R.locals) (hc : cs + R'.cells ≤ R.cells) (hs : sl + R'.slots ≤ R.slots) (hst : fz_wd st ≤ 8) (hk : stk = as.reverse ++ zR k0 i0 :: st)
    (k : ∀ G' U, fz_ex K G0 G' → Q' U → fz_J G' M R Z E0 (cs + R'.cells) (sl + R'.slots) (pc + 3) ls st (U ++ V)) : fz_J G M R Z E0 cs sl pc ls stk V := by
  subst hk
  intro p e s m args below meth c H locs la hC hR hS hl
  obtain ⟨w1, w2, w3, w4⟩ := hw
  have ht := hC.2.2.2.2.2.1
  have hg : GoodIn fz_tb (fz_ws M') := fz_good (fun w hw => by
    simp only [fz_ws, List.mem_cons] at hw
    rcases hw with rfl | hw
    · rw [w4]; exact w1 _ (by simp)
    · exact hw)
  have hst2 : (as.reverse ++ zR k0 i0 :: st).map (fz_v G) = (as.map (fz_v G)).reverse ++ Value.ref (G.2.2.2.2 k0 i0) :: st.map (fz_v G) := by
    rw [List.map_append, List.map_reverse]; rfl
  rw [hst2]
  refine fz_afterN (va_runI (cc := M.2.1) (nL := M.2.2.1) (Ts := fz_tb) (own := M.1.cls) (bytes := M'.2.1) (maxL := M'.2.2.1) (As := as.map (fz_v G)) (rest := st.map (fz_v G)) ⟨hC.1, hC.2.1, hC.2.2.2.1, hC.2.2.2.2.1, hC.2.2.2.2.2.1⟩ (hT (fz_d V E0) (fz_nE_d (fun j => fz_nm_le hKK (hn0 j)) hnV)) ⟨callB_of (ws' := fz_tb) as.length ht hg (by rw [fz_ws, w4]) rfl rfl (ht _ (w1 _ (by simp))) (ht _ (w1 _ (by simp))) w2 ⟨hfr, hlo⟩, w3, ht _ (w1 _ (by simp))⟩ ⟨fz_blind, fz_pre (as := zR k0 i0 :: as) hC hR hS hsub⟩ rfl (List.length_map ..) hl.1 rfl (lv_room (by rw [fz_wd_sum]; exact hst)) hd ⟨hc, hs⟩) hS (fun G' U H1 locs1 hx2 hq hR1 hS1 => ?_)
  have k2 := k G' U (fz_ex_tr hx hx2 (fun _ _ h => h) hKK) hq p e s m args below meth c H1 locs1 la (fz_C_ex hx2 hC) (by rw [fz_d_app]; exact hR1) (by rw [fz_A_ex hx2]; exact hS1) (by rw [fz_ls_ex hx2 hnl]; exact hl)
  rw [fz_vs_ex hx2 hns] at k2
  obtain ⟨ad, rfl, -⟩ := hx2
  exact k2
theorem fz_callNN {M' : fz_M} {R' : Room} {K2 : Nat → Nat → Bool} {as : List fz_V} {V' : fz_W} {Q' : fz_W → Prop} {k0 i0 idx : Nat} {host : String} {stk : List fz_V} (hT : fz_TN G K2 M' R' (zR k0 i0 :: as) V' Q') (hd : decode M.2.1 pc = .ok (.invokespecial idx, 3)) (hw : fz_cIN M.1.cls idx host M' as.length) (hx : fz_ex K G0 G) (hKK : fz_le K2 K) (hn0 : fz_nE K E0) (hnV : fz_nW K2 V) (hnl : ls.all (fun q => fz_nv K2 q.2) = true) (hns : st.all (fz_nv K2) = true) (hsub : fz_sub V' V) (hfr : R'.frames + 1 ≤ R.frames) (hlo : 8 + (M'.2.2.1 + 11) + R'.locals ≤ R.locals) (hc : cs + R'.cells ≤ R.cells) (hs : sl + R'.slots ≤ R.slots) (hst : fz_wd st ≤ 8) (hk : stk = as.reverse ++ zR k0 i0 :: st)
    (k : ∀ G' U, fz_ex K G0 G' → Q' U → fz_J G' M R Z E0 (cs + R'.cells) (sl + R'.slots) (pc + 3) ls st (U ++ V)) : fz_J G M R Z E0 cs sl pc ls stk V := by
  subst hk
  intro p e s m args below meth c H locs la hC hR hS hl
  obtain ⟨w1, wn, w2, w3, w4⟩ := hw
  have ht := hC.2.2.2.2.2.1
  have hg : GoodIn fz_tb (fz_ws M') := fz_good (fun w hw => by
    simp only [fz_ws, List.mem_cons] at hw
    rcases hw with rfl | hw
    · rw [w4]; exact w1 _ (by simp)
    · exact hw)
  have hst2 : (as.reverse ++ zR k0 i0 :: st).map (fz_v G) = (as.map (fz_v G)).reverse ++ Value.ref (G.2.2.2.2 k0 i0) :: st.map (fz_v G) := by
    rw [List.map_append, List.map_reverse]; rfl
  rw [hst2]
  refine fz_afterN (va_runIN (cc := M.2.1) (nL := M.2.2.1) (Ts := fz_tb) (own := M.1.cls) (host := host) (bytes := M'.2.1) (maxL := M'.2.2.1) (As := as.map (fz_v G)) (rest := st.map (fz_v G)) ⟨hC.1, hC.2.1, hC.2.2.2.1, hC.2.2.2.2.1, hC.2.2.2.2.2.1⟩ (hT (fz_d V E0) (fz_nE_d (fun j => fz_nm_le hKK (hn0 j)) hnV)) ⟨va_cnB (ws' := fz_tb) as.length ht hg (by rw [fz_ws, w4]) rfl rfl (hC.2.2.2.2.2.2.2.2.2.1 _ wn) (ht _ (w1 _ (by simp))) w2 ⟨hfr, hlo⟩, w3, ht _ (w1 _ (by simp))⟩ ⟨fz_blind, fz_pre (as := zR k0 i0 :: as) hC hR hS hsub⟩ rfl (List.length_map ..) hl.1 rfl (lv_room (by rw [fz_wd_sum]; exact hst)) hd ⟨hc, hs⟩) hS (fun G' U H1 locs1 hx2 hq hR1 hS1 => ?_)
  have k2 := k G' U (fz_ex_tr hx hx2 (fun _ _ h => h) hKK) hq p e s m args below meth c H1 locs1 la (fz_C_ex hx2 hC) (by rw [fz_d_app]; exact hR1) (by rw [fz_A_ex hx2]; exact hS1) (by rw [fz_ls_ex hx2 hnl]; exact hl)
  rw [fz_vs_ex hx2 hns] at k2
  obtain ⟨ad, rfl, -⟩ := hx2
  exact k2
end FZN
