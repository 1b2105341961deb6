/-! CALLS: a contract of the callee (fz_T), over a part of the caller's world -/
theorem fz_d_app {E : Nat → fz_E} {V : fz_W} : ∀ {U : fz_W}, fz_d (U ++ V) E = fz_d U (fz_d V E)
  | [] => rfl
  | q :: U => by
    funext j
    show (if j = q.1 then q.2 else fz_d (U ++ V) E j) = (if j = q.1 then q.2 else fz_d U (fz_d V E) j)
    rw [fz_d_app]
theorem fz_nest_warm {s U : State} (hW : s.WarmedH U.vm) (h : fz_Nw s) : fz_Nw U := by
  intro w hw
  rcases fz_nest_ok w hw with ⟨a, i, x, z, rfl⟩ | ⟨a, i, b, n, d, z, rfl⟩ | ⟨C, rfl⟩
  · exact va_Nw.warmM hW (h _ hw)
  · exact va_Nw.warmF hW (h _ hw)
  · exact va_AO.moved hW.alike (h _ hw)
theorem fz_blind {G : fz_G} {E1 : Nat → fz_E} {as : List fz_V} {V : fz_W} : FrameBlind (fz_Pc G E1 as V) := by
  intro a U g mk q
  obtain ⟨q0, q1, q2, q3, q4⟩ := q
  refine ⟨q0, q1, va_K.moved (u := U) (U := U.calling g mk a) (Vm.Alike.refl U.vm) q2, fun w hw => ?_, q4⟩
  rcases fz_nest_ok w hw with ⟨a1, i1, x1, z1, rfl⟩ | ⟨a1, i1, b1, n1, d1, z1, rfl⟩ | ⟨C, rfl⟩
  · exact va_Nw.same rfl (show U.vm = (U.calling g mk a).vm from rfl) (q3 _ hw)
  · exact va_Nw.same rfl (show U.vm = (U.calling g mk a).vm from rfl) (q3 _ hw)
  · exact va_AO.moved (u := U) (U := U.calling g mk a) (Vm.Alike.refl U.vm) (q3 _ hw)
theorem fz_pre {G : fz_G} {M : fz_M} {p : Program} {s : State} {m : MethodId} {args : Array Value} {meth : Method} {c : Code} {H : Heap} {locs : List Loc} {E0 : Nat → fz_E} {V V' : fz_W} {as : List fz_V} (hC : fz_C G M p s m args meth c) (hR : fz_R G (fz_d V E0) H) (hS : va_S (fz_A G) s.heap H locs) (hsub : fz_sub V' V) : ∀ U : State, U.heap = H → s.WarmedH U.vm → fz_Pc G (fz_d V E0) as V' (as.map (fz_v G)).toArray U := by
  intro U hU hW
  refine ⟨rfl, ?_, va_K.moved hW.alike hC.2.2.2.2.2.2.2.2.1, fz_nest_warm hW hC.2.2.2.2.2.2.2.2.2.1, ?_⟩
  · rw [hU, fz_d_sub hsub]; exact hR
  · rw [hU]; exact Nat.le_trans hC.2.2.2.2.2.2.2.2.2.2 hS.1
theorem fz_good {ws : List Cond} (h : ∀ w ∈ ws, w ∈ fz_tb) : GoodIn fz_tb ws := fun w hw => ⟨h w hw, fz_tbl_good w (h w hw)⟩
section FZC
variable {G : fz_G} {M : fz_M} {R : Room} {Z : List Frame → Array Value → State → State → Prop} {E0 : Nat → fz_E} {cs sl pc : Nat} {ls : List (Nat × fz_V)} {st : List fz_V} {V : fz_W}
/-- behind a call: the callee's entries at their places -/
theorem fz_back {U : fz_W} (h : fz_in U V = true) (k : fz_J G M R Z E0 cs sl pc ls st (fz_mg U V)) : fz_J G M R Z E0 cs sl pc ls st (U ++ V) := by
  intro p e s m args below meth c H locs la hC hR hS hl
  refine k p e s m args below meth c H locs la hC ?_ hS hl
  rw [fz_d_app, fz_d_mg h] at hR
  exact hR
theorem fz_after {p : Program} {e : Env} {s : State} {m : MethodId} {args : Array Value} {below : List Frame} {meth : Method} {c : Code} {H : Heap} {locs : List Loc} {la : Array Slot} {E1 : Nat → fz_E} {Q : Option fz_V → fz_W → Prop} {a : Array Value} {mc ms : Nat} {st0 rest : List Value} {Qz : State → Prop} (hr : va_Run p G.1 e R s m args below meth c H locs cs sl mc ms (F0 m pc la st0) rest (fz_Qc G E1 Q a) (fz_A G)) (hS : va_S (fz_A G) s.heap H locs)
    (kk : ∀ (r : Option fz_V) (U : fz_W) (H1 : Heap) (locs1 : List Loc), Q r U → fz_R G (fz_d U E1) H1 → va_S (fz_A G) s.heap H1 locs1 → W p G.1 e R s m args below meth c H1 locs1 (cs + mc) (sl + ms) Qz (F0 m (pc + 3) la ((r.map (fz_v G)).toList ++ rest))) : W p G.1 e R s m args below meth c H locs cs sl Qz (F0 m pc la st0) := by
  intro T hT X
  obtain ⟨v, st₀, t, T', L, h0, X', hL, e1, e2, ⟨⟨r, U, hv, hq, hRU⟩, hz, hk⟩, stp⟩ := hr T hT X
  cases hv
  rw [h0] at hz hk
  obtain ⟨t2, a1, b1⟩ := kk r U T'.heap (locs ++ L) hq (by rw [e1]; exact hRU)
    ⟨Nat.le_trans hS.1 (by rw [e1]; exact hz), fun q h1 h2 => by rw [e1, hk q (Nat.lt_of_lt_of_le h1 hS.1) h2]; exact hS.2.1 q h1 h2, fun q hq => by
      rcases List.mem_append.mp hq with h | h
      · exact hS.2.2 q h
      · exact hL q h⟩ T' rfl X'
  exact ⟨t2, stp t2 a1, b1⟩
theorem fz_lst (r : Option fz_V) (st : List fz_V) : (r.map (fz_v G)).toList ++ st.map (fz_v G) = (r.toList ++ st).map (fz_v G) := by
  cases r <;> rfl
/-- what a virtual call of M' spelt at idx in class own wants of the tables; the receiver is an object of class number ci -/
def fz_cV (own : String) (idx : Nat) (M' : fz_M) (na ci : Nat) : Prop := (∀ w ∈ ([.methodLink own idx M'.1, .instanceMethod M'.1, .selects M'.1.cls M'.1 M'.1, .initialized M'.1.cls, .code M'.1 M'.2.1 M'.2.2.1 M'.2.2.2] : List Cond), w ∈ fz_tb) ∧ (M'.1.cls ≠ "java/lang/invoke/MethodHandle" ∧ M'.1.cls ≠ "java/lang/invoke/VarHandle" ∧ (parseMethodDescriptor M'.1.desc).map (fun d => d.parameters.length) = some na) ∧ (classes[ci]?).map (fun q => q.1) = some M'.1.cls
theorem fz_callV {M' : fz_M} {R' : Room} {as : List fz_V} {V' : fz_W} {Q' : Option fz_V → fz_W → Prop} {k0 i0 ci n idx : Nat} {F : Nat → List fz_V} {stk : List fz_V} (hT : fz_T G M' R' (zR k0 i0 :: as) V' Q') (hd : decode M.2.1 pc = .ok (.invokevirtual idx, 3)) (hw : fz_cV M.1.cls idx M' as.length ci) (hV : fz_lk V k0 = some (zo ci n F)) (hi : i0 < n) (hsub : fz_sub V' V) (hfr : R'.frames + 1 ≤ R.frames) (hlo : 8 + (M'.2.2.1 + 11) + R'.locals ≤ R.locals) (hc : cs + R'.cells ≤ R.cells) (hs : sl + R'.slots ≤ R.slots) (hst : fz_wd st ≤ 8) (hk : stk = as.reverse ++ zR k0 i0 :: st)
    (k : ∀ r U, Q' r U → fz_J G M R Z E0 (cs + R'.cells) (sl + R'.slots) (pc + 3) ls (r.toList ++ st) (U ++ V)) : fz_J G M R Z E0 cs sl pc ls stk V := by
  subst hk
  intro p e s m args below meth c H locs la hC hR hS hl
  obtain ⟨w1, w2, w3⟩ := hw
  obtain ⟨L, f, q0, hP, hD, hE, hJ, hq0, hset⟩ := fz_at hR hV (show i0 < fz_n (zo ci n F) from hi)
  obtain ⟨q, hq1, hq2⟩ := Option.map_eq_some_iff.mp w3
  have hg : GoodIn fz_tb (wsV M.1.cls idx M'.1.cls M'.1 (fz_ws M')) := fz_good (fun w hw => by
    simp only [wsV, fz_ws, List.mem_append, List.mem_cons, List.not_mem_nil, or_false] at hw
    rcases hw with (rfl | rfl | rfl | rfl) | rfl | hw
    · exact w1 _ (by simp)
    · exact w1 _ (by simp)
    · exact w1 _ (by simp)
    · exact w1 _ (by simp)
    · exact w1 _ (by simp)
    · exact hw)
  have hst2 : (as.reverse ++ zR k0 i0 :: st).map (fz_v G) = (as.map (fz_v G)).reverse ++ Value.ref (G.2.2.2.2 k0 i0) :: st.map (fz_v G) := by
    rw [List.map_append, List.map_reverse]; rfl
  rw [hst2]
  refine fz_after (va_runV (cc := M.2.1) (nL := M.2.2.1) (Ts := fz_tb) (own := M.1.cls) (C := M'.1.cls) (bytes := M'.2.1) (maxL := M'.2.2.1) (ret := M'.2.2.2) (As := as.map (fz_v G)) (rest := st.map (fz_v G)) ⟨hC.1, hC.2.1, hC.2.2.2.1, hC.2.2.2.2.1, hC.2.2.2.2.2.1⟩ (hT (fz_d V E0)) (cwV as.length hC.2.2.2.2.2.1 hg rfl rfl rfl ⟨rfl, w2⟩ ⟨hfr, hlo⟩) ⟨fz_blind, ?_, fz_pre (as := zR k0 i0 :: as) hC hR hS hsub⟩ rfl (List.length_map ..) hl.1 rfl (lv_room (by rw [fz_wd_sum]; exact hst)) hd ⟨hc, hs⟩) hS (fun r U H1 locs1 hq hR1 hS1 => ?_)
  · have hrec := va_recv (ws := va_pl L f) hC.2.2.2.2.2.2.2.2.1 hP hq1 hq0
    rw [hq2] at hrec
    exact hrec
  · rw [fz_lst]
    exact k r U hq p e s m args below meth c H1 locs1 la hC (by rw [fz_d_app]; exact hR1) hS1 hl
def fz_cS (own : String) (idx : Nat) (M' : fz_M) (na : Nat) : Prop := (∀ w ∈ ([.methodLink own idx M'.1, .static M'.1, .initialized M'.1.cls, .code M'.1 M'.2.1 M'.2.2.1 M'.2.2.2] : List Cond), w ∈ fz_tb) ∧ (M'.1.cls ≠ "java/lang/invoke/MethodHandle" ∧ M'.1.cls ≠ "java/lang/invoke/VarHandle" ∧ (parseMethodDescriptor M'.1.desc).map (fun d => d.parameters.length) = some na)
theorem fz_callS {M' : fz_M} {R' : Room} {as : List fz_V} {V' : fz_W} {Q' : Option fz_V → fz_W → Prop} {idx : Nat} {stk : List fz_V} (hT : fz_T G M' R' as V' Q') (hd : decode M.2.1 pc = .ok (.invokestatic idx, 3)) (hw : fz_cS M.1.cls idx M' as.length) (hsub : fz_sub V' V) (hfr : R'.frames + 1 ≤ R.frames) (hlo : 8 + (M'.2.2.1 + 11) + R'.locals ≤ R.locals) (hc : cs + R'.cells ≤ R.cells) (hs : sl + R'.slots ≤ R.slots) (hst : fz_wd st ≤ 8) (hk : stk = as.reverse ++ st)
    (k : ∀ r U, Q' r U → fz_J G M R Z E0 (cs + R'.cells) (sl + R'.slots) (pc + 3) ls (r.toList ++ st) (U ++ V)) : fz_J G M R Z E0 cs sl pc ls stk V := by
  subst hk
  intro p e s m args below meth c H locs la hC hR hS hl
  obtain ⟨w1, w2⟩ := hw
  have hg : GoodIn fz_tb (fz_ws M') := fz_good (fun w hw => by
    simp only [fz_ws, List.mem_cons] at hw
    rcases hw with rfl | hw
    · exact w1 _ (by simp)
    · exact hw)
  have ht := hC.2.2.2.2.2.1
  have hst2 : (as.reverse ++ st).map (fz_v G) = (as.map (fz_v G)).reverse ++ st.map (fz_v G) := by
    rw [List.map_append, List.map_reverse]
  rw [hst2]
  refine fz_after (va_runS (cc := M.2.1) (nL := M.2.2.1) (Ts := fz_tb) (own := M.1.cls) (bytes := M'.2.1) (maxL := M'.2.2.1) (ret := M'.2.2.2) (As := as.map (fz_v G)) (rest := st.map (fz_v G)) ⟨hC.1, hC.2.1, hC.2.2.2.1, hC.2.2.2.2.1, hC.2.2.2.2.2.1⟩ (hT (fz_d V E0)) ⟨callB_of (ws' := fz_tb) as.length ht hg rfl rfl rfl (ht _ (w1 _ (by simp))) (ht _ (w1 _ (by simp))) w2 ⟨hfr, hlo⟩, ht _ (w1 _ (by simp))⟩ ⟨fz_blind, fz_pre (as := as) hC hR hS hsub⟩ rfl (List.length_map ..) hl.1 rfl (lv_room (by rw [fz_wd_sum]; exact hst)) hd ⟨hc, hs⟩) hS (fun r U H1 locs1 hq hR1 hS1 => ?_)
  rw [fz_lst]
  exact k r U hq p e s m args below meth c H1 locs1 la hC (by rw [fz_d_app]; exact hR1) hS1 hl
def fz_cI (own : String) (idx : Nat) (M' : fz_M) (na : Nat) : Prop := (∀ w ∈ ([.methodLink own idx M'.1, .instanceMethod M'.1, .initialized M'.1.cls, .code M'.1 M'.2.1 M'.2.2.1 none] : List Cond), w ∈ fz_tb) ∧ (M'.1.cls ≠ "java/lang/invoke/MethodHandle" ∧ M'.1.cls ≠ "java/lang/invoke/VarHandle" ∧ (parseMethodDescriptor M'.1.desc).map (fun d => d.parameters.length) = some na) ∧ M'.1.name = "<init>" ∧ M'.2.2.2 = none
theorem fz_callI {M' : fz_M} {R' : Room} {as : List fz_V} {V' : fz_W} {Q' : Option fz_V → fz_W → Prop} {k0 i0 idx : Nat} {stk : List fz_V} (hT : fz_T G M' R' (zR k0 i0 :: as) V' Q') (hd : decode M.2.1 pc = .ok (.invokespecial idx, 3)) (hw : fz_cI M.1.cls idx M' as.length) (hsub : fz_sub V' V) (hfr : R'.frames + 1 ≤ R.frames) (hlo : 8 + (M'.2.2.1 + 11) + R'.locals ≤ R.locals) (hc : cs + R'.cells ≤ R.cells) (hs : sl + R'.slots ≤ R.slots) (hst : fz_wd st ≤ 8) (hk : stk = as.reverse ++ zR k0 i0 :: st)
    (k : ∀ r U, Q' r U → fz_J G M R Z E0 (cs + R'.cells) (sl + R'.slots) (pc + 3) ls (r.toList ++ st) (U ++ V)) : fz_J G M R Z E0 cs sl pc ls stk V := by
  subst hk
  intro p e s m args below meth c H locs la hC hR hS hl
  obtain ⟨w1, w2, w3, w4⟩ := hw
  have ht := hC.2.2.2.2.2.1
  have hg : GoodIn fz_tb (fz_ws M') := fz_good (fun w hw => by
    simp only [fz_ws, List.mem_cons] at hw
    rcases hw with rfl | hw
    · rw [w4]; exact w1 _ (by simp)
    · exact hw)
  have hst2 : (as.reverse ++ zR k0 i0 :: st).map (fz_v G) = (as.map (fz_v G)).reverse ++ Value.ref (G.2.2.2.2 k0 i0) :: st.map (fz_v G) := by
    rw [List.map_append, List.map_reverse]; rfl
  rw [hst2]
  refine fz_after (va_runI (cc := M.2.1) (nL := M.2.2.1) (Ts := fz_tb) (own := M.1.cls) (bytes := M'.2.1) (maxL := M'.2.2.1) (As := as.map (fz_v G)) (rest := st.map (fz_v G)) ⟨hC.1, hC.2.1, hC.2.2.2.1, hC.2.2.2.2.1, hC.2.2.2.2.2.1⟩ (hT (fz_d V E0)) ⟨callB_of (ws' := fz_tb) as.length ht hg (by rw [fz_ws, w4]) rfl rfl (ht _ (w1 _ (by simp))) (ht _ (w1 _ (by simp))) w2 ⟨hfr, hlo⟩, w3, ht _ (w1 _ (by simp))⟩ ⟨fz_blind, fz_pre (as := zR k0 i0 :: as) hC hR hS hsub⟩ rfl (List.length_map ..) hl.1 rfl (lv_room (by rw [fz_wd_sum]; exact hst)) hd ⟨hc, hs⟩) hS (fun r U H1 locs1 hq hR1 hS1 => ?_)
  rw [fz_lst]
  exact k r U hq p e s m args below meth c H1 locs1 la hC (by rw [fz_d_app]; exact hR1) hS1 hl
def fz_cIN (own : String) (idx : Nat) (host : String) (M' : fz_M) (na : Nat) : Prop := (∀ w ∈ ([.instanceMethod M'.1, .initialized M'.1.cls, .code M'.1 M'.2.1 M'.2.2.1 none] : List Cond), w ∈ fz_tb) ∧ Cond.methodLinkNest own idx M'.1 host ∈ fz_nest ∧ (M'.1.cls ≠ "java/lang/invoke/MethodHandle" ∧ M'.1.cls ≠ "java/lang/invoke/VarHandle" ∧ (parseMethodDescriptor M'.1.desc).map (fun d => d.parameters.length) = some na) ∧ M'.1.name = "<init>" ∧ M'.2.2.2 = none
theorem fz_callIN {M' : fz_M} {R' : Room} {as : List fz_V} {V' : fz_W} {Q' : Option fz_V → fz_W → Prop} {k0 i0 idx : Nat} {host : String} {stk : List fz_V} (hT : fz_T G M' R' (zR k0 i0 :: as) V' Q') (hd : decode M.2.1 pc = .ok (.invokespecial idx, 3)) (hw : fz_cIN M.1.cls idx host M' as.length) (hsub : fz_sub V' V) (hfr : R'.frames + 1 ≤ R.frames) (hlo : 8 + (M'.2.2.1 + 11) + R'.locals ≤ R.locals) (hc : cs + R'.cells ≤ R.cells) (hs : sl + R'.slots ≤ R.slots) (hst : fz_wd st ≤ 8) (hk : stk = as.reverse ++ zR k0 i0 :: st)
    (k : ∀ r U, Q' r U → fz_J G M R Z E0 (cs + R'.cells) (sl + R'.slots) (pc + 3) ls (r.toList ++ st) (U ++ V)) : fz_J G M R Z E0 cs sl pc ls stk V := by
  subst hk
  intro p e s m args below meth c H locs la hC hR hS hl
  obtain ⟨w1, wn, w2, w3, w4⟩ := hw
  have ht := hC.2.2.2.2.2.1
  have hg : GoodIn fz_tb (fz_ws M') := fz_good (fun w hw => by
    simp only [fz_ws, List.mem_cons] at hw
    rcases hw with rfl | hw
    · rw [w4]; exact w1 _ (by simp)
    · exact hw)
  have hst2 : (as.reverse ++ zR k0 i0 :: st).map (fz_v G) = (as.map (fz_v G)).reverse ++ Value.ref (G.2.2.2.2 k0 i0) :: st.map (fz_v G) := by
    rw [List.map_append, List.map_reverse]; rfl
  rw [hst2]
  refine fz_after (va_runIN (cc := M.2.1) (nL := M.2.2.1) (Ts := fz_tb) (own := M.1.cls) (host := host) (bytes := M'.2.1) (maxL := M'.2.2.1) (As := as.map (fz_v G)) (rest := st.map (fz_v G)) ⟨hC.1, hC.2.1, hC.2.2.2.1, hC.2.2.2.2.1, hC.2.2.2.2.2.1⟩ (hT (fz_d V E0)) ⟨va_cnB (ws' := fz_tb) as.length ht hg (by rw [fz_ws, w4]) rfl rfl (hC.2.2.2.2.2.2.2.2.2.1 _ wn) (ht _ (w1 _ (by simp))) w2 ⟨hfr, hlo⟩, w3, ht _ (w1 _ (by simp))⟩ ⟨fz_blind, fz_pre (as := zR k0 i0 :: as) hC hR hS hsub⟩ rfl (List.length_map ..) hl.1 rfl (lv_room (by rw [fz_wd_sum]; exact hst)) hd ⟨hc, hs⟩) hS (fun r U H1 locs1 hq hR1 hS1 => ?_)
  rw [fz_lst]
  exact k r U hq p e s m args below meth c H1 locs1 la hC (by rw [fz_d_app]; exact hR1) hS1 hl
theorem fz_objInit {idx k0 i0 : Nat} (hd : decode M.2.1 pc = .ok (.invokespecial idx, 3)) (hw : ∀ w ∈ ([.methodLink M.1.cls idx objectInit, .instanceMethod objectInit, .code objectInit ⟨#[0xb1]⟩ 1 none] : List Cond), w ∈ fz_tb) (hfr : 1 ≤ R.frames) (hlo : fz_wd st + 12 ≤ R.locals) (k : fz_J G M R Z E0 cs sl (pc + 3) ls st V) : fz_J G M R Z E0 cs sl pc ls (zR k0 i0 :: st) V := by
  intro p e s m args below meth c H locs la hC hR hS hl
  have ht := hC.2.2.2.2.2.1
  exact W.objInit hC.1 hC.2.1 hC.2.2.2.2.1 (ht _ (hw _ (by simp))) (ht _ (hw _ (by simp))) (ht _ (hw _ (by simp))) rfl (hl.1.trans hC.2.2.2.1.symm) rfl hd hfr (by rw [fz_wd_sum]; show 2 * 0 + _ + 12 ≤ _; omega) (k p e s m args below meth c H locs la hC hR hS hl)
theorem fz_max {idx : Nat} {x y : Int32} (hd : decode M.2.1 pc = .ok (.invokestatic idx, 3)) (hw : ∀ w ∈ ([.methodLink M.1.cls idx Lib.Math.max.name, .static Lib.Math.max.name, .initialized "java/lang/Math", .code Lib.Math.max.name Lib.Math.max.code 2 (some .int)] : List Cond), w ∈ fz_tb) (hfr : 1 ≤ R.frames) (hlo : fz_wd st + 13 ≤ R.locals) (hc : cs ≤ R.cells) (hs : sl ≤ R.slots) (k : fz_J G M R Z E0 cs sl (pc + 3) ls (zI (if x < y then y else x) :: st) V) : fz_J G M R Z E0 cs sl pc ls (zI y :: zI x :: st) V := by
  intro p e s m args below meth c H locs la hC hR hS hl
  have ht := hC.2.2.2.2.2.1
  exact va_mmax hC.1 hC.2.1 (hC.2.2.2.1.trans hl.1.symm) hC.2.2.2.2.1 (ht _ (hw _ (by simp))) (ht _ (hw _ (by simp))) (ht _ (hw _ (by simp))) (ht _ (hw _ (by simp))) hfr (by rw [fz_wd_sum]; exact hlo) hc hs hd (k p e s m args below meth c H locs la hC hR hS hl)
theorem fz_min {idx : Nat} {x y : Int32} (hd : decode M.2.1 pc = .ok (.invokestatic idx, 3)) (hw : ∀ w ∈ ([.methodLink M.1.cls idx Lib.Math.min.name, .static Lib.Math.min.name, .initialized "java/lang/Math", .code Lib.Math.min.name Lib.Math.min.code 2 (some .int)] : List Cond), w ∈ fz_tb) (hfr : 1 ≤ R.frames) (hlo : fz_wd st + 13 ≤ R.locals) (hc : cs ≤ R.cells) (hs : sl ≤ R.slots) (k : fz_J G M R Z E0 cs sl (pc + 3) ls (zI (if y < x then y else x) :: st) V) : fz_J G M R Z E0 cs sl pc ls (zI y :: zI x :: st) V := by
  intro p e s m args below meth c H locs la hC hR hS hl
  have ht := hC.2.2.2.2.2.1
  exact va_mmin hC.1 hC.2.1 (hC.2.2.2.1.trans hl.1.symm) hC.2.2.2.2.1 (ht _ (hw _ (by simp))) (ht _ (hw _ (by simp))) (ht _ (hw _ (by simp))) (ht _ (hw _ (by simp))) hfr (by rw [fz_wd_sum]; exact hlo) hc hs hd (k p e s m args below meth c H locs la hC hR hS hl)
theorem fz_abs {idx : Nat} {x : Int32} (hd : decode M.2.1 pc = .ok (.invokestatic idx, 3)) (hw : ∀ w ∈ ([.methodLink M.1.cls idx Lib.Math.abs.name, .static Lib.Math.abs.name, .initialized "java/lang/Math", .code Lib.Math.abs.name Lib.Math.abs.code 1 (some .int)] : List Cond), w ∈ fz_tb) (hfr : 1 ≤ R.frames) (hlo : fz_wd st + 13 ≤ R.locals) (hc : cs ≤ R.cells) (hs : sl ≤ R.slots) (k : fz_J G M R Z E0 cs sl (pc + 3) ls (zI (if 0 ≤ x then x else 0 - x) :: st) V) : fz_J G M R Z E0 cs sl pc ls (zI x :: st) V := by
  intro p e s m args below meth c H locs la hC hR hS hl
  have ht := hC.2.2.2.2.2.1
  exact va_mabs hC.1 hC.2.1 (hC.2.2.2.1.trans hl.1.symm) hC.2.2.2.2.1 (ht _ (hw _ (by simp))) (ht _ (hw _ (by simp))) (ht _ (hw _ (by simp))) (ht _ (hw _ (by simp))) hfr (by rw [fz_wd_sum]; exact hlo) hc hs hd (k p e s m args below meth c H locs la hC hR hS hl)
end FZC
