/-! THE CLAIM OUT OF ONE WALK OF THE LAW'S BODY. Your part is whole_start (and what it stands on); all else here is the same for every law, but numbers. -/
def R_law : String := "FleetControllerLaw"
def lw_P (b : Addr) (xs : List Int32) (args : Array Value) (s : State) : Prop := args = #[.ref b] ∧ s.IntsAt b xs ∧ xs.length ≤ 2560 ∧ (Jvm.Cond.and given_1 narrow_1).before args s = true
def lw_Q (_ : Array Value) (s : State) (o : Outcome) (t : State) : Prop := o = .returned (some (.int 1)) ∧ Framed s o t [] 600000 7302250
def lw_Z (below : List Frame) (a : Array Value) (s : State) : State → Prop := fun t => ∃ o, t.status = .running ∧ Ended t below o ∧ lw_Q a s o t
/-- the law's own end, with 1 on the stack, nothing written that was there before, its room as the claim has it -/
theorem lw_ret {p : Program} {l : Launch} {e : Env} {s : State} {m : MethodId} {below : List Frame} {meth : Method} {c : Code} {b : Nat} (hx : p.tables.exec = Jvm.exec) (hb : c.code = code) (hr : meth.sig.returnType = ret) (hlocks : meth.locks = false) {pc : Nat} {H : Heap} {ls : Array Slot} (hdg : decode code pc = .ok (.ireturn, 1)) : W p l e room_1 s m #[Value.ref b] below meth c H [] 600000 7302250 (lw_Z below #[Value.ref b] s) (F0 m pc ls [.int 1]) := by
  intro T hT X
  obtain ⟨fs, hret, hrun, hended, hW, hframe⟩ := X.leave (v := some (.int 1)) (hlocks := hlocks) (fun h => by rw [hr] at h; cases h)
  have hmeth' : T.vm.method? m = some meth := X.method'
  refine ⟨T.setFrames fs, ?_, .returned (some (.int 1)), hrun, hended, rfl, ⟨_, rfl⟩, hW, hframe⟩
  jvm_step X.here [X.here.top, hx, hb, hdg, hmeth', hr, ret, narrow_b1]
  (try refine ⟨rfl, ?_⟩); (try refine ⟨rfl, ?_⟩)
  first | (intro acts; rw [hret _ acts rfl rfl rfl]) | rw [hret _ _ rfl rfl rfl]
  exact Steps.refl _
/-- what holds at the law's entry: the machine, the code, the tables' words (any of lw_tbl by 'hts w (by decide +kernel)'), the script of L ints xs at the cell b, what the Statement gives of the start (any of its parts by flat_of_before) -/
def lw_At (p : Program) (s : State) (m : MethodId) (meth : Method) (c : Code) (b L : Nat) (xs : Nat → Int32) : Prop :=
  p.tables.exec = Jvm.exec ∧ c.code = code ∧ meth.sig.returnType = ret ∧ c.maxLocals = 4 ∧ s.vm.findClass R_law = some m.cls ∧ (∀ w ∈ lw_tbl, w.before #[Value.ref b] s = true) ∧ va_X b L xs s s.heap ∧ b < s.heap.size ∧ meth.locks = false ∧ (Jvm.Cond.and given_1 narrow_1).before #[Value.ref b] s = true
/-! THE LAW: its own frame (the rows ahead of this are the skeleton's) -/
theorem nL_13 : Cond.constantLong RL 13 4294967295 ∈ fz_tb := fz_mem 1248 (by decide +kernel) rfl
abbrev mLw (nm : String) : fz_M := (⟨RL, nm, "([I)Z"⟩, cL_law, 4, some .boolean)
def ky (V : fz_W) : List Nat := V.map (fun q => q.1)
def kyC : List Nat := [1, 8, 9, 2, 3, 4, 5, 6, 7, 10, 11, 12, 13, 14, 15, 16, 17, 18, 19, 20, 21, 22, 23, 24, 25, 26, 27]
def kyM : List Nat := [30, 41, 45, 46, 49, 50, 53, 54, 55, 56, 57, 58, 63, 64, 65, 66, 67, 69, 70, 71, 72, 73, 74, 75, 76, 77, 78]
theorem kyC_nd : kyC.Nodup := by decide
theorem kyM_nd : kyM.Nodup := by decide
theorem kyM_C : ∀ j ∈ kyM, j ∉ kyC := by decide
theorem clR_ky {σ : zS} {V : fz_W} (h : clR σ V) : ky V = kyC := by
  obtain ⟨tx, n, fp, cn, w, kn, on, tn, rn, O, T, P, te, B, t, A, wy, lg⟩ := σ
  obtain ⟨g, tw, ln, co, tf, sg, sz, wd, st, op, ki, fa, qu, F, Q, nc, pn, pf, rows, en, et, ow, lo, hi, rb, ts, sh, go, re, al, hg, hn, htw, htq, hM, hoc, htt, rfl⟩ := h
  rfl
theorem mdR_ky {σ : zS} {V : fz_W} (h : mdR σ V) : ky V = kyM := by
  obtain ⟨tx, n, fp, cn, w, kn, on, tn, rn, O, T, P, te, B, t, A, wy, lg⟩ := σ
  obtain ⟨f, sg, ki, dr, fa, sn, wh, en, Rb, Od, Ta, re, le, hm, hn, htq, h80, hki, hfa, hmt, hrb, hod, hta, rfl⟩ := h
  rfl
theorem clR_1 {σ : zS} {V W : fz_W} (h : clR σ V) : ∃ F, fz_lk (V ++ W) 1 = some (zo 10 1 F) := by
  obtain ⟨tx, n, fp, cn, w, kn, on, tn, rn, O, T, P, te, B, t, A, wy, lg⟩ := σ
  obtain ⟨g, tw, ln, co, tf, sg, sz, wd, st, op, ki, fa, qu, F, Q, nc, pn, pf, rows, en, et, ow, lo, hi, rb, ts, sh, go, re, al, hg, hn, htw, htq, hM, hoc, htt, rfl⟩ := h
  exact ⟨_, rfl⟩
theorem fz_lk_no {k : Nat} {W : fz_W} : ∀ {V : fz_W}, k ∉ ky V → fz_lk (V ++ W) k = fz_lk W k
  | [], _ => rfl
  | q :: V, h => by
    have h1 : ¬ k = q.1 := fun z => h (by rw [z]; exact List.mem_cons_self)
    have h2 : k ∉ ky V := fun z => h (List.mem_cons_of_mem _ z)
    show (if k = q.1 then some q.2 else fz_lk (V ++ W) k) = fz_lk W k
    rw [if_neg h1]
    exact fz_lk_no h2
theorem mdR_30 {σ : zS} {V W : fz_W} (hc : ky V = kyC) (h : mdR σ W) : ∃ F, fz_lk (V ++ W) 30 = some (zo 11 1 F) := by
  rw [fz_lk_no (by rw [hc]; decide)]
  obtain ⟨tx, n, fp, cn, w, kn, on, tn, rn, O, T, P, te, B, t, A, wy, lg⟩ := σ
  obtain ⟨f, sg, ki, dr, fa, sn, wh, en, Rb, Od, Ta, re, le, hm, hn, htq, h80, hki, hfa, hmt, hrb, hod, hta, rfl⟩ := h
  exact ⟨_, rfl⟩
theorem fz_d_no {E : Nat → fz_E} {j : Nat} : ∀ {V : fz_W}, j ∉ ky V → fz_d V E j = E j
  | [], _ => rfl
  | q :: V, h => by
    rw [fz_d_c, if_neg (fun z => h (by rw [z]; exact List.mem_cons_self))]
    exact fz_d_no (fun z => h (List.mem_cons_of_mem _ z))
theorem fz_d_yes {E E' : Nat → fz_E} {j : Nat} : ∀ {V : fz_W}, j ∈ ky V → fz_d V E j = fz_d V E' j
  | [], h => by cases h
  | q :: V, h => by
    rw [fz_d_c, fz_d_c]
    by_cases z : j = q.1
    · rw [if_pos z, if_pos z]
    · rw [if_neg z, if_neg z]
      refine fz_d_yes ?_
      rcases List.mem_cons.mp h with y | y
      · exact absurd y z
      · exact y
theorem fz_dL {U V W : fz_W} {E : Nat → fz_E} (h : ky U = ky V) : fz_d (U ++ (V ++ W)) E = fz_d (U ++ W) E := by
  funext j
  rw [fz_d_app, fz_d_app, fz_d_app]
  by_cases z : j ∈ ky U
  · exact fz_d_yes z
  · rw [fz_d_no z, fz_d_no z, fz_d_no (by rw [← h]; exact z)]
theorem fz_dR {U V W : fz_W} {E : Nat → fz_E} (h : ky U = ky W) (hd : ∀ j ∈ ky U, j ∉ ky V) : fz_d (U ++ (V ++ W)) E = fz_d (V ++ U) E := by
  funext j
  rw [fz_d_app, fz_d_app, fz_d_app]
  by_cases z : j ∈ ky U
  · rw [fz_d_no (hd j z)]
    exact fz_d_yes z
  · rw [fz_d_no z]
    by_cases y : j ∈ ky V
    · exact fz_d_yes y
    · rw [fz_d_no y, fz_d_no y, fz_d_no z, fz_d_no (by rw [← h]; exact z)]
theorem fz_lk_of {q : Nat × fz_E} {W : fz_W} : ∀ {V : fz_W}, (ky V).Nodup → q ∈ V → fz_lk (V ++ W) q.1 = some q.2
  | [], _, h => by cases h
  | x :: V, hn, h => by
    have hn : (x.1 :: ky V).Nodup := hn
    rw [List.nodup_cons] at hn
    show (if q.1 = x.1 then some x.2 else fz_lk (V ++ W) q.1) = some q.2
    rcases List.mem_cons.mp h with y | y
    · rw [y, if_pos rfl]
    · rw [if_neg (fun z => hn.1 (by rw [← z]; exact List.mem_map.mpr ⟨q, y, rfl⟩))]
      exact fz_lk_of hn.2 y
theorem fz_sub_of {X : fz_W} : ∀ {U : fz_W}, (∀ q ∈ U, fz_lk X q.1 = some q.2) → fz_sub U X
  | [], _ => trivial
  | x :: U, h => ⟨h x List.mem_cons_self, fz_sub_of (fun q hq => h q (List.mem_cons_of_mem _ hq))⟩
theorem fz_sub_l {V W : fz_W} (hn : (ky V).Nodup) : fz_sub V (V ++ W) := fz_sub_of (fun _ hq => fz_lk_of hn hq)
theorem fz_sub_r {V W : fz_W} (hn : (ky W).Nodup) (hd : ∀ j ∈ ky W, j ∉ ky V) : fz_sub W (V ++ W) := by
  refine fz_sub_of (fun q hq => ?_)
  rw [fz_lk_no (hd q.1 (List.mem_map.mpr ⟨q, hq, rfl⟩))]
  have := fz_lk_of (W := []) hn hq
  rw [List.append_nil] at this
  exact this
section LW
variable {G : fz_G} {nm : String} {E0 : Nat → fz_E} {pc : Nat} {ls : List (Nat × fz_V)} {st : List fz_V} {Z : List Frame → Array Value → State → State → Prop}
theorem lw_wd {cs sl : Nat} {V V' : fz_W} (h : fz_d V E0 = fz_d V' E0) (k : fz_J G (mLw nm) room_1 Z E0 cs sl pc ls st V') : fz_J G (mLw nm) room_1 Z E0 cs sl pc ls st V := by
  intro p e s m args below meth c H locs la hC hR hS hl
  rw [h] at hR
  exact k p e s m args below meth c H locs la hC hR hS hl
/-- a call of the class's object -/
theorem lw_cX {M' : fz_M} {R' : Room} {as : List fz_V} {idx : Nat} {stk : List fz_V} {σ σ' : zS} {Vx Vm : fz_W} {v : Int32} (hT : fz_T G M' R' (zR 1 0 :: as) Vx (fun r U => r = some (zI v) ∧ clR σ' U)) (hV : clR σ Vx) (hd : decode cL_law pc = .ok (.invokevirtual idx, 3)) (hw : fz_cV RL idx M' as.length 10) (hc0 : R'.cells = 0) (hs0 : R'.slots = 0) (hfr : R'.frames + 1 ≤ room_1.frames) (hlo : 8 + (M'.2.2.1 + 11) + R'.locals ≤ room_1.locals) (hst : fz_wd st ≤ 8) (hk : stk = as.reverse ++ zR 1 0 :: st)
    (k : ∀ U, clR σ' U → fz_J G (mLw nm) room_1 Z E0 193 370295 (pc + 3) ls (zI v :: st) (U ++ Vm)) : fz_J G (mLw nm) room_1 Z E0 193 370295 pc ls stk (Vx ++ Vm) := by
  obtain ⟨F, hF⟩ := clR_1 (W := Vm) hV
  refine fz_callV hT hd hw hF Nat.one_pos (fz_sub_l (by rw [clR_ky hV]; exact kyC_nd)) hfr hlo (by rw [hc0]; exact Nat.le_of_ble_eq_true rfl) (by rw [hs0]; exact Nat.le_of_ble_eq_true rfl) hst hk (fun r U hq => ?_)
  obtain ⟨rfl, hU⟩ := hq
  rw [hc0, hs0]
  refine lw_wd (fz_dL (by rw [clR_ky hU, clR_ky hV])) ?_
  exact k U hU
/-- a call of the model's -/
theorem lw_cM {M' : fz_M} {R' : Room} {as : List fz_V} {idx : Nat} {stk : List fz_V} {σ σ' : zS} {Vx Vm : fz_W} {v : Int32} (hT : fz_T G M' R' (zR 30 0 :: as) Vm (fun r U => r = some (zI v) ∧ mdR σ' U)) (hX : ky Vx = kyC) (hV : mdR σ Vm) (hd : decode cL_law pc = .ok (.invokevirtual idx, 3)) (hw : fz_cV RL idx M' as.length 11) (hc0 : R'.cells = 0) (hs0 : R'.slots = 0) (hfr : R'.frames + 1 ≤ room_1.frames) (hlo : 8 + (M'.2.2.1 + 11) + R'.locals ≤ room_1.locals) (hst : fz_wd st ≤ 8) (hk : stk = as.reverse ++ zR 30 0 :: st)
    (k : ∀ U, mdR σ' U → fz_J G (mLw nm) room_1 Z E0 193 370295 (pc + 3) ls (zI v :: st) (Vx ++ U)) : fz_J G (mLw nm) room_1 Z E0 193 370295 pc ls stk (Vx ++ Vm) := by
  obtain ⟨F, hF⟩ := mdR_30 hX hV
  refine fz_callV hT hd hw hF Nat.one_pos (fz_sub_r (by rw [mdR_ky hV]; exact kyM_nd) (by rw [mdR_ky hV, hX]; exact kyM_C)) hfr hlo (by rw [hc0]; exact Nat.le_of_ble_eq_true rfl) (by rw [hs0]; exact Nat.le_of_ble_eq_true rfl) hst hk (fun r U hq => ?_)
  obtain ⟨rfl, hU⟩ := hq
  rw [hc0, hs0]
  refine lw_wd (fz_dR (by rw [mdR_ky hU, mdR_ky hV]) (by rw [mdR_ky hU, hX]; exact kyM_C)) ?_
  exact k U hU
end LW
/-- what the walk knows of the start -/
def lwH (B b L : Nat) (xs : Nat → Int32) (args : Array Value) (s : State) : Prop := args = #[Value.ref b] ∧ va_X b L xs s s.heap ∧ b < s.heap.size ∧ B = s.heap.size
def lwZ (B b L : Nat) (xs : Nat → Int32) : List Frame → Array Value → State → State → Prop := fun below args s t => lwH B b L xs args s → lw_Z below #[Value.ref b] s t
theorem lw_triv {B b L : Nat} {xs : Nat → Int32} {p : Program} {l : Launch} {e : Env} {R : Room} {s : State} {m : MethodId} {args : Array Value} {below : List Frame} {meth : Method} {c : Code} {H : Heap} {locs : List Loc} {cs sl : Nat} {g : JFrame} (h : ¬ lwH B b L xs args s) : W p l e R s m args below meth c H locs cs sl (lwZ B b L xs below args s) g := fun T _ _ => ⟨T.setTop g, Steps.refl _, fun z => absurd z h⟩
section LW2
variable {G : fz_G} {nm : String} {E0 : Nat → fz_E} {pc cs sl : Nat} {ls : List (Nat × fz_V)} {st : List fz_V} {V : fz_W} {B b L : Nat} {xs : Nat → Int32}
theorem lw_ild {j : Nat} (hB : G.2.2.2.1 = B) (hb : G.2.2.2.2 99 0 = b) (hj : j < L) (hL : L ≤ 2560) (hd : decode cL_law pc = .ok (.iaload, 1)) (k : fz_J G (mLw nm) room_1 (lwZ B b L xs) E0 cs sl (pc + 1) ls (zI (xs j) :: st) V) : fz_J G (mLw nm) room_1 (lwZ B b L xs) E0 cs sl pc ls (zI (nI j) :: zR 99 0 :: st) V := by
  intro p e s m args below meth c H locs la hC hR hS hl
  by_cases hH : lwH B b L xs args s
  · obtain ⟨h1, h2, h3, h4⟩ := id hH
    have k2 := k p e s m args below meth c H locs la hC hR hS hl
    show W _ _ _ _ _ _ _ _ _ _ _ _ _ _ _ (F0 m pc la (.int (nI j) :: .ref (G.2.2.2.2 99 0) :: st.map (fz_v G)))
    rw [hb]
    refine va_sld (A := fz_A G) hC.1 hC.2.1 h2 h3 (fun z => ?_) hS (i := nI j) (vp_in_nI hj (by omega)) hd ?_
    · have z : G.2.2.2.1 ≤ b := z
      omega
    · rw [nI_clamp (by omega)]
      exact k2
  · exact lw_triv hH
theorem lw_len (hB : G.2.2.2.1 = B) (hb : G.2.2.2.2 99 0 = b) (hd : decode cL_law pc = .ok (.arraylength, 1)) (k : fz_J G (mLw nm) room_1 (lwZ B b L xs) E0 cs sl (pc + 1) ls (zI (nI L) :: st) V) : fz_J G (mLw nm) room_1 (lwZ B b L xs) E0 cs sl pc ls (zR 99 0 :: st) V := by
  intro p e s m args below meth c H locs la hC hR hS hl
  by_cases hH : lwH B b L xs args s
  · obtain ⟨h1, h2, h3, h4⟩ := id hH
    have k2 := k p e s m args below meth c H locs la hC hR hS hl
    show W _ _ _ _ _ _ _ _ _ _ _ _ _ _ _ (F0 m pc la (.ref (G.2.2.2.2 99 0) :: st.map (fz_v G)))
    rw [hb]
    refine va_slen (A := fz_A G) hC.1 hC.2.1 h2 h3 (fun z => ?_) hS hd ?_
    · have z : G.2.2.2.1 ≤ b := z
      omega
    · exact k2
  · exact lw_triv hH
theorem lw_end (hB : G.2.2.2.1 = B) (hc : cs ≤ 600000) (hs : sl ≤ 7302250) (hd : decode cL_law pc = .ok (.ireturn, 1)) : fz_J G (mLw nm) room_1 (lwZ B b L xs) E0 cs sl pc ls [zI 1] V := by
  intro p e s m args below meth c H locs la hC hR hS hl
  by_cases hH : lwH B b L xs args s
  · obtain ⟨h1, h2, h3, h4⟩ := id hH
    subst h1
    refine W.widen (k := 600000) (n := 7302250) hc hs ?_
    refine va_forget (fun q hq => ?_) ?_
    · have z : G.2.2.2.1 ≤ q.base := hS.2.2 q hq
      omega
    · intro T hT X
      obtain ⟨t, a1, a2⟩ := lw_ret (b := b) hC.1 hC.2.1 (hC.2.2.1.trans rfl) hC.2.2.2.2.2.2.1 (H := H) (ls := la) hd T hT X
      exact ⟨t, a1, fun _ => a2⟩
  · exact lw_triv hH
end LW2
theorem lw_cond {L i : Nat} (hL : L ≤ 2560) (hi : i ≤ 3000) : nI L - nI 5 < nI i ↔ L < i + 5 := by
  by_cases h : 5 ≤ L
  · have e : nI L - nI 5 = nI (L - 5) := by
      have : nI L = nI (L - 5) + nI 5 := by rw [nI_add, Nat.sub_add_cancel h]
      rw [this, Int32.add_sub_cancel]
    rw [e, nI_ltI (by omega) (by omega)]
    omega
  · have hneg : nI L - nI 5 < 0 := by
      rcases (show L = 0 ∨ L = 1 ∨ L = 2 ∨ L = 3 ∨ L = 4 by omega) with rfl | rfl | rfl | rfl | rfl <;> decide
    constructor
    · intro _; omega
    · intro _
      exact Int32.lt_of_lt_of_le hneg (Int32.not_lt.mp (nI_pos (by omega)))
