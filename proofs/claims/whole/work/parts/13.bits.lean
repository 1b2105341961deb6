/-! NUMBERS AND BITS -/
/-- bit i of a long -/
def bl (x : Int64) (i : Nat) : Bool := x.toBitVec.getLsbD i
theorem bl_ext {x y : Int64} (h : ∀ i, i < 64 → bl x i = bl y i) : x = y :=
  Int64.toBitVec_inj.mp (BitVec.eq_of_getLsbD_eq (fun i hi => h i hi))
theorem bl_big {x : Int64} {i : Nat} (h : 64 ≤ i) : bl x i = false := BitVec.getLsbD_of_ge _ _ h
theorem bl_and (x y : Int64) (i : Nat) : bl (x &&& y) i = (bl x i && bl y i) := by
  show (x &&& y).toBitVec.getLsbD i = _
  rw [Int64.toBitVec_and, BitVec.getLsbD_and]; rfl
theorem bl_or (x y : Int64) (i : Nat) : bl (x ||| y) i = (bl x i || bl y i) := by
  show (x ||| y).toBitVec.getLsbD i = _
  rw [Int64.toBitVec_or, BitVec.getLsbD_or]; rfl
theorem bl_not (x : Int64) {i : Nat} (hi : i < 64) : bl (x ^^^ (-1)) i = !bl x i := by
  show (x ^^^ (-1)).toBitVec.getLsbD i = _
  rw [Int64.toBitVec_xor, BitVec.getLsbD_xor]
  have h : (-1 : Int64).toBitVec = BitVec.allOnes 64 := by decide
  rw [h, BitVec.getLsbD_allOnes]
  simp [hi, bl]
theorem bl_0 (i : Nat) : bl 0 i = false := by
  show (0#64).getLsbD i = false
  exact BitVec.getLsbD_zero
theorem sh_c : ∀ c, c < 128 → ((nI c).toInt64 &&& 63).toBitVec.smod 64 = BitVec.ofNat 64 (c % 64) := by decide +kernel
theorem sh_u : ∀ c, c < 128 → ((nI c).toInt64.toUInt64 &&& Int64.toUInt64 63).toNat % 64 = c % 64 := by decide +kernel
theorem bl_ushr (x : Int64) {c : Nat} (hc : c < 128) (i : Nat) : bl (x.toUInt64 >>> ((nI c).toInt64.toUInt64 &&& Int64.toUInt64 63)).toInt64 i = bl x (c % 64 + i) := by
  show (x.toUInt64 >>> ((nI c).toInt64.toUInt64 &&& Int64.toUInt64 63)).toBitVec.getLsbD i = x.toBitVec.getLsbD (c % 64 + i)
  rw [UInt64.toBitVec_shiftRight, BitVec.ushiftRight_eq', BitVec.getLsbD_ushiftRight]
  have h : (((nI c).toInt64.toUInt64 &&& Int64.toUInt64 63).toBitVec % 64).toNat = c % 64 := by
    rw [BitVec.toNat_umod]
    exact sh_u c hc
  rw [h]
  rfl
theorem bl_shl (x : Int64) {c : Nat} (hc : c < 128) {i : Nat} (hi : i < 64) : bl (x <<< ((nI c).toInt64 &&& 63)) i = (decide (c % 64 ≤ i) && bl x (i - c % 64)) := by
  show (x.toBitVec <<< (((nI c).toInt64 &&& 63).toBitVec.smod 64)).getLsbD i = _
  rw [sh_c c hc, BitVec.shiftLeft_eq', BitVec.getLsbD_shiftLeft, BitVec.toNat_ofNat, Nat.mod_eq_of_lt (show c % 64 < 2 ^ 64 by omega)]
  simp only [hi, decide_true, Bool.true_and]
  by_cases h : i < c % 64
  · have h2 : ¬ c % 64 ≤ i := by omega
    simp [h, h2]
  · have h2 : c % 64 ≤ i := by omega
    simp [h, h2, bl]
theorem bl_one (i : Nat) : bl 1 i = decide (i = 0) := by
  show (1#64).getLsbD i = _
  rw [BitVec.getLsbD_one]
  by_cases h : i = 0 <;> simp [h]
theorem bl_1shl {c : Nat} (hc : c < 128) {i : Nat} (hi : i < 64) : bl ((1 : Int64) <<< ((nI c).toInt64 &&& 63)) i = decide (i = c % 64) := by
  rw [bl_shl 1 hc hi, bl_one]
  by_cases h : i = c % 64
  · simp [h]
  · by_cases h2 : c % 64 ≤ i
    · have : ¬ i - c % 64 = 0 := by omega
      simp [h, h2, this]
    · simp [h, h2]
/-- x >>> c & 1 isn't 0: the bit -/
theorem bl_test (x : Int64) {c : Nat} (hc : c < 128) : ((x.toUInt64 >>> ((nI c).toInt64.toUInt64 &&& Int64.toUInt64 63)).toInt64 &&& 1) = if bl x (c % 64) then 1 else 0 := by
  apply bl_ext
  intro i hi
  rw [bl_and, bl_ushr x hc, bl_one]
  by_cases h : i = 0
  · subst h
    cases hb : bl x (c % 64) <;> simp [hb, bl_one, bl_0]
  · cases hb : bl x (c % 64) <;> simp [h, bl_one, bl_0]
theorem nI_iff {a b : Nat} (ha : a < 2 ^ 31) (hb : b < 2 ^ 31) : nI a ≤ nI b ↔ a ≤ b := nI_leI ha hb
/-- an unsigned shift of a long by 8 k, to int, under 255: its k-th byte -/
def bt (w : Int64) (k : Nat) : Nat := w.toBitVec.toNat / 2 ^ (8 * k) % 256
theorem bt_lt (w : Int64) (k : Nat) : bt w k < 256 := Nat.mod_lt _ (by decide)
theorem nI_mul (a b : Nat) : nI a * nI b = nI (a * b) := pk_mul a b
theorem bt_u (w : Int64) {k : Nat} (hk : k < 8) : (w.toUInt64 >>> ((nI (8 * k)).toInt64.toUInt64 &&& Int64.toUInt64 63)).toInt64.toInt32 &&& nI 255 = nI (bt w k) := by
  rw [pk_and _ 8 (m := nI 255) (by decide)]
  congr 1
  have h1 : ∀ y : Int64, y.toInt32.toBitVec.toNat = y.toBitVec.toNat % 2 ^ 32 := by
    intro y
    show (y.toBitVec.signExtend 32).toNat = _
    rw [BitVec.signExtend_eq_setWidth_of_le _ (by decide), BitVec.toNat_setWidth]
  rw [h1]
  have h2 : (w.toUInt64 >>> ((nI (8 * k)).toInt64.toUInt64 &&& Int64.toUInt64 63)).toInt64.toBitVec.toNat = w.toBitVec.toNat / 2 ^ (8 * k) := by
    show (w.toUInt64 >>> ((nI (8 * k)).toInt64.toUInt64 &&& Int64.toUInt64 63)).toNat = _
    rw [UInt64.toNat_shiftRight, sh_u (8 * k) (by omega), Nat.mod_eq_of_lt (show 8 * k < 64 by omega), Nat.shiftRight_eq_div_pow]
    rfl
  rw [h2]
  unfold bt
  omega
theorem cl_add {a b : Nat} (h : a + b < 2 ^ 31) : (nI a + nI b).toNatClampNeg = a + b := by rw [nI_add, nI_clamp h]
theorem in_add {a b n : Nat} (h : a + b < n) (hn : n < 2 ^ 31) : vp_in (nI a + nI b) n := by rw [nI_add]; exact vp_in_nI h hn
section FZP
variable {G : fz_G} {M : fz_M} {R : Room} {Z : List Frame → Array Value → State → State → Prop} {E0 : Nat → fz_E} {cs sl pc : Nat} {ls : List (Nat × fz_V)} {st : List fz_V} {V : fz_W}
theorem fz_pk (ps : List Nat) {ls' : List (Nat × fz_V)} (h : ps.filterMap (fun i => ls[i]?) = ls') (k : fz_J G M R Z E0 cs sl pc ls' st V) : fz_J G M R Z E0 cs sl pc ls st V := by
  refine fz_keep (fun q hq => ?_) k
  rw [← h] at hq
  obtain ⟨i, -, hi⟩ := List.mem_filterMap.mp hq
  exact List.mem_of_getElem? hi
theorem fz_incN {i k : Nat} (hd : decode M.2.1 pc = .ok (.iinc i 1, 3)) (hv : fz_lo ls i = some (zI (nI k))) (hb : i < M.2.2.1) (kk : fz_J G M R Z E0 cs sl (pc + 3) (fz_s1 ls i (zI (nI (k + 1)))) st V) : fz_J G M R Z E0 cs sl pc ls st V := by
  refine fz_iinc hd hv hb ?_
  have e : nI k + Int32.ofInt 1 = nI (k + 1) := nI_1 k
  rw [e]
  exact kk
theorem fz_ialdu {t n len k0 i0 : Nat} {f : Nat → Nat → Int32} {a : Nat → Int32} {j : Int32} (hd : decode M.2.1 pc = .ok (.iaload, 1)) (ht : fz_tyL[t]? = some .int) (hV : fz_lk V k0 = some (zi t n len (va_up f i0 a))) (hi : i0 < n) (hj : vp_in j len) (k : fz_J G M R Z E0 cs sl (pc + 1) ls (zI (a j.toNatClampNeg) :: st) V) : fz_J G M R Z E0 cs sl pc ls (zI j :: zR k0 i0 :: st) V := by
  refine fz_iald hd ht hV hi hj ?_
  rw [va_up_self]
  exact k
theorem fz_laldu {t n len k0 i0 : Nat} {f : Nat → Nat → Int64} {a : Nat → Int64} {j : Int32} (hd : decode M.2.1 pc = .ok (.laload, 1)) (ht : fz_tyL[t]? = some .long) (hV : fz_lk V k0 = some (zl t n len (va_up f i0 a))) (hi : i0 < n) (hj : vp_in j len) (k : fz_J G M R Z E0 cs sl (pc + 1) ls (zL (a j.toNatClampNeg) :: st) V) : fz_J G M R Z E0 cs sl pc ls (zI j :: zR k0 i0 :: st) V := by
  refine fz_lald hd ht hV hi hj ?_
  rw [va_up_self]
  exact k
theorem fz_iastu {t n len k0 i0 : Nat} {f : Nat → Nat → Int32} {a : Nat → Int32} {j x : Int32} (hd : decode M.2.1 pc = .ok (.iastore, 1)) (ht : fz_tyL[t]? = some .int) (hV : fz_lk V k0 = some (zi t n len (va_up f i0 a))) (hi : i0 < n) (hj : vp_in j len) (k : fz_J G M R Z E0 cs sl (pc + 1) ls st (fz_st V k0 (zi t n len (va_up f i0 (upd a j.toNatClampNeg x))))) : fz_J G M R Z E0 cs sl pc ls (zI x :: zI j :: zR k0 i0 :: st) V :=
  fz_iast0 _ hd ht hV hi hj (by rw [va_up_self, va_up_self]) (fun i' _ h2 => by rw [va_up_ne _ _ h2, va_up_ne _ _ h2]) k
theorem fz_lastu {t n len k0 i0 : Nat} {f : Nat → Nat → Int64} {a : Nat → Int64} {j : Int32} {x : Int64} (hd : decode M.2.1 pc = .ok (.lastore, 1)) (ht : fz_tyL[t]? = some .long) (hV : fz_lk V k0 = some (zl t n len (va_up f i0 a))) (hi : i0 < n) (hj : vp_in j len) (k : fz_J G M R Z E0 cs sl (pc + 1) ls st (fz_st V k0 (zl t n len (va_up f i0 (vp_updL a j.toNatClampNeg x))))) : fz_J G M R Z E0 cs sl pc ls (zL x :: zI j :: zR k0 i0 :: st) V :=
  fz_last0 _ hd ht hV hi hj (by rw [va_up_self, va_up_self]) (fun i' _ h2 => by rw [va_up_ne _ _ h2, va_up_ne _ _ h2]) k
theorem va_upI {α : Type} (f : Nat → α) (g : Nat) : va_up f g (f g) = f := by
  funext j
  unfold va_up
  by_cases h : j = g
  · rw [if_pos h, h]
  · rw [if_neg h]
end FZP
