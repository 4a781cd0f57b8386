/-! the machine's ints as whole numbers -/
def iI (z : Int) : Int32 := Int32.ofInt z
def rg (z : Int) : Prop := -2147483648 ≤ z ∧ z < 2147483648
theorem iI_add (a b : Int) : iI a + iI b = iI (a + b) := by
  apply Int32.toBitVec.inj; simp [iI, BitVec.ofInt_add]
theorem iI_sub (a b : Int) : iI a - iI b = iI (a - b) := by
  have h := iI_add (a - b) b
  rw [Int.sub_add_cancel] at h
  rw [← h]
  simp
theorem iI_mul (a b : Int) : iI a * iI b = iI (a * b) := by
  apply Int32.toBitVec.inj; simp [iI, BitVec.ofInt_mul]
theorem iI_toInt {z : Int} (h : rg z) : (iI z).toInt = z := Int32.toInt_ofInt_of_le (by have := h.1; omega) (by have := h.2; omega)
theorem iI_of (x : Int32) : iI x.toInt = x := Int32.ofInt_toInt x
theorem rg_of (x : Int32) : rg x.toInt := ⟨by have := x.le_toInt; omega, by have := x.toInt_lt; omega⟩
theorem iI_eq {a b : Int} (ha : rg a) (hb : rg b) : iI a = iI b ↔ a = b := by
  rw [← Int32.toInt_inj, iI_toInt ha, iI_toInt hb]
theorem iI_lt {a b : Int} (ha : rg a) (hb : rg b) : iI a < iI b ↔ a < b := by
  rw [Int32.lt_iff_toInt_lt, iI_toInt ha, iI_toInt hb]
theorem iI_le {a b : Int} (ha : rg a) (hb : rg b) : iI a ≤ iI b ↔ a ≤ b := by
  rw [Int32.le_iff_toInt_le, iI_toInt ha, iI_toInt hb]
theorem iI_0 : iI 0 = 0 := rfl
theorem iI_1 : iI 1 = 1 := rfl
theorem iI_clamp {z : Int} (h : rg z) : (iI z).toNatClampNeg = z.toNat := Int32.toNatClampNeg_ofInt_of_le (by have := h.1; omega) (by have := h.2; omega)
theorem iI_in {z : Int} {n : Nat} (h0 : 0 ≤ z) (h1 : z < n) (hn : n < 2147483648) : vp_in (iI z) n := by
  rw [vp_in_iff, iI_toInt ⟨by omega, by omega⟩]; exact ⟨h0, h1⟩
theorem iI_nat (n : Nat) : iI (n : Int) = Int32.ofNat n := Int32.ofInt_eq_ofNat
theorem iI_div {a b : Int} (ha : 0 ≤ a) (ha' : a < 2147483648) (hb : 0 < b) (hb' : b < 2147483648) : iI a / iI b = iI (a / b) := by
  rw [← Int32.toInt_inj, Int32.toInt_div_of_ne_right, iI_toInt ⟨by omega, by omega⟩, iI_toInt ⟨by omega, by omega⟩, iI_toInt, Int.tdiv_eq_ediv_of_nonneg ha]
  · exact ⟨by have := Int.ediv_nonneg ha (Int.le_of_lt hb); omega, by have := Int.ediv_le_self b ha; omega⟩
  · intro h
    have h2 : (iI b).toInt = -1 := by rw [h]; rfl
    rw [iI_toInt ⟨by omega, by omega⟩] at h2
    omega
theorem iI_rem {a b : Int} (ha : 0 ≤ a) (ha' : a < 2147483648) (hb : 0 < b) (hb' : b < 2147483648) : iI a - iI a / iI b * iI b = iI (a % b) := by
  rw [iI_div ha ha' hb hb', iI_mul, iI_sub]
  congr 1
  have := Int.emod_add_mul_ediv a b
  rw [Int.mul_comm b] at this
  omega
theorem iI_ne0 {b : Int} (hb : 0 < b) (hb' : b < 2147483648) : ¬ iI b = 0 := by
  rw [show (0 : Int32) = iI 0 from rfl, iI_eq ⟨by omega, by omega⟩ ⟨by omega, by omega⟩]; omega
/-- what the machine's bits say, as whole numbers -/
def bAnd (a b : Int) : Int := (iI a &&& iI b).toInt
def bOr (a b : Int) : Int := (iI a ||| iI b).toInt
def bXor (a b : Int) : Int := (iI a ^^^ iI b).toInt
def bShl (a b : Int) : Int := (iI a <<< (iI b &&& 31)).toInt
def bShr (a b : Int) : Int := (iI a >>> (iI b &&& 31)).toInt
theorem iI_bAnd (a b : Int) : iI (bAnd a b) = iI a &&& iI b := iI_of _
theorem iI_bOr (a b : Int) : iI (bOr a b) = iI a ||| iI b := iI_of _
theorem iI_bXor (a b : Int) : iI (bXor a b) = iI a ^^^ iI b := iI_of _
theorem iI_bShl (a b : Int) : iI (bShl a b) = iI a <<< (iI b &&& 31) := iI_of _
theorem iI_bShr (a b : Int) : iI (bShr a b) = iI a >>> (iI b &&& 31) := iI_of _
/-- and as 64-bit numbers -/
def iL (z : Int) : Int64 := Int64.ofInt z
theorem iL_toInt {z : Int} (h : rg z) : (iL z).toInt = z := Int64.toInt_ofInt_of_le (by have := h.1; omega) (by have := h.2; omega)
theorem iI_wide {z : Int} (h : rg z) : (iI z).toInt64 = iL z := by
  rw [← Int64.toInt_inj, Int32.toInt_toInt64, iI_toInt h, iL_toInt h]
theorem iL_lt {a b : Int} (ha : rg a) (hb : rg b) : iL a < iL b ↔ a < b := by
  rw [Int64.lt_iff_toInt_lt, iL_toInt ha, iL_toInt hb]
theorem iL_le {a b : Int} (ha : rg a) (hb : rg b) : iL a ≤ iL b ↔ a ≤ b := by
  rw [Int64.le_iff_toInt_le, iL_toInt ha, iL_toInt hb]
/-- rows of numbers, by the number of a row and the place in it -/
abbrev Sg : Type := Nat → Int → Int
def up (s : Sg) (k : Nat) (i v : Int) : Sg := fun k' j => if k' = k then (if j = i then v else s k' j) else s k' j
theorem up_same (s : Sg) (k : Nat) (i v : Int) : up s k i v k i = v := by simp [up]
theorem up_at (s : Sg) (k : Nat) (i v j : Int) : up s k i v k j = if j = i then v else s k j := by simp [up]
theorem up_ne (s : Sg) {k k' : Nat} (h : k' ≠ k) (i v : Int) : up s k i v k' = s k' := by funext j; simp [up, h]
theorem up_other (s : Sg) (k : Nat) {i j : Int} (h : j ≠ i) (v : Int) : up s k i v k j = s k j := by simp [up, h]
