/-! bits of small numbers -/
theorem fa_and (a b : Nat) : nI a &&& nI b = nI (a &&& b) := by
  apply Int32.toBitVec_inj.1
  show BitVec.ofNat 32 a &&& BitVec.ofNat 32 b = BitVec.ofNat 32 (a &&& b)
  apply BitVec.eq_of_getLsbD_eq
  intro i hi
  simp [hi]
theorem fa_or (a b : Nat) : nI a ||| nI b = nI (a ||| b) := by
  apply Int32.toBitVec_inj.1
  show BitVec.ofNat 32 a ||| BitVec.ofNat 32 b = BitVec.ofNat 32 (a ||| b)
  apply BitVec.eq_of_getLsbD_eq
  intro i hi
  simp [hi]
theorem s_l : ∀ n, n < 32 → ((nI n &&& 31).toBitVec.smod 32).toNat = n := by decide +kernel
theorem iI_nI (n : Nat) : iI (n : Int) = nI n := iI_nat n
theorem bAnd_nat {m n : Nat} (hm : m < 2 ^ 31) : bAnd m n = ((m &&& n : Nat) : Int) := by
  unfold bAnd
  rw [iI_nI, iI_nI, fa_and, nI_toInt (Nat.lt_of_le_of_lt Nat.and_le_left hm)]
theorem bOr_nat {m n k : Nat} (hm : m < 2 ^ k) (hn : n < 2 ^ k) (hk : k ≤ 31) : bOr m n = ((m ||| n : Nat) : Int) := by
  unfold bOr
  rw [iI_nI, iI_nI, fa_or, nI_toInt (Nat.lt_of_lt_of_le (Nat.or_lt_two_pow hm hn) (Nat.pow_le_pow_right (by decide) hk))]
theorem bShl_nat {m s : Nat} (hs : s < 32) (h : m * 2 ^ s < 2 ^ 31) : bShl m s = ((m * 2 ^ s : Nat) : Int) := by
  unfold bShl
  rw [iI_nI, iI_nI, pk_shlN _ s (s_l s hs) (by omega), nI_toInt h]
theorem bShr_nat {m s : Nat} (hs : s < 32) (h : m < 2 ^ 31) : bShr m s = ((m / 2 ^ s : Nat) : Int) := by
  unfold bShr
  have h2 : m / 2 ^ s ≤ m := Nat.div_le_self _ _
  rw [iI_nI, iI_nI, pk_shrN h _ s (s_l s hs), nI_toInt (by omega)]
/-- the bit number s -/
def bt (t s : Int) : Bool := t.toNat.testBit s.toNat
def b2 (b : Bool) : Int := if b then 1 else 0
theorem b2_in (b : Bool) : 0 ≤ b2 b ∧ b2 b ≤ 1 := by cases b <;> decide
theorem b2_t {b : Bool} : b2 b = 1 ↔ b = true := by cases b <;> decide
theorem b2_f {b : Bool} : b2 b = 0 ↔ b = false := by cases b <;> decide
theorem bit_eq {t s : Int} (ht : 0 ≤ t ∧ t < 256) (hs : 0 ≤ s ∧ s < 8) : bAnd (bShr t s) 1 = b2 (bt t s) := by
  obtain ⟨m, rfl⟩ : ∃ m : Nat, t = m := ⟨t.toNat, by omega⟩
  obtain ⟨k, rfl⟩ : ∃ k : Nat, s = k := ⟨s.toNat, by omega⟩
  have h2 : m / 2 ^ k ≤ m := Nat.div_le_self _ _
  rw [bShr_nat (by omega) (by omega), show (1 : Int) = ((1 : Nat) : Int) from rfl, bAnd_nat (by omega)]
  show (((m / 2 ^ k &&& 1 : Nat)) : Int) = b2 (m.testBit k)
  rw [Nat.testBit_eq_decide_div_mod_eq, Nat.and_one_is_mod]
  unfold b2
  have h3 : m / 2 ^ k % 2 < 2 := Nat.mod_lt _ (by decide)
  split
  · rename_i h; simp at h; omega
  · rename_i h; simp at h; omega
theorem and_in {a b : Int} (ha : 0 ≤ a ∧ a < 256) (hb : 0 ≤ b ∧ b < 256) : (0 ≤ bAnd a b ∧ bAnd a b < 256) ∧ ∀ s, bt (bAnd a b) s = (bt a s && bt b s) := by
  obtain ⟨m, rfl⟩ : ∃ m : Nat, a = m := ⟨a.toNat, by omega⟩
  obtain ⟨n, rfl⟩ : ∃ n : Nat, b = n := ⟨b.toNat, by omega⟩
  rw [bAnd_nat (by omega)]
  have h : m &&& n ≤ m := Nat.and_le_left
  refine ⟨by omega, fun s => ?_⟩
  show (m &&& n).testBit s.toNat = (m.testBit s.toNat && n.testBit s.toNat)
  exact Nat.testBit_and _ _ _
theorem or_in {a b : Int} (ha : 0 ≤ a ∧ a < 256) (hb : 0 ≤ b ∧ b < 256) : (0 ≤ bOr a b ∧ bOr a b < 256) ∧ ∀ s, bt (bOr a b) s = (bt a s || bt b s) := by
  obtain ⟨m, rfl⟩ : ∃ m : Nat, a = m := ⟨a.toNat, by omega⟩
  obtain ⟨n, rfl⟩ : ∃ n : Nat, b = n := ⟨b.toNat, by omega⟩
  rw [bOr_nat (k := 8) (by omega) (by omega) (by omega)]
  have h : m ||| n < 2 ^ 8 := Nat.or_lt_two_pow (by omega) (by omega)
  refine ⟨by omega, fun s => ?_⟩
  show (m ||| n).testBit s.toNat = (m.testBit s.toNat || n.testBit s.toNat)
  exact Nat.testBit_or _ _ _
theorem one_in {k : Int} (hk : 0 ≤ k ∧ k < 8) : (0 ≤ bShl 1 k ∧ bShl 1 k < 256) ∧ ∀ s, 0 ≤ s → bt (bShl 1 k) s = decide (s = k) := by
  obtain ⟨n, rfl⟩ : ∃ n : Nat, k = n := ⟨k.toNat, by omega⟩
  have hp : 2 ^ n ≤ 2 ^ 7 := Nat.pow_le_pow_right (by decide) (by omega)
  rw [show (1 : Int) = ((1 : Nat) : Int) from rfl, bShl_nat (by omega) (by omega), Nat.one_mul]
  have hp2 : 2 ^ n < 256 := by omega
  refine ⟨⟨Int.natCast_nonneg _, Int.ofNat_lt.mpr hp2⟩, fun s hs => ?_⟩
  show (2 ^ n).testBit s.toNat = _
  rw [Nat.testBit_two_pow]
  have : (n = s.toNat) = (s = (n : Int)) := by
    apply propext
    constructor <;> intro h <;> omega
  simp [this]
theorem bt_255 {s : Int} (hs : 0 ≤ s ∧ s < 8) : bt 255 s = true := by
  obtain ⟨n, rfl⟩ : ∃ n : Nat, s = n := ⟨s.toNat, by omega⟩
  have : n = 0 ∨ n = 1 ∨ n = 2 ∨ n = 3 ∨ n = 4 ∨ n = 5 ∨ n = 6 ∨ n = 7 := by omega
  rcases this with rfl | rfl | rfl | rfl | rfl | rfl | rfl | rfl <;> decide
theorem bt_0 (s : Int) : bt 0 s = false := by simp [bt]
theorem eight {s : Int} (hs : 0 ≤ s ∧ s < 8) : s = 0 ∨ s = 1 ∨ s = 2 ∨ s = 3 ∨ s = 4 ∨ s = 5 ∨ s = 6 ∨ s = 7 := by omega
theorem bt_sets {a s : Int} (ha : 0 ≤ a ∧ a < 3) (hs : 0 ≤ s ∧ s < 8) : bt (stV 3 a) s = bt s a ∧ 0 ≤ stV 3 a ∧ stV 3 a < 256 := by
  have h1 : a = 0 ∨ a = 1 ∨ a = 2 := by omega
  rcases h1 with rfl | rfl | rfl <;> rcases eight hs with rfl | rfl | rfl | rfl | rfl | rfl | rfl | rfl <;> decide
/-- a number of at most three bits -/
def c3 (n : Int) (v0 v1 v2 : Bool) : Int := (if 0 < n ∧ v0 = true then 1 else 0) + (if 1 < n ∧ v1 = true then 2 else 0) + (if 2 < n ∧ v2 = true then 4 else 0)
theorem c3_0 (v0 v1 v2 : Bool) : c3 0 v0 v1 v2 = 0 := by simp [c3]
theorem c3_step {n : Int} (hn : 0 ≤ n ∧ n < 3) (v0 v1 v2 : Bool) : bOr (c3 n v0 v1 v2) (bShl (b2 (if n = 0 then v0 else if n = 1 then v1 else v2)) n) = c3 (n + 1) v0 v1 v2 := by
  have h1 : n = 0 ∨ n = 1 ∨ n = 2 := by omega
  rcases h1 with rfl | rfl | rfl <;> cases v0 <;> cases v1 <;> cases v2 <;> decide
theorem c3_in {f : Int} (v0 v1 v2 : Bool) : 0 ≤ c3 (nA f) v0 v1 v2 ∧ c3 (nA f) v0 v1 v2 ≤ aA f := by
  by_cases h : 0 ≤ f ∧ f < 4
  · rcases four h with rfl | rfl | rfl | rfl <;> cases v0 <;> cases v1 <;> cases v2 <;> decide
  · rw [nA_out h, c3_0]
    have := aA_in f
    omega
/-- all ARGUMENTS but those of a set -/
def cutA (f s : Int) : Int := bAnd (aA f) (bXor s (-1))
theorem cutA_in {f s : Int} (hf : 0 ≤ f ∧ f < 4) (hs : 0 ≤ s ∧ s < 8) : 0 ≤ cutA f s ∧ cutA f s ≤ aA f := by
  rcases four hf with rfl | rfl | rfl | rfl <;> rcases eight hs with rfl | rfl | rfl | rfl | rfl | rfl | rfl | rfl <;> decide
theorem ext8 {a b : Int} (ha : 0 ≤ a ∧ a < 256) (hb : 0 ≤ b ∧ b < 256) (h : ∀ s, 0 ≤ s → s < 8 → bt a s = bt b s) : a = b := by
  obtain ⟨m, rfl⟩ : ∃ m : Nat, a = m := ⟨a.toNat, by omega⟩
  obtain ⟨n, rfl⟩ : ∃ n : Nat, b = n := ⟨b.toNat, by omega⟩
  congr 1
  apply Nat.eq_of_testBit_eq
  intro i
  by_cases hi : i < 8
  · exact h i (by omega) (by omega)
  · have hp : 2 ^ 8 ≤ 2 ^ i := Nat.pow_le_pow_right (by decide) (by omega)
    rw [Nat.testBit_lt_two_pow (by omega), Nat.testBit_lt_two_pow (by omega)]
/-- how many bits -/
def pc8 (t : Int) : Int := b2 (bt t 0) + b2 (bt t 1) + b2 (bt t 2) + b2 (bt t 3) + b2 (bt t 4) + b2 (bt t 5) + b2 (bt t 6) + b2 (bt t 7)
theorem pc8_in (t : Int) : 0 ≤ pc8 t ∧ pc8 t ≤ 8 := by
  have h0 := b2_in (bt t 0)
  have h1 := b2_in (bt t 1)
  have h2 := b2_in (bt t 2)
  have h3 := b2_in (bt t 3)
  have h4 := b2_in (bt t 4)
  have h5 := b2_in (bt t 5)
  have h6 := b2_in (bt t 6)
  have h7 := b2_in (bt t 7)
  unfold pc8
  omega
theorem b2_le {a b : Bool} (h : a = true → b = true) : b2 a ≤ b2 b := by cases a <;> cases b <;> simp_all [b2]
theorem b2_inj {a b : Bool} (h : b2 a = b2 b) : a = b := by cases a <;> cases b <;> simp_all [b2]
theorem pc8_mono {a b : Int} (h : ∀ s, 0 ≤ s → s < 8 → bt a s = true → bt b s = true) : pc8 a ≤ pc8 b := by
  have h0 := b2_le (h 0 (by decide) (by decide))
  have h1 := b2_le (h 1 (by decide) (by decide))
  have h2 := b2_le (h 2 (by decide) (by decide))
  have h3 := b2_le (h 3 (by decide) (by decide))
  have h4 := b2_le (h 4 (by decide) (by decide))
  have h5 := b2_le (h 5 (by decide) (by decide))
  have h6 := b2_le (h 6 (by decide) (by decide))
  have h7 := b2_le (h 7 (by decide) (by decide))
  unfold pc8
  omega
theorem pc8_eq {a b : Int} (ha : 0 ≤ a ∧ a < 256) (hb : 0 ≤ b ∧ b < 256) (h : ∀ s, 0 ≤ s → s < 8 → bt a s = true → bt b s = true) (e : pc8 b ≤ pc8 a) : a = b := by
  have h0 := b2_le (h 0 (by decide) (by decide))
  have h1 := b2_le (h 1 (by decide) (by decide))
  have h2 := b2_le (h 2 (by decide) (by decide))
  have h3 := b2_le (h 3 (by decide) (by decide))
  have h4 := b2_le (h 4 (by decide) (by decide))
  have h5 := b2_le (h 5 (by decide) (by decide))
  have h6 := b2_le (h 6 (by decide) (by decide))
  have h7 := b2_le (h 7 (by decide) (by decide))
  unfold pc8 at e
  apply ext8 ha hb
  intro s hs0 hs1
  rcases eight ⟨hs0, hs1⟩ with rfl | rfl | rfl | rfl | rfl | rfl | rfl | rfl <;> apply b2_inj <;> omega
