/-! USES: the least counts -/
def held (x : Int) : Int := if 2 < x then 2 else x
def most (a b : Int) : Int := if a < b then b else a
def u3 (n : Int) (x : Int → Int) : Int := (if 0 < n then x 0 else 0) + (if 1 < n then x 1 else 0) + (if 2 < n then x 2 else 0)
theorem u3_0 (x : Int → Int) : u3 0 x = 0 := by simp [u3]
theorem u3_step {n : Int} (hn : 0 ≤ n ∧ n < 3) (x : Int → Int) : u3 n x + x n = u3 (n + 1) x := by
  have h1 : n = 0 ∨ n = 1 ∨ n = 2 := by omega
  rcases h1 with rfl | rfl | rfl <;> simp [u3]
theorem u3_le {n : Int} {x y : Int → Int} (h : ∀ j, 0 ≤ j → j < n → j < 3 → x j ≤ y j) : u3 n x ≤ u3 n y := by
  unfold u3
  have h0 := h 0 (by omega)
  have h1 := h 1 (by omega)
  have h2 := h 2 (by omega)
  by_cases a : 0 < n <;> by_cases b : 1 < n <;> by_cases c : 2 < n <;> simp only [a, b, c, if_true, if_false] <;> first | omega | (have h0 := h0 a (by omega); omega) | (have h0 := h0 a (by omega); have h1 := h1 b (by omega); omega) | (have h0 := h0 a (by omega); have h1 := h1 b (by omega); have h2 := h2 c (by omega); omega)
theorem u3_congr {n : Int} {x y : Int → Int} (h : ∀ j, 0 ≤ j → j < n → j < 3 → x j = y j) : u3 n x = u3 n y :=
  Int.le_antisymm (u3_le fun j a b c => Int.le_of_eq (h j a b c)) (u3_le fun j a b c => Int.le_of_eq (h j a b c).symm)
theorem u3_in {n : Int} {x : Int → Int} {m : Int} (hm : 0 ≤ m) (h : ∀ j, 0 ≤ j → j < n → j < 3 → 0 ≤ x j ∧ x j ≤ m) : 0 ≤ u3 n x ∧ u3 n x ≤ 3 * m := by
  constructor
  · have := u3_le (n := n) (x := fun _ => 0) (y := x) (fun j a b c => (h j a b c).1)
    have e : u3 n (fun _ => 0) = 0 := by unfold u3; split <;> split <;> split <;> rfl
    omega
  · have := u3_le (n := n) (x := x) (y := fun _ => m) (fun j a b c => (h j a b c).2)
    have e : u3 n (fun _ => m) ≤ 3 * m := by unfold u3; dsimp only; split <;> split <;> split <;> omega
    omega
theorem held_le {a b : Int} (h : a ≤ b) : held a ≤ held b := by unfold held; split <;> split <;> omega
theorem held_in {a : Int} (h : 0 ≤ a) : 0 ≤ held a ∧ held a ≤ 2 := by unfold held; split <;> omega
theorem most_le {a b c d : Int} (h : a ≤ c) (h' : b ≤ d) : most a b ≤ most c d := by unfold most; split <;> split <;> omega
theorem mul_le2 {a b c d : Int} (h : a ≤ c) (h' : b ≤ d) (hb : 0 ≤ b) (hc : 0 ≤ c) : a * b ≤ c * d := Int.mul_le_mul h h' hb hc
theorem mul_in2 {a b : Int} (ha : 0 ≤ a ∧ a ≤ 2) (hb : 0 ≤ b ∧ b ≤ 2) : 0 ≤ a * b ∧ a * b ≤ 4 := by
  have h1 := Int.mul_nonneg ha.1 hb.1
  have h2 : a * b ≤ 2 * 2 := mul_le2 ha.2 hb.2 hb.1 (by decide)
  omega
def ul (S Z : Int → Int) (U : Int → Int → Int) (C : Int → Int) (a p : Int) : Int :=
  if kd (S p) = 3 then (if wo (S p) = a then 1 else 0) else if kd (S p) = 4 then held (C (tp Z p 0) + C (tp Z p 1))
  else if kd (S p) = 5 then held (C (tp Z p 0) + most (C (tp Z p 1)) (C (tp Z p 2)))
  else if kd (S p) = 6 then held (u3 (nA (wo (S p))) (fun j => U (wo (S p)) j * C (tp Z p j))) else 0
def SolU (S Z : Int → Int) (U : Int → Int → Int) (C : Int → Int) (a b n : Int) : Prop := ∀ p, b ≤ p → p < b + n → C p = ul S Z U C a p
def in2 (C : Int → Int) : Prop := ∀ p, 0 ≤ C p ∧ C p ≤ 2
def inU (U : Int → Int → Int) : Prop := ∀ g a, 0 ≤ U g a ∧ U g a ≤ 2
def leU (U U' : Int → Int → Int) : Prop := ∀ g a, 0 ≤ g → g < 4 → 0 ≤ a → a < nA g → U g a ≤ U' g a
theorem ul_congr {S Z : Int → Int} {U : Int → Int → Int} {C C' : Int → Int} {a p : Int} (hc : ∀ j, 0 ≤ j → j < tx (S p) → C (tp Z p j) = C' (tp Z p j)) : ul S Z U C a p = ul S Z U C' a p := by
  unfold ul
  by_cases k3 : kd (S p) = 3
  · rw [if_pos k3, if_pos k3]
  rw [if_neg k3, if_neg k3]
  by_cases k4 : kd (S p) = 4
  · have h5 := tx_4 k4
    rw [if_pos k4, if_pos k4, hc 0 (by omega) (by omega), hc 1 (by omega) (by omega)]
  rw [if_neg k4, if_neg k4]
  by_cases k5 : kd (S p) = 5
  · have h5 := tx_5 k5
    rw [if_pos k5, if_pos k5, hc 0 (by omega) (by omega), hc 1 (by omega) (by omega), hc 2 (by omega) (by omega)]
  rw [if_neg k5, if_neg k5]
  by_cases k6 : kd (S p) = 6
  · have h5 := tx_6 k6
    rw [if_pos k6, if_pos k6]
    congr 1
    exact u3_congr (fun j h0 h1 _ => by rw [hc j h0 (by omega)])
  · rw [if_neg k6, if_neg k6]
theorem ul_tables {S Z : Int → Int} {U U' : Int → Int → Int} {C : Int → Int} {a p : Int} (h : ∀ g j, 0 ≤ g → g < 4 → 0 ≤ j → j < nA g → U g j = U' g j) : ul S Z U C a p = ul S Z U' C a p := by
  unfold ul
  by_cases k6 : kd (S p) = 6
  · have h6 := wo_6 k6
    rw [if_neg (by omega), if_neg (by omega), if_neg (by omega), if_pos k6, if_neg (by omega), if_neg (by omega), if_neg (by omega), if_pos k6]
    congr 1
    exact u3_congr (fun j h0 h1 _ => by rw [h _ j h6.1 h6.2 h0 h1])
  · rw [if_neg k6, if_neg k6]
theorem ul_in {S Z : Int → Int} {U : Int → Int → Int} {C : Int → Int} {a p : Int} (hU : inU U) (hC : in2 C) : 0 ≤ ul S Z U C a p ∧ ul S Z U C a p ≤ 2 := by
  have c0 := hC (tp Z p 0)
  have c1 := hC (tp Z p 1)
  have c2 := hC (tp Z p 2)
  unfold ul
  split
  · split <;> omega
  · split
    · exact held_in (by omega)
    · split
      · exact held_in (by unfold most; split <;> omega)
      · split
        · exact held_in (u3_in (m := 4) (by decide) (fun j _ _ _ => mul_in2 (hU _ j) (hC _))).1
        · decide
theorem us_le {S Z D : Int → Int} {b n : Int} {U U' : Int → Int → Int} {C C' : Int → Int} {a : Int} (hW : Wf S Z D b n) (hUU : leU U U') (hU : inU U) (hU' : inU U') (h2 : in2 C) (hC : SolU S Z U C a b n) (hC' : SolU S Z U' C' a b n) :
    ∀ (k : Nat) (p : Int), b ≤ p → p < b + n → b + n - p ≤ k → C p ≤ C' p := by
  intro k
  induction k with
  | zero => intro p h1 h2 h3; exfalso; omega
  | succ k ih =>
    intro p h1 h3 h4
    have hc : ∀ j, 0 ≤ j → j < tx (S p) → C (tp Z p j) ≤ C' (tp Z p j) := by
      intro j hj0 hj1
      have h5 := (hW.2.2.2.2 p h1 h3).2.1 j hj0 hj1
      exact ih _ (by omega) h5.2.1 (by omega)
    rw [hC p h1 h3, hC' p h1 h3]
    unfold ul
    by_cases k3 : kd (S p) = 3
    · rw [if_pos k3, if_pos k3]; exact Int.le_refl _
    rw [if_neg k3, if_neg k3]
    by_cases k4 : kd (S p) = 4
    · have h5 := tx_4 k4
      rw [if_pos k4, if_pos k4]
      have i0 := hc 0 (by omega) (by omega)
      have i1 := hc 1 (by omega) (by omega)
      exact held_le (by omega)
    rw [if_neg k4, if_neg k4]
    by_cases k5 : kd (S p) = 5
    · have h5 := tx_5 k5
      rw [if_pos k5, if_pos k5]
      have i0 := hc 0 (by omega) (by omega)
      have i1 := most_le (hc 1 (by omega) (by omega)) (hc 2 (by omega) (by omega))
      exact held_le (by omega)
    rw [if_neg k5, if_neg k5]
    by_cases k6 : kd (S p) = 6
    · have h5 := tx_6 k6
      have h6 := wo_6 k6
      rw [if_pos k6, if_pos k6]
      exact held_le (u3_le (fun j h0 h1 _ => mul_le2 (hUU _ j h6.1 h6.2 h0 h1) (hc j h0 (by omega)) (h2 _).1 (hU' _ j).1))
    · rw [if_neg k6, if_neg k6]; exact Int.le_refl _
theorem SolU.le {S Z D : Int → Int} {b n : Int} {U U' : Int → Int → Int} {C C' : Int → Int} {a : Int} (hC : SolU S Z U C a b n) (hW : Wf S Z D b n) (hUU : leU U U') (hU : inU U) (hU' : inU U') (h2 : in2 C) (hC' : SolU S Z U' C' a b n) {p : Int} (h1 : b ≤ p) (h3 : p < b + n) : C p ≤ C' p :=
  us_le hW hUU hU hU' h2 hC hC' (b + n - p).toNat p h1 h3 (by omega)
def FixU (N S Z : Int → Int) (U : Int → Int → Int) : Prop := inU U ∧ ∀ f, 0 ≤ f → f < 4 → ∀ a, 0 ≤ a → a < nA f → ∃ C, in2 C ∧ SolU S Z U C a (f * 30) (N f) ∧ U f a = C (f * 30)
def LfpU (N S Z : Int → Int) (U : Int → Int → Int) : Prop := FixU N S Z U ∧ ∀ L, FixU N S Z L → leU U L
