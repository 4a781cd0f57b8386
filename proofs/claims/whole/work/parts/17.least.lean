/-! tables of what may come: the least ones -/
abbrev TB : Type := Int → Int → Bool
def mvl (S Z : Int → Int) (T : TB) (V : Int → Bool) (s p : Int) : Bool :=
  if kd (S p) = 1 then true else if kd (S p) = 3 then bt s (wo (S p)) else if kd (S p) = 4 then V (tp Z p 0) && V (tp Z p 1)
  else if kd (S p) = 5 then V (tp Z p 0) && (V (tp Z p 1) || V (tp Z p 2))
  else if kd (S p) = 6 then T (wo (S p)) (c3 (nA (wo (S p))) (V (tp Z p 0)) (V (tp Z p 1)) (V (tp Z p 2))) else false
def Sol (S Z : Int → Int) (T : TB) (V : Int → Bool) (s b n : Int) : Prop := ∀ p, b ≤ p → p < b + n → V p = mvl S Z T V s p
def sub (r r' : Int) : Prop := ∀ a : Int, 0 ≤ a → a < 3 → bt r a = true → bt r' a = true
theorem sub.refl (r : Int) : sub r r := fun _ _ _ h => h
def MonoT (T : TB) : Prop := ∀ g r r', 0 ≤ g → g < 4 → 0 ≤ r → r ≤ aA g → 0 ≤ r' → r' ≤ aA g → sub r r' → T g r = true → T g r' = true
def leT (T T' : TB) : Prop := ∀ g r, 0 ≤ g → g < 4 → 0 ≤ r → r ≤ aA g → T g r = true → T' g r = true
theorem leT.refl (T : TB) : leT T T := fun _ _ _ _ _ _ h => h
theorem leT.trans {T T' T'' : TB} (h : leT T T') (h' : leT T' T'') : leT T T'' := fun g r a b c d e => h' g r a b c d (h g r a b c d e)
theorem c3_bits {n : Int} (hn : 0 ≤ n ∧ n ≤ 3) (v0 v1 v2 : Bool) : bt (c3 n v0 v1 v2) 0 = (decide (0 < n) && v0) ∧ bt (c3 n v0 v1 v2) 1 = (decide (1 < n) && v1) ∧ bt (c3 n v0 v1 v2) 2 = (decide (2 < n) && v2) := by
  have h1 : n = 0 ∨ n = 1 ∨ n = 2 ∨ n = 3 := by omega
  rcases h1 with rfl | rfl | rfl | rfl <;> cases v0 <;> cases v1 <;> cases v2 <;> decide
theorem c3_sub {n : Int} (hn : 0 ≤ n ∧ n ≤ 3) {v0 v1 v2 w0 w1 w2 : Bool} (h0 : 0 < n → v0 = true → w0 = true) (h1 : 1 < n → v1 = true → w1 = true) (h2 : 2 < n → v2 = true → w2 = true) : sub (c3 n v0 v1 v2) (c3 n w0 w1 w2) := by
  obtain ⟨a0, a1, a2⟩ := c3_bits hn v0 v1 v2
  obtain ⟨b0, b1, b2⟩ := c3_bits hn w0 w1 w2
  intro a ha0 ha1 h
  have h3 : a = 0 ∨ a = 1 ∨ a = 2 := by omega
  rcases h3 with rfl | rfl | rfl
  · rw [a0] at h; rw [b0]; simp at h ⊢; exact ⟨h.1, h0 h.1 h.2⟩
  · rw [a1] at h; rw [b1]; simp at h ⊢; exact ⟨h.1, h1 h.1 h.2⟩
  · rw [a2] at h; rw [b2]; simp at h ⊢; exact ⟨h.1, h2 h.1 h.2⟩
theorem tx_4 {c : Int} (h : kd c = 4) : tx c = 2 := by simp [tx, h]
theorem tx_5 {c : Int} (h : kd c = 5) : tx c = 3 := by simp [tx, h]
theorem tx_6 {c : Int} (h : kd c = 6) : tx c = nA (wo c) := by simp [tx, h]
/-- what may come grows with the tables and with the set -/
theorem mv_le {S Z D : Int → Int} {b n : Int} {T T' : TB} {V V' : Int → Bool} {s s' : Int} (hW : Wf S Z D b n) (hT : MonoT T) (hTT : leT T T') (hs : sub s s') (hV : Sol S Z T V s b n) (hV' : Sol S Z T' V' s' b n) :
    ∀ (k : Nat) (p : Int), b ≤ p → p < b + n → b + n - p ≤ k → V p = true → V' p = true := by
  intro k
  induction k with
  | zero => intro p h1 h2 h3; exfalso; omega
  | succ k ih =>
    intro p h1 h2 h3 h
    have hc : ∀ j, 0 ≤ j → j < tx (S p) → V (tp Z p j) = true → V' (tp Z p j) = true := by
      intro j hj0 hj1 hv
      have h4 := (hW.2.2.2.2 p h1 h2).2.1 j hj0 hj1
      exact ih _ (by omega) h4.2.1 (by omega) hv
    rw [hV p h1 h2] at h
    rw [hV' p h1 h2]
    unfold mvl at h ⊢
    by_cases k1 : kd (S p) = 1
    · rw [if_pos k1]
    rw [if_neg k1] at h ⊢
    by_cases k3 : kd (S p) = 3
    · rw [if_pos k3] at h ⊢
      have h5 := kd_3.mp k3
      have h6 := wo_3 k3
      exact hs _ (by omega) (by omega) h
    rw [if_neg k3] at h ⊢
    by_cases k4 : kd (S p) = 4
    · rw [if_pos k4] at h ⊢
      have h5 := tx_4 k4
      simp only [Bool.and_eq_true] at h ⊢
      exact ⟨hc 0 (by omega) (by omega) h.1, hc 1 (by omega) (by omega) h.2⟩
    rw [if_neg k4] at h ⊢
    by_cases k5 : kd (S p) = 5
    · rw [if_pos k5] at h ⊢
      have h5 := tx_5 k5
      simp only [Bool.and_eq_true, Bool.or_eq_true] at h ⊢
      exact ⟨hc 0 (by omega) (by omega) h.1, h.2.elim (fun z => Or.inl (hc 1 (by omega) (by omega) z)) (fun z => Or.inr (hc 2 (by omega) (by omega) z))⟩
    rw [if_neg k5] at h ⊢
    by_cases k6 : kd (S p) = 6
    · rw [if_pos k6] at h ⊢
      have h5 := tx_6 k6
      have h6 := wo_6 k6
      have h7 := nA_in (wo (S p))
      have i1 := c3_in (f := wo (S p)) (V (tp Z p 0)) (V (tp Z p 1)) (V (tp Z p 2))
      have i2 := c3_in (f := wo (S p)) (V' (tp Z p 0)) (V' (tp Z p 1)) (V' (tp Z p 2))
      refine hTT _ _ h6.1 h6.2 i2.1 i2.2 (hT _ _ _ h6.1 h6.2 i1.1 i1.2 i2.1 i2.2 (c3_sub h7 ?_ ?_ ?_) h)
      · intro z; exact hc 0 (by omega) (by omega)
      · intro z; exact hc 1 (by omega) (by omega)
      · intro z; exact hc 2 (by omega) (by omega)
    · rw [if_neg k6] at h; cases h
theorem Sol.le {S Z D : Int → Int} {b n : Int} {T T' : TB} {V V' : Int → Bool} {s s' : Int} (hV : Sol S Z T V s b n) (hW : Wf S Z D b n) (hT : MonoT T) (hTT : leT T T') (hs : sub s s') (hV' : Sol S Z T' V' s' b n) {p : Int} (h1 : b ≤ p) (h2 : p < b + n) (h : V p = true) : V' p = true :=
  mv_le hW hT hTT hs hV hV' (b + n - p).toNat p h1 h2 (by omega) h
/-- one solution alone -/
theorem mv_eq {S Z D : Int → Int} {b n : Int} {T T' : TB} {V V' : Int → Bool} {s : Int} (hW : Wf S Z D b n) (hTT : ∀ g r, 0 ≤ g → g < 4 → 0 ≤ r → r ≤ aA g → T g r = T' g r) (hV : Sol S Z T V s b n) (hV' : Sol S Z T' V' s b n) :
    ∀ (k : Nat) (p : Int), b ≤ p → p < b + n → b + n - p ≤ k → V p = V' p := by
  intro k
  induction k with
  | zero => intro p h1 h2 h3; exfalso; omega
  | succ k ih =>
    intro p h1 h2 h3
    have hc : ∀ j, 0 ≤ j → j < tx (S p) → V (tp Z p j) = V' (tp Z p j) := by
      intro j hj0 hj1
      have h4 := (hW.2.2.2.2 p h1 h2).2.1 j hj0 hj1
      exact ih _ (by omega) h4.2.1 (by omega)
    rw [hV p h1 h2, hV' p h1 h2]
    unfold mvl
    by_cases k1 : kd (S p) = 1
    · rw [if_pos k1, if_pos k1]
    rw [if_neg k1, if_neg k1]
    by_cases k3 : kd (S p) = 3
    · rw [if_pos k3, if_pos k3]
    rw [if_neg k3, if_neg k3]
    by_cases k4 : kd (S p) = 4
    · have h5 := tx_4 k4
      rw [if_pos k4, if_pos k4, hc 0 (by omega) (by omega), hc 1 (by omega) (by omega)]
    rw [if_neg k4, if_neg k4]
    by_cases k5 : kd (S p) = 5
    · have h5 := tx_5 k5
      rw [if_pos k5, if_pos k5, hc 0 (by omega) (by omega), hc 1 (by omega) (by omega), hc 2 (by omega) (by omega)]
    rw [if_neg k5, if_neg k5]
    by_cases k6 : kd (S p) = 6
    · rw [if_pos k6, if_pos k6]
      have h5 := tx_6 k6
      have h6 := wo_6 k6
      have h7 := nA_in (wo (S p))
      have e : c3 (nA (wo (S p))) (V (tp Z p 0)) (V (tp Z p 1)) (V (tp Z p 2)) = c3 (nA (wo (S p))) (V' (tp Z p 0)) (V' (tp Z p 1)) (V' (tp Z p 2)) := by
        have h8 : nA (wo (S p)) = 0 ∨ nA (wo (S p)) = 1 ∨ nA (wo (S p)) = 2 ∨ nA (wo (S p)) = 3 := by omega
        rcases h8 with h8 | h8 | h8 | h8
        · rw [h8]; simp [c3]
        · rw [hc 0 (by omega) (by omega), h8]; simp [c3]
        · rw [hc 0 (by omega) (by omega), hc 1 (by omega) (by omega), h8]; simp [c3]
        · rw [hc 0 (by omega) (by omega), hc 1 (by omega) (by omega), hc 2 (by omega) (by omega)]
      rw [e]
      have i2 := c3_in (f := wo (S p)) (V' (tp Z p 0)) (V' (tp Z p 1)) (V' (tp Z p 2))
      exact hTT _ _ h6.1 h6.2 i2.1 i2.2
    · rw [if_neg k6, if_neg k6]
theorem Sol.eq {S Z D : Int → Int} {b n : Int} {T T' : TB} {V V' : Int → Bool} {s : Int} (hV : Sol S Z T V s b n) (hW : Wf S Z D b n) (hTT : ∀ g r, 0 ≤ g → g < 4 → 0 ≤ r → r ≤ aA g → T g r = T' g r) (hV' : Sol S Z T' V' s b n) {p : Int} (h1 : b ≤ p) (h2 : p < b + n) : V p = V' p :=
  mv_eq hW hTT hV hV' (b + n - p).toNat p h1 h2 (by omega)
/-- tables that hold: for each FUNCTION and set what comes of its BODY -/
def FixT (N S Z : Int → Int) (T : TB) : Prop := ∀ f, 0 ≤ f → f < 4 → ∀ s, 0 ≤ s → s ≤ aA f → ∃ V, Sol S Z T V s (f * 30) (N f) ∧ T f s = V (f * 30)
/-- tables that hold at least what comes -/
def PreT (N S Z : Int → Int) (T : TB) : Prop := ∀ f, 0 ≤ f → f < 4 → ∀ s, 0 ≤ s → s ≤ aA f → ∃ V, Sol S Z T V s (f * 30) (N f) ∧ (V (f * 30) = true → T f s = true)
/-- the least ones -/
def LfpT (N S Z : Int → Int) (T : TB) : Prop := MonoT T ∧ FixT N S Z T ∧ ∀ L, MonoT L → PreT N S Z L → leT T L
