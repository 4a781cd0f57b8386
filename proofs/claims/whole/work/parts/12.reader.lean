/-! the reader, as a pure run: the level, and how many texts are missing at each level -/
def Sm (ks : List Nat) (σ τ : Sg) : Prop := ∀ k, k ∉ ks → τ k = σ k
theorem Sm.refl (ks : List Nat) (σ : Sg) : Sm ks σ σ := fun _ _ => rfl
theorem Sm.trans {ks : List Nat} {σ τ υ : Sg} (h1 : Sm ks σ τ) (h2 : Sm ks τ υ) : Sm ks σ υ := fun k h => (h2 k h).trans (h1 k h)
theorem Sm.up {ks : List Nat} {σ τ : Sg} (h : Sm ks σ τ) {k : Nat} (hk : k ∈ ks) (i v : Int) : Sm ks σ (up τ k i v) := by
  intro k' h'
  have hne : k' ≠ k := fun e => h' (e ▸ hk)
  rw [up_ne τ hne]
  exact h k' h'
theorem Sm.wide {ks ks' : List Nat} {σ τ : Sg} (h : Sm ks σ τ) (hs : ∀ k ∈ ks, k ∈ ks') : Sm ks' σ τ := fun k hk => h k (fun h' => hk (hs k h'))
/-- the greatest level below n at which something is missing; -1 -/
def popN (M : Int → Int) : Nat → Int
  | 0 => -1
  | n + 1 => if M n = 0 then popN M n else n
def passM (L : Int) (M : Int → Int) (t : Int) : Int → Int := fun j => if 0 < t ∧ L < 9 ∧ j = L + 1 then t else if j = L then M j - 1 else M j
def passL (L : Int) (M : Int → Int) (t : Int) : Int := popN (passM L M t) (if 0 < t ∧ L < 9 then (L + 2).toNat else (L + 1).toNat)
theorem popN_in (M : Int → Int) : ∀ n : Nat, -1 ≤ popN M n ∧ popN M n < n
  | 0 => by simp [popN]
  | n + 1 => by
    have h := popN_in M n
    unfold popN
    split <;> omega
theorem passL_in {L : Int} (M : Int → Int) (t : Int) (h : 0 ≤ L ∧ L ≤ 9) : -1 ≤ passL L M t ∧ passL L M t ≤ 9 := by
  unfold passL
  have h2 := popN_in (passM L M t) (if 0 < t ∧ L < 9 then (L + 2).toNat else (L + 1).toNat)
  split at h2 <;> rename_i hc
  · rw [if_pos hc]; omega
  · rw [if_neg hc]; omega
/-- whether a sign can stand at a level in a text of a FUNCTION -/
def canSt (L c f : Int) : Bool := decide (0 ≤ L) && decide (kd c ≠ 0) && (if kd c = 3 then decide (wo c < nA f) else decide (L < 9 ∨ tx c = 0))
theorem tx_3 {c : Int} (h : kd c = 3) : tx c = 0 := by simp [tx, h]
/-- the run: from place i on, with so many places left -/
def ffun (S : Int → Int) (n f : Int) : Nat → Int → Int → (Int → Int) → Int
  | 0, _, L, _ => if L < 0 then -6 else n
  | k + 1, i, L, M => if canSt L (S i) f = true then ffun S n f k (i + 1) (passL L M (tx (S i))) (passM L M (tx (S i))) else i
theorem passM_in {L : Int} {M : Int → Int} {t : Int} (h : ∀ j, 0 ≤ M j ∧ M j ≤ 3) (h1 : 1 ≤ M L) (ht : 0 ≤ t ∧ t ≤ 3) : ∀ j, 0 ≤ passM L M t j ∧ passM L M t j ≤ 3 := by
  intro j
  have hj := h j
  unfold passM
  split
  · exact ht
  · split
    · rename_i e; rw [e]; rw [e] at hj; omega
    · exact hj
theorem popN_ne (M : Int → Int) : ∀ n : Nat, 0 ≤ popN M n → M (popN M n) ≠ 0
  | 0, h => by simp [popN] at h
  | n + 1, h => by
    have ih := popN_ne M n
    unfold popN at h ⊢
    split
    · rename_i e
      rw [if_pos e] at h
      exact ih h
    · rename_i e; exact e
theorem passL_1 {L : Int} {M : Int → Int} {t : Int} (h : ∀ j, 0 ≤ passM L M t j ∧ passM L M t j ≤ 3) (h0 : 0 ≤ passL L M t) : 1 ≤ passM L M t (passL L M t) := by
  have h1 := popN_ne (passM L M t) _ h0
  have h2 := h (passL L M t)
  unfold passL at h2 ⊢
  omega
theorem canSt_iff {L c f : Int} : canSt L c f = true ↔ 0 ≤ L ∧ kd c ≠ 0 ∧ (kd c = 3 → wo c < nA f) ∧ (kd c ≠ 3 → L < 9 ∨ tx c = 0) := by
  unfold canSt
  by_cases h : kd c = 3
  · simp [h]
  · simp [h, and_assoc]
theorem canSt_3 {L c f : Int} (hL : 0 ≤ L) (hk : kd c = 3) (hf : 0 ≤ f ∧ f < 4) : (if canSt L c f = true then (1 : Int) else 0) = if (0 ≤ f ∧ f < 4) ∧ 0 ≤ wo c ∧ wo c < nA f then 1 else 0 := by
  have hw := wo_3 hk
  have h3 := kd_3.mp hk
  by_cases hc : wo c < nA f
  · rw [if_pos (canSt_iff.mpr ⟨hL, by omega, fun _ => hc, fun h => absurd hk h⟩), if_pos (by omega)]
  · rw [if_neg (fun h => hc ((canSt_iff.mp h).2.2.1 hk)), if_neg (by omega)]
/-- two rows of numbers that agree where a run looks -/
theorem popN_congr {M M' : Int → Int} : ∀ n : Nat, (∀ j : Int, 0 ≤ j → j < n → M j = M' j) → popN M n = popN M' n
  | 0, _ => rfl
  | n + 1, h => by
    unfold popN
    rw [h n (by omega) (by omega), popN_congr n (fun j h0 h1 => h j h0 (by omega))]
