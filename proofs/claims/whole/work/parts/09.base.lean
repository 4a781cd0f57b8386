/-! words of the class, as numbers -/
theorem G_sub {X : Cx} {E : Ev} {nL : Nat} {q : Nat → Nat} {sh : List Shp} {σ : Sg} {ck cs : Nat} {Q : State → Prop} {pc : Nat} {lv lv' : List (Nat × Value)} {st : List Value} {ks : List Nat} (h : lv_pick lv ks = lv') (k : G X E nL q sh σ ck cs Q pc lv' st) : G X E nL q sh σ ck cs Q pc lv st :=
  fun hA H locs ls hP hS hl => k hA H locs ls hP hS (lv_sub hl ks h)
theorem G_eq {X : Cx} {E : Ev} {nL : Nat} {q : Nat → Nat} {sh : List Shp} {σ τ : Sg} {ck cs : Nat} {Q : State → Prop} {pc : Nat} {lv : List (Nat × Value)} {st : List Value} (h : σ = τ) (k : G X E nL q sh τ ck cs Q pc lv st) : G X E nL q sh σ ck cs Q pc lv st := h ▸ k
theorem G_top {X : Cx} {E : Ev} {nL : Nat} {q : Nat → Nat} {sh : List Shp} {σ : Sg} {ck cs : Nat} {Q : State → Prop} {pc : Nat} {lv : List (Nat × Value)} {st : List Value} {a b : Int} (h : a = b) (k : G X E nL q sh σ ck cs Q pc lv (vI b :: st)) : G X E nL q sh σ ck cs Q pc lv (vI a :: st) := h ▸ k
/-- how many ARGUMENTS a FUNCTION has, and all of them as bits -/
def nA (f : Int) : Int := if f = 0 then 1 else if f = 1 then 2 else if f = 2 then 3 else if f = 3 then 2 else 0
def aA (f : Int) : Int := if f = 0 then 1 else if f = 1 then 3 else if f = 2 then 7 else if f = 3 then 3 else 0
theorem four {f : Int} (h : 0 ≤ f ∧ f < 4) : f = 0 ∨ f = 1 ∨ f = 2 ∨ f = 3 := by omega
theorem stV_0 {f : Int} (h : 0 ≤ f ∧ f < 4) : stV 0 f = nA f := by rcases four h with rfl | rfl | rfl | rfl <;> rfl
theorem nA_in (f : Int) : 0 ≤ nA f ∧ nA f ≤ 3 := by unfold nA; split <;> (try split) <;> (try split) <;> (try split) <;> omega
theorem nA_pos {f : Int} (h : 0 ≤ f ∧ f < 4) : 1 ≤ nA f := by rcases four h with rfl | rfl | rfl | rfl <;> decide
theorem nA_out {f : Int} (h : ¬ (0 ≤ f ∧ f < 4)) : nA f = 0 := by
  unfold nA
  rw [if_neg (by omega), if_neg (by omega), if_neg (by omega), if_neg (by omega)]
theorem aA_eq (f : Int) : bShl 1 (nA f) - 1 = aA f := by
  by_cases h : 0 ≤ f ∧ f < 4
  · rcases four h with rfl | rfl | rfl | rfl <;> decide
  · rw [nA_out h]
    unfold aA
    rw [if_neg (by omega), if_neg (by omega), if_neg (by omega), if_neg (by omega)]
    decide
theorem aA_in (f : Int) : 0 ≤ aA f ∧ aA f ≤ 7 := by unfold aA; split <;> (try split) <;> (try split) <;> (try split) <;> omega
/-- what a sign is: 0 unfit, 1 number, 2 nothing, 3 argument, 4 act, 5 choice, 6 call; which one; how many texts -/
def kd (c : Int) : Int := if 48 ≤ c ∧ c ≤ 55 then 1 else if 120 ≤ c ∧ c ≤ 122 then 3 else if c = 33 then 2 else if c = 42 ∨ c = 43 ∨ c = 45 ∨ c = 109 then 4 else if c = 63 then 5 else if c = 102 ∨ c = 103 ∨ c = 104 ∨ c = 107 then 6 else 0
def wo (c : Int) : Int := if kd c = 1 then c - 48 else if kd c = 3 then c - 120 else if kd c = 6 then (if c = 107 then 3 else c - 102) else c
def tx (c : Int) : Int := if kd c = 4 then 2 else if kd c = 5 then 3 else if kd c = 6 then nA (wo c) else 0
theorem kd_in (c : Int) : 0 ≤ kd c ∧ kd c ≤ 6 := by unfold kd; split <;> (try split) <;> (try split) <;> (try split) <;> (try split) <;> (try split) <;> omega
theorem kd_1 {c : Int} : kd c = 1 ↔ 48 ≤ c ∧ c ≤ 55 := by unfold kd; split <;> (try split) <;> (try split) <;> (try split) <;> (try split) <;> (try split) <;> omega
theorem kd_2 {c : Int} : kd c = 2 ↔ c = 33 := by unfold kd; split <;> (try split) <;> (try split) <;> (try split) <;> (try split) <;> (try split) <;> omega
theorem kd_3 {c : Int} : kd c = 3 ↔ 120 ≤ c ∧ c ≤ 122 := by unfold kd; split <;> (try split) <;> (try split) <;> (try split) <;> (try split) <;> (try split) <;> omega
theorem kd_4 {c : Int} : kd c = 4 ↔ c = 42 ∨ c = 43 ∨ c = 45 ∨ c = 109 := by unfold kd; split <;> (try split) <;> (try split) <;> (try split) <;> (try split) <;> (try split) <;> omega
theorem kd_5 {c : Int} : kd c = 5 ↔ c = 63 := by unfold kd; split <;> (try split) <;> (try split) <;> (try split) <;> (try split) <;> (try split) <;> omega
theorem kd_6 {c : Int} : kd c = 6 ↔ c = 102 ∨ c = 103 ∨ c = 104 ∨ c = 107 := by unfold kd; split <;> (try split) <;> (try split) <;> (try split) <;> (try split) <;> (try split) <;> omega
theorem wo_1 {c : Int} (h : kd c = 1) : wo c = c - 48 := by simp [wo, h]
theorem wo_3 {c : Int} (h : kd c = 3) : wo c = c - 120 := by simp [wo, h]
theorem wo_6 {c : Int} (h : kd c = 6) : 0 ≤ wo c ∧ wo c < 4 := by
  have h2 := kd_6.mp h
  have e : wo c = if c = 107 then 3 else c - 102 := by simp [wo, h]
  rw [e]; split <;> omega
theorem tx_in (c : Int) : 0 ≤ tx c ∧ tx c ≤ 3 := by
  have h := nA_in (wo c)
  unfold tx; split <;> (try split) <;> (try split) <;> omega
