/-! lockstep: how a RUN starts and ends -/
def TW (ρ τ : Sg) : Prop := BOK ρ ∧ AH ρ ∧ (∀ f, 0 ≤ f → f < 4 → 0 ≤ ρ 15 f ∧ ρ 15 f < 256) ∧ MOK τ ∧ MTR τ ∧ (∀ f, 0 ≤ f → f < 4 → τ 34 f = ρ 6 f) ∧ (∀ f p, inB ρ f p → τ 31 p = ρ 7 p ∧ τ 32 p = ρ 10 p) ∧ (∀ f j, 0 ≤ f → f < 4 → 0 ≤ j → j < nA f → bt (ρ 15 f) j = !mtb τ f (cutA f (bShl 1 j)))
theorem TW.rows {ρ τ ρ' τ' : Sg} (h : TW ρ τ) (h1 : ∀ k, k ∈ brows → ρ' k = ρ k) (hA : AH ρ') (h2 : ∀ k, k ∈ mbrows → τ' k = τ k) : TW ρ' τ' := by
  obtain ⟨a, b, c, d, e, f, g, i⟩ := h
  have em : mtb τ' = mtb τ := by unfold mtb; rw [h2 37 (by decide)]
  refine ⟨BOK_rows a (fun k hk => h1 k (by revert k; decide)), hA, fun z z0 z1 => by rw [h1 15 (by decide)]; exact c z z0 z1, MOK_rows d (fun k hk => h2 k (by revert k; decide)), fun z => by rw [h2 37 (by decide)]; exact e z, ?_, ?_, ?_⟩
  · rw [h2 34 (by decide), h1 6 (by decide)]; exact f
  · intro x p hp
    unfold inB at hp
    rw [h1 6 (by decide)] at hp
    rw [h2 31 (by decide), h2 32 (by decide), h1 7 (by decide), h1 10 (by decide)]
    exact g x p hp
  · rw [h1 15 (by decide), em]; exact i
theorem dv_shift (r : Int) : ∀ m : Nat, dv (r / 9) m = dv r (m + 1)
  | 0 => rfl
  | m + 1 => by
    have ih := dv_shift r m
    show dv (r / 9) m / 9 = dv r (m + 1) / 9
    rw [ih]
theorem tkT_22 (ah : Int) : ∀ (k : Nat) (r : Int) (σ : Sg) (j : Int), tkT ah k r σ 22 j = if 0 ≤ j ∧ j < k then dv r ((k : Int) - 1 - j).toNat % 9 else σ 22 j
  | 0, r, σ, j => by rw [if_neg (by omega)]; rfl
  | k + 1, r, σ, j => by
    unfold tkT
    rw [tkT_22 ah k (r / 9) _ j]
    have e : (if r % 9 = 8 ∧ bt ah k = true then up (up σ 22 k (r % 9)) 21 12 8 else up σ 22 k (r % 9)) 22 j = if j = k then r % 9 else σ 22 j := by
      split
      · rw [up_ne _ (by decide), up_at]
      · rw [up_at]
    rw [e]
    by_cases h : 0 ≤ j ∧ j < k
    · rw [if_pos h, if_pos (by omega), dv_shift, show (((k + 1 : Nat) : Int) - 1 - j).toNat = ((k : Int) - 1 - j).toNat + 1 by omega]
    · rw [if_neg h]
      by_cases h2 : j = k
      · rw [if_pos h2, if_pos (by omega), show (((k + 1 : Nat) : Int) - 1 - j).toNat = 0 by omega]
        rfl
      · rw [if_neg h2, if_neg (by omega)]
theorem tkT_21 (ah : Int) {i : Int} (hi : i ≠ 12) : ∀ (k : Nat) (r : Int) (σ : Sg), tkT ah k r σ 21 i = σ 21 i
  | 0, r, σ => rfl
  | k + 1, r, σ => by
    unfold tkT
    rw [tkT_21 ah hi k (r / 9) _]
    split
    · rw [up_other _ _ hi, up_ne _ (by decide)]
    · rw [up_ne _ (by decide)]
def hit (ah : Int) (r : Int) (k : Nat) : Prop := ∃ j : Int, 0 ≤ j ∧ j < k ∧ dv r ((k : Int) - 1 - j).toNat % 9 = 8 ∧ bt ah j = true
theorem tkT_12 (ah : Int) : ∀ (k : Nat) (r : Int) (σ : Sg), (hit ah r k ∧ tkT ah k r σ 21 12 = 8) ∨ (¬ hit ah r k ∧ tkT ah k r σ 21 12 = σ 21 12)
  | 0, r, σ => Or.inr ⟨fun ⟨j, a, b, _⟩ => by omega, rfl⟩
  | k + 1, r, σ => by
    unfold tkT
    have hh : hit ah (r / 9) k → hit ah r (k + 1) := by
      rintro ⟨j, a, b, c, d⟩
      rw [dv_shift] at c
      exact ⟨j, a, by omega, by rw [show (((k + 1 : Nat) : Int) - 1 - j).toNat = ((k : Int) - 1 - j).toNat + 1 by omega]; exact c, d⟩
    by_cases hc : r % 9 = 8 ∧ bt ah k = true
    · left
      rw [if_pos hc]
      refine ⟨⟨k, by omega, by omega, by rw [show (((k + 1 : Nat) : Int) - 1 - (k : Int)).toNat = 0 by omega]; exact hc.1, hc.2⟩, ?_⟩
      rcases tkT_12 ah k (r / 9) (up (up σ 22 k (r % 9)) 21 12 8) with ⟨_, e⟩ | ⟨_, e⟩
      · exact e
      · rw [e, up_same]
    · rw [if_neg hc]
      rcases tkT_12 ah k (r / 9) (up σ 22 k (r % 9)) with ⟨h, e⟩ | ⟨h, e⟩
      · exact Or.inl ⟨hh h, e⟩
      · right
        refine ⟨?_, by rw [e, up_ne _ (by decide)]⟩
        rintro ⟨j, a, b, c, d⟩
        by_cases z : j = k
        · rw [z, show (((k + 1 : Nat) : Int) - 1 - (k : Int)).toNat = 0 by omega] at c
          exact hc ⟨c, by rw [← z]; exact d⟩
        · refine h ⟨j, a, by omega, ?_, d⟩
          rw [dv_shift, ← show (((k + 1 : Nat) : Int) - 1 - j).toNat = ((k : Int) - 1 - j).toNat + 1 by omega]
          exact c
theorem nTold_41 (σ : Sg) (f a w j : Int) : ∀ k : Nat, nTold σ f a w k 41 j = if 0 ≤ j ∧ j < k then tdo f a j else σ 41 j
  | 0 => by rw [if_neg (by omega)]; rfl
  | k + 1 => by
    unfold nTold
    rw [up_ne _ (by decide), up_at, nTold_41 σ f a w j k]
    by_cases h : j = k
    · rw [if_pos h, if_pos (by omega), h]
    · rw [if_neg h]
      by_cases h2 : 0 ≤ j ∧ j < k
      · rw [if_pos h2, if_pos (by omega)]
      · rw [if_neg h2, if_neg (by omega)]
theorem nTold_30 (σ : Sg) (f a w : Int) {i : Int} (hi : i ≠ 20) : ∀ k : Nat, nTold σ f a w k 30 i = σ 30 i
  | 0 => rfl
  | k + 1 => by
    unfold nTold
    rw [up_other _ _ hi, up_ne _ (by decide), nTold_30 σ f a w hi k]
def hitM (σ : Sg) (f a w : Int) (k : Nat) : Prop := ∃ j : Int, 0 ≤ j ∧ j < k ∧ amB σ w f j = true ∧ tdo f a j = 8
theorem nTold_hit (σ : Sg) (f a w : Int) : ∀ k : Nat, (hitM σ f a w k ∧ nTold σ f a w k 30 20 = 8) ∨ (¬ hitM σ f a w k ∧ nTold σ f a w k 30 20 = σ 30 20)
  | 0 => Or.inr ⟨fun ⟨j, a, b, _⟩ => by omega, rfl⟩
  | k + 1 => by
    unfold nTold
    rw [up_same]
    by_cases hc : amB σ w f k = true ∧ tdo f a k = 8
    · rw [if_pos hc]
      exact Or.inl ⟨⟨k, by omega, by omega, hc.1, hc.2⟩, rfl⟩
    · rw [if_neg hc]
      rcases nTold_hit σ f a w k with ⟨⟨j, x, y, z, u⟩, e⟩ | ⟨h, e⟩
      · exact Or.inl ⟨⟨j, x, by omega, z, u⟩, e⟩
      · right
        refine ⟨?_, e⟩
        rintro ⟨j, x, y, z, u⟩
        by_cases q : j = k
        · rw [q] at z u; exact hc ⟨z, u⟩
        · exact h ⟨j, x, by omega, z, u⟩
theorem ah_bits {ρ τ : Sg} (h : TW ρ τ) {w f j v : Int} (hw : 0 ≤ w ∧ w < 4) (hf : 0 ≤ f ∧ f < 4) (hj : 0 ≤ j ∧ j < nA f) (hv : v = if w = 2 then aA f else if w = 3 then ρ 15 f else 0) : bt v j = amB τ w f j := by
  have hn := nA_in f
  by_cases w2 : w = 2
  · rw [hv, if_pos w2, amB_2 w2]
    have hj3 := three (y := j) (by omega)
    rcases four hf with rfl | rfl | rfl | rfl <;> rcases hj3 with rfl | rfl | rfl <;> first | decide | (exfalso; revert hj; decide)
  · rw [hv, if_neg w2]
    by_cases w3 : w = 3
    · rw [if_pos w3, h.2.2.2.2.2.2.2 f j hf.1 hf.2 hj.1 hj.2]
      cases hb : mtb τ f (cutA f (bShl 1 j))
      · rw [amB_3 w3 hb]; rfl
      · rw [amB_m w2 (by rw [hb]; simp)]; rfl
    · rw [if_neg w3, amB_n w2 w3, bt_0]
theorem Rel.start {ρ τ : Sg} {f a w : Int} (h : TW ρ τ) (hf : 0 ≤ f ∧ f < 4) (hw : 0 ≤ w ∧ w < 4) : Rel (mStart ρ f a w) (nStart τ f a w) w 903 := by
  have hn := nA_in f
  obtain ⟨ρ1, e1⟩ : ∃ s, s = up (up (up (up (up ρ 21 10 w) 21 12 (-1)) 21 13 0) 21 9 0) 21 5 1 := ⟨_, rfl⟩
  have r1 : ∀ k, k ≠ 21 → ρ1 k = ρ k := fun k hk => by rw [e1, up_ne _ hk, up_ne _ hk, up_ne _ hk, up_ne _ hk, up_ne _ hk]
  have a10 : ρ1 21 10 = w := by rw [e1, up_other _ _ (by decide), up_other _ _ (by decide), up_other _ _ (by decide), up_other _ _ (by decide), up_same]
  have a12 : ρ1 21 12 = -1 := by rw [e1, up_other _ _ (by decide), up_other _ _ (by decide), up_other _ _ (by decide), up_same]
  have a13 : ρ1 21 13 = 0 := by rw [e1, up_other _ _ (by decide), up_other _ _ (by decide), up_same]
  have a9 : ρ1 21 9 = 0 := by rw [e1, up_other _ _ (by decide), up_same]
  have a5 : ρ1 21 5 = 1 := by rw [e1, up_same]
  have c28 : ∀ x, 0 ≤ x → x < 4 → chs ρ1 4 28 x = if w = 2 then aA x else if w = 3 then ρ 15 x else 0 := by
    intro x x0 x1
    rw [chs_28, if_pos (by omega)]
    unfold chA
    rw [a10, r1 15 (by decide)]
  have cS := chs_Sm ρ1 4
  obtain ⟨ρ2, e2⟩ : ∃ s, s = tkT (chs ρ1 4 28 f) (nA f).toNat a (chs ρ1 4) := ⟨_, rfl⟩
  have tS : Sm [21, 22] (chs ρ1 4) ρ2 := by rw [e2]; exact tkT_Sm _ _ _ _
  have d21 : ∀ i : Int, i ≠ 12 → ρ2 21 i = ρ1 21 i := fun i hi => by rw [e2, tkT_21 _ hi, cS 21 (by decide)]
  have d22 : ∀ j, 0 ≤ j → j < nA f → ρ2 22 j = tdo f a j := by
    intro j j0 j1
    rw [e2, tkT_22, if_pos (by omega), show (((nA f).toNat : Nat) : Int) = nA f by omega]
    rfl
  have dr : ∀ k, k ∉ [21, 22, 28] → ρ2 k = ρ k := by
    intro k hk
    simp at hk
    rw [tS k (by simp; omega), cS k (by simp; omega), r1 k (by omega)]
  have d28 : ρ2 28 = chs ρ1 4 28 := tS 28 (by decide)
  have es : mStart ρ f a w = mGo ρ2 (f * 30) 0 := by unfold mStart; rw [← e1, ← e2]
  -- the reference
  obtain ⟨τ1, f1⟩ : ∃ s, s = nS1 τ f := ⟨_, rfl⟩
  have s1 : ∀ k, k ≠ 30 → k ≠ 40 → τ1 k = τ k := fun k hk h40 => by rw [f1]; unfold nS1; rw [up_ne _ h40, up_ne _ hk, up_ne _ hk, up_ne _ hk, up_ne _ hk]
  have b19 : τ1 30 19 = 0 := by rw [f1]; unfold nS1; rw [up_ne _ (by decide), up_other _ _ (by decide), up_other _ _ (by decide), up_other _ _ (by decide), up_same]
  have b20 : τ1 30 20 = -1 := by rw [f1]; unfold nS1; rw [up_ne _ (by decide), up_other _ _ (by decide), up_other _ _ (by decide), up_same]
  have b18 : τ1 30 18 = 0 := by rw [f1]; unfold nS1; rw [up_ne _ (by decide), up_other _ _ (by decide), up_same]
  have b13 : τ1 30 13 = 1 := by rw [f1]; unfold nS1; rw [up_ne _ (by decide), up_same]
  have b40 : τ1 40 0 = f := by rw [f1]; unfold nS1; rw [up_same]
  obtain ⟨τ2, f2⟩ : ∃ s, s = nTold τ1 f a w (nA f).toNat := ⟨_, rfl⟩
  have nS : Sm [30, 41] τ1 τ2 := by rw [f2]; exact nTold_Sm _ _ _ _ _
  have g30 : ∀ i : Int, i ≠ 20 → τ2 30 i = τ1 30 i := fun i hi => by rw [f2, nTold_30 _ _ _ _ hi]
  have g41 : ∀ j, 0 ≤ j → j < nA f → τ2 41 j = tdo f a j := by
    intro j j0 j1
    rw [f2, nTold_41, if_pos (by omega)]
  have g40 : τ2 40 0 = f := by rw [nS 40 (by decide)]; exact b40
  have gr : ∀ k, k ∉ [30, 40, 41] → τ2 k = τ k := by
    intro k hk
    simp at hk
    rw [nS k (by simp; omega), s1 k (by omega) (by omega)]
  have et : nStart τ f a w = nGo τ2 0 0 := by unfold nStart; rw [← f1, ← f2]
  have hbit : ∀ x j, 0 ≤ x → x < 4 → 0 ≤ j → j < nA x → bt (ρ2 28 x) j = amB τ2 w x j := by
    intro x j x0 x1 j0 j1
    rw [d28, amB_row (gr 37 (by decide))]
    exact ah_bits h hw ⟨x0, x1⟩ ⟨j0, j1⟩ (c28 x x0 x1)
  have hend : τ2 30 20 = ρ2 21 12 ∧ (-1 ≤ ρ2 21 12 ∧ ρ2 21 12 ≤ 9) := by
    have hA := tkT_12 (chs ρ1 4 28 f) (nA f).toNat a (chs ρ1 4)
    have hM := nTold_hit τ1 f a w (nA f).toNat
    rw [← e2] at hA
    rw [← f2] at hM
    have hiff : hit (chs ρ1 4 28 f) a (nA f).toNat ↔ hitM τ1 f a w (nA f).toNat := by
      constructor
      · rintro ⟨j, x, y, z, u⟩
        refine ⟨j, x, y, ?_, ?_⟩
        · rw [← u, amB_row (s1 37 (by decide) (by decide)), ← amB_row (gr 37 (by decide)), ← hbit f j hf.1 hf.2 x (by omega), d28]
        · rw [show (((nA f).toNat : Nat) : Int) = nA f by omega] at z
          exact z
      · rintro ⟨j, x, y, z, u⟩
        refine ⟨j, x, y, ?_, ?_⟩
        · rw [show (((nA f).toNat : Nat) : Int) = nA f by omega]
          exact u
        · rw [← z, amB_row (s1 37 (by decide) (by decide)), ← amB_row (gr 37 (by decide)), ← hbit f j hf.1 hf.2 x (by omega), d28]
    rw [cS 21 (by decide), a12] at hA
    rw [b20] at hM
    rcases hA with ⟨x, y⟩ | ⟨x, y⟩
    · rcases hM with ⟨z, u⟩ | ⟨z, u⟩
      · omega
      · exact absurd (hiff.mp x) z
    · rcases hM with ⟨z, u⟩ | ⟨z, u⟩
      · exact absurd (hiff.mpr z) x
      · omega
  rw [es, et]
  have hst : Stt ρ2 τ2 w := by
    obtain ⟨q1, q2, q3, q4, q5, q6, q7, q8⟩ := h
    refine ⟨BOK_rows q1 (fun k hk => dr k (by revert k; decide)), ?_, MOK_rows q4 (fun k hk => gr k (by revert k; decide)), fun z => by rw [gr 37 (by decide)]; exact q5 z, hw, ?_, ?_, hbit⟩
    · intro x
      rw [d28]
      by_cases hx : 0 ≤ x ∧ x < 4
      · rw [c28 x hx.1 hx.2]
        have y1 := aA_in x
        have y2 := q3 x hx.1 hx.2
        split
        · omega
        · split
          · exact y2
          · omega
      · rw [chs_28, if_neg (by omega), r1 28 (by decide)]
        exact q2 x
    · rw [gr 34 (by decide), dr 6 (by decide)]; exact q6
    · intro x p hp
      unfold inB at hp
      rw [dr 6 (by decide)] at hp
      rw [gr 31 (by decide), gr 32 (by decide), dr 7 (by decide), dr 10 (by decide)]
      exact q7 x p hp
  have p5 : ρ2 21 5 = 1 := (d21 5 (by decide)).trans a5
  have p9 : ρ2 21 9 = 0 := (d21 9 (by decide)).trans a9
  have p13 : ρ2 21 13 = 0 := (d21 13 (by decide)).trans a13
  have hB : Base ρ2 τ2 w := by
    refine ⟨hst, ⟨(d21 10 (by decide)).trans a10, ?_, ?_, ?_, hend.1⟩, ⟨by omega, by omega, by omega, hend.2⟩, ?_, ?_, ?_⟩
    · rw [g30 19 (by decide), p13]; exact b19
    · rw [g30 18 (by decide), p9]; exact b18
    · rw [g30 13 (by decide), p5]; exact b13
    · intro c c0 c1
      rw [show c = 0 by omega, g40]; exact hf
    · intro c j c0 c1 j0 j1
      have ec : c = 0 := by omega
      subst ec
      rw [g40] at j1
      have hd := tdo_in f a j
      rw [show (0 : Int) * 3 + j = j by omega, show 3 * (0 : Int) + j = j by omega, d22 j j0 j1, g41 j j0 j1]
      exact ⟨rfl, by omega, fun _ => hd.1, fun z => by exfalso; omega⟩
    · intro i i0 i1
      exfalso; omega
  have hN := (hst.1 f hf.1 hf.2).1.1
  exact hB.go ⟨by omega, by rw [g40]; omega, by omega, by rw [g40]; omega⟩ (by omega)
theorem Rel.mono {ρ τ : Sg} {w φ ψ : Int} (h : Rel ρ τ w φ) (hle : φ ≤ ψ) : Rel ρ τ w ψ := ⟨h.1, fun z => ⟨(h.2 z).1, by have := (h.2 z).2; omega⟩⟩
/-- a turn ends the RUN, or changes nothing of that -/
theorem mCalling_12 (σ : Sg) (p c k : Int) : mCalling σ p c k 21 12 = σ 21 12 := by
  unfold mCalling mSlot
  split
  · rw [mGo_21 (by decide) (by decide) (by decide), mWait_21 (by decide)]
  · rw [mGo_21 (by decide) (by decide) (by decide)]
theorem mTurn_stop (ρ : Sg) : mTurn ρ 21 12 = ρ 21 12 ∨ mTurn ρ 21 16 = ρ 21 16 := by
  unfold mTurn
  split
  · unfold mBegin
    split
    · right; rw [up_other _ _ (by decide)]
    · split
      · left; rw [mGive_21 (by decide) (by decide), up_other _ _ (by decide)]
      · split
        · unfold mArg
          split
          · right; rw [up_other _ _ (by decide), up_other _ _ (by decide)]
          · split
            · split
              · left; unfold mSlot; rw [mGo_21 (by decide) (by decide) (by decide), up_other _ _ (by decide)]
              · left; unfold mSlot; rw [mGo_21 (by decide) (by decide) (by decide), mWait_21 (by decide), up_other _ _ (by decide)]
            · left; rw [mGive_21 (by decide) (by decide), up_other _ _ (by decide)]
        · split
          · left; rw [mGo_21 (by decide) (by decide) (by decide), mWait_21 (by decide), up_other _ _ (by decide)]
          · split
            · left
              unfold mCall
              rw [mGive_21 (by decide) (by decide), mWait_21 (by decide), hangs_Sm _ _ _ _ _ 21 (by decide), up_other _ _ (by decide), up_other _ _ (by decide)]
            · right; rw [up_other _ _ (by decide), up_other _ _ (by decide)]
  · unfold mBack
    split
    · right; rw [up_other _ _ (by decide)]
    · split
      · left
        unfold mActing
        split
        · rw [mGo_21 (by decide) (by decide) (by decide), mWait_21 (by decide), up_other _ _ (by decide)]
        · rw [mGive_21 (by decide) (by decide), up_other _ _ (by decide)]
      · split
        · left; rw [mGo_21 (by decide) (by decide) (by decide), up_other _ _ (by decide)]
        · split
          · left; rw [up_ne _ (by decide), up_other _ _ (by decide)]
          · split
            · left
              rw [mCalling_12]
              split
              · rw [up_other _ _ (by decide)]
              · rw [up_ne _ (by decide), up_other _ _ (by decide)]
            · right; rw [up_other _ _ (by decide), up_other _ _ (by decide)]
theorem nAh_20 (σ : Sg) (c k w : Int) : nAh σ c k w 30 20 = σ 30 20 := by
  unfold nAh
  split
  · rw [nGo_30 (by decide) (by decide), nWait_30 (by decide)]
  · rw [nGo_30 (by decide) (by decide)]
theorem nTurn_stop (τ : Sg) (w : Int) : nTurn τ w 30 20 = τ 30 20 ∨ nTurn τ w 30 21 = τ 30 21 := by
  unfold nTurn
  split
  · unfold nBegin
    split
    · right; rw [up_other _ _ (by decide)]
    · split
      · left
        unfold nCall
        rw [nAh_20, up_other _ _ (by decide), nHangs_Sm _ _ _ _ _ _ 30 (by decide), up_ne _ (by decide), up_other _ _ (by decide)]
      · split
        · unfold nArg
          split
          · right; rw [up_other _ _ (by decide), up_other _ _ (by decide)]
          · split
            · left; rw [nCome_30 (by decide) (by decide), up_other _ _ (by decide)]
            · split
              · left; rw [nGo_30 (by decide) (by decide), up_other _ _ (by decide)]
              · left; rw [nGo_30 (by decide) (by decide), nWait_30 (by decide), up_other _ _ (by decide)]
        · split
          · left; rw [up_other _ _ (by decide), nWait_30 (by decide), up_other _ _ (by decide)]
          · split
            · right; rw [up_other _ _ (by decide), up_other _ _ (by decide)]
            · left; rw [nCome_30 (by decide) (by decide), up_other _ _ (by decide)]
  · split
    · left
      unfold nOn
      split
      · rw [nGo_30 (by decide) (by decide), nWait_30 (by decide), up_other _ _ (by decide)]
      · split
        · rw [nCome_30 (by decide) (by decide), up_other _ _ (by decide)]
        · split
          · rw [nGo_30 (by decide) (by decide), up_other _ _ (by decide)]
          · split
            · rw [up_ne _ (by decide), up_other _ _ (by decide)]
            · rw [nAh_20, up_ne _ (by decide), up_other _ _ (by decide)]
    · right; rw [up_other _ _ (by decide)]
def nRun (w : Int) : Nat → Sg → Sg
  | 0, σ => σ
  | k + 1, σ => if σ 30 20 = -1 then nRun w k (nTurn σ w) else σ
theorem mTurn_back {ρ : Sg} (h : ρ 21 16 = 1) : mTurn ρ = mBack ρ := by unfold mTurn; rw [if_neg (by omega)]
theorem mRun_go {ρ : Sg} (h : ρ 21 12 = -1) (k : Nat) : mRun (k + 1) ρ = mRun k (mTurn ρ) := by rw [mRun, if_pos h]
theorem nRun_go {w : Int} {τ : Sg} (h : τ 30 20 = -1) (k : Nat) : nRun w (k + 1) τ = nRun w k (nTurn τ w) := by rw [nRun, if_pos h]
theorem nRun_stop {w : Int} {τ : Sg} (h : ¬ τ 30 20 = -1) : ∀ k : Nat, nRun w k τ = τ
  | 0 => rfl
  | k + 1 => by rw [nRun, if_neg h]
theorem Rel.low {ρ τ : Sg} {w φ : Int} (h : Rel ρ τ w φ) (z : ρ 21 12 = -1) : 3 ≤ φ := by
  have h1 := (h.2 z).2
  have h2 := h.1.2.2.1
  have h3 := (h.needC z).1
  omega
/-- both run to their ends; where a call begins, the class takes a turn more -/
theorem Rel.run {w : Int} : ∀ (n k m : Nat) (ρ τ : Sg) (φ : Int), k < n → Rel ρ τ w φ → φ ≤ (k : Int) → φ ≤ (m : Int) → Base (mRun k ρ) (nRun w m τ) w ∧ ¬ mRun k ρ 21 12 = -1
  | 0, _, _, _, _, _, hn, _, _, _ => absurd hn (Nat.not_lt_zero _)
  | n + 1, k, m, ρ, τ, φ, hn, h, hk, hm => by
    have e := h.1.2.1.2.2.2.2
    by_cases z : ρ 21 12 = -1
    · have h3 := h.low z
      obtain ⟨m', em⟩ : ∃ x, m = x + 1 := ⟨m - 1, by omega⟩
      rw [em, nRun_go (by omega)]
      rcases h.turn z with ht | ⟨t1, t2, _, _, _, t3⟩
      · obtain ⟨k', ek⟩ : ∃ x, k = x + 1 := ⟨k - 1, by omega⟩
        rw [ek, mRun_go z]
        exact Rel.run n k' m' _ _ _ (by omega) ht (by omega) (by omega)
      · obtain ⟨k', ek⟩ : ∃ x, k = x + 1 + 1 := ⟨k - 2, by omega⟩
        rw [ek, mRun_go z, mRun_go t1, mTurn_back t2]
        exact Rel.run n k' m' _ _ _ (by omega) t3 (by omega) (by omega)
    · rw [mRun_stop z, nRun_stop (by omega)]
      exact ⟨h.1, z⟩
theorem Rel.played {ρ τ : Sg} {w : Int} (h : Rel ρ τ w 903) : mDone (mRun 3000 ρ) = mRun 3000 ρ ∧ (0 ≤ mRun 3000 ρ 21 12 ∧ mRun 3000 ρ 21 12 ≤ 9) ∧ (0 ≤ mRun 3000 ρ 21 13 ∧ mRun 3000 ρ 21 13 ≤ 300) ∧ nRun w 3000 τ 30 20 = mRun 3000 ρ 21 12 ∧ nRun w 3000 τ 30 19 = mRun 3000 ρ 21 13 := by
  obtain ⟨a, hne⟩ := Rel.run 3001 3000 3000 ρ τ 903 (by omega) h (by omega) (by omega)
  obtain ⟨_, ⟨c1, c2, c3, c4, c5⟩, ⟨d1, d2, d3, d4⟩, _⟩ := a
  exact ⟨by unfold mDone; rw [if_neg hne], by omega, d1, c5, c2⟩
/-- how RUNS end, by the reference -/
def reM (σ : Sg) : RF := fun f a w => nRun w 3000 (nStart σ f a w) 30 20
def rtM (σ : Sg) : RF := fun f a w => nRun w 3000 (nStart σ f a w) 30 19
def JC (w : Int) (ρ : Sg) : Prop := (ρ 21 16 = 0 ∨ ρ 21 16 = 1) ∧ ((∃ τ φ, Rel ρ τ w φ) ∨ ∃ τ φ, Mid ρ τ w φ)
theorem JC_inv (w : Int) : TurnInv (JC w) := by
  rintro ρ ⟨h16, ⟨τ, φ, h⟩ | ⟨τ, φ, m1, m2, m3, m4, m5, m6⟩⟩
  · have hb := h.1.2.2.1.2.2.2
    refine ⟨h.1.1.1, h.1.1.2.1, h16, ⟨by omega, by omega⟩, fun z => ?_⟩
    obtain ⟨n1, n2, n3⟩ := h.needC z
    rcases h.turn z with ht | ht
    · refine ⟨n2, n3, ?_, Or.inl ⟨nTurn τ w, φ - 1, ht⟩⟩
      rcases mTurn_stop ρ with e | e
      · exact (ht.needC (e.trans z)).1
      · rw [e]; exact h16
    · exact ⟨n2, n3, Or.inr ht.2.1, Or.inr ⟨_, _, ht⟩⟩
  · refine ⟨m3, m4, h16, ⟨by omega, by omega⟩, fun z => ⟨fun y => by exfalso; omega, fun _ => m5, ?_, Or.inl ⟨τ, φ, ?_⟩⟩⟩
    · rcases mTurn_stop ρ with e | e
      · rw [mTurn_back m2] at e ⊢
        exact (m6.needC (e.trans z)).1
      · rw [e]; exact h16
    · rw [mTurn_back m2]; exact m6
theorem run_ok {ρ σ : Sg} (h : TW ρ σ) : RunOk ρ (reM σ) (rtM σ) := by
  intro τ hτ hA f a w hi
  have hT := h.rows hτ hA (fun _ _ => rfl)
  have hs := Rel.start (a := a) hT hi.1 hi.2.2
  obtain ⟨p1, p2, p3, p4, p5⟩ := hs.played
  have e : mPlay τ f a w = mRun 3000 (mStart τ f a w) := p1
  have hA9 : AH (mRun 3000 (mStart τ f a w)) := (Rel.run 3001 3000 3000 _ _ _ (by omega) hs (by omega) (by omega)).1.1.2.1
  have h16 : mStart τ f a w 21 16 = 0 := by unfold mStart; rw [mGo_16]
  rw [e]
  refine ⟨⟨JC w, JC_inv w, Or.inl h16, Or.inl ⟨_, _, hs⟩⟩, p4.symm, p5.symm, ?_, ?_, hA9⟩
  · unfold reM; rw [p4]; exact p2
  · unfold rtM; rw [p5]; exact p3
def JM (ρ0 : Sg) (w : Int) (kk : Int) (τ : Sg) : Prop := rg (τ 30 21) ∧ 0 ≤ kk ∧ ∃ (ρ : Sg) (φ : Int) (k : Nat), Rel ρ τ w φ ∧ φ ≤ kk ∧ φ ≤ (k : Int) ∧ mRun k ρ = ρ0
theorem JM_inv (ρ0 : Sg) (w : Int) : NInv w (JM ρ0 w) := by
  rintro kk τ ⟨r21, k0, ρ, φ, k, h, hkk, hk, e0⟩
  obtain ⟨c1, c2, c3, c4, c5⟩ := h.1.2.1
  obtain ⟨d1, d2, d3, d4⟩ := h.1.2.2.1
  refine ⟨⟨⟨by omega, by omega⟩, r21, ⟨by omega, by omega⟩⟩, fun z => ?_⟩
  have z2 : ρ 21 12 = -1 := by omega
  obtain ⟨n1, n2, n3⟩ := h.needM z2
  have h3 := h.low z2
  refine ⟨by omega, n2, n3, h.1.1.2.2.2.1, h.1.1.2.2.1, ?_, by omega, ?_⟩
  · rcases nTurn_stop τ w with e | e
    · rcases h.turn z2 with ht | ⟨t1, t2, _, _, _, ht⟩
      · have e9 := ht.1.2.1.2.2.2.2
        exact (ht.needM (by omega)).1
      · have e9 := ht.1.2.1.2.2.2.2
        exact (ht.needM (by omega)).1
    · rw [e]; exact r21
  · rcases h.turn z2 with ht | ⟨t1, t2, _, _, _, ht⟩
    · obtain ⟨k', ek⟩ : ∃ x, k = x + 1 := ⟨k - 1, by omega⟩
      exact ⟨mTurn ρ, φ - 1, k', ht, by omega, by omega, by rw [← e0, ek, mRun_go z2]⟩
    · obtain ⟨k', ek⟩ : ∃ x, k = x + 1 + 1 := ⟨k - 2, by omega⟩
      exact ⟨mBack (mTurn ρ), φ - 2, k', ht, by omega, by omega, by rw [← e0, ek, mRun_go z2, mRun_go t1, mTurn_back t2]⟩
theorem m_run {ρ σ : Sg} (h : TW ρ σ) : MRun σ (reM σ) (rtM σ) := by
  have hr := run_ok h
  refine ⟨h.2.2.2.2.1, fun f a w hi => ?_, fun τ hτ f a w hi => ?_⟩
  · obtain ⟨_, _, _, x, y, _⟩ := hr ρ (fun _ _ => rfl) h.2.1 f a w hi
    exact ⟨x, y⟩
  · obtain ⟨_, r1, r2, _, _, _⟩ := hr ρ (fun _ _ => rfl) h.2.1 f a w hi
    have hT := h.rows (fun _ _ => rfl) h.2.1 hτ
    have hs := Rel.start (a := a) hT hi.1 hi.2.2
    obtain ⟨p1, p2, p3, p4, p5⟩ := hs.played
    have e : mPlay ρ f a w = mRun 3000 (mStart ρ f a w) := p1
    rw [e] at r1 r2
    refine ⟨JM (mRun 3000 (mStart ρ f a w)) w, 3000, JM_inv _ _, by decide, ⟨?_, by decide, mStart ρ f a w, 903, 3000, hs, by decide, by decide, rfl⟩, ?_⟩
    · unfold nStart
      rw [nGo_21]
      exact ⟨by decide, by decide⟩
    · rintro kk υ ⟨_, _, ρ', φ', k', h', _, _, e'⟩ hend
      obtain ⟨c1, c2, c3, c4, c5⟩ := h'.1.2.1
      rw [mRun_stop (by omega)] at e'
      rw [← r1, ← r2, ← e', c5, c2]
      exact ⟨rfl, rfl⟩
