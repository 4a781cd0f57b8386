/-! lockstep: a call, a turn -/
theorem hangs_22 (σ : Sg) (c p r s : Int) : ∀ k : Nat, hangs σ c p r k 22 s = if c * 3 ≤ s ∧ s < c * 3 + k then -1 else σ 22 s
  | 0 => by rw [if_neg (by omega)]; rfl
  | k + 1 => by
    unfold hangs mHang
    rw [up_ne _ (by decide), up_ne _ (by decide), up_at, hangs_22 σ c p r s k]
    by_cases h : s = c * 3 + k
    · rw [if_pos h, if_pos (by omega)]
    · rw [if_neg h]
      by_cases h2 : c * 3 ≤ s ∧ s < c * 3 + k
      · rw [if_pos h2, if_pos (by omega)]
      · rw [if_neg h2, if_neg (by omega)]
theorem hangs_23 (σ : Sg) (c p r s : Int) : ∀ k : Nat, hangs σ c p r k 23 s = if c * 3 ≤ s ∧ s < c * 3 + k then tp (σ 10) p (s - c * 3) else σ 23 s
  | 0 => by rw [if_neg (by omega)]; rfl
  | k + 1 => by
    unfold hangs mHang
    rw [up_ne _ (by decide), up_at, up_ne _ (by decide), hangs_23 σ c p r s k]
    by_cases h : s = c * 3 + k
    · rw [if_pos h, if_pos (by omega), show s - c * 3 = (k : Int) by omega]
    · rw [if_neg h]
      by_cases h2 : c * 3 ≤ s ∧ s < c * 3 + k
      · rw [if_pos h2, if_pos (by omega)]
      · rw [if_neg h2, if_neg (by omega)]
theorem hangs_24 (σ : Sg) (c p r s : Int) : ∀ k : Nat, hangs σ c p r k 24 s = if c * 3 ≤ s ∧ s < c * 3 + k then r else σ 24 s
  | 0 => by rw [if_neg (by omega)]; rfl
  | k + 1 => by
    unfold hangs mHang
    rw [up_at, up_ne _ (by decide), up_ne _ (by decide), hangs_24 σ c p r s k]
    by_cases h : s = c * 3 + k
    · rw [if_pos h, if_pos (by omega)]
    · rw [if_neg h]
      by_cases h2 : c * 3 ≤ s ∧ s < c * 3 + k
      · rw [if_pos h2, if_pos (by omega)]
      · rw [if_neg h2, if_neg (by omega)]
theorem nHangs_41 (σ : Sg) (b f p r s : Int) : ∀ k : Nat, nHangs σ b f p r k 41 s = if 3 * b ≤ s ∧ s < 3 * b + k then -1 else σ 41 s
  | 0 => by rw [if_neg (by omega)]; rfl
  | k + 1 => by
    unfold nHangs nHang
    rw [up_ne _ (by decide), up_ne _ (by decide), up_at, nHangs_41 σ b f p r s k]
    by_cases h : s = 3 * b + k
    · rw [if_pos h, if_pos (by omega)]
    · rw [if_neg h]
      by_cases h2 : 3 * b ≤ s ∧ s < 3 * b + k
      · rw [if_pos h2, if_pos (by omega)]
      · rw [if_neg h2, if_neg (by omega)]
theorem nHangs_42 (σ : Sg) (b f p r s : Int) : ∀ k : Nat, nHangs σ b f p r k 42 s = if 3 * b ≤ s ∧ s < 3 * b + k then tp (σ 32) (f * 30 + p) (s - 3 * b) - f * 30 else σ 42 s
  | 0 => by rw [if_neg (by omega)]; rfl
  | k + 1 => by
    unfold nHangs nHang
    rw [up_ne _ (by decide), up_at, up_ne _ (by decide), nHangs_42 σ b f p r s k]
    by_cases h : s = 3 * b + k
    · rw [if_pos h, if_pos (by omega), show s - 3 * b = (k : Int) by omega]
    · rw [if_neg h]
      by_cases h2 : 3 * b ≤ s ∧ s < 3 * b + k
      · rw [if_pos h2, if_pos (by omega)]
      · rw [if_neg h2, if_neg (by omega)]
theorem nHangs_43 (σ : Sg) (b f p r s : Int) : ∀ k : Nat, nHangs σ b f p r k 43 s = if 3 * b ≤ s ∧ s < 3 * b + k then r else σ 43 s
  | 0 => by rw [if_neg (by omega)]; rfl
  | k + 1 => by
    unfold nHangs nHang
    rw [up_at, up_ne _ (by decide), up_ne _ (by decide), nHangs_43 σ b f p r s k]
    by_cases h : s = 3 * b + k
    · rw [if_pos h, if_pos (by omega)]
    · rw [if_neg h]
      by_cases h2 : 3 * b ≤ s ∧ s < 3 * b + k
      · rw [if_pos h2, if_pos (by omega)]
      · rw [if_neg h2, if_neg (by omega)]
theorem Txt.more {n5 : Int} {N F F' : Int → Int} {p d n : Int} (h : Txt n5 N F p d n) (hF : ∀ c, c < n5 → F' c = F c) : Txt (n5 + 1) N F' p d n := by
  obtain ⟨a, b, c, e⟩ := h
  exact ⟨by omega, by rw [hF d a.2]; exact b, c, by rw [hF d a.2]; exact e⟩
theorem EntV.more {n5 : Int} {N S F F' : Int → Int} {w P C H K Nn D M : Int} (h : EntV n5 N S F w P C H K Nn D M) (hF : ∀ c, c < n5 → F' c = F c) : EntV (n5 + 1) N S F' w P C H K Nn D M := by
  obtain ⟨a, b⟩ := h
  refine ⟨by omega, ?_⟩
  rcases b with ⟨b1, b2, b3, b4, b5⟩ | ⟨b1, b2, b3, b4, b5, b6⟩ | ⟨b1, b2, b3, b4, b5⟩ | ⟨b1, b2, b3, b4, b5, n, b6⟩ | ⟨b1, b2, b3, b4, b5, b6, b7, b8, b9⟩
  · exact Or.inl ⟨b1, b2, b3, b4, b5.more hF⟩
  · exact Or.inr (Or.inl ⟨b1, b2, b3, b4, b5, b6.more hF⟩)
  · exact Or.inr (Or.inr (Or.inl ⟨b1, b2, b3, b4, b5.more hF⟩))
  · exact Or.inr (Or.inr (Or.inr (Or.inl ⟨b1, b2, b3, b4, b5, n, b6.more hF⟩)))
  · exact Or.inr (Or.inr (Or.inr (Or.inr ⟨b1, b2, by rw [hF C a.2]; exact b3, b4, b5, b6, b7, by rw [hF C a.2]; exact b8, b9⟩)))
theorem Txt.inB {ρ τ : Sg} {w p d n : Int} (h : Base ρ τ w) (ht : Txt (ρ 21 5) (ρ 6) (τ 40) p d n) : inB ρ (τ 40 d) p := by
  obtain ⟨a, b, c, e⟩ := ht
  exact ⟨h.2.2.2.1 d a.1 a.2, by omega, by omega⟩
theorem Txt.ch {ρ τ : Sg} {w p d n j : Int} (h : Base ρ τ w) (ht : Txt (ρ 21 5) (ρ 6) (τ 40) p d n) (j0 : 0 ≤ j) (j1 : j < tx (ρ 7 p)) : Txt (ρ 21 5) (ρ 6) (τ 40) (tp (ρ 10) p j) d (tp (ρ 10) p j - τ 40 d * 30) := by
  obtain ⟨a, b, c, e⟩ := h.1.ch (ht.inB h) j0 j1
  exact ⟨ht.1, by omega, by omega, by omega⟩
/-- a call waits for the text ahead of its first: behind the next turn they keep step again -/
def Mid (ρ τ : Sg) (w φ : Int) : Prop := ρ 21 12 = -1 ∧ ρ 21 16 = 1 ∧ BOK ρ ∧ AH ρ ∧ PK ρ ∧ Rel (mBack ρ) τ w φ
theorem Base.mid {ρ τ : Sg} {w φ P C : Int} (h : Base ρ τ w) (e12 : ρ 21 12 = -1) (hn : ρ 21 9 < ρ 21 13) (hP : ∃ f, inB ρ f P) (hk : kd (ρ 7 P) = 6) (hC : 1 ≤ C ∧ C < ρ 21 5) (hg : wo (ρ 7 P) = τ 40 C) (hφ : 3 * (301 - ρ 21 13) + ρ 21 9 + 1 ≤ φ) : Mid (mGive (mWait ρ P C (-1)) 8) (nAh τ C 0 w) w φ := by
  obtain ⟨f0, hf0⟩ := hP
  obtain ⟨c1, c2, c3, c4⟩ := h.2.2.1
  have hst := h.1
  have hna := nA_in (τ 40 C)
  obtain ⟨ρ2, e2⟩ : ∃ s, s = mGive (mWait ρ P C (-1)) 8 := ⟨_, rfl⟩
  rw [← e2]
  have r : ∀ k, k ∉ [21, 25, 26, 27] → ρ2 k = ρ k := fun k hk => by
    have hk21 : k ≠ 21 := by rintro rfl; exact hk (by decide)
    rw [e2, mGive_r hk21, mWait_r hk]
  have o : ∀ j : Int, j ≠ 9 → j ≠ 16 → j ≠ 17 → ρ2 21 j = ρ 21 j := fun j h1 h2 h3 => by rw [e2, mGive_21 h2 h3, mWait_21 h1]
  have o9 : ρ2 21 9 = ρ 21 9 + 1 := by rw [e2, mGive_21 (by decide) (by decide), mWait_9]
  have o9' : ρ2 21 9 - 1 = ρ 21 9 := by omega
  have o13 := o 13 (by decide) (by decide) (by decide)
  have o16 : ρ2 21 16 = 1 := by rw [e2, mGive_16]
  have o17 : ρ2 21 17 = 8 := by rw [e2, mGive_17]
  have x25 : ∀ i, ρ2 25 i = if i = ρ 21 9 then P else ρ 25 i := fun i => by rw [e2, mGive_r (by decide), mWait_25]
  have x26 : ∀ i, ρ2 26 i = if i = ρ 21 9 then C else ρ 26 i := fun i => by rw [e2, mGive_r (by decide), mWait_26]
  have x27 : ∀ i, ρ2 27 i = if i = ρ 21 9 then -1 else ρ 27 i := fun i => by rw [e2, mGive_r (by decide), mWait_27]
  have tP : tpP ρ2 = P := by unfold tpP; rw [o9', x25, if_pos rfl]
  have tC : tpC ρ2 = C := by unfold tpC; rw [o9', x26, if_pos rfl]
  have tH : tpH ρ2 = -1 := by unfold tpH; rw [o9', x27, if_pos rfl]
  obtain ⟨ρ3, e3⟩ : ∃ s, s = up ρ2 21 9 (ρ 21 9) := ⟨_, rfl⟩
  have r3 : ∀ k, k ∉ [21, 25, 26, 27] → ρ3 k = ρ k := fun k hk => by
    have hk21 : k ≠ 21 := by rintro rfl; exact hk (by decide)
    rw [e3, up_ne _ hk21, r k hk]
  have q3 : ∀ j : Int, j ≠ 16 → j ≠ 17 → ρ3 21 j = ρ 21 j := fun j h2 h3 => by
    rw [e3, up_at]
    split
    · rename_i z
      rw [z]
    · rename_i z
      exact o j z h2 h3
  have y : ∀ k, k ≠ 21 → ρ3 k = ρ2 k := fun k hk => by rw [e3, up_ne _ hk]
  have hB3 : Base ρ3 τ w := by
    have hs : Stt ρ3 τ w := hst.rows (fun k hk => r3 k (by revert k; decide)) (fun _ _ => rfl)
    obtain ⟨_, b, cc, d, e1, f⟩ := id h
    unfold Base
    rw [q3 5 (by decide) (by decide), q3 9 (by decide) (by decide), q3 10 (by decide) (by decide), q3 12 (by decide) (by decide), q3 13 (by decide) (by decide), r3 6 (by decide), r3 7 (by decide), r3 22 (by decide), r3 23 (by decide), r3 24 (by decide)]
    refine ⟨hs, b, cc, d, e1, fun i i0 i1 => ?_⟩
    rw [y 25 (by decide), y 26 (by decide), y 27 (by decide), x25, x26, x27, if_neg (by omega), if_neg (by omega), if_neg (by omega)]
    exact f i i0 i1
  refine ⟨by rw [o 12 (by decide) (by decide) (by decide)]; exact e12, o16, BOK_rows hst.1 (fun k hk => r k (by revert k; decide)), fun z => by rw [r 28 (by decide)]; exact hst.2.1 z, ?_, ?_⟩
  · refine ⟨by omega, fun _ => ⟨f0, hf0.1, ?_, ?_, Or.inl tH, ?_, ?_⟩⟩
    · rw [tP, r 6 (by decide)]; exact hf0.2
    · rw [tC]; omega
    · intro _
      have := nA_in (wo (ρ2 7 (tpP ρ2)))
      rw [tH]; omega
    · intro z
      rw [tP, r 7 (by decide)] at z
      exact absurd hk z
  · unfold mBack
    rw [tP, tC, tH, r 7 (by decide), if_neg (show ¬ ρ2 21 9 ≤ 0 by omega), if_neg (show ¬ kd (ρ 7 P) = 4 by omega), if_neg (show ¬ kd (ρ 7 P) = 5 by omega), if_neg (show ¬ kd (ρ 7 P) = 3 by omega), if_pos hk, if_pos rfl, o9', ← e3, show (-1 : Int) + 1 = 0 from rfl]
    refine hB3.calling ?_ ⟨f0, hf0.1, hf0.2.1, ?_⟩ ?_ ?_ ?_ (by omega) ?_
    · rw [q3 9 (by decide) (by decide), q3 13 (by decide) (by decide)]; exact hn
    · rw [r3 6 (by decide)]; exact hf0.2.2
    · rw [r3 7 (by decide)]; exact hk
    · rw [q3 5 (by decide) (by decide)]; exact hC
    · rw [r3 7 (by decide)]; exact hg
    · rw [q3 9 (by decide) (by decide), q3 13 (by decide) (by decide)]; exact hφ
theorem Base.call {ρ τ : Sg} {w φ P C n : Int} (h : Base ρ τ w) (e12 : ρ 21 12 = -1) (hn : ρ 21 9 < ρ 21 13) (hn5 : ρ 21 5 ≤ ρ 21 13) (eP : ρ 21 14 = P) (eC : ρ 21 15 = C) (eD : τ 30 22 = C) (eN : τ 30 21 = n) (ht : Txt (ρ 21 5) (ρ 6) (τ 40) P C n) (hk : kd (ρ 7 P) = 6) (hφ : 3 * (301 - ρ 21 13) + ρ 21 9 + 1 ≤ φ) : Mid (mCall ρ (wo (ρ 7 P))) (nCall τ (wo (ρ 7 P)) (τ 40 C) w) w φ := by
  obtain ⟨g, eg⟩ : ∃ g, g = wo (ρ 7 P) := ⟨_, rfl⟩
  have hg := wo_6 hk
  have htx := tx_6 hk
  rw [← eg] at hg htx ⊢
  have hng := nA_in g
  have hst := h.1
  have hinB := ht.inB h
  obtain ⟨t1, t2, t3, t4⟩ := id ht
  obtain ⟨b, eb⟩ : ∃ b, b = ρ 21 5 := ⟨_, rfl⟩
  have hb30 : τ 30 13 = b := by rw [eb]; exact h.2.1.2.2.2.1
  unfold mCall nCall
  rw [hb30, ← eb, eP, eC, eD, eN]
  obtain ⟨ρ1, e1⟩ : ∃ s, s = hangs (up ρ 21 5 (b + 1)) b P C (nA g).toNat := ⟨_, rfl⟩
  obtain ⟨τ1, f1⟩ : ∃ s, s = up (nHangs (up τ 40 b g) b (τ 40 C) n C (nA g).toNat) 30 13 (b + 1) := ⟨_, rfl⟩
  rw [← e1, ← f1]
  have m1 : Sm [22, 23, 24] (up ρ 21 5 (b + 1)) ρ1 := by rw [e1]; exact hangs_Sm _ _ _ _ _
  have m2 := nHangs_Sm (up τ 40 b g) b (τ 40 C) n C (nA g).toNat
  have r : ∀ k, k ∉ [21, 22, 23, 24] → ρ1 k = ρ k := by
    intro k hk
    simp at hk
    rw [m1 k (by simp; omega), up_ne _ (by omega)]
  have r21 : ∀ j, j ≠ 5 → ρ1 21 j = ρ 21 j := fun j hj => by rw [m1 21 (by decide), up_other _ _ hj]
  have r5 : ρ1 21 5 = b + 1 := by rw [m1 21 (by decide), up_same]
  have s : ∀ k, k ∉ [30, 40, 41, 42, 43] → τ1 k = τ k := by
    intro k hk
    simp at hk
    rw [f1, up_ne _ (by omega), m2 k (by simp; omega), up_ne _ (by omega)]
  have s30 : ∀ j, j ≠ 13 → τ1 30 j = τ 30 j := fun j hj => by rw [f1, up_other _ _ hj, m2 30 (by decide), up_ne _ (by decide)]
  have s13 : τ1 30 13 = b + 1 := by rw [f1, up_same]
  have s40 : ∀ c, τ1 40 c = if c = b then g else τ 40 c := fun c => by rw [f1, up_ne _ (by decide), m2 40 (by decide), up_at]
  have hF : ∀ c, c < b → τ1 40 c = τ 40 c := fun c hc => by rw [s40, if_neg (by omega)]
  have x22 : ∀ s, ρ1 22 s = if b * 3 ≤ s ∧ s < b * 3 + nA g then -1 else ρ 22 s := fun s => by
    rw [e1, hangs_22, up_ne _ (by decide), show (((nA g).toNat : Nat) : Int) = nA g by omega]
  have x23 : ∀ s, ρ1 23 s = if b * 3 ≤ s ∧ s < b * 3 + nA g then tp (ρ 10) P (s - b * 3) else ρ 23 s := fun s => by
    rw [e1, hangs_23, up_ne _ (by decide), up_ne _ (by decide), show (((nA g).toNat : Nat) : Int) = nA g by omega]
  have x24 : ∀ s, ρ1 24 s = if b * 3 ≤ s ∧ s < b * 3 + nA g then C else ρ 24 s := fun s => by
    rw [e1, hangs_24, up_ne _ (by decide), show (((nA g).toNat : Nat) : Int) = nA g by omega]
  have y41 : ∀ s, τ1 41 s = if 3 * b ≤ s ∧ s < 3 * b + nA g then -1 else τ 41 s := fun s => by
    rw [f1, up_ne _ (by decide), nHangs_41, up_ne _ (by decide), show (((nA g).toNat : Nat) : Int) = nA g by omega]
  have y42 : ∀ s, τ1 42 s = if 3 * b ≤ s ∧ s < 3 * b + nA g then tp (τ 32) (τ 40 C * 30 + n) (s - 3 * b) - τ 40 C * 30 else τ 42 s := fun s => by
    rw [f1, up_ne _ (by decide), nHangs_42, up_ne _ (by decide), up_ne _ (by decide), show (((nA g).toNat : Nat) : Int) = nA g by omega]
  have y43 : ∀ s, τ1 43 s = if 3 * b ≤ s ∧ s < 3 * b + nA g then C else τ 43 s := fun s => by
    rw [f1, up_ne _ (by decide), nHangs_43, up_ne _ (by decide), show (((nA g).toNat : Nat) : Int) = nA g by omega]
  have hB : Base ρ1 τ1 w := by
    have hs : Stt ρ1 τ1 w := hst.rows (fun k hk => r k (by revert k; decide)) (fun k hk => s k (by revert k; decide))
    obtain ⟨a, ⟨b1, b2, b3, b4, b5⟩, ⟨c1, c2, c3, c4⟩, d, e2, f⟩ := id h
    unfold Base
    rw [r5, s13, r21 9 (by decide), r21 10 (by decide), r21 12 (by decide), r21 13 (by decide), s30 18 (by decide), s30 19 (by decide), s30 20 (by decide), r 6 (by decide), r 7 (by decide), r 25 (by decide), r 26 (by decide), r 27 (by decide), s 44 (by decide), s 45 (by decide), s 46 (by decide), s 47 (by decide)]
    refine ⟨hs, ⟨b1, b2, b3, rfl, b5⟩, ⟨c1, c2, by omega, c4⟩, ?_, ?_, ?_⟩
    · intro c c0 c1'
      rw [s40]
      split
      · exact hg
      · exact d c c0 (by omega)
    · intro c j c0 c1' j0 j1
      rw [x22, x23, x24, y41, y42, y43]
      by_cases z : c = b
      · rw [s40, if_pos z] at j1
        rw [if_pos (by omega), if_pos (by omega), if_pos (by omega), if_pos (by omega), if_pos (by omega), if_pos (by omega)]
        refine ⟨rfl, by omega, fun y => by exfalso; omega, fun _ => ⟨?_, rfl⟩⟩
        rw [show c * 3 + j - b * 3 = j by omega, show 3 * c + j - 3 * b = j by omega, ← t2, hst.tp hinB j0 (by omega)]
        have hch := ht.ch h j0 (j := j) (by omega)
        rw [← eb] at hch
        exact hch.more hF
      · have hcb : c < b := by omega
        rw [hF c hcb] at j1
        have hnc := nA_in (τ 40 c)
        rw [if_neg (by omega), if_neg (by omega), if_neg (by omega), if_neg (by omega), if_neg (by omega), if_neg (by omega)]
        obtain ⟨g1, g2, g3, g4⟩ := e2 c j c0 (by omega) j0 j1
        refine ⟨g1, g2, g3, fun y => ⟨?_, (g4 y).2⟩⟩
        have := (g4 y).1
        rw [← eb] at this
        exact this.more hF
    · intro i i0 i1
      have := f i i0 i1
      rw [← eb] at this
      exact this.more hF
  have hb1 := h.2.2.1.2.2.1
  refine hB.mid (by rw [r21 12 (by decide)]; exact e12) (by rw [r21 9 (by decide), r21 13 (by decide)]; exact hn) ⟨τ 40 C, ?_⟩ (by rw [r 7 (by decide)]; exact hk) (by rw [r5]; omega) ?_ (by rw [r21 9 (by decide), r21 13 (by decide)]; exact hφ)
  · exact ⟨hinB.1, hinB.2.1, by rw [r 6 (by decide)]; exact hinB.2.2⟩
  · rw [r 7 (by decide), s40, if_pos rfl]
    exact eg.symm
theorem Rel.begin {ρ τ : Sg} {w φ : Int} (h : Base ρ τ w) (e12 : ρ 21 12 = -1) (e15 : ρ 21 15 = τ 30 22) (ht : Txt (ρ 21 5) (ρ 6) (τ 40) (ρ 21 14) (τ 30 22) (τ 30 21)) (hφ : 3 * (301 - ρ 21 13) + ρ 21 9 ≤ φ) : Rel (mBegin ρ) (nBegin τ w) w (φ - 1) ∨ Mid (mBegin ρ) (nBegin τ w) w (φ - 2) := by
  have hst := h.1
  have hinB := ht.inB h
  obtain ⟨t1, t2, t3, t4⟩ := id ht
  obtain ⟨b1, b2, b3, b4, b5⟩ := h.2.1
  obtain ⟨c1, c2, c3, c4⟩ := h.2.2.1
  have eP : cP τ = ρ 21 14 := by unfold cP cF; omega
  have eS : τ 31 (cP τ) = ρ 7 (ρ 21 14) := by rw [eP]; exact (hst.2.2.2.2.2.2.1 _ _ hinB).1
  have hk0 : kd (ρ 7 (ρ 21 14)) ≠ 0 := by
    rw [← eS, eP]
    have hc := hst.2.2.1.1 (τ 40 (τ 30 22)) hinB.1.1 hinB.1.2
    have h34 := hst.2.2.2.2.2.1 (τ 40 (τ 30 22)) hinB.1.1 hinB.1.2
    exact (hc.2 (ρ 21 14) hinB.2.1 (by rw [h34]; exact hinB.2.2)).1
  have hkd := kd_in (ρ 7 (ρ 21 14))
  unfold mBegin nBegin
  rw [eS, b2]
  by_cases z : ρ 21 13 = 300
  · rw [if_pos (show 300 ≤ ρ 21 13 by omega), if_pos z]
    exact Or.inl (h.stop (by omega))
  rw [if_neg (show ¬ 300 ≤ ρ 21 13 by omega), if_neg z]
  have hB1 := h.tick (by omega)
  rw [b2] at hB1
  obtain ⟨ρ1, e1⟩ : ∃ s, s = up ρ 21 13 (ρ 21 13 + 1) := ⟨_, rfl⟩
  obtain ⟨τ1, f1⟩ : ∃ s, s = up τ 30 19 (ρ 21 13 + 1) := ⟨_, rfl⟩
  rw [← e1, ← f1] at hB1 ⊢
  have r : ∀ k, k ≠ 21 → ρ1 k = ρ k := fun k hk => by rw [e1, up_ne _ hk]
  have r21 : ∀ j, j ≠ 13 → ρ1 21 j = ρ 21 j := fun j hj => by rw [e1, up_other _ _ hj]
  have r13 : ρ1 21 13 = ρ 21 13 + 1 := by rw [e1, up_same]
  have s : ∀ k, k ≠ 30 → τ1 k = τ k := fun k hk => by rw [f1, up_ne _ hk]
  have s30 : ∀ j, j ≠ 19 → τ1 30 j = τ 30 j := fun j hj => by rw [f1, up_other _ _ hj]
  have ht1 : Txt (ρ1 21 5) (ρ1 6) (τ1 40) (ρ 21 14) (τ 30 22) (τ 30 21) := by rw [r21 5 (by decide), r 6 (by decide), s 40 (by decide)]; exact ht
  have q9 := r21 9 (by decide)
  by_cases k1 : kd (ρ 7 (ρ 21 14)) = 1
  · rw [if_pos k1, if_neg (show ¬ kd (ρ 7 (ρ 21 14)) = 6 by omega), if_neg (show ¬ kd (ρ 7 (ρ 21 14)) = 3 by omega), if_neg (show ¬ (kd (ρ 7 (ρ 21 14)) = 4 ∨ kd (ρ 7 (ρ 21 14)) = 5) by omega), if_neg (show ¬ kd (ρ 7 (ρ 21 14)) = 2 by omega)]
    have hw := wo_1 k1
    have hv := kd_1.mp k1
    exact Or.inl (hB1.give (by omega) (by omega))
  rw [if_neg k1]
  by_cases k3 : kd (ρ 7 (ρ 21 14)) = 3
  · rw [if_pos k3, if_neg (show ¬ kd (ρ 7 (ρ 21 14)) = 6 by omega), if_pos k3, e15]
    left
    have := hB1.arg (φ := φ - 1) (by omega) (r21 14 (by decide)) ((r21 15 (by decide)).trans e15) ht1 (by rw [r 7 (by decide)]; exact k3) (by omega)
    rw [r 7 (by decide)] at this
    exact this
  rw [if_neg k3, if_neg k3]
  by_cases k45 : kd (ρ 7 (ρ 21 14)) = 4 ∨ kd (ρ 7 (ρ 21 14)) = 5
  · rw [if_pos k45, if_neg (show ¬ kd (ρ 7 (ρ 21 14)) = 6 by omega), if_pos k45]
    have htx : 0 < tx (ρ 7 (ρ 21 14)) := by
      rcases k45 with k | k
      · rw [tx_4 k]; decide
      · rw [tx_5 k]; decide
    have hch := ht.ch h (j := 0) (Int.le_refl _) htx
    rw [tp_0] at hch
    have he : EntV (ρ1 21 5) (ρ1 6) (ρ1 7) (τ1 40) w (ρ 21 14) (ρ 21 15) (-1) (if kd (ρ 7 (ρ 21 14)) = 5 then 3 else 1) (τ 30 21) (τ 30 22) 0 := by
      rw [e15, r 7 (by decide)]
      refine ⟨by rw [r21 5 (by decide)]; exact t1, ?_⟩
      rcases k45 with k | k
      · rw [if_neg (by omega)]
        exact Or.inl ⟨rfl, k, rfl, rfl, ht1⟩
      · rw [if_pos k]
        exact Or.inr (Or.inr (Or.inl ⟨rfl, k, rfl, rfl, ht1⟩))
    have hp := hB1.push (by omega) he
    rw [nGo_id (c := ρ 21 15) (by rw [nWait_30 (by decide), s30 22 (by decide)]; exact e15.symm)]
    refine Or.inl (hp.go ?_ (by rw [mWait_21 (by decide), mWait_9]; omega))
    rw [mWait_21 (by decide), mWait_r (by decide), nWait_row (by decide), r21 5 (by decide), r 6 (by decide), s 40 (by decide), e15]
    rw [show ρ 21 14 + 1 - τ 40 (τ 30 22) * 30 = τ 30 21 + 1 by omega] at hch
    exact hch
  rw [if_neg k45, if_neg k45]
  by_cases k6 : kd (ρ 7 (ρ 21 14)) = 6
  · rw [if_pos k6, if_pos k6]
    right
    have := hB1.call (φ := φ - 2) ((r21 12 (by decide)).trans e12) (by omega) (by have := r21 5 (by decide); omega) (r21 14 (by decide)) ((r21 15 (by decide)).trans e15) (s30 22 (by decide)) (s30 21 (by decide)) ht1 (by rw [r 7 (by decide)]; exact k6) (by omega)
    rw [r 7 (by decide), s 40 (by decide)] at this
    exact this
  · rw [if_neg k6, if_neg k6, if_pos (show kd (ρ 7 (ρ 21 14)) = 2 by omega)]
    exact Or.inl (hB1.stop (by omega))
