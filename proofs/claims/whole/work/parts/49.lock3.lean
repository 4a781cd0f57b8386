theorem wo_4 {c : Int} (h : kd c = 4) : wo c = c := by unfold wo; rw [if_neg (by omega), if_neg (by omega), if_neg (by omega)]
theorem Rel.back {ρ τ : Sg} {w φ : Int} (h : Base ρ τ w) (e16 : ρ 21 16 = 1) (e21 : τ 30 21 = -1) (e17 : ρ 21 17 = τ 30 23) (hv : 0 ≤ ρ 21 17 ∧ ρ 21 17 < 8) (hφ : 3 * (301 - ρ 21 13) + ρ 21 9 + 1 ≤ φ) : Rel (mBack ρ) (if 0 < τ 30 18 then nOn τ else up τ 30 20 (τ 30 23)) w (φ - 1) := by
  have hst := h.1
  obtain ⟨b1, b2, b3, b4, b5⟩ := h.2.1
  obtain ⟨c1, c2, c3, c4⟩ := h.2.2.1
  rw [b3]
  unfold mBack
  by_cases z : ρ 21 9 ≤ 0
  · rw [if_pos z, if_neg (show ¬ 0 < ρ 21 9 by omega), ← e17]
    exact h.stop (by omega)
  rw [if_neg z, if_pos (show 0 < ρ 21 9 by omega)]
  have hB1 := h.pop (by omega)
  have he := h.2.2.2.2.2 (ρ 21 9 - 1) (by omega) (by omega)
  have k25 : ρ 25 (ρ 21 9 - 1) = tpP ρ := rfl
  have k26 : ρ 26 (ρ 21 9 - 1) = tpC ρ := rfl
  have k27 : ρ 27 (ρ 21 9 - 1) = tpH ρ := rfl
  have k44 : τ 44 (ρ 21 9 - 1) = oK τ := by unfold oK; rw [b3]
  have k45 : τ 45 (ρ 21 9 - 1) = oN τ := by unfold oN; rw [b3]
  have k46 : τ 46 (ρ 21 9 - 1) = oC τ := by unfold oC; rw [b3]
  have k47 : τ 47 (ρ 21 9 - 1) = oM τ := by unfold oM; rw [b3]
  rw [k25, k26, k27, k44, k45, k46, k47] at he
  unfold nOn oF
  obtain ⟨P, eP⟩ : ∃ x, x = tpP ρ := ⟨_, rfl⟩
  obtain ⟨C, eC⟩ : ∃ x, x = tpC ρ := ⟨_, rfl⟩
  obtain ⟨H, eH⟩ : ∃ x, x = tpH ρ := ⟨_, rfl⟩
  obtain ⟨K, eK⟩ : ∃ x, x = oK τ := ⟨_, rfl⟩
  obtain ⟨N, eN⟩ : ∃ x, x = oN τ := ⟨_, rfl⟩
  obtain ⟨D, eD⟩ : ∃ x, x = oC τ := ⟨_, rfl⟩
  obtain ⟨M, eM⟩ : ∃ x, x = oM τ := ⟨_, rfl⟩
  rw [← eP, ← eC, ← eH, ← eK, ← eN, ← eD, ← eM] at he
  rw [← eP, ← eC, ← eH, ← eK, ← eN, ← eD, ← eM]
  clear k25 k26 k27 k44 k45 k46 k47 eP eC eH eK eN eD eM
  rw [b3] at hB1 ⊢
  obtain ⟨ρ1, e1⟩ : ∃ s, s = up ρ 21 9 (ρ 21 9 - 1) := ⟨_, rfl⟩
  obtain ⟨τ1, f1⟩ : ∃ s, s = up τ 30 18 (ρ 21 9 - 1) := ⟨_, rfl⟩
  rw [← e1, ← f1] at hB1 ⊢
  have r : ∀ k, k ≠ 21 → ρ1 k = ρ k := fun k hk => by rw [e1, up_ne _ hk]
  have r21 : ∀ j, j ≠ 9 → ρ1 21 j = ρ 21 j := fun j hj => by rw [e1, up_other _ _ hj]
  have r9 : ρ1 21 9 = ρ 21 9 - 1 := by rw [e1, up_same]
  have r13 := r21 13 (by decide)
  have s : ∀ k, k ≠ 30 → τ1 k = τ k := fun k hk => by rw [f1, up_ne _ hk]
  have s30 : ∀ j, j ≠ 18 → τ1 30 j = τ 30 j := fun j hj => by rw [f1, up_other _ _ hj]
  obtain ⟨hC, he⟩ := he
  have hkd := kd_in (ρ 7 P)
  rcases he with ⟨a1, a2, a3, a4, a5⟩ | ⟨a1, a2, a3, a4, a5, a6⟩ | ⟨a1, a2, a3, a4, a5⟩ | ⟨a1, a2, a3, a4, a5, n, a6⟩ | ⟨a1, a2, a3, a4, a5, a6, a7, a8, a9⟩
  · -- the left text of an ACT is done
    rw [if_pos a2, if_pos a1]
    unfold mActing
    rw [if_pos a3, a4]
    have hin := a5.inB h
    have htx := tx_4 a2
    have hch := a5.ch h (j := 1) (by omega) (by omega)
    obtain ⟨t1, t2, t3, t4⟩ := id a5
    rw [← t2, hst.tp hin (by omega) (by omega), ← e17, r21 17 (by decide), r 10 (by decide)]
    have hen : EntV (ρ1 21 5) (ρ1 6) (ρ1 7) (τ1 40) w P C (ρ 21 17) 2 N C (ρ 21 17) := by
      rw [r21 5 (by decide), r 6 (by decide), r 7 (by decide), s 40 (by decide)]
      exact ⟨hC, Or.inr (Or.inl ⟨rfl, a2, hv, rfl, rfl, a5⟩)⟩
    refine (hB1.push (by omega) hen).go ?_ (by rw [mWait_21 (by decide), mWait_9]; omega)
    rw [mWait_21 (by decide), mWait_r (by decide), nWait_row (by decide), r21 5 (by decide), r 6 (by decide), s 40 (by decide)]
    exact hch
  · -- an ACT is done
    rw [if_pos a2, if_neg (show ¬ K = 1 by omega), if_pos a1]
    unfold mActing
    rw [if_neg (by omega), a5]
    have hin := a6.inB h
    obtain ⟨t1, t2, t3, t4⟩ := id a6
    rw [← t2, r21 17 (by decide), r 9 (by decide), ((hst.1 _ hin.1.1 hin.1.2).2 P hin.2.1 hin.2.2).2.1, wo_4 a2, (hst.2.2.2.2.2.2.1 _ _ hin).1, a4, ← e17]
    exact hB1.give (ac_in a3 hv) (by omega)
  · -- a CHOICE
    rw [if_neg (show ¬ kd (ρ 7 P) = 4 by omega), if_pos a2, if_neg (show ¬ K = 1 by omega), if_neg (show ¬ K = 2 by omega), if_pos a1, a4]
    have hin := a5.inB h
    have htx := tx_5 a2
    obtain ⟨t1, t2, t3, t4⟩ := id a5
    have hj : 0 ≤ (if ρ 21 17 = 0 then (1 : Int) else 2) ∧ (if ρ 21 17 = 0 then (1 : Int) else 2) < 3 := by split <;> omega
    rw [← e17, ← t2, hst.tp hin hj.1 (by omega)]
    have hch := a5.ch h (j := if ρ 21 17 = 0 then 1 else 2) hj.1 (by omega)
    refine hB1.go ?_ (by omega)
    rw [r21 5 (by decide), r 6 (by decide), s 40 (by decide)]
    exact hch
  · -- an ARGUMENT is kept
    rw [if_neg (show ¬ kd (ρ 7 P) = 4 by omega), if_neg (show ¬ kd (ρ 7 P) = 5 by omega), if_pos a2, if_neg (show ¬ K = 1 by omega), if_neg (show ¬ K = 2 by omega), if_neg (show ¬ K = 3 by omega), if_pos a1, ← e17]
    have hin := a6.inB h
    have hw3 := wo_3 a2
    have h3 := kd_3.mp a2
    have hwa := ((hst.1 _ hin.1.1 hin.1.2).2 P hin.2.1 hin.2.2).2.2 a2
    have hB2 := hB1.set (c := C) (j := wo (ρ 7 P)) (v := ρ 21 17) (s := C * 3 + wo (ρ 7 P)) (t := M) (by rw [r21 5 (by decide)]; exact hC) (by rw [s 40 (by decide)]; omega) hv rfl a5
    refine ⟨hB2, fun _ => ⟨Or.inr ?_, ?_⟩⟩
    · rw [up_ne ρ1 (by decide), up_ne τ1 (by decide), r21 16 (by decide), r21 17 (by decide), s30 21 (by decide), s30 23 (by decide)]
      exact ⟨e16, e21, e17, hv.1, hv.2⟩
    · rw [up_ne ρ1 (by decide), r21 16 (by decide), r9, r13]
      omega
  · -- a text worked ahead
    rw [if_neg (show ¬ kd (ρ 7 P) = 4 by omega), if_neg (show ¬ kd (ρ 7 P) = 5 by omega), if_neg (show ¬ kd (ρ 7 P) = 3 by omega), if_pos a2, if_neg (show ¬ H = -1 by omega), if_neg (show ¬ K = 1 by omega), if_neg (show ¬ K = 2 by omega), if_neg (show ¬ K = 3 by omega), if_neg (show ¬ K = 4 by omega), a4, a5, a6, ← e17]
    have hB2 := hB1.set (c := C) (j := H) (v := ρ 21 17) (s := C * 3 + H) (t := 3 * C + H) (by rw [r21 5 (by decide)]; exact hC) (by rw [s 40 (by decide)]; exact a3) hv rfl rfl
    obtain ⟨f, g1, g2, g3⟩ := a9
    refine hB2.calling ?_ ⟨f, g1, g2, ?_⟩ ?_ ?_ ?_ ?_ ?_
    · rw [up_ne ρ1 (by decide), r9, r13]; omega
    · rw [up_ne ρ1 (by decide), r 6 (by decide)]; exact g3
    · rw [up_ne ρ1 (by decide), r 7 (by decide)]; exact a2
    · rw [up_ne ρ1 (by decide), r21 5 (by decide)]; omega
    · rw [up_ne ρ1 (by decide), r 7 (by decide), up_ne τ1 (by decide), s 40 (by decide)]; exact a8
    · rw [up_ne τ1 (by decide), s 40 (by decide)]; omega
    · rw [up_ne ρ1 (by decide), r9, r13]; omega
theorem Rel.turn {ρ τ : Sg} {w φ : Int} (h : Rel ρ τ w φ) (he : ρ 21 12 = -1) : Rel (mTurn ρ) (nTurn τ w) w (φ - 1) ∨ Mid (mTurn ρ) (nTurn τ w) w (φ - 2) := by
  obtain ⟨hB, hC⟩ := h
  obtain ⟨hC, hφ⟩ := hC he
  unfold mTurn nTurn
  rcases hC with ⟨a, b, c⟩ | ⟨a, b, c, d, e⟩
  · rw [if_pos a, if_pos c.2.2.1]
    exact Rel.begin hB he b c (by omega)
  · rw [if_neg (by omega), if_neg (by omega)]
    exact Or.inl (Rel.back hB a b c ⟨d, e⟩ (by omega))
/-- what a turn needs stands -/
theorem Rel.needC {ρ τ : Sg} {w φ : Int} (h : Rel ρ τ w φ) (he : ρ 21 12 = -1) : (ρ 21 16 = 0 ∨ ρ 21 16 = 1) ∧ (ρ 21 16 = 0 → PB ρ) ∧ (ρ 21 16 = 1 → PK ρ) := by
  obtain ⟨hB, hC⟩ := h
  obtain ⟨hC, hφ⟩ := hC he
  have hst := hB.1
  obtain ⟨b1, b2, b3, b4, b5⟩ := hB.2.1
  obtain ⟨c1, c2, c3, c4⟩ := hB.2.2.1
  have hw := hst.2.2.2.2.1
  rcases hC with ⟨a, b, c⟩ | ⟨a, b, c, d, e⟩
  · refine ⟨Or.inl a, fun _ => ?_, fun z => by exfalso; omega⟩
    have hin := c.inB hB
    obtain ⟨t1, t2, t3, t4⟩ := id c
    refine ⟨τ 40 (τ 30 22), hin.1, hin.2, by omega, c1, c2, c3, by omega, fun k3 => ?_⟩
    have hwa := ((hst.1 _ hin.1.1 hin.1.2).2 _ hin.2.1 hin.2.2).2.2 k3
    have hw3 := wo_3 k3
    have h3 := kd_3.mp k3
    obtain ⟨g1, g2, g3, g4⟩ := hB.2.2.2.2.1 (τ 30 22) (wo (ρ 7 (ρ 21 14))) t1.1 t1.2 (by omega) hwa
    rw [b, g1]
    exact g2
  · refine ⟨Or.inr a, fun z => by exfalso; omega, fun _ => ⟨by omega, fun z => ?_⟩⟩
    have he := hB.2.2.2.2.2 (ρ 21 9 - 1) (by omega) (by omega)
    have k25 : ρ 25 (ρ 21 9 - 1) = tpP ρ := rfl
    have k26 : ρ 26 (ρ 21 9 - 1) = tpC ρ := rfl
    have k27 : ρ 27 (ρ 21 9 - 1) = tpH ρ := rfl
    rw [k25, k26, k27] at he
    obtain ⟨hC, he⟩ := he
    rcases he with ⟨a1, a2, a3, a4, a5⟩ | ⟨a1, a2, a3, a4, a5, a6⟩ | ⟨a1, a2, a3, a4, a5⟩ | ⟨a1, a2, a3, a4, a5, n, a6⟩ | ⟨a1, a2, a3, a4, a5, a6, a7, a8, a9⟩
    · have hin := a5.inB hB
      exact ⟨_, hin.1, hin.2, by omega, Or.inl a3, fun k => by exfalso; omega, fun _ => e⟩
    · have hin := a6.inB hB
      exact ⟨_, hin.1, hin.2, by omega, Or.inr a3, fun k => by exfalso; omega, fun _ => e⟩
    · have hin := a5.inB hB
      exact ⟨_, hin.1, hin.2, by omega, Or.inl a3, fun k => by exfalso; omega, fun _ => e⟩
    · have hin := a6.inB hB
      exact ⟨_, hin.1, hin.2, by omega, Or.inl a3, fun k => by exfalso; omega, fun _ => e⟩
    · obtain ⟨f, g1, g2, g3⟩ := a9
      have hna := nA_in (τ 40 (tpC ρ))
      exact ⟨f, g1, ⟨g2, g3⟩, by omega, Or.inr (by omega), fun _ => by rw [a8]; exact a3.2, fun _ => e⟩
theorem Rel.needM {ρ τ : Sg} {w φ : Int} (h : Rel ρ τ w φ) (he : ρ 21 12 = -1) : (rg (τ 30 21)) ∧ (0 ≤ τ 30 21 → PBM τ) ∧ (¬ 0 ≤ τ 30 21 → 0 < τ 30 18 → PO τ) := by
  obtain ⟨hB, hC⟩ := h
  obtain ⟨hC, hφ⟩ := hC he
  have hst := hB.1
  obtain ⟨b1, b2, b3, b4, b5⟩ := hB.2.1
  obtain ⟨c1, c2, c3, c4⟩ := hB.2.2.1
  have hw := hst.2.2.2.2.1
  rcases hC with ⟨a, b, c⟩ | ⟨a, b, c, d, e⟩
  · have hin := c.inB hB
    obtain ⟨t1, t2, t3, t4⟩ := id c
    have hn30 := (hst.1 _ hin.1.1 hin.1.2).1.2.1
    refine ⟨⟨by omega, by omega⟩, fun _ => ?_, fun z => absurd t3 z⟩
    have eP : cP τ = ρ 21 14 := by unfold cP cF; omega
    have eS : τ 31 (cP τ) = ρ 7 (ρ 21 14) := by rw [eP]; exact (hst.2.2.2.2.2.2.1 _ _ hin).1
    refine ⟨by omega, by omega, hin.1, ⟨t3, ?_⟩, by omega, by omega, fun k3 => ?_⟩
    · show τ 30 21 < τ 34 (τ 40 (τ 30 22))
      rw [hst.2.2.2.2.2.1 _ hin.1.1 hin.1.2]
      exact t4
    · rw [eS] at k3 ⊢
      have hwa := ((hst.1 _ hin.1.1 hin.1.2).2 _ hin.2.1 hin.2.2).2.2 k3
      have hw3 := wo_3 k3
      have h3 := kd_3.mp k3
      exact (hB.2.2.2.2.1 (τ 30 22) (wo (ρ 7 (ρ 21 14))) t1.1 t1.2 (by omega) hwa).2.1
  · refine ⟨⟨by omega, by omega⟩, fun z => by exfalso; omega, fun _ z => ?_⟩
    have he := hB.2.2.2.2.2 (ρ 21 9 - 1) (by omega) (by omega)
    have k44 : τ 44 (ρ 21 9 - 1) = oK τ := by unfold oK; rw [b3]
    have k45 : τ 45 (ρ 21 9 - 1) = oN τ := by unfold oN; rw [b3]
    have k46 : τ 46 (ρ 21 9 - 1) = oC τ := by unfold oC; rw [b3]
    have k47 : τ 47 (ρ 21 9 - 1) = oM τ := by unfold oM; rw [b3]
    rw [k44, k45, k46, k47] at he
    obtain ⟨hC, he⟩ := he
    obtain ⟨P, eP⟩ : ∃ x, x = ρ 25 (ρ 21 9 - 1) := ⟨_, rfl⟩
    obtain ⟨C, eC⟩ : ∃ x, x = ρ 26 (ρ 21 9 - 1) := ⟨_, rfl⟩
    rw [← eP, ← eC] at he
    rw [← eC] at hC
    have hF0 : 0 ≤ oC τ → oC τ < ρ 21 5 → 0 ≤ oF τ ∧ oF τ < 4 := fun x y => hB.2.2.2.1 _ x y
    have ht2 : oC τ = C → Txt (ρ 21 5) (ρ 6) (τ 40) P C (oN τ) → 2 ≤ tx (ρ 7 P) → (∀ j, 0 ≤ j → j < 2 → 0 ≤ tp (τ 32) (oF τ * 30 + oN τ) j ∧ tp (τ 32) (oF τ * 30 + oN τ) j < 150) ∧ 0 ≤ oF τ * 30 + oN τ ∧ oF τ * 30 + oN τ < 150 := by
      intro x y w2
      have hin := y.inB hB
      have hn30 := (hst.1 _ hin.1.1 hin.1.2).1.2.1
      have e9 : oF τ * 30 + oN τ = P := by unfold oF; rw [x]; exact y.2.1.symm
      rw [e9]
      have hin1 := hin.1
      have hin2 := hin.2
      refine ⟨fun j j0 j1 => ?_, by omega, by omega⟩
      rw [hst.tp hin j0 (by omega)]
      have := (hst.ch hin j0 (j := j) (by omega)).2.2
      omega
    rcases he with ⟨a1, a2, a3, a4, a5⟩ | ⟨a1, a2, a3, a4, a5, a6⟩ | ⟨a1, a2, a3, a4, a5⟩ | ⟨a1, a2, a3, a4, a5, n, a6⟩ | ⟨a1, a2, a3, a4, a5, a6, a7, a8, a9⟩
    · have hp := ht2 a4 a5 (by rw [tx_4 a2]; decide)
      exact ⟨by omega, by omega, hF0 (by omega) (by omega), by omega, by omega, fun _ => hp.1, fun k => by exfalso; omega, fun k => by exfalso; omega, fun k => by exfalso; omega⟩
    · have hp := ht2 a5 a6 (by rw [tx_4 a2]; decide)
      exact ⟨by omega, by omega, hF0 (by omega) (by omega), by omega, by omega, fun _ => hp.1, fun _ => ⟨by omega, hp.2⟩, fun k => by exfalso; omega, fun k => by exfalso; omega⟩
    · have hp := ht2 a4 a5 (by rw [tx_5 a2]; decide)
      exact ⟨by omega, by omega, hF0 (by omega) (by omega), by omega, by omega, fun _ => hp.1, fun k => by exfalso; omega, fun k => by exfalso; omega, fun k => by exfalso; omega⟩
    · have hin := a6.inB hB
      have hw3 := wo_3 a2
      have h3 := kd_3.mp a2
      exact ⟨by omega, by omega, hF0 (by omega) (by omega), by omega, by omega, fun k => by exfalso; omega, fun k => by exfalso; omega, fun _ => by omega, fun k => by exfalso; omega⟩
    · refine ⟨by omega, by omega, hF0 (by omega) (by omega), by omega, by omega, fun k => by exfalso; omega, fun k => by exfalso; omega, fun k => by exfalso; omega, fun _ => ⟨by omega, ?_⟩⟩
      unfold oF
      rw [a4, a5]
      exact a3
