/-! what the calls keep -/
theorem INV.pad {σ υ : Sg} {re rt : RF} (h : INV σ re rt) (e : ∀ k, k ∉ [1, 2, 31, 34] → υ k = σ k) (h1 : 0 ≤ υ 1 1 ∧ υ 1 1 ≤ 30) (h2 : ∀ j, rg (υ 2 j)) (hP : Pads υ) (h34 : ∀ f, 0 ≤ f → f < 4 → υ 34 f = σ 34 f) (h31 : ∀ p, 0 ≤ p → p < 120 → υ 31 p = σ 31 p) (hr : ∀ j, rg (υ 31 j)) : INV υ re rt := by
  obtain ⟨hT, hR⟩ := h
  have hn34 := hT.n34
  have et : tbl υ = tbl σ := by unfold tbl; rw [e 14 (by decide)]
  have ek : kn υ = kn σ := by unfold kn; rw [e 18 (by decide)]
  have em : mtb υ = mtb σ := by unfold mtb; rw [e 37 (by decide)]
  have eu : unM υ = unM σ := by unfold unM; rw [e 38 (by decide)]
  obtain ⟨⟨q1, q2, q3, q4, q5, q6, q7, q8, q9, q10, q11⟩, b, c, d, ⟨e1, e2, e3, e4⟩, p, q, r⟩ := id hT
  refine ⟨⟨⟨h1, h2, fun j => by rw [e 4 (by decide)]; exact q3 j, BOK_rows q4 (fun k hk => e k (by revert k; decide)), by rw [e 7 (by decide)]; exact q5, fun j => by rw [e 13 (by decide)]; exact q6 j, fun j => by rw [e 14 (by decide)]; exact q7 j, fun j => by rw [e 17 (by decide)]; exact q8 j, fun j => by rw [e 18 (by decide)]; exact q9 j, fun j => by rw [e 19 (by decide)]; exact q10 j, fun j => by rw [e 28 (by decide)]; exact q11 j⟩, ?_, ?_, ?_, ⟨⟨fun f f0 f1 => ?_, hr⟩, fun f => by rw [e 37 (by decide)]; exact e2 f, fun f => by rw [e 38 (by decide)]; exact e3 f, fun f => by rw [e 39 (by decide)]; exact e4 f⟩, hP, ⟨fun f f0 f1 => ?_, fun f p hp => ?_⟩, ?_⟩, hR.1.move (fun k hk => e k (by revert k; decide)), hR.2.1.row (e 29 (by decide)), fun f => by rw [e 28 (by decide)]; exact q11 f, fun f f0 f1 => by rw [e 15 (by decide)]; exact hR.2.2.2 f f0 f1⟩
  · unfold TOK RW TR at b ⊢
    rw [e 6 (by decide), e 7 (by decide), e 10 (by decide), et, e 13 (by decide), e 14 (by decide)]
    exact b
  · unfold Needs at c ⊢
    rw [e 15 (by decide), et]
    exact c
  · unfold UOK KR at d ⊢
    rw [e 6 (by decide), e 7 (by decide), e 10 (by decide), ek, e 18 (by decide)]
    exact d
  · rw [h34 f f0 f1, e 32 (by decide), e 33 (by decide)]
    have h9 := e1.1 f f0 f1
    have h8 := hn34 f f0 f1
    refine ⟨h9.1.congr (fun p p0 p1 => ⟨h31 p (by omega) (by omega), rfl, rfl⟩), fun p p0 p1 => ?_⟩
    rw [h31 p (by omega) (by omega)]
    exact h9.2 p p0 p1
  · rw [h34 f f0 f1, e 6 (by decide)]; exact q.1 f f0 f1
  · unfold inB at hp
    rw [e 6 (by decide)] at hp
    have h8 := hT.n6 f hp.1.1 hp.1.2
    have hp1 := hp.1
    have hp2 := hp.2
    rw [h31 p (by omega) (by omega), e 32 (by decide), e 33 (by decide), e 7 (by decide), e 10 (by decide), e 11 (by decide)]
    exact q.2 f p hp
  · unfold LyD at r ⊢
    rw [et, ek, em, eu]
    exact r
theorem INV.say {σ : Sg} {re rt : RF} (h : INV σ re rt) {x : Int} (rx : rg x) : vSay σ x = vSayM (sSay σ x) x ∧ INV (sSayM (sSay σ x) x) re rt := by
  have hn := h.1.1.1
  have hp := h.1.2.2.2.2.2.1
  by_cases c : (33 ≤ x ∧ x ≤ 126) ∧ σ 1 1 < 30
  · obtain ⟨τ, eτ⟩ : ∃ τ, τ = up (up σ 2 (σ 1 1) x) 1 1 (σ 1 1 + 1) := ⟨_, rfl⟩
    have e1 : sSay σ x = τ := by unfold sSay; rw [if_pos c, eτ]
    have r34 : τ 34 = σ 34 := by rw [eτ, up_ne _ (by decide), up_ne _ (by decide)]
    have r31 : τ 31 = σ 31 := by rw [eτ, up_ne _ (by decide), up_ne _ (by decide)]
    have n4 : τ 34 4 = σ 1 1 := by rw [r34]; exact hp.1
    have e2 : sSayM τ x = up (up τ 31 (120 + σ 1 1) x) 34 4 (σ 1 1 + 1) := by unfold sSayM; rw [if_pos ⟨c.1, by omega⟩, n4]
    rw [e1]
    refine ⟨?_, ?_⟩
    · unfold vSay vSayM
      rw [if_pos c.1, if_pos c.2, if_pos c.1, n4, if_neg (by omega)]
    · rw [e2]
      have s34 : ∀ j, j ≠ 4 → up (up τ 31 (120 + σ 1 1) x) 34 4 (σ 1 1 + 1) 34 j = σ 34 j := fun j hj => by rw [up_other _ _ hj, up_ne _ (by decide), r34]
      have s31 : ∀ p, up (up τ 31 (120 + σ 1 1) x) 34 4 (σ 1 1 + 1) 31 p = if p = 120 + σ 1 1 then x else σ 31 p := fun p => by rw [up_ne _ (by decide), up_at, r31]
      have s1 : up (up τ 31 (120 + σ 1 1) x) 34 4 (σ 1 1 + 1) 1 1 = σ 1 1 + 1 := by rw [up_ne _ (by decide), up_ne _ (by decide), eτ, up_same]
      have s2 : ∀ j, up (up τ 31 (120 + σ 1 1) x) 34 4 (σ 1 1 + 1) 2 j = if j = σ 1 1 then x else σ 2 j := fun j => by rw [up_ne _ (by decide), up_ne _ (by decide), eτ, up_ne _ (by decide), up_at]
      refine h.pad (fun k hk => ?_) (by rw [s1]; omega) (fun j => ?_) ⟨by rw [up_same, s1], fun i i0 i1 => ?_⟩ (fun f f0 f1 => s34 f (by omega)) (fun p p0 p1 => by rw [s31, if_neg (by omega)]) (fun j => ?_)
      · simp at hk
        rw [up_ne _ (by omega), up_ne _ (by omega), eτ, up_ne _ (by omega), up_ne _ (by omega)]
      · rw [s2]
        split
        · exact rx
        · exact h.1.1.2.1 j
      · rw [s1] at i1
        rw [s31, s2]
        by_cases z : i = σ 1 1
        · rw [if_pos (by omega), if_pos z]
        · rw [if_neg (by omega), if_neg z]
          exact hp.2 i i0 (by omega)
      · rw [s31]
        split
        · exact rx
        · exact h.1.2.2.2.2.1.1.2 j
  · have e1 : sSay σ x = σ := by unfold sSay; rw [if_neg c]
    have e2 : sSayM σ x = σ := by unfold sSayM; rw [if_neg (by rw [hp.1]; omega)]
    rw [e1, e2]
    refine ⟨?_, h⟩
    unfold vSay vSayM
    by_cases c1 : 33 ≤ x ∧ x ≤ 126
    · rw [if_pos c1, if_pos c1, if_neg (by omega), if_pos (by rw [hp.1]; omega)]
    · rw [if_neg c1, if_neg c1]
theorem INV.wipe {σ : Sg} {re rt : RF} (h : INV σ re rt) : σ 1 1 = (up σ 1 1 0) 34 4 ∧ INV (up (up σ 1 1 0) 34 4 0) re rt := by
  have hp := h.1.2.2.2.2.2.1
  refine ⟨by rw [up_ne _ (by decide)]; exact hp.1.symm, ?_⟩
  have s1 : up (up σ 1 1 0) 34 4 0 1 1 = 0 := by rw [up_ne _ (by decide), up_same]
  refine h.pad (fun k hk => ?_) (by rw [s1]; decide) (fun j => ?_) ⟨by rw [up_same, s1], fun i i0 i1 => by rw [s1] at i1; exfalso; omega⟩ (fun f f0 f1 => by rw [up_other _ _ (by omega), up_ne _ (by decide)]) (fun p p0 p1 => by rw [up_ne _ (by decide), up_ne _ (by decide)]) (fun j => ?_)
  · simp at hk
    rw [up_ne _ (by omega), up_ne _ (by omega)]
  · rw [up_ne _ (by decide), up_ne _ (by decide)]; exact h.1.1.2.1 j
  · rw [up_ne _ (by decide), up_ne _ (by decide)]; exact h.1.2.2.2.2.1.1.2 j
theorem body_same {σ τ υ : Sg} {x : Int} {Z D : Int → Int} (h : Twin σ) (hx : 0 ≤ x ∧ x < 4) (hq : putQ σ τ x Z D) (m1 : Sm byrows σ τ) (hp : putM τ υ x Z D) : (∀ f, 0 ≤ f → f < 4 → υ 34 f = τ 6 f) ∧ ∀ f p, inB τ f p → υ 31 p = τ 7 p ∧ υ 32 p = τ 10 p ∧ υ 33 p = τ 11 p := by
  obtain ⟨p1, p2⟩ := h.2.2.2.2.2.1
  obtain ⟨b1, b2⟩ := h.2.2.2.2.2.2.1
  obtain ⟨a1, a2, a3, a4, a5⟩ := hq
  obtain ⟨c1, c2, c3, c4, c5, c6⟩ := hp
  have e31 : τ 31 = σ 31 := m1 31 (by decide)
  have e32 : τ 32 = σ 32 := m1 32 (by decide)
  have e33 : τ 33 = σ 33 := m1 33 (by decide)
  have e34 : τ 34 = σ 34 := m1 34 (by decide)
  rw [e34] at c1 c3 c4 c5
  rw [e31] at c4 c5
  rw [e32, e33] at c5
  rw [p1] at c1 c4 c5
  have hn := h.1.1
  refine ⟨fun f f0 f1 => ?_, fun f p hp => ?_⟩
  · by_cases z : f = x
    · rw [z, c1, a1]
    · rw [c3 f z (by omega), a2 f z]; exact b1 f f0 f1
  · obtain ⟨f0, p0, p9⟩ := hp
    by_cases z : f = x
    · rw [z] at p0 p9
      rw [a1] at p9
      obtain ⟨i, ei⟩ : ∃ i, i = p - x * 30 := ⟨_, rfl⟩
      have ep : p = x * 30 + i := by omega
      have g1 := a3 i (by omega) (by omega)
      have g2 := c4 i (by omega) (by omega)
      rw [ep, g1.1, g1.2.2.2.1, g1.2.2.2.2, g2.1, g2.2.1, g2.2.2]
      exact ⟨p2 i (by omega) (by omega), rfl, rfl⟩
    · rw [a2 f z] at p9
      have hn6 := h.n6 f f0.1 f0.2
      have hout : ¬ (x * 30 ≤ p ∧ p < x * 30 + σ 1 1) := by
        intro w
        rcases Int.lt_or_gt_of_ne z with q | q <;> omega
      have g1 := a4 p hout
      have g2 := c5 p hout
      rw [g1.1, g1.2.2.2.1, g1.2.2.2.2, g2.1, g2.2.1, g2.2.2]
      exact b2 f p ⟨f0, p0, p9⟩
theorem body_lfp {σ τ : Sg} {x : Int} {Z D : Int → Int} (h : Twin σ) (hx : 0 ≤ x ∧ x < 4) (hb : bodyQ σ τ x Z D) (m1 : Sm byrows σ τ) : ∀ υ : Sg, putM τ υ x Z D → LfpT (υ 34) (υ 31) (υ 32) (tbl τ) ∧ LfpU (υ 34) (υ 31) (υ 32) (kn τ) := by
  intro υ hp
  obtain ⟨s1, s2⟩ := body_same h hx hb.1 m1 hp
  have hs : SameB (τ 6) (τ 7) (τ 10) (υ 34) (υ 31) (υ 32) := ⟨s1, fun f p f0 f1 p0 p1 => ⟨(s2 f p ⟨⟨f0, f1⟩, p0, p1⟩).1, (s2 f p ⟨⟨f0, f1⟩, p0, p1⟩).2.1⟩⟩
  have hW : ∀ f, 0 ≤ f → f < 4 → Wf (τ 7) (τ 10) (τ 11) (f * 30) (τ 6 f) := fun f a b => (hb.2.2.2.1.2.2.2.1 f a b).1
  exact ⟨hs.lfpT hW hb.2.2.2.2.1.2.2.1, hs.lfpU hW hb.2.2.2.2.2.2.1.2⟩
theorem Twin.fresh {σ : Sg} (h : Twin σ) (hk : ∀ j, 0 ≤ j → j < 3600 → σ 29 j = -1) : INV σ (reM σ) (rtM σ) :=
  ⟨h, run_ok h.tw, fun f a w hi => Or.inl (hk _ (ixR_in hi).1 (ixR_in hi).2), h.1.2.2.2.2.2.2.2.2.2.2, h.tw.2.2.1⟩
theorem INV.body {σ τ υ : Sg} {x : Int} {Z D : Int → Int} (h : Twin σ) (hx : 0 ≤ x ∧ x < 4) (hb : bodyQ σ τ x Z D) (m1 : Sm byrows σ τ) (hp : putM τ υ x Z D) (hM : MOK υ) (hT : MTR υ) (hU : UR υ) (hC : C2 υ) (hL : LyD υ (tbl τ) (kn τ)) (m2 : Sm bmrows τ υ) : ∃ re rt, INV υ re rt := by
  obtain ⟨s1, s2⟩ := body_same h hx hb.1 m1 hp
  obtain ⟨b1, b2, b3, ⟨q1, q2, q3, q4, q5, q6, q7, q8, q9, q10, q11⟩, b5, b6, b7, b8⟩ := hb
  have e : ∀ k, k < 30 → υ k = τ k := fun k hk => m2 k (by simp; omega)
  have et : tbl υ = tbl τ := by unfold tbl; rw [e 14 (by decide)]
  have ek : kn υ = kn τ := by unfold kn; rw [e 18 (by decide)]
  have z1 : υ 1 1 = 0 := by rw [e 1 (by decide)]; exact b2
  refine ⟨_, _, Twin.fresh ⟨⟨by omega, by rw [e 2 (by decide)]; exact q2, fun j => by rw [e 4 (by decide)]; exact q3 j, BOK_rows q4 (fun k hk => e k (by revert k; decide)), by rw [e 7 (by decide)]; exact q5, fun j => by rw [e 13 (by decide)]; exact q6 j, fun j => by rw [e 14 (by decide)]; exact q7 j, fun j => by rw [e 17 (by decide)]; exact q8 j, fun j => by rw [e 18 (by decide)]; exact q9 j, fun j => by rw [e 19 (by decide)]; exact q10 j, fun j => by rw [e 28 (by decide)]; exact q11 j⟩, ?_, ?_, ?_, ⟨hM, hT, hU, hC⟩, ⟨by rw [z1]; exact hp.2.1, fun i i0 i1 => by rw [z1] at i1; exfalso; omega⟩, ⟨fun f f0 f1 => by rw [e 6 (by decide)]; exact s1 f f0 f1, fun f p hp => ?_⟩, by rw [et, ek]; exact hL⟩ (fun j a b => by rw [e 29 (by decide)]; exact b8 j a b)⟩
  · unfold TOK RW TR at b5 ⊢
    rw [e 6 (by decide), e 7 (by decide), e 10 (by decide), et, e 13 (by decide), e 14 (by decide)]
    exact b5
  · unfold Needs
    rw [e 15 (by decide), et]
    exact b6
  · unfold UOK KR at b7 ⊢
    rw [e 6 (by decide), e 7 (by decide), e 10 (by decide), ek, e 18 (by decide)]
    exact b7
  · unfold inB at hp
    rw [e 6 (by decide)] at hp
    rw [e 7 (by decide), e 10 (by decide), e 11 (by decide)]
    exact s2 f p hp
theorem start_same {σ υ : Sg} (h : BI σ 4) (hm : MIf υ 4) : SameB (σ 6) (σ 7) (σ 10) (υ 34) (υ 31) (υ 32) := by
  refine ⟨fun f f0 f1 => ?_, fun f p f0 f1 p0 p1 => ?_⟩
  · rw [(hm.1 f f0 f1).1, (h.1 f f0 f1).1]
  · rw [(h.1 f f0 f1).1] at p1
    rw [show p = f * 30 by omega, (hm.1 f f0 f1).2.1, (hm.1 f f0 f1).2.2.1, (h.1 f f0 f1).2.1, (h.1 f f0 f1).2.2.2.2.1]
    exact ⟨rfl, rfl⟩
theorem start_lfp {σ : Sg} (h : newC σ) : ∀ υ : Sg, MIf υ 4 → LfpT (υ 34) (υ 31) (υ 32) (tbl σ) ∧ LfpU (υ 34) (υ 31) (υ 32) (kn σ) := by
  intro υ hm
  have hs := start_same h.2.2.2.2.2.2 hm
  have hW : ∀ f, 0 ≤ f → f < 4 → Wf (σ 7) (σ 10) (σ 11) (f * 30) (σ 6 f) := fun f a b => (h.1.2.2.2.1 f a b).1
  exact ⟨hs.lfpT hW h.2.1.2.2.1, hs.lfpU hW h.2.2.2.1.2⟩
theorem INV.start {σ τ : Sg} (h : newC σ) (m : Sm [31, 32, 34, 37, 38, 39] σ τ) (hm : MIf τ 4) (hT : MTR τ) (hU : UR τ) (hC : C2 τ) (hL : LyD τ (tbl σ) (kn σ)) : ∃ re rt, INV τ re rt := by
  obtain ⟨⟨q1, q2, q3, q4, q5, q6, q7, q8, q9, q10, q11⟩, b5, b6, b7, b8, z, hbi⟩ := h
  have e : ∀ k, k < 30 → τ k = σ k := fun k hk => m k (by simp; omega)
  have et : tbl τ = tbl σ := by unfold tbl; rw [e 14 (by decide)]
  have ek : kn τ = kn σ := by unfold kn; rw [e 18 (by decide)]
  have z1 : τ 1 1 = 0 := by rw [e 1 (by decide)]; exact z
  have hs := start_same hbi hm
  refine ⟨_, _, Twin.fresh ⟨⟨by omega, by rw [e 2 (by decide)]; exact q2, fun j => by rw [e 4 (by decide)]; exact q3 j, BOK_rows q4 (fun k hk => e k (by revert k; decide)), by rw [e 7 (by decide)]; exact q5, fun j => by rw [e 13 (by decide)]; exact q6 j, fun j => by rw [e 14 (by decide)]; exact q7 j, fun j => by rw [e 17 (by decide)]; exact q8 j, fun j => by rw [e 18 (by decide)]; exact q9 j, fun j => by rw [e 19 (by decide)]; exact q10 j, fun j => by rw [e 28 (by decide)]; exact q11 j⟩, ?_, ?_, ?_, ⟨MOK_MI hm, hT, hU, hC⟩, ⟨by rw [z1]; exact hm.2.2, fun i i0 i1 => by rw [z1] at i1; exfalso; omega⟩, ⟨fun f f0 f1 => by rw [e 6 (by decide)]; exact hs.1 f f0 f1, fun f p hp => ?_⟩, by rw [et, ek]; exact hL⟩ (fun j a b => by rw [e 29 (by decide)]; exact b8 j a b)⟩
  · unfold TOK RW TR at b5 ⊢
    rw [e 6 (by decide), e 7 (by decide), e 10 (by decide), et, e 13 (by decide), e 14 (by decide)]
    exact b5
  · unfold Needs
    rw [e 15 (by decide), et]
    exact b6
  · unfold UOK KR at b7 ⊢
    rw [e 6 (by decide), e 7 (by decide), e 10 (by decide), ek, e 18 (by decide)]
    exact b7
  · unfold inB at hp
    rw [e 6 (by decide)] at hp
    obtain ⟨f0, p0, p1⟩ := hp
    have g1 := hs.2 f p f0.1 f0.2 p0 p1
    rw [(hbi.1 f f0.1 f0.2).1] at p1
    have ep : p = f * 30 := by omega
    rw [e 7 (by decide), e 10 (by decide), e 11 (by decide)]
    refine ⟨g1.1, g1.2, ?_⟩
    rw [ep, (hm.1 f f0.1 f0.2).2.2.2, (hbi.1 f f0.1 f0.2).2.2.2.2.2]
