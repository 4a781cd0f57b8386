/-! body -/
def sgOk (S : Int → Int) (n f : Int) : Prop := ∀ i, 0 ≤ i → i < n → kd (S i) ≠ 0 ∧ (kd (S i) = 3 → wo (S i) < nA f)
/-- what stands behind a put -/
def putQ (σ τ : Sg) (x : Int) (Z D : Int → Int) : Prop := τ 6 x = σ 1 1 ∧ (∀ g, g ≠ x → τ 6 g = σ 6 g) ∧ (∀ i, 0 ≤ i → i < σ 1 1 → τ 7 (x * 30 + i) = σ 2 i ∧ τ 8 (x * 30 + i) = kd (σ 2 i) ∧ τ 9 (x * 30 + i) = wo (σ 2 i) ∧ τ 10 (x * 30 + i) = Z i ∧ τ 11 (x * 30 + i) = D i) ∧ (∀ p, ¬ (x * 30 ≤ p ∧ p < x * 30 + σ 1 1) → τ 7 p = σ 7 p ∧ τ 8 p = σ 8 p ∧ τ 9 p = σ 9 p ∧ τ 10 p = σ 10 p ∧ τ 11 p = σ 11 p) ∧ ∀ j, rg (τ 7 j)
theorem BOK_put {σ τ : Sg} {x : Int} {Z D : Int → Int} (hx : 0 ≤ x ∧ x < 4) (hW : Wf (σ 2) Z D 0 (σ 1 1)) (hV : sgOk (σ 2) (σ 1 1) x) (hB : BOK σ) (h : putQ σ τ x Z D) : BOK τ := by
  obtain ⟨h1, h2, h3, h4, h5⟩ := h
  have hn1 := hW.1
  have hn2 := hW.2.1
  intro f f0 f1
  by_cases hf : f = x
  · subst hf
    rw [h1]
    refine ⟨(hW.shift (S' := τ 7) (b := f * 30) (fun i a b => (h3 i a b).1)).congr ?_, ?_⟩
    · intro p p1 p2
      have h9 := h3 (p - f * 30) (by omega) (by omega)
      rw [show f * 30 + (p - f * 30) = p by omega] at h9
      exact ⟨rfl, h9.2.2.2.1, h9.2.2.2.2⟩
    · intro p p1 p2
      have h9 := h3 (p - f * 30) (by omega) (by omega)
      rw [show f * 30 + (p - f * 30) = p by omega] at h9
      rw [h9.1, h9.2.1, h9.2.2.1]
      exact ⟨rfl, rfl, (hV _ (by omega) (by omega)).2⟩
  · rw [h2 f hf]
    obtain ⟨b1, b2⟩ := hB f f0 f1
    have hn3 := b1.2.1
    have hout : ∀ p, f * 30 ≤ p → p < f * 30 + σ 6 f → ¬ (x * 30 ≤ p ∧ p < x * 30 + σ 1 1) := by
      intro p p1 p2 p3
      rcases Int.lt_or_gt_of_ne hf with q | q <;> omega
    refine ⟨b1.congr ?_, ?_⟩
    · intro p p1 p2
      have h9 := h4 p (hout p p1 p2)
      exact ⟨h9.1, h9.2.2.2.1, h9.2.2.2.2⟩
    · intro p p1 p2
      have h9 := h4 p (hout p p1 p2)
      rw [h9.1, h9.2.1, h9.2.2.1]
      exact b2 p p1 p2
/-- what the class holds of its own, runs apart -/
def CSt (σ : Sg) : Prop := (0 ≤ σ 1 1 ∧ σ 1 1 ≤ 30) ∧ (∀ j, rg (σ 2 j)) ∧ (∀ j, 0 ≤ σ 4 j ∧ σ 4 j ≤ 3) ∧ BOK σ ∧ (∀ j, rg (σ 7 j)) ∧ RW σ ∧ TR σ ∧ CR σ ∧ KR σ ∧ NR σ ∧ AH σ
/-- what body leaves behind when it takes the PAD -/
def bodyQ (σ τ : Sg) (x : Int) (Z D : Int → Int) : Prop := putQ σ τ x Z D ∧ τ 1 1 = 0 ∧ τ 2 = σ 2 ∧ CSt τ ∧ TOK τ τ ∧ (∀ f, 0 ≤ f → f < 4 → τ 15 f = need3 (fun s => tbl τ f s) f) ∧ UOK τ τ ∧ (∀ j, 0 ≤ j → j < 3600 → τ 29 j = -1)
abbrev byrows : List Nat := [1, 3, 4, 6, 7, 8, 9, 10, 11, 13, 14, 15, 17, 18, 19, 29]
theorem bodyQ_of {σ τ1 τ2 τ4 τ5 τ6 : Sg} {x : Int} {Z D : Int → Int} (hx : 0 ≤ x ∧ x < 4) (hC : CSt σ) (hW : Wf (σ 2) Z D 0 (σ 1 1)) (hV : sgOk (σ 2) (σ 1 1) x) (m1 : Sm [3, 4] σ τ1) (h4 : ∀ j, 0 ≤ τ1 4 j ∧ τ1 4 j ≤ 3)
    (m2 : Sm [6, 7, 8, 9, 10, 11] τ1 τ2) (hp : putQ σ τ2 x Z D) (m4 : Sm [13, 14, 15] (up τ2 1 1 0) τ4) (hT : TOK (up τ2 1 1 0) τ4) (h15 : ∀ f, 0 ≤ f → f < 4 → τ4 15 f = need3 (fun s => tbl τ4 f s) f)
    (m5 : Sm [17, 18, 19] τ4 τ5) (c5 : CR τ5) (n5 : NR τ5) (hU : UOK τ4 τ5) (m6 : Sm [29] τ5 τ6) (hk : ∀ j, 0 ≤ j → j < 3600 → τ6 29 j = -1) : bodyQ σ τ6 x Z D ∧ Sm byrows σ τ6 := by
  obtain ⟨q1, q2, q3, q4, q5, q6, q7, q8, q9, q10, q11⟩ := hC
  have m3 : Sm [1] τ2 (up τ2 1 1 0) := (Sm.refl _ _).up (by decide) _ _
  have e : ∀ k, k ∉ byrows → τ6 k = σ k := by
    intro k hkk
    simp at hkk
    rw [m6 k (by simp; omega), m5 k (by simp; omega), m4 k (by simp; omega), m3 k (by simp; omega), m2 k (by simp; omega), m1 k (by simp; omega)]
  have eb : ∀ k, k ∈ [6, 7, 8, 9, 10, 11] → τ6 k = τ2 k := by
    intro k hkk
    simp at hkk
    rw [m6 k (by simp; omega), m5 k (by simp; omega), m4 k (by simp; omega), m3 k (by simp; omega)]
  have e6 := eb 6 (by decide)
  have e7 := eb 7 (by decide)
  have e8 := eb 8 (by decide)
  have e9 := eb 9 (by decide)
  have e10 := eb 10 (by decide)
  have e11 := eb 11 (by decide)
  have et : ∀ k, k ∈ [13, 14, 15] → τ6 k = τ4 k := by
    intro k hkk
    simp at hkk
    rw [m6 k (by simp; omega), m5 k (by simp; omega)]
  have e13 := et 13 (by decide)
  have e14 := et 14 (by decide)
  have e15 := et 15 (by decide)
  have etb : tbl τ6 = tbl τ4 := by unfold tbl; rw [e14]
  have hp6 : putQ σ τ6 x Z D := by
    unfold putQ at hp ⊢
    rw [e6, e7, e8, e9, e10, e11]
    exact hp
  have hB6 := BOK_put hx hW hV q4 hp6
  have e4r : ∀ k, k ∈ [6, 7, 10] → τ6 k = (up τ2 1 1 0) k := by
    intro k hkk
    rw [eb k (by revert k; decide)]
    exact (m3 k (by revert k; decide)).symm
  have e45 : ∀ k, k ∈ [6, 7, 10] → τ6 k = τ4 k := by
    intro k hkk
    simp at hkk
    rw [m6 k (by simp; omega), m5 k (by simp; omega)]
  have hT6 : TOK τ6 τ6 := by
    unfold TOK at hT ⊢
    rw [e4r 6 (by decide), e4r 7 (by decide), e4r 10 (by decide), etb, e13]
    refine ⟨fun j => by rw [e13]; exact hT.1 j, fun j => by rw [e14]; exact hT.2.1 j, hT.2.2.1, hT.2.2.2.1, ?_⟩
    intro f a b
    rw [e14]
    exact hT.2.2.2.2 f a b
  have hU6 : UOK τ6 τ6 := by
    have ek : kn τ6 = kn τ5 := by unfold kn; rw [m6 18 (by decide)]
    unfold UOK at hU ⊢
    rw [e45 6 (by decide), e45 7 (by decide), e45 10 (by decide), ek]
    exact ⟨fun j => by rw [m6 18 (by decide)]; exact hU.1 j, hU.2⟩
  have e1 : τ6 1 = (up τ2 1 1 0) 1 := by rw [m6 1 (by decide), m5 1 (by decide), m4 1 (by decide)]
  have e11' : τ6 1 1 = 0 := by rw [e1, up_same]
  have e2 : τ6 2 = σ 2 := e 2 (by decide)
  refine ⟨⟨hp6, e11', e2, ⟨by omega, by rw [e2]; exact q2, ?_, hB6, by rw [e7]; exact hp.2.2.2.2, hT6.1, hT6.2.1, fun j => by rw [m6 17 (by decide)]; exact c5 j, hU6.1, fun j => by rw [m6 19 (by decide)]; exact n5 j, fun f => by rw [e 28 (by decide)]; exact q11 f⟩, hT6, ?_, hU6, hk⟩, e⟩
  · intro j
    rw [m6 4 (by decide), m5 4 (by decide), m4 4 (by decide), m3 4 (by decide), m2 4 (by decide)]
    exact h4 j
  · intro f a b
    rw [e15, etb]
    exact h15 f a b
set_option maxHeartbeats 1000000 in
theorem c_X8_body (l : Launch) (E : Ev) (q : Nat → Nat) (sh : List Shp) (σ : Sg) (hs : HsC sh) (x : Int) (Z D : Int → Int) (rx : rg x) (hC : CSt σ) (hF : ffP σ x = -6 → Wf (σ 2) Z D 0 (σ 1 1) ∧ sgOk (σ 2) (σ 1 1) x) (hrf : rg (ffP σ x)) : CI l E yX8_body cX8_body 2 .int ({ frames := 6, cells := 0, slots := 0, locals := 141 } : Room) q sh σ [.ref (q 0), vI x] (fun z τ => (¬ (0 ≤ x ∧ x < 4) → z = -1 ∧ τ = σ) ∧ ((0 ≤ x ∧ x < 4) → (ffP σ x ≠ -6 → z = -5 ∧ Sm [3, 4] σ τ ∧ ∀ j, 0 ≤ τ 4 j ∧ τ 4 j ≤ 3) ∧ (ffP σ x = -6 → z = σ 1 1 ∧ bodyQ σ τ x Z D ∧ Sm byrows σ τ))) := by
  have rx1 := rx.1
  have rx2 := rx.2
  obtain ⟨q1, q2, q3, q4, q5, q6, q7, q8, q9, q10, q11⟩ := id hC
  refine CI_of (own := RX8) (by decide) rfl (Nat.le_of_ble_eq_true rfl) (fun X Q F hQ => ?_)
  show G X E 2 q sh σ 0 0 Q 0 [(0, .ref (q 0)), (1, vI x)] []
  refine g_iload_n F 1 rfl rfl d_X8_body_0 ?_
  refine g_Si F (own := RX8) (c_X8_isFunction l E q sh σ x ⟨by omega, by omega⟩) k_X8_75 [] d_X8_body_1 ⟨rfl, rfl, by decide, by decide⟩ ⟨Nat.zero_le _, Nat.zero_le _⟩ rfl (Nat.le_of_ble_eq_true rfl) ?_
  rintro _ _ ⟨rfl, rfl⟩
  refine g_b_ne F d_X8_body_4 (fun h4 => ?_) (fun h4 => ?_)
  · refine g_aload_n F 0 rfl rfl d_X8_body_9 ?_
    refine g_getR F f_X8_19 d_X8_body_10 (hsC_0 hs) rfl ?_
    refine g_aload_n F 0 rfl rfl d_X8_body_13 ?_
    refine g_getR F f_X8_12 d_X8_body_14 (hsC_0 hs) rfl ?_
    refine g_iload_n F 1 rfl rfl d_X8_body_17 ?_
    refine g_Vi F (own := RX8) (c_X5_firstFault l E q sh σ hs x h4 q1 q2 q3) k_X8_78 (hsC_3 hs) rfl rfl [] d_X8_body_18 ⟨rfl, rfl, by decide, by decide⟩ ⟨Nat.zero_le _, Nat.zero_le _⟩ rfl (Nat.le_of_ble_eq_true rfl) ?_
    intro z τ1 hz
    have hzf : z = ffP σ x := hz.1
    have hrz : rg z := by rw [hzf]; exact hrf
    have n1 : τ1 1 = σ 1 := hz.2.1 1 (by decide)
    have n2 : τ1 2 = σ 2 := hz.2.1 2 (by decide)
    have n6 : τ1 6 = σ 6 := hz.2.1 6 (by decide)
    have n7 : τ1 7 = σ 7 := hz.2.1 7 (by decide)
    have n8 : τ1 8 = σ 8 := hz.2.1 8 (by decide)
    have n9 : τ1 9 = σ 9 := hz.2.1 9 (by decide)
    have n10 : τ1 10 = σ 10 := hz.2.1 10 (by decide)
    have n11 : τ1 11 = σ 11 := hz.2.1 11 (by decide)
    refine g_bipush F (by decide) d_X8_body_21 ?_
    refine g_icmp_eq F d_X8_body_23 hrz ⟨by decide, by decide⟩ (fun h23 => ?_) (fun h23 => ?_)
    · have hzz : ffP σ x = -6 := by omega
      have hWV := hF hzz
      refine g_aload_n F 0 rfl rfl d_X8_body_29 ?_
      refine g_getR F f_X8_26 d_X8_body_30 (hsC_0 hs) rfl ?_
      refine g_iload_n F 1 rfl rfl d_X8_body_33 ?_
      refine g_aload_n F 0 rfl rfl d_X8_body_34 ?_
      refine g_getR F f_X8_12 d_X8_body_35 (hsC_0 hs) rfl ?_
      refine g_Vv F (own := RX8) (c_X0_put l E q sh τ1 hs x Z D h4 (by rw [n1, n2]; exact hWV.1) (by rw [n2]; exact q2) (by rw [n7]; exact q5)) k_X8_82 (hsC_5 hs) rfl rfl [] d_X8_body_38 ⟨rfl, rfl, by decide, by decide⟩ ⟨Nat.zero_le _, Nat.zero_le _⟩ rfl (Nat.le_of_ble_eq_true rfl) ?_
      intro τ2 hp
      have m2 := hp.1
      have hpq : putQ σ τ2 x Z D := by
        have h9 := hp.2
        rw [n1, n2, n6, n7, n8, n9, n10, n11] at h9
        exact h9
      have m3 : Sm [1] τ2 (up τ2 1 1 0) := (Sm.refl _ _).up (by decide) _ _
      have hB2 := BOK_put h4 hWV.1 hWV.2 q4 hpq
      have hB3 : BOK (up τ2 1 1 0) := by
        intro f a b
        rw [m3 6 (by decide), m3 7 (by decide), m3 8 (by decide), m3 9 (by decide), m3 10 (by decide), m3 11 (by decide)]
        exact hB2 f a b
      have eo : ∀ k, k ∈ [13, 14, 17, 18, 19] → (up τ2 1 1 0) k = σ k := by
        intro k hk
        rw [m3 k (by revert k; decide), m2 k (by revert k; decide), hz.2.1 k (by revert k; decide)]
      refine g_aload_n F 0 rfl rfl d_X8_body_41 ?_
      refine g_getR F f_X8_12 d_X8_body_42 (hsC_0 hs) rfl ?_
      refine g_Vv F (own := RX8) (c_X4_clear l E q sh τ2 hs  ) k_X8_72 (hsC_1 hs) rfl rfl [] d_X8_body_45 ⟨rfl, rfl, by decide, by decide⟩ ⟨Nat.zero_le _, Nat.zero_le _⟩ rfl (Nat.le_of_ble_eq_true rfl) ?_
      rintro _ rfl
      refine g_aload_n F 0 rfl rfl d_X8_body_48 ?_
      refine g_getR F f_X8_35 d_X8_body_49 (hsC_0 hs) rfl ?_
      refine g_Vv F (own := RX8) (c_X7_renew l E q sh (up τ2 1 1 0) hs  hB3 (fun j => by rw [eo 13 (by decide)]; exact q6 j) (fun j => by rw [eo 14 (by decide)]; exact q7 j)) k_X8_60 (hsC_12 hs) rfl rfl [] d_X8_body_52 ⟨rfl, rfl, by decide, by decide⟩ ⟨Nat.zero_le _, Nat.zero_le _⟩ rfl (Nat.le_of_ble_eq_true rfl) ?_
      intro τ4 hT
      have hB4 : BOK τ4 := by
        intro f a b
        rw [hT.1 6 (by decide), hT.1 7 (by decide), hT.1 8 (by decide), hT.1 9 (by decide), hT.1 10 (by decide), hT.1 11 (by decide)]
        exact hB3 f a b
      refine g_aload_n F 0 rfl rfl d_X8_body_55 ?_
      refine g_getR F f_X8_42 d_X8_body_56 (hsC_0 hs) rfl ?_
      refine g_Vv F (own := RX8) (c_X1_renew l E q sh τ4 hs  hB4 (fun j => by rw [hT.1 17 (by decide), eo 17 (by decide)]; exact q8 j) (fun j => by rw [hT.1 18 (by decide), eo 18 (by decide)]; exact q9 j) (fun j => by rw [hT.1 19 (by decide), eo 19 (by decide)]; exact q10 j)) k_X8_63 (hsC_16 hs) rfl rfl [] d_X8_body_59 ⟨rfl, rfl, by decide, by decide⟩ ⟨Nat.zero_le _, Nat.zero_le _⟩ rfl (Nat.le_of_ble_eq_true rfl) ?_
      intro τ5 hU
      refine g_aload_n F 0 rfl rfl d_X8_body_62 ?_
      refine g_getR F f_X8_56 d_X8_body_63 (hsC_0 hs) rfl ?_
      refine g_Vv F (own := RX8) (c_X3_forget l E q sh τ5 hs  ) k_X8_86 (hsC_20 hs) rfl rfl [] d_X8_body_66 ⟨rfl, rfl, by decide, by decide⟩ ⟨Nat.zero_le _, Nat.zero_le _⟩ rfl (Nat.le_of_ble_eq_true rfl) ?_
      intro τ6 hG
      have hbq := bodyQ_of h4 hC hWV.1 hWV.2 hz.2.1 hz.2.2 m2 hpq hT.1 hT.2.1 hT.2.2 hU.1 hU.2.1 hU.2.2.1 hU.2.2.2 hG.1 hG.2
      refine g_aload_n F 0 rfl rfl d_X8_body_69 ?_
      refine g_getR F f_X8_26 d_X8_body_70 (hsC_0 hs) rfl ?_
      refine g_iload_n F 1 rfl rfl d_X8_body_73 ?_
      refine g_Vi F (own := RX8) (c_X0_count l E q sh τ6 hs.B x h4) k_X8_89 (hsC_5 hs) rfl rfl [] d_X8_body_74 ⟨rfl, rfl, by decide, by decide⟩ ⟨Nat.zero_le _, Nat.zero_le _⟩ rfl (Nat.le_of_ble_eq_true rfl) ?_
      rintro _ _ ⟨rfl, rfl⟩
      exact hQ d_X8_body_77 (⟨fun h => absurd h4 h, fun _ => ⟨fun h => absurd hzz h, fun _ => ⟨hbq.1.1.1, hbq⟩⟩⟩)
    · refine g_bipush F (by decide) d_X8_body_26 ?_
      exact hQ d_X8_body_28 (⟨fun h => absurd h4 h, fun _ => ⟨fun _ => ⟨rfl, hz.2.1, hz.2.2⟩, fun h => by exfalso; omega⟩⟩)
  · refine g_iconst F d_X8_body_7 ?_
    exact hQ d_X8_body_8 (⟨fun _ => ⟨rfl, rfl⟩, fun h => absurd h h4⟩)
