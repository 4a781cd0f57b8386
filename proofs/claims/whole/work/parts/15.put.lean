theorem hop_shift (Z : Int → Int) (b a : Int) : ∀ k : Nat, hop (fun p => Z (p - b)) (b + a) k = b + hop Z a k
  | 0 => rfl
  | k + 1 => by
    show hop (fun p => Z (p - b)) (b + a) k + Z (hop (fun p => Z (p - b)) (b + a) k - b) = b + (hop Z a k + Z (hop Z a k))
    rw [hop_shift Z b a k, show b + hop Z a k - b = hop Z a k by omega]
    omega
theorem tp_shift (Z : Int → Int) (b i j : Int) : tp (fun p => Z (p - b)) (b + i) j = b + tp Z i j := by
  unfold tp
  rw [show b + i + 1 = b + (i + 1) by omega]
  exact hop_shift Z b (i + 1) j.toNat
theorem Wf.shift {S S' Z D : Int → Int} {b n : Int} (h : Wf S Z D 0 n) (hS : ∀ i, 0 ≤ i → i < n → S' (b + i) = S i) : Wf S' (fun p => Z (p - b)) (fun p => D (p - b)) b n := by
  obtain ⟨h1, h2, h3, h4, h5⟩ := h
  refine ⟨h1, h2, by show Z (b - b) = n; rw [Int.sub_self]; exact h3, by show D (b - b) = 0; rw [Int.sub_self]; exact h4, ?_⟩
  intro p hp1 hp2
  obtain ⟨i, rfl⟩ : ∃ i, p = b + i := ⟨p - b, by omega⟩
  obtain ⟨⟨a1, a2, a3, a4, a5⟩, b1, c1⟩ := h5 i (by omega) (by omega)
  rw [hS i (by omega) (by omega)]
  refine ⟨⟨?_, ?_, ?_, ?_, ?_⟩, ?_, ?_⟩
  · rw [tp_shift]
    show Z (b + i - b) = _
    rw [show b + i - b = i by omega, a1]
    omega
  · show b + i + Z (b + i - b) ≤ b + n
    rw [show b + i - b = i by omega]; omega
  · show 1 ≤ Z (b + i - b)
    rw [show b + i - b = i by omega]; exact a3
  · show 0 ≤ D (b + i - b)
    rw [show b + i - b = i by omega]; exact a4
  · show D (b + i - b) ≤ 9
    rw [show b + i - b = i by omega]; exact a5
  · intro j hj0 hj1
    obtain ⟨d1, d2, d3⟩ := b1 j hj0 hj1
    rw [tp_shift]
    refine ⟨by omega, by omega, ?_⟩
    show D (b + tp Z i j - b) = D (b + i - b) + 1
    rw [show b + tp Z i j - b = tp Z i j by omega, show b + i - b = i by omega]; exact d3
  · intro hb
    obtain ⟨r, j, e1, e2, e3, e4, e5⟩ := c1 (by omega)
    refine ⟨b + r, j, by omega, by omega, e3, by rw [hS r (by omega) (by omega)]; exact e4, by rw [tp_shift, ← e5]⟩
theorem Wf.congr {S S' Z Z' D D' : Int → Int} {b n : Int} (h : Wf S Z D b n) (hS : ∀ p, b ≤ p → p < b + n → S' p = S p ∧ Z' p = Z p ∧ D' p = D p) : Wf S' Z' D' b n := by
  obtain ⟨h1, h2, h3, h4, h5⟩ := h
  refine ⟨h1, h2, by rw [(hS b (by omega) (by omega)).2.1]; exact h3, by rw [(hS b (by omega) (by omega)).2.2]; exact h4, ?_⟩
  intro p hp1 hp2
  obtain ⟨e1, e2, e3⟩ := hS p hp1 hp2
  obtain ⟨⟨a1, a2, a3, a4, a5⟩, b1, c1⟩ := h5 p hp1 hp2
  have ht := tx_in (S p)
  have hc : ∀ (q : Int), b ≤ q → q < b + n → ∀ j, 0 ≤ j → j ≤ tx (S q) → tp Z' q j = tp Z q j := by
    intro q hq1 hq2 j hj0 hj1
    exact tp_congr' (e := b + n) (fun p h1 h2 => (hS p (by omega) h2).2.1) (fun j h0 h1 => ⟨((h5 q hq1 hq2).2.1 j h0 h1).1, ((h5 q hq1 hq2).2.1 j h0 h1).2.1⟩) hj0 hj1
  rw [e1, e2, e3]
  refine ⟨⟨by rw [hc p hp1 hp2 _ ht.1 (Int.le_refl _)]; exact a1, a2, a3, a4, a5⟩, ?_, ?_⟩
  · intro j hj0 hj1
    obtain ⟨d1, d2, d3⟩ := b1 j hj0 hj1
    rw [hc p hp1 hp2 j hj0 (by omega)]
    exact ⟨d1, d2, by rw [(hS _ (by omega) d2).2.2]; exact d3⟩
  · intro hb
    obtain ⟨r, j, f1, f2, f3, f4, f5⟩ := c1 hb
    exact ⟨r, j, f1, f2, f3, by rw [(hS r f1 (by omega)).1]; exact f4, by rw [hc r f1 (by omega) j f3 (by omega)]; exact f5⟩
set_option maxHeartbeats 1000000 in
theorem c_X0_put (l : Launch) (E : Ev) (q : Nat → Nat) (sh : List Shp) (σ : Sg) (hs : HsC sh) (x : Int) (Z D : Int → Int) (hx : 0 ≤ x ∧ x < 4) (hW : Wf (σ 2) Z D 0 (σ 1 1)) (hsg : ∀ j, rg (σ 2 j)) (hsg7 : ∀ j, rg (σ 7 j)) : CV l E yX0_put cX0_put 4 ({ frames := 4, cells := 0, slots := 0, locals := 85 } : Room) q sh σ [.ref (q 5), vI x, .ref (q 1)] (fun τ => Sm [6, 7, 8, 9, 10, 11] σ τ ∧ τ 6 x = σ 1 1 ∧ (∀ g, g ≠ x → τ 6 g = σ 6 g) ∧ (∀ i, 0 ≤ i → i < σ 1 1 → τ 7 (x * 30 + i) = σ 2 i ∧ τ 8 (x * 30 + i) = kd (σ 2 i) ∧ τ 9 (x * 30 + i) = wo (σ 2 i) ∧ τ 10 (x * 30 + i) = Z i ∧ τ 11 (x * 30 + i) = D i) ∧ (∀ p, ¬ (x * 30 ≤ p ∧ p < x * 30 + σ 1 1) → τ 7 p = σ 7 p ∧ τ 8 p = σ 8 p ∧ τ 9 p = σ 9 p ∧ τ 10 p = σ 10 p ∧ τ 11 p = σ 11 p) ∧ ∀ j, rg (τ 7 j)) := by
  have hn1 := hW.1
  have hn2 := hW.2.1
  refine CV_of (own := RX0) (by decide) rfl (Nat.le_of_ble_eq_true rfl) (fun X Q F hQ => ?_)
  show G X E 4 q sh σ 0 0 Q 0 [(0, .ref (q 5)), (1, vI x), (2, .ref (q 1))] []
  refine g_iload_n F 1 rfl rfl d_X0_put_0 ?_
  refine g_Ni F (own := RX0) (c_X8_isFunction l E q sh σ x ⟨by omega, by omega⟩) k_X0_42 [] d_X0_put_1 ⟨rfl, rfl, by decide, by decide⟩ ⟨Nat.zero_le _, Nat.zero_le _⟩ rfl (Nat.le_of_ble_eq_true rfl) ?_
  rintro _ _ ⟨rfl, rfl⟩
  refine g_b_ne F d_X0_put_4 (fun h4 => ?_) (fun h4 => by exfalso; omega)
  refine g_aload_n F 0 rfl rfl d_X0_put_8 ?_
  refine g_getR F f_X0_9 d_X0_put_9 (hsC_5 hs) rfl ?_
  refine g_iload_n F 1 rfl rfl d_X0_put_12 ?_
  refine g_aload_n F 2 rfl rfl d_X0_put_13 ?_
  refine g_Vi F (own := RX0) (c_X4_count l E q sh σ hs  ) k_X0_46 (hsC_1 hs) rfl rfl [vI x, .ref (q 6)] d_X0_put_14 ⟨rfl, rfl, by decide, by decide⟩ ⟨Nat.zero_le _, Nat.zero_le _⟩ rfl (Nat.le_of_ble_eq_true rfl) ?_
  rintro _ _ ⟨rfl, rfl⟩
  refine G_top (b := σ 1 1) (rfl) ?_
  refine g_iastore F d_X0_put_17 (hsC_6 hs) (by omega) (by omega) (by decide) ?_
  refine g_iconst F d_X0_put_18 ?_
  refine g_istore_n F (lv' := [(3, vI 0), (0, .ref (q 5)), (1, vI x), (2, .ref (q 1))]) rfl (by decide) rfl d_X0_put_19 ?_
  have loop20 : ∀ (nn : Nat) (i : Int) (τ : Sg), (0 ≤ i ∧ i ≤ σ 1 1) → (Sm [6, 7, 8, 9] σ τ) → (τ 6 = up σ 6 x (σ 1 1) 6) → (∀ k, 0 ≤ k → k < i → τ 7 (x * 30 + k) = σ 2 k ∧ τ 8 (x * 30 + k) = kd (σ 2 k) ∧ τ 9 (x * 30 + k) = wo (σ 2 k)) → (∀ p, ¬ (x * 30 ≤ p ∧ p < x * 30 + σ 1 1) → τ 7 p = σ 7 p ∧ τ 8 p = σ 8 p ∧ τ 9 p = σ 9 p) → (∀ j, rg (τ 7 j)) → (σ 1 1 - i).toNat < nn → G X E 4 q sh τ 0 0 Q 20 [(0, .ref (q 5)), (1, vI x), (2, .ref (q 1)), (3, vI i)] [] := by
    intro n20
    induction n20 with
    | zero => intro i τ hi hm h6 hin ho hr7 hm20; exact absurd hm20 (Nat.not_lt_zero _)
    | succ n20 ih20 =>
      intro i τ hi hm h6 hin ho hr7 hm20
      have e1 : τ 1 = σ 1 := hm 1 (by decide)
      have e2 : τ 2 = σ 2 := hm 2 (by decide)
      have e10 : τ 10 = σ 10 := hm 10 (by decide)
      have e11 : τ 11 = σ 11 := hm 11 (by decide)
      refine g_iload_n F 3 rfl rfl d_X0_put_20 ?_
      refine g_aload_n F 2 rfl rfl d_X0_put_21 ?_
      refine g_Vi F (own := RX0) (c_X4_count l E q sh τ hs  ) k_X0_46 (hsC_1 hs) rfl rfl [vI i] d_X0_put_22 ⟨rfl, rfl, by decide, by decide⟩ ⟨Nat.zero_le _, Nat.zero_le _⟩ rfl (Nat.le_of_ble_eq_true rfl) ?_
      rintro _ _ ⟨rfl, rfl⟩
      refine G_top (b := σ 1 1) (by rw [e1]) ?_
      refine g_icmp_ge F d_X0_put_25 ⟨by omega, by omega⟩ ⟨by omega, by omega⟩ (fun h25 => ?_) (fun h25 => ?_)
      · have h9 : τ 6 x = σ 1 1 := by rw [h6, up_same]
        refine g_aload_n F 0 rfl rfl d_X0_put_50 ?_
        refine g_iload_n F 1 rfl rfl d_X0_put_51 ?_
        refine g_Vv F (own := RX0) (c_X0_measure l E q sh τ hs.B x (fun p => Z (p - x * 30)) (fun p => D (p - x * 30)) hx (by rw [h9]; exact hW.shift (fun k h1 h2 => (hin k h1 (by omega)).1)) hr7) k_X0_38 (hsC_5 hs) rfl rfl [] d_X0_put_52 ⟨rfl, rfl, by decide, by decide⟩ ⟨Nat.zero_le _, Nat.zero_le _⟩ rfl (Nat.le_of_ble_eq_true rfl) ?_
        intro τ2 hp
        rw [h9] at hp
        have n6 : τ2 6 = τ 6 := hp.1 6 (by decide)
        have n7 : τ2 7 = τ 7 := hp.1 7 (by decide)
        have n8 : τ2 8 = τ 8 := hp.1 8 (by decide)
        have n9 : τ2 9 = τ 9 := hp.1 9 (by decide)
        have q4 : ∀ k, 0 ≤ k → k < σ 1 1 → τ2 7 (x * 30 + k) = σ 2 k ∧ τ2 8 (x * 30 + k) = kd (σ 2 k) ∧ τ2 9 (x * 30 + k) = wo (σ 2 k) ∧ τ2 10 (x * 30 + k) = Z k ∧ τ2 11 (x * 30 + k) = D k := by
          intro k h1 h2
          have q5 := hp.2.1 (x * 30 + k) (by omega) (by omega)
          rw [show x * 30 + k - x * 30 = k by omega] at q5
          rw [n7, n8, n9]
          have q6 := hin k h1 (by omega)
          exact ⟨q6.1, q6.2.1, q6.2.2, q5.1, q5.2⟩
        have q7 : ∀ p, ¬ (x * 30 ≤ p ∧ p < x * 30 + σ 1 1) → τ2 7 p = σ 7 p ∧ τ2 8 p = σ 8 p ∧ τ2 9 p = σ 9 p ∧ τ2 10 p = σ 10 p ∧ τ2 11 p = σ 11 p := by
          intro p h
          have q5 := hp.2.2 p h
          rw [e10, e11] at q5
          have q6 := ho p h
          rw [n7, n8, n9]
          exact ⟨q6.1, q6.2.1, q6.2.2, q5.1, q5.2⟩
        have q8 : Sm [6, 7, 8, 9, 10, 11] σ τ2 := (hm.wide (by decide)).trans (hp.1.wide (by decide))
        exact hQ d_X0_put_55 (⟨q8, by rw [n6]; exact h9, fun g hg => by rw [n6, h6, up_other _ _ hg], q4, q7, by rw [n7]; exact hr7⟩)
      · refine g_aload_n F 0 rfl rfl d_X0_put_28 ?_
        refine g_aload_n F 0 rfl rfl d_X0_put_29 ?_
        refine g_iload_n F 1 rfl rfl d_X0_put_30 ?_
        refine g_Vi F (own := RX0) (c_X0_root l E q sh τ hs.B x hx) k_X0_30 (hsC_5 hs) rfl rfl [.ref (q 5)] d_X0_put_31 ⟨rfl, rfl, by decide, by decide⟩ ⟨Nat.zero_le _, Nat.zero_le _⟩ rfl (Nat.le_of_ble_eq_true rfl) ?_
        rintro _ _ ⟨rfl, rfl⟩
        refine g_iload_n F 3 rfl rfl d_X0_put_34 ?_
        refine g_iadd F d_X0_put_35 ?_
        refine g_aload_n F 2 rfl rfl d_X0_put_36 ?_
        refine g_iload_n F 3 rfl rfl d_X0_put_37 ?_
        refine g_Vi F (own := RX0) (c_X4_signAt l E q sh τ hs i ⟨by omega, by rw [e1]; omega, by rw [e1]; omega⟩) k_X0_52 (hsC_1 hs) rfl rfl [vI ((x * 30) + i), .ref (q 5)] d_X0_put_38 ⟨rfl, rfl, by decide, by decide⟩ ⟨Nat.zero_le _, Nat.zero_le _⟩ rfl (Nat.le_of_ble_eq_true rfl) ?_
        rintro _ _ ⟨rfl, rfl⟩
        refine G_top (b := σ 2 i) (by rw [e2]) ?_
        refine g_Vv F (own := RX0) (c_X0_setSign l E q sh τ hs.B ((x * 30) + i) (σ 2 i) (by omega) (hsg _)) k_X0_34 (hsC_5 hs) rfl rfl [] d_X0_put_41 ⟨rfl, rfl, by decide, by decide⟩ ⟨Nat.zero_le _, Nat.zero_le _⟩ rfl (Nat.le_of_ble_eq_true rfl) ?_
        rintro _ rfl
        refine g_iinc F (lv' := [(3, vI (i + 1)), (0, .ref (q 5)), (1, vI x), (2, .ref (q 1))]) 3 rfl rfl (by decide) rfl d_X0_put_44 ?_
        refine g_goto F d_X0_put_47 ?_
        have s7 : (up (up (up τ 7 ((x * 30) + i) (σ 2 i)) 8 ((x * 30) + i) (kd (σ 2 i))) 9 ((x * 30) + i) (wo (σ 2 i))) 7 = up τ 7 (x * 30 + i) (σ 2 i) 7 := by rw [up_ne _ (by decide), up_ne _ (by decide)]
        have s8 : (up (up (up τ 7 ((x * 30) + i) (σ 2 i)) 8 ((x * 30) + i) (kd (σ 2 i))) 9 ((x * 30) + i) (wo (σ 2 i))) 8 = up τ 8 (x * 30 + i) (kd (σ 2 i)) 8 := by rw [up_ne _ (by decide)]; funext j; rw [up_at, up_at, up_ne _ (by decide)]
        have s9 : (up (up (up τ 7 ((x * 30) + i) (σ 2 i)) 8 ((x * 30) + i) (kd (σ 2 i))) 9 ((x * 30) + i) (wo (σ 2 i))) 9 = up τ 9 (x * 30 + i) (wo (σ 2 i)) 9 := by funext j; rw [up_at, up_at, up_ne _ (by decide), up_ne _ (by decide)]
        have q1 : ∀ k, 0 ≤ k → k < i + 1 → (up (up (up τ 7 ((x * 30) + i) (σ 2 i)) 8 ((x * 30) + i) (kd (σ 2 i))) 9 ((x * 30) + i) (wo (σ 2 i))) 7 (x * 30 + k) = σ 2 k ∧ (up (up (up τ 7 ((x * 30) + i) (σ 2 i)) 8 ((x * 30) + i) (kd (σ 2 i))) 9 ((x * 30) + i) (wo (σ 2 i))) 8 (x * 30 + k) = kd (σ 2 k) ∧ (up (up (up τ 7 ((x * 30) + i) (σ 2 i)) 8 ((x * 30) + i) (kd (σ 2 i))) 9 ((x * 30) + i) (wo (σ 2 i))) 9 (x * 30 + k) = wo (σ 2 k) := by
          intro k h1 h2
          rw [s7, s8, s9]
          by_cases hk : k = i
          · subst hk; rw [up_same, up_same, up_same]; exact ⟨rfl, rfl, rfl⟩
          · rw [up_other _ _ (by omega), up_other _ _ (by omega), up_other _ _ (by omega)]; exact hin k h1 (by omega)
        have q2 : ∀ p, ¬ (x * 30 ≤ p ∧ p < x * 30 + σ 1 1) → (up (up (up τ 7 ((x * 30) + i) (σ 2 i)) 8 ((x * 30) + i) (kd (σ 2 i))) 9 ((x * 30) + i) (wo (σ 2 i))) 7 p = σ 7 p ∧ (up (up (up τ 7 ((x * 30) + i) (σ 2 i)) 8 ((x * 30) + i) (kd (σ 2 i))) 9 ((x * 30) + i) (wo (σ 2 i))) 8 p = σ 8 p ∧ (up (up (up τ 7 ((x * 30) + i) (σ 2 i)) 8 ((x * 30) + i) (kd (σ 2 i))) 9 ((x * 30) + i) (wo (σ 2 i))) 9 p = σ 9 p := by
          intro p h
          rw [s7, s8, s9, up_other _ _ (by omega), up_other _ _ (by omega), up_other _ _ (by omega)]; exact ho p h
        have q3 : ∀ j, rg ((up (up (up τ 7 ((x * 30) + i) (σ 2 i)) 8 ((x * 30) + i) (kd (σ 2 i))) 9 ((x * 30) + i) (wo (σ 2 i))) 7 j) := by
          intro j
          rw [s7, up_at]
          split
          · exact hsg i
          · exact hr7 j
        refine G_sub (ks := [1, 2, 3, 0]) rfl ?_
        exact ih20 (i + 1) (up (up (up τ 7 ((x * 30) + i) (σ 2 i)) 8 ((x * 30) + i) (kd (σ 2 i))) 9 ((x * 30) + i) (wo (σ 2 i))) (by omega) (((hm.up (by decide) _ _).up (by decide) _ _).up (by decide) _ _) (by rw [up_ne _ (by decide), up_ne _ (by decide), up_ne _ (by decide)]; exact h6) q1 q2 q3 (by omega)
  refine G_sub (ks := [1, 2, 3, 0]) rfl ?_
  exact loop20 _ 0 (up σ 6 x (σ 1 1)) (by omega) ((Sm.refl _ _).up (by decide) _ _) rfl (fun k h1 h2 => by exfalso; omega) (fun p _ => ⟨rfl, rfl, rfl⟩) hsg7 (Nat.lt_succ_self _)
