/-! a text without a fault: what its nodes span, how deep they lie -/
def Wf (S Z D : Int → Int) (b n : Int) : Prop := 1 ≤ n ∧ n ≤ 30 ∧ Z b = n ∧ D b = 0 ∧ ∀ p, b ≤ p → p < b + n → (Z p = tp Z p (tx (S p)) - p ∧ p + Z p ≤ b + n ∧ 1 ≤ Z p ∧ 0 ≤ D p ∧ D p ≤ 9) ∧ (∀ j, 0 ≤ j → j < tx (S p) → p < tp Z p j ∧ tp Z p j < b + n ∧ D (tp Z p j) = D p + 1) ∧ (b < p → ∃ r j, b ≤ r ∧ r < p ∧ 0 ≤ j ∧ j < tx (S r) ∧ p = tp Z r j)
theorem tp_congr {Y Z : Int → Int} {i e t : Int} (hZ : ∀ p, i < p → p < e → Y p = Z p) (hc : ∀ j, 0 ≤ j → j < t → i < tp Z i j ∧ tp Z i j < e) : ∀ k : Nat, (k : Int) ≤ t → tp Y i k = tp Z i k
  | 0, _ => rfl
  | k + 1, h => by
    have ih := tp_congr hZ hc k (by omega)
    have h2 := hc k (by omega) (by omega)
    rw [show ((k + 1 : Nat) : Int) = (k : Int) + 1 by omega, tp_succ _ _ _ (by omega), tp_succ _ _ _ (by omega), ih, hZ _ h2.1 h2.2]
theorem tp_congr' {Y Z : Int → Int} {i e t : Int} (hZ : ∀ p, i < p → p < e → Y p = Z p) (hc : ∀ j, 0 ≤ j → j < t → i < tp Z i j ∧ tp Z i j < e) {j : Int} (h0 : 0 ≤ j) (h1 : j ≤ t) : tp Y i j = tp Z i j := by
  have h := tp_congr hZ hc j.toNat (by omega)
  rw [show ((j.toNat : Nat) : Int) = j by omega] at h
  exact h
set_option maxHeartbeats 1000000 in
theorem c_X0_measure (l : Launch) (E : Ev) (q : Nat → Nat) (sh : List Shp) (σ : Sg) (hs : HsB sh) (x : Int) (Z D : Int → Int) (hx : 0 ≤ x ∧ x < 4) (hW : Wf (σ 7) Z D (x * 30) (σ 6 x)) (hsg : ∀ j, rg (σ 7 j)) : CV l E yX0_measure cX0_measure 6 ({ frames := 3, cells := 0, slots := 0, locals := 60 } : Room) q sh σ [.ref (q 5), vI x] (fun τ => Sm [10, 11] σ τ ∧ (∀ p, x * 30 ≤ p → p < x * 30 + σ 6 x → τ 10 p = Z p ∧ τ 11 p = D p) ∧ (∀ p, ¬ (x * 30 ≤ p ∧ p < x * 30 + σ 6 x) → τ 10 p = σ 10 p ∧ τ 11 p = σ 11 p)) := by
  have hn1 := hW.1
  have hn2 := hW.2.1
  refine CV_of (own := RX0) (by decide) rfl (Nat.le_of_ble_eq_true rfl) (fun X Q F hQ => ?_)
  show G X E 6 q sh σ 0 0 Q 0 [(0, .ref (q 5)), (1, vI x)] []
  refine g_aload_n F 0 rfl rfl d_X0_measure_0 ?_
  refine g_iload_n F 1 rfl rfl d_X0_measure_1 ?_
  refine g_Vi F (own := RX0) (c_X0_root l E q sh σ hs x (by omega)) k_X0_30 (hsB_5 hs) rfl rfl [] d_X0_measure_2 ⟨rfl, rfl, by decide, by decide⟩ ⟨Nat.zero_le _, Nat.zero_le _⟩ rfl (Nat.le_of_ble_eq_true rfl) ?_
  rintro _ _ ⟨rfl, rfl⟩
  refine g_istore_n F (lv' := [(2, vI (x * 30)), (0, .ref (q 5)), (1, vI x)]) rfl (by decide) rfl d_X0_measure_5 ?_
  refine g_iload_n F 0 rfl rfl d_X0_measure_6 ?_
  refine g_aload_n F 1 rfl rfl d_X0_measure_7 ?_
  refine g_iload_n F 2 rfl rfl d_X0_measure_8 ?_
  refine g_Vi F (own := RX0) (c_X0_count l E q sh σ hs x (by omega)) k_X0_66 (hsB_5 hs) rfl rfl [vI (x * 30)] d_X0_measure_9 ⟨rfl, rfl, by decide, by decide⟩ ⟨Nat.zero_le _, Nat.zero_le _⟩ rfl (Nat.le_of_ble_eq_true rfl) ?_
  rintro _ _ ⟨rfl, rfl⟩
  refine G_top (b := σ 6 x) (rfl) ?_
  refine g_iadd F d_X0_measure_12 ?_
  refine g_iconst F d_X0_measure_13 ?_
  refine g_isub F d_X0_measure_14 ?_
  refine g_istore_n F (lv' := [(3, vI (((x * 30) + (σ 6 x)) - 1)), (2, vI (x * 30)), (0, .ref (q 5)), (1, vI x)]) rfl (by decide) rfl d_X0_measure_15 ?_
  have loop16 : ∀ (nn : Nat) (i : Int) (τ : Sg), (x * 30 - 1 ≤ i ∧ i ≤ x * 30 + σ 6 x - 1) → (∀ p, i < p → p < x * 30 + σ 6 x → τ 10 p = Z p) → (∀ p, ¬ (x * 30 ≤ p ∧ p < x * 30 + σ 6 x) → τ 10 p = σ 10 p) → (Sm [10] σ τ) → (i - x * 30 + 1).toNat < nn → G X E 6 q sh τ 0 0 Q 16 [(0, .ref (q 5)), (1, vI x), (2, vI (x * 30)), (3, vI i)] [] := by
    intro n16
    induction n16 with
    | zero => intro i τ hi hz ho hm hm16; exact absurd hm16 (Nat.not_lt_zero _)
    | succ n16 ih16 =>
      intro i τ hi hz ho hm hm16
      have e6 : τ 6 = σ 6 := hm 6 (by decide)
      have e7 : τ 7 = σ 7 := hm 7 (by decide)
      have e11 : τ 11 = σ 11 := hm 11 (by decide)
      refine g_iload_n F 3 rfl rfl d_X0_measure_16 ?_
      refine g_iload_n F 2 rfl rfl d_X0_measure_17 ?_
      refine g_icmp_lt F d_X0_measure_18 ⟨by omega, by omega⟩ ⟨by omega, by omega⟩ (fun h18 => ?_) (fun h18 => ?_)
      · refine g_aload_n F 0 rfl rfl d_X0_measure_47 ?_
        refine g_iload_n F 2 rfl rfl d_X0_measure_48 ?_
        refine g_iconst F d_X0_measure_49 ?_
        refine g_Vv F (own := RX0) (c_X0_setDepth l E q sh τ hs (x * 30) 0 (by omega)) k_X0_79 (hsB_5 hs) rfl rfl [] d_X0_measure_50 ⟨rfl, rfl, by decide, by decide⟩ ⟨Nat.zero_le _, Nat.zero_le _⟩ rfl (Nat.le_of_ble_eq_true rfl) ?_
        rintro _ rfl
        refine g_iload_n F 2 rfl rfl d_X0_measure_53 ?_
        refine g_istore_n F (lv' := [(3, vI (x * 30)), (0, .ref (q 5)), (1, vI x), (2, vI (x * 30))]) rfl (by decide) rfl d_X0_measure_54 ?_
        have loop55 : ∀ (nn : Nat) (i2 : Int) (τ2 : Sg), (x * 30 ≤ i2 ∧ i2 ≤ x * 30 + σ 6 x) → (Sm [11] τ τ2) → (∀ p, x * 30 ≤ p → p < x * 30 + σ 6 x → (p = x * 30 ∨ ∃ r j, x * 30 ≤ r ∧ r < i2 ∧ 0 ≤ j ∧ j < tx (σ 7 r) ∧ p = tp Z r j) → τ2 11 p = D p) → (∀ p, ¬ (x * 30 ≤ p ∧ p < x * 30 + σ 6 x) → τ2 11 p = σ 11 p) → (x * 30 + σ 6 x - i2).toNat < nn → G X E 6 q sh τ2 0 0 Q 55 [(0, .ref (q 5)), (1, vI x), (2, vI (x * 30)), (3, vI i2)] [] := by
          intro n55
          induction n55 with
          | zero => intro i2 τ2 hi2 hm2 hd2 ho2 hm55; exact absurd hm55 (Nat.not_lt_zero _)
          | succ n55 ih55 =>
            intro i2 τ2 hi2 hm2 hd2 ho2 hm55
            have f6 : τ2 6 = σ 6 := (hm2 6 (by decide)).trans e6
            have f7 : τ2 7 = σ 7 := (hm2 7 (by decide)).trans e7
            have f10 : τ2 10 = τ 10 := hm2 10 (by decide)
            refine g_iload_n F 3 rfl rfl d_X0_measure_55 ?_
            refine g_iload_n F 2 rfl rfl d_X0_measure_56 ?_
            refine g_aload_n F 0 rfl rfl d_X0_measure_57 ?_
            refine g_iload_n F 1 rfl rfl d_X0_measure_58 ?_
            refine g_Vi F (own := RX0) (c_X0_count l E q sh τ2 hs x (by omega)) k_X0_66 (hsB_5 hs) rfl rfl [vI (x * 30), vI i2] d_X0_measure_59 ⟨rfl, rfl, by decide, by decide⟩ ⟨Nat.zero_le _, Nat.zero_le _⟩ rfl (Nat.le_of_ble_eq_true rfl) ?_
            rintro _ _ ⟨rfl, rfl⟩
            refine G_top (b := σ 6 x) (by rw [f6]) ?_
            refine g_iadd F d_X0_measure_62 ?_
            refine g_icmp_ge F d_X0_measure_63 ⟨by omega, by omega⟩ ⟨by omega, by omega⟩ (fun h63 => ?_) (fun h63 => ?_)
            · exact hQ d_X0_measure_116 (⟨fun k hk => (hm2 k (fun h => hk (by simp at h; simp [h]))).trans (hm k (fun h => hk (by simp at h; simp [h]))), fun p h1 h2 => ⟨by rw [f10]; exact hz p (by omega) h2, hd2 p h1 h2 (by by_cases hb : p = x * 30; exact Or.inl hb; (obtain ⟨r, j, a, b, c, d, e⟩ := (hW.2.2.2.2 p h1 h2).2.2 (by omega); exact Or.inr ⟨r, j, a, by omega, c, d, e⟩))⟩, fun p h => ⟨by rw [f10]; exact ho p h, ho2 p h⟩⟩)
            · have hw2b := (hW.2.2.2.2 i2 (by omega) (by omega)).2.1
              have hT2 := tx_in (σ 7 i2)
              have hcg2 : ∀ j, 0 ≤ j → j ≤ tx (σ 7 i2) → tp (τ 10) i2 j = tp Z i2 j := fun j h0 h1 => tp_congr' (e := x * 30 + σ 6 x) (fun p h1 h2 => hz p (by omega) h2) (fun j h0 h1 => ⟨(hw2b j h0 h1).1, (hw2b j h0 h1).2.1⟩) h0 h1
              have hdi2 : τ2 11 i2 = D i2 := by
                apply hd2 i2 (by omega) (by omega)
                by_cases hb : i2 = x * 30
                · exact Or.inl hb
                · obtain ⟨r, j, a, b, c, d, e⟩ := (hW.2.2.2.2 i2 (by omega) (by omega)).2.2 (by omega)
                  exact Or.inr ⟨r, j, a, b, c, d, e⟩
              refine g_aload_n F 0 rfl rfl d_X0_measure_66 ?_
              refine g_iload_n F 3 rfl rfl d_X0_measure_67 ?_
              refine g_Vi F (own := RX0) (c_X0_signAt l E q sh τ2 hs i2 (by omega)) k_X0_68 (hsB_5 hs) rfl rfl [] d_X0_measure_68 ⟨rfl, rfl, by decide, by decide⟩ ⟨Nat.zero_le _, Nat.zero_le _⟩ rfl (Nat.le_of_ble_eq_true rfl) ?_
              rintro _ _ ⟨rfl, rfl⟩
              refine G_top (b := σ 7 i2) (by rw [f7]) ?_
              refine g_Si F (own := RX0) (c_X6_textsOf l E q sh τ2 (σ 7 i2) (hsg _)) k_X0_69 [] d_X0_measure_71 ⟨rfl, rfl, by decide, by decide⟩ ⟨Nat.zero_le _, Nat.zero_le _⟩ rfl (Nat.le_of_ble_eq_true rfl) ?_
              rintro _ _ ⟨rfl, rfl⟩
              refine g_istore F (lv' := [(4, vI (tx (σ 7 i2))), (0, .ref (q 5)), (1, vI x), (2, vI (x * 30)), (3, vI i2)]) (by decide) rfl d_X0_measure_74 ?_
              refine g_iconst F d_X0_measure_76 ?_
              refine g_istore F (lv' := [(5, vI 0), (4, vI (tx (σ 7 i2))), (0, .ref (q 5)), (1, vI x), (2, vI (x * 30)), (3, vI i2)]) (by decide) rfl d_X0_measure_77 ?_
              have loop79 : ∀ (nn : Nat) (t : Int) (τ3 : Sg), (0 ≤ t ∧ t ≤ tx (σ 7 i2)) → (Sm [11] τ τ3) → (∀ p, x * 30 ≤ p → p < x * 30 + σ 6 x → (p = x * 30 ∨ (∃ r j, x * 30 ≤ r ∧ r < i2 ∧ 0 ≤ j ∧ j < tx (σ 7 r) ∧ p = tp Z r j) ∨ ∃ j, 0 ≤ j ∧ j < t ∧ p = tp Z i2 j) → τ3 11 p = D p) → (∀ p, ¬ (x * 30 ≤ p ∧ p < x * 30 + σ 6 x) → τ3 11 p = σ 11 p) → (tx (σ 7 i2) - t).toNat < nn → G X E 6 q sh τ3 0 0 Q 79 [(0, .ref (q 5)), (1, vI x), (2, vI (x * 30)), (3, vI i2), (4, vI (tx (σ 7 i2))), (5, vI t)] [] := by
                intro n79
                induction n79 with
                | zero => intro t τ3 ht hm3 hd3 ho3 hm79; exact absurd hm79 (Nat.not_lt_zero _)
                | succ n79 ih79 =>
                  intro t τ3 ht hm3 hd3 ho3 hm79
                  have g10 : τ3 10 = τ 10 := hm3 10 (by decide)
                  refine g_iload F 5 rfl d_X0_measure_79 ?_
                  refine g_iload F 4 rfl d_X0_measure_81 ?_
                  refine g_icmp_ge F d_X0_measure_83 ⟨by omega, by omega⟩ ⟨by omega, by omega⟩ (fun h83 => ?_) (fun h83 => ?_)
                  · refine g_iinc F (lv' := [(3, vI (i2 + 1)), (0, .ref (q 5)), (1, vI x), (2, vI (x * 30)), (4, vI (tx (σ 7 i2))), (5, vI t)]) 3 rfl rfl (by decide) rfl d_X0_measure_110 ?_
                    refine g_goto F d_X0_measure_113 ?_
                    have hs1 : ∀ p, x * 30 ≤ p → p < x * 30 + σ 6 x → (p = x * 30 ∨ ∃ r j, x * 30 ≤ r ∧ r < i2 + 1 ∧ 0 ≤ j ∧ j < tx (σ 7 r) ∧ p = tp Z r j) → τ3 11 p = D p := by
                      intro p h1 h2 h3
                      apply hd3 p h1 h2
                      rcases h3 with h3 | ⟨r, j, a, b, c, d, e⟩
                      · exact Or.inl h3
                      · by_cases hr : r = i2
                        · rw [hr] at d e; exact Or.inr (Or.inr ⟨j, c, by omega, e⟩)
                        · exact Or.inr (Or.inl ⟨r, j, a, by omega, c, d, e⟩)
                    refine G_sub (ks := [1, 2, 3, 0]) rfl ?_
                    exact ih55 (i2 + 1) τ3 (by omega) hm3 hs1 ho3 (by omega)
                  · have hch := hw2b t ht.1 (by omega)
                    have hdi : τ3 11 i2 = D i2 := by
                      apply hd3 i2 (by omega) (by omega)
                      by_cases hb : i2 = x * 30
                      · exact Or.inl hb
                      · obtain ⟨r, j, a, b, c, d, e⟩ := (hW.2.2.2.2 i2 (by omega) (by omega)).2.2 (by omega)
                        exact Or.inr (Or.inl ⟨r, j, a, b, c, d, e⟩)
                    refine g_aload_n F 0 rfl rfl d_X0_measure_86 ?_
                    refine g_aload_n F 0 rfl rfl d_X0_measure_87 ?_
                    refine g_iload_n F 3 rfl rfl d_X0_measure_88 ?_
                    refine g_iload F 5 rfl d_X0_measure_89 ?_
                    refine g_Vi F (own := RX0) (c_X0_textPlace l E q sh τ3 hs i2 t (by omega) (by omega) (fun j h0 h1 => by rw [g10, hcg2 j h0 (by omega)]; have := hw2b j h0 (by omega); omega)) k_X0_72 (hsB_5 hs) rfl rfl [.ref (q 5)] d_X0_measure_91 ⟨rfl, rfl, by decide, by decide⟩ ⟨Nat.zero_le _, Nat.zero_le _⟩ rfl (Nat.le_of_ble_eq_true rfl) ?_
                    rintro _ _ ⟨rfl, rfl⟩
                    refine G_top (b := tp Z i2 t) (by rw [g10]; exact hcg2 t ht.1 ht.2) ?_
                    refine g_aload_n F 0 rfl rfl d_X0_measure_94 ?_
                    refine g_iload_n F 3 rfl rfl d_X0_measure_95 ?_
                    refine g_Vi F (own := RX0) (c_X0_depthAt l E q sh τ3 hs i2 (by omega)) k_X0_82 (hsB_5 hs) rfl rfl [vI (tp Z i2 t), .ref (q 5)] d_X0_measure_96 ⟨rfl, rfl, by decide, by decide⟩ ⟨Nat.zero_le _, Nat.zero_le _⟩ rfl (Nat.le_of_ble_eq_true rfl) ?_
                    rintro _ _ ⟨rfl, rfl⟩
                    refine g_iconst F d_X0_measure_99 ?_
                    refine g_iadd F d_X0_measure_100 ?_
                    refine g_Vv F (own := RX0) (c_X0_setDepth l E q sh τ3 hs (tp Z i2 t) ((τ3 11 i2) + 1) (by omega)) k_X0_79 (hsB_5 hs) rfl rfl [] d_X0_measure_101 ⟨rfl, rfl, by decide, by decide⟩ ⟨Nat.zero_le _, Nat.zero_le _⟩ rfl (Nat.le_of_ble_eq_true rfl) ?_
                    rintro _ rfl
                    refine g_iinc F (lv' := [(5, vI (t + 1)), (0, .ref (q 5)), (1, vI x), (2, vI (x * 30)), (3, vI i2), (4, vI (tx (σ 7 i2)))]) 5 rfl rfl (by decide) rfl d_X0_measure_104 ?_
                    refine g_goto F d_X0_measure_107 ?_
                    have hs2 : ∀ p, x * 30 ≤ p → p < x * 30 + σ 6 x → (p = x * 30 ∨ (∃ r j, x * 30 ≤ r ∧ r < i2 ∧ 0 ≤ j ∧ j < tx (σ 7 r) ∧ p = tp Z r j) ∨ ∃ j, 0 ≤ j ∧ j < t + 1 ∧ p = tp Z i2 j) → (up τ3 11 (tp Z i2 t) ((τ3 11 i2) + 1)) 11 p = D p := by
                      intro p h1 h2 h3
                      rw [up_at]
                      split
                      · rename_i e; rw [e, hdi, hch.2.2]
                      · rename_i e
                        apply hd3 p h1 h2
                        rcases h3 with h3 | h3 | ⟨j, a, b, c⟩
                        · exact Or.inl h3
                        · exact Or.inr (Or.inl h3)
                        · by_cases hj : j = t
                          · rw [hj] at c; exact absurd c e
                          · exact Or.inr (Or.inr ⟨j, a, by omega, c⟩)
                    have hs3 : ∀ p, ¬ (x * 30 ≤ p ∧ p < x * 30 + σ 6 x) → (up τ3 11 (tp Z i2 t) ((τ3 11 i2) + 1)) 11 p = σ 11 p := by
                      intro p h
                      rw [up_other _ _ (by omega)]
                      exact ho3 p h
                    refine G_sub (ks := [1, 2, 3, 4, 5, 0]) rfl ?_
                    exact ih79 (t + 1) (up τ3 11 (tp Z i2 t) ((τ3 11 i2) + 1)) (by omega) (hm3.up (by decide) _ _) hs2 hs3 (by omega)
              refine G_sub (ks := [2, 3, 4, 5, 1, 0]) rfl ?_
              exact loop79 _ 0 τ2 (by have := tx_in (σ 7 i2); omega) hm2 (fun p h1 h2 h3 => hd2 p h1 h2 (by rcases h3 with h3 | h3 | ⟨j, a, b, _⟩; exact Or.inl h3; exact Or.inr h3; (exfalso; omega))) ho2 (Nat.lt_succ_self _)
        have hq1 : ∀ p, x * 30 ≤ p → p < x * 30 + σ 6 x → (p = x * 30 ∨ ∃ r j, x * 30 ≤ r ∧ r < x * 30 ∧ 0 ≤ j ∧ j < tx (σ 7 r) ∧ p = tp Z r j) → (up τ 11 (x * 30) 0) 11 p = D p := by
          intro p h1 h2 h3
          rcases h3 with h3 | ⟨r, j, a, b, _⟩
          · rw [h3, up_same]; exact hW.2.2.2.1.symm
          · exfalso; omega
        have hq2 : ∀ p, ¬ (x * 30 ≤ p ∧ p < x * 30 + σ 6 x) → (up τ 11 (x * 30) 0) 11 p = σ 11 p := by
          intro p h
          rw [up_other _ _ (by omega), e11]
        refine G_sub (ks := [1, 2, 3, 0]) rfl ?_
        exact loop55 _ (x * 30) (up τ 11 (x * 30) 0) (by omega) ((Sm.refl _ _).up (by decide) _ _) hq1 hq2 (Nat.lt_succ_self _)
      · have hwa := (hW.2.2.2.2 i (by omega) (by omega)).1
        have hwb := (hW.2.2.2.2 i (by omega) (by omega)).2.1
        have hT := tx_in (σ 7 i)
        have hcg : ∀ j, 0 ≤ j → j ≤ tx (σ 7 i) → tp (τ 10) i j = tp Z i j := fun j h0 h1 => tp_congr' (e := x * 30 + σ 6 x) (fun p h1 h2 => hz p h1 h2) (fun j h0 h1 => ⟨(hwb j h0 h1).1, (hwb j h0 h1).2.1⟩) h0 h1
        refine g_aload_n F 0 rfl rfl d_X0_measure_21 ?_
        refine g_iload_n F 3 rfl rfl d_X0_measure_22 ?_
        refine g_aload_n F 0 rfl rfl d_X0_measure_23 ?_
        refine g_iload_n F 3 rfl rfl d_X0_measure_24 ?_
        refine g_aload_n F 0 rfl rfl d_X0_measure_25 ?_
        refine g_iload_n F 3 rfl rfl d_X0_measure_26 ?_
        refine g_Vi F (own := RX0) (c_X0_signAt l E q sh τ hs i (by omega)) k_X0_68 (hsB_5 hs) rfl rfl [vI i, .ref (q 5), vI i, .ref (q 5)] d_X0_measure_27 ⟨rfl, rfl, by decide, by decide⟩ ⟨Nat.zero_le _, Nat.zero_le _⟩ rfl (Nat.le_of_ble_eq_true rfl) ?_
        rintro _ _ ⟨rfl, rfl⟩
        refine G_top (b := σ 7 i) (by rw [e7]) ?_
        refine g_Si F (own := RX0) (c_X6_textsOf l E q sh τ (σ 7 i) (hsg _)) k_X0_69 [vI i, .ref (q 5), vI i, .ref (q 5)] d_X0_measure_30 ⟨rfl, rfl, by decide, by decide⟩ ⟨Nat.zero_le _, Nat.zero_le _⟩ rfl (Nat.le_of_ble_eq_true rfl) ?_
        rintro _ _ ⟨rfl, rfl⟩
        refine g_Vi F (own := RX0) (c_X0_textPlace l E q sh τ hs i (tx (σ 7 i)) (by omega) hT (fun j h0 h1 => by rw [hcg j h0 (by omega)]; have := hwb j h0 h1; omega)) k_X0_72 (hsB_5 hs) rfl rfl [vI i, .ref (q 5)] d_X0_measure_33 ⟨rfl, rfl, by decide, by decide⟩ ⟨Nat.zero_le _, Nat.zero_le _⟩ rfl (Nat.le_of_ble_eq_true rfl) ?_
        rintro _ _ ⟨rfl, rfl⟩
        refine G_top (b := tp Z i (tx (σ 7 i))) (hcg _ hT.1 (Int.le_refl _)) ?_
        refine g_iload_n F 3 rfl rfl d_X0_measure_36 ?_
        refine g_isub F d_X0_measure_37 ?_
        refine g_Vv F (own := RX0) (c_X0_setSpan l E q sh τ hs i ((tp Z i (tx (σ 7 i))) - i) (by omega)) k_X0_76 (hsB_5 hs) rfl rfl [] d_X0_measure_38 ⟨rfl, rfl, by decide, by decide⟩ ⟨Nat.zero_le _, Nat.zero_le _⟩ rfl (Nat.le_of_ble_eq_true rfl) ?_
        rintro _ rfl
        refine g_iinc F (lv' := [(3, vI (i + (-1))), (0, .ref (q 5)), (1, vI x), (2, vI (x * 30))]) 3 rfl rfl (by decide) rfl d_X0_measure_41 ?_
        refine g_goto F d_X0_measure_44 ?_
        refine G_sub (ks := [1, 2, 3, 0]) rfl ?_
        exact ih16 (i + (-1)) (up τ 10 i ((tp Z i (tx (σ 7 i))) - i)) (by omega) (fun p h1 h2 => by rw [up_at]; split; (rename_i e; rw [e, hwa.1]); exact hz p (by omega) h2) (fun p h => by rw [up_other _ _ (by omega)]; exact ho p h) (hm.up (by decide) _ _) (by omega)
  refine G_sub (ks := [2, 3, 1, 0]) rfl ?_
  exact loop16 _ (((x * 30) + (σ 6 x)) - 1) σ (by omega) (fun p h1 h2 => by exfalso; omega) (fun _ _ => rfl) (Sm.refl _ _) (Nat.lt_succ_self _)
