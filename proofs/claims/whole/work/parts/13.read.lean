set_option maxHeartbeats 1000000 in
theorem c_X5_canStand (l : Launch) (E : Ev) (q : Nat → Nat) (sh : List Shp) (σ : Sg) (hs : HsC sh) (x y : Int) (rx : rg x) (hy : 0 ≤ y ∧ y < 4) (hL : -1 ≤ σ 3 1 ∧ σ 3 1 ≤ 9) : CI l E yX5_canStand cX5_canStand 3 .boolean ({ frames := 3, cells := 0, slots := 0, locals := 60 } : Room) q sh σ [.ref (q 3), vI x, vI y] (is (if canSt (σ 3 1) x y = true then 1 else 0) σ) := by
  have rx1 := rx.1
  have rx2 := rx.2
  have hk := kd_in x
  have ht := tx_in x
  have hn := nA_in y
  refine CB_of (own := RX5) (by decide) rfl (Nat.le_of_ble_eq_true rfl) (fun X Q F hQ => ?_)
  show G X E 3 q sh σ 0 0 Q 0 [(0, .ref (q 3)), (1, vI x), (2, vI y)] []
  refine g_aload_n F 0 rfl rfl d_X5_canStand_0 ?_
  refine g_getI F 1 f_X5_15 d_X5_canStand_1 (hsC_3 hs) rfl rfl ?_
  refine g_if_lt F d_X5_canStand_4 ⟨by omega, by omega⟩ (fun h4 => ?_) (fun h4 => ?_)
  · refine g_iconst F d_X5_canStand_14 ?_
    exact hQ d_X5_canStand_15 (Or.inl rfl) (⟨by rw [if_neg (fun h => by have := canSt_iff.mp h; omega)], rfl⟩)
  · refine g_iload_n F 1 rfl rfl d_X5_canStand_7 ?_
    refine g_Si F (own := RX5) (c_X6_kindOf l E q sh σ x ⟨by omega, by omega⟩) k_X5_42 [] d_X5_canStand_8 ⟨rfl, rfl, by decide, by decide⟩ ⟨Nat.zero_le _, Nat.zero_le _⟩ rfl (Nat.le_of_ble_eq_true rfl) ?_
    rintro _ _ ⟨rfl, rfl⟩
    refine g_if_ne F d_X5_canStand_11 ⟨by omega, by omega⟩ (fun h11 => ?_) (fun h11 => ?_)
    · refine g_iload_n F 1 rfl rfl d_X5_canStand_16 ?_
      refine g_Si F (own := RX5) (c_X6_kindOf l E q sh σ x ⟨by omega, by omega⟩) k_X5_42 [] d_X5_canStand_17 ⟨rfl, rfl, by decide, by decide⟩ ⟨Nat.zero_le _, Nat.zero_le _⟩ rfl (Nat.le_of_ble_eq_true rfl) ?_
      rintro _ _ ⟨rfl, rfl⟩
      refine g_iconst F d_X5_canStand_20 ?_
      refine g_icmp_ne F d_X5_canStand_21 ⟨by omega, by omega⟩ ⟨by decide, by decide⟩ (fun h21 => ?_) (fun h21 => ?_)
      · refine g_aload_n F 0 rfl rfl d_X5_canStand_33 ?_
        refine g_getI F 1 f_X5_15 d_X5_canStand_34 (hsC_3 hs) rfl rfl ?_
        refine g_bipush F (by decide) d_X5_canStand_37 ?_
        refine g_icmp_lt F d_X5_canStand_39 ⟨by omega, by omega⟩ ⟨by decide, by decide⟩ (fun h39 => ?_) (fun h39 => ?_)
        · refine g_iconst F d_X5_canStand_49 ?_
          refine g_goto F d_X5_canStand_50 ?_
          exact hQ d_X5_canStand_54 (Or.inr rfl) (⟨by first | (rw [if_pos (canSt_iff.mpr ⟨by omega, by omega, fun h => absurd h h21, fun _ => by omega⟩)]; done) | (rw [if_neg (fun h => by have h9 := (canSt_iff.mp h).2.2.2 h21; omega)]; done), rfl⟩)
        · refine g_iload_n F 1 rfl rfl d_X5_canStand_42 ?_
          refine g_Si F (own := RX5) (c_X6_textsOf l E q sh σ x ⟨by omega, by omega⟩) k_X5_33 [] d_X5_canStand_43 ⟨rfl, rfl, by decide, by decide⟩ ⟨Nat.zero_le _, Nat.zero_le _⟩ rfl (Nat.le_of_ble_eq_true rfl) ?_
          rintro _ _ ⟨rfl, rfl⟩
          refine g_if_ne F d_X5_canStand_46 ⟨by omega, by omega⟩ (fun h46 => ?_) (fun h46 => ?_)
          · refine g_iconst F d_X5_canStand_53 ?_
            exact hQ d_X5_canStand_54 (Or.inl rfl) (⟨by first | (rw [if_pos (canSt_iff.mpr ⟨by omega, by omega, fun h => absurd h h21, fun _ => by omega⟩)]; done) | (rw [if_neg (fun h => by have h9 := (canSt_iff.mp h).2.2.2 h21; omega)]; done), rfl⟩)
          · refine g_iconst F d_X5_canStand_49 ?_
            refine g_goto F d_X5_canStand_50 ?_
            exact hQ d_X5_canStand_54 (Or.inr rfl) (⟨by first | (rw [if_pos (canSt_iff.mpr ⟨by omega, by omega, fun h => absurd h h21, fun _ => by omega⟩)]; done) | (rw [if_neg (fun h => by have h9 := (canSt_iff.mp h).2.2.2 h21; omega)]; done), rfl⟩)
      · have hw := wo_3 h21
        have h3 := kd_3.mp h21
        refine g_iload_n F 2 rfl rfl d_X5_canStand_24 ?_
        refine g_iload_n F 1 rfl rfl d_X5_canStand_25 ?_
        refine g_Si F (own := RX5) (c_X6_worthOf l E q sh σ x ⟨by omega, by omega⟩) k_X5_45 [vI y] d_X5_canStand_26 ⟨rfl, rfl, by decide, by decide⟩ ⟨Nat.zero_le _, Nat.zero_le _⟩ rfl (Nat.le_of_ble_eq_true rfl) ?_
        rintro _ _ ⟨rfl, rfl⟩
        refine g_Ni F (own := RX5) (c_X8_hasArgument l E q sh σ y (wo x) ⟨by omega, by omega⟩ ⟨by omega, by omega⟩) k_X5_48 [] d_X5_canStand_29 ⟨rfl, rfl, by decide, by decide⟩ ⟨Nat.zero_le _, Nat.zero_le _⟩ rfl (Nat.le_of_ble_eq_true rfl) ?_
        rintro _ _ ⟨rfl, rfl⟩
        exact hQ d_X5_canStand_32 (by first | (split <;> simp) | omega) (⟨canSt_3 (by omega) h21 hy, rfl⟩)
    · refine g_iconst F d_X5_canStand_14 ?_
      exact hQ d_X5_canStand_15 (Or.inl rfl) (⟨by rw [if_neg (fun h => by have := canSt_iff.mp h; omega)], rfl⟩)
set_option maxHeartbeats 1000000 in
theorem c_X5_pass (l : Launch) (E : Ev) (q : Nat → Nat) (sh : List Shp) (σ : Sg) (hs : HsC sh) (t : Int) (ht : 0 ≤ t ∧ t ≤ 3) (hL : 0 ≤ σ 3 1 ∧ σ 3 1 ≤ 9) (hB : ∀ j, 0 ≤ σ 4 j ∧ σ 4 j ≤ 3) (hB1 : 1 ≤ σ 4 (σ 3 1)) : CV l E yX5_pass cX5_pass 2 ({ frames := 0, cells := 0, slots := 0, locals := 0 } : Room) q sh σ [.ref (q 3), vI t] (fun τ => τ 3 1 = passL (σ 3 1) (σ 4) t ∧ τ 4 = passM (σ 3 1) (σ 4) t ∧ Sm [3, 4] σ τ) := by
  have hB2 := passM_in hB hB1 ht
  have e1 : ∀ j, up σ 4 (σ 3 1) (σ 4 (σ 3 1) - 1) 4 j = if j = σ 3 1 then σ 4 j - 1 else σ 4 j := by
    intro j
    rw [up_at]
    split
    · rename_i h; rw [h]
    · rfl
  have e3 : up σ 4 (σ 3 1) (σ 4 (σ 3 1) - 1) 3 = σ 3 := up_ne σ (by decide) _ _
  refine CV_of (own := RX5) (by decide) rfl (Nat.le_of_ble_eq_true rfl) (fun X Q F hQ => ?_)
  show G X E 2 q sh σ 0 0 Q 0 [(0, .ref (q 3)), (1, vI t)] []
  refine g_aload_n F 0 rfl rfl d_X5_pass_0 ?_
  refine g_getI F 1 f_X5_15 d_X5_pass_1 (hsC_3 hs) rfl rfl ?_
  refine g_if_lt F d_X5_pass_4 ⟨by omega, by omega⟩ (fun h4 => by exfalso; omega) (fun h4 => ?_)
  refine g_aload_n F 0 rfl rfl d_X5_pass_7 ?_
  refine g_getI F 1 f_X5_15 d_X5_pass_8 (hsC_3 hs) rfl rfl ?_
  refine g_bipush F (by decide) d_X5_pass_11 ?_
  refine g_icmp_gt F d_X5_pass_13 ⟨by omega, by omega⟩ ⟨by decide, by decide⟩ (fun h13 => by exfalso; omega) (fun h13 => ?_)
  refine g_aload_n F 0 rfl rfl d_X5_pass_16 ?_
  refine g_getR F f_X5_9 d_X5_pass_17 (hsC_3 hs) rfl ?_
  refine g_aload_n F 0 rfl rfl d_X5_pass_20 ?_
  refine g_getI F 1 f_X5_15 d_X5_pass_21 (hsC_3 hs) rfl rfl ?_
  refine g_dup2 F rfl rfl d_X5_pass_24 ?_
  refine g_iaload F d_X5_pass_25 (hsC_4 hs) (by omega) (by omega) (by decide) ?_
  refine g_iconst F d_X5_pass_26 ?_
  refine g_isub F d_X5_pass_27 ?_
  refine g_iastore F d_X5_pass_28 (hsC_4 hs) (by omega) (by omega) (by decide) ?_
  refine g_iload_n F 1 rfl rfl d_X5_pass_29 ?_
  refine g_if_le F d_X5_pass_30 ⟨by omega, by omega⟩ (fun h30 => ?_) (fun h30 => ?_)
  · have loop69 : ∀ (nn : Nat) (τ : Sg), (-1 ≤ τ 3 1 ∧ τ 3 1 ≤ 9) → (τ 4 = passM (σ 3 1) (σ 4) t) → (popN (τ 4) (τ 3 1 + 1).toNat = passL (σ 3 1) (σ 4) t) → (Sm [3, 4] σ τ) → (τ 3 1 + 1).toNat < nn → G X E 2 q sh τ 0 0 Q 69 [(0, .ref (q 3)), (1, vI t)] [] := by
      intro n69
      induction n69 with
      | zero => intro τ hL1 hM hR hm hm69; exact absurd hm69 (Nat.not_lt_zero _)
      | succ n69 ih69 =>
        intro τ hL1 hM hR hm hm69
        have hB3 := hB2 (τ 3 1)
        rw [← hM] at hB3
        refine g_aload_n F 0 rfl rfl d_X5_pass_69 ?_
        refine g_getI F 1 f_X5_15 d_X5_pass_70 (hsC_3 hs) rfl rfl ?_
        refine g_if_lt F d_X5_pass_73 ⟨by omega, by omega⟩ (fun h73 => ?_) (fun h73 => ?_)
        · exact hQ d_X5_pass_110 (⟨by rw [← hR]; first | (rw [show (τ 3 1 + 1).toNat = 0 by omega]; simp [popN]; omega) | (rw [show (τ 3 1 + 1).toNat = (τ 3 1).toNat + 1 by omega, popN, if_neg (by rw [show (((τ 3 1).toNat : Nat) : Int) = τ 3 1 by omega]; assumption)]; omega), hM, hm⟩)
        · refine g_aload_n F 0 rfl rfl d_X5_pass_76 ?_
          refine g_getI F 1 f_X5_15 d_X5_pass_77 (hsC_3 hs) rfl rfl ?_
          refine g_bipush F (by decide) d_X5_pass_80 ?_
          refine g_icmp_gt F d_X5_pass_82 ⟨by omega, by omega⟩ ⟨by decide, by decide⟩ (fun h82 => by exfalso; omega) (fun h82 => ?_)
          refine g_aload_n F 0 rfl rfl d_X5_pass_85 ?_
          refine g_getR F f_X5_9 d_X5_pass_86 (hsC_3 hs) rfl ?_
          refine g_aload_n F 0 rfl rfl d_X5_pass_89 ?_
          refine g_getI F 1 f_X5_15 d_X5_pass_90 (hsC_3 hs) rfl rfl ?_
          refine g_iaload F d_X5_pass_93 (hsC_4 hs) (by omega) (by omega) (by decide) ?_
          refine g_if_ne F d_X5_pass_94 ⟨by omega, by omega⟩ (fun h94 => ?_) (fun h94 => ?_)
          · exact hQ d_X5_pass_110 (⟨by rw [← hR]; first | (rw [show (τ 3 1 + 1).toNat = 0 by omega]; simp [popN]; omega) | (rw [show (τ 3 1 + 1).toNat = (τ 3 1).toNat + 1 by omega, popN, if_neg (by rw [show (((τ 3 1).toNat : Nat) : Int) = τ 3 1 by omega]; assumption)]; omega), hM, hm⟩)
          · refine g_aload_n F 0 rfl rfl d_X5_pass_97 ?_
            refine g_dup F rfl d_X5_pass_98 ?_
            refine g_getI F 1 f_X5_15 d_X5_pass_99 (hsC_3 hs) rfl rfl ?_
            refine g_iconst F d_X5_pass_102 ?_
            refine g_isub F d_X5_pass_103 ?_
            refine g_putI F 1 f_X5_15 d_X5_pass_104 (hsC_3 hs) rfl rfl rfl rfl rfl ?_
            refine g_goto F d_X5_pass_107 ?_
            exact ih69 (up τ 3 1 ((τ 3 1) - 1)) (by rw [up_same]; omega) (by rw [up_ne τ (by decide)]; exact hM) (by rw [up_ne τ (by decide), up_same, ← hR, show (τ 3 1 + 1).toNat = (τ 3 1 - 1 + 1).toNat + 1 by omega, popN, if_pos (by rw [show (((τ 3 1 - 1 + 1).toNat : Nat) : Int) = τ 3 1 by omega]; exact h94)]) (hm.up (by decide) _ _) (by rw [up_same]; omega)
    have hi1 : -1 ≤ (up σ 4 (σ 3 1) ((σ 4 (σ 3 1)) - 1)) 3 1 ∧ (up σ 4 (σ 3 1) ((σ 4 (σ 3 1)) - 1)) 3 1 ≤ 9 := by first | (rw [e3]; omega) | (rw [up_ne _ (by decide), up_same]; omega)
    have hi2 : (up σ 4 (σ 3 1) ((σ 4 (σ 3 1)) - 1)) 4 = passM (σ 3 1) (σ 4) t := by
      funext j
      unfold passM
      first
        | (rw [if_neg (by omega), e1]; done)
        | (rw [up_at, up_ne _ (by decide), e1]; split <;> (try split) <;> (try split) <;> first | rfl | omega)
    have hi3 : popN ((up σ 4 (σ 3 1) ((σ 4 (σ 3 1)) - 1)) 4) ((up σ 4 (σ 3 1) ((σ 4 (σ 3 1)) - 1)) 3 1 + 1).toNat = passL (σ 3 1) (σ 4) t := by
      rw [hi2]
      unfold passL
      first
        | (rw [if_neg (by omega), e3]; done)
        | (rw [if_pos (by omega), up_ne _ (by decide), up_same]; congr 1; omega)
    have hi4 : Sm [3, 4] σ (up σ 4 (σ 3 1) ((σ 4 (σ 3 1)) - 1)) := by
      first
        | exact (Sm.refl _ _).up (by decide) _ _
        | exact (((Sm.refl _ _).up (by decide) _ _).up (by decide) _ _).up (by decide) _ _
    exact loop69 _ (up σ 4 (σ 3 1) ((σ 4 (σ 3 1)) - 1)) hi1 hi2 hi3 hi4 (Nat.lt_succ_self _)
  · refine g_aload_n F 0 rfl rfl d_X5_pass_33 ?_
    refine g_getI F 1 f_X5_15 d_X5_pass_34 (hsC_3 hs) rfl rfl ?_
    refine G_top (b := σ 3 1) (by rw [e3]) ?_
    refine g_if_lt F d_X5_pass_37 ⟨by omega, by omega⟩ (fun h37 => by exfalso; omega) (fun h37 => ?_)
    refine g_aload_n F 0 rfl rfl d_X5_pass_40 ?_
    refine g_getI F 1 f_X5_15 d_X5_pass_41 (hsC_3 hs) rfl rfl ?_
    refine G_top (b := σ 3 1) (by rw [e3]) ?_
    refine g_bipush F (by decide) d_X5_pass_44 ?_
    refine g_icmp_ge F d_X5_pass_46 ⟨by omega, by omega⟩ ⟨by decide, by decide⟩ (fun h46 => ?_) (fun h46 => ?_)
    · have loop69 : ∀ (nn : Nat) (τ : Sg), (-1 ≤ τ 3 1 ∧ τ 3 1 ≤ 9) → (τ 4 = passM (σ 3 1) (σ 4) t) → (popN (τ 4) (τ 3 1 + 1).toNat = passL (σ 3 1) (σ 4) t) → (Sm [3, 4] σ τ) → (τ 3 1 + 1).toNat < nn → G X E 2 q sh τ 0 0 Q 69 [(0, .ref (q 3)), (1, vI t)] [] := by
        intro n69
        induction n69 with
        | zero => intro τ hL1 hM hR hm hm69; exact absurd hm69 (Nat.not_lt_zero _)
        | succ n69 ih69 =>
          intro τ hL1 hM hR hm hm69
          have hB3 := hB2 (τ 3 1)
          rw [← hM] at hB3
          refine g_aload_n F 0 rfl rfl d_X5_pass_69 ?_
          refine g_getI F 1 f_X5_15 d_X5_pass_70 (hsC_3 hs) rfl rfl ?_
          refine g_if_lt F d_X5_pass_73 ⟨by omega, by omega⟩ (fun h73 => ?_) (fun h73 => ?_)
          · exact hQ d_X5_pass_110 (⟨by rw [← hR]; first | (rw [show (τ 3 1 + 1).toNat = 0 by omega]; simp [popN]; omega) | (rw [show (τ 3 1 + 1).toNat = (τ 3 1).toNat + 1 by omega, popN, if_neg (by rw [show (((τ 3 1).toNat : Nat) : Int) = τ 3 1 by omega]; assumption)]; omega), hM, hm⟩)
          · refine g_aload_n F 0 rfl rfl d_X5_pass_76 ?_
            refine g_getI F 1 f_X5_15 d_X5_pass_77 (hsC_3 hs) rfl rfl ?_
            refine g_bipush F (by decide) d_X5_pass_80 ?_
            refine g_icmp_gt F d_X5_pass_82 ⟨by omega, by omega⟩ ⟨by decide, by decide⟩ (fun h82 => by exfalso; omega) (fun h82 => ?_)
            refine g_aload_n F 0 rfl rfl d_X5_pass_85 ?_
            refine g_getR F f_X5_9 d_X5_pass_86 (hsC_3 hs) rfl ?_
            refine g_aload_n F 0 rfl rfl d_X5_pass_89 ?_
            refine g_getI F 1 f_X5_15 d_X5_pass_90 (hsC_3 hs) rfl rfl ?_
            refine g_iaload F d_X5_pass_93 (hsC_4 hs) (by omega) (by omega) (by decide) ?_
            refine g_if_ne F d_X5_pass_94 ⟨by omega, by omega⟩ (fun h94 => ?_) (fun h94 => ?_)
            · exact hQ d_X5_pass_110 (⟨by rw [← hR]; first | (rw [show (τ 3 1 + 1).toNat = 0 by omega]; simp [popN]; omega) | (rw [show (τ 3 1 + 1).toNat = (τ 3 1).toNat + 1 by omega, popN, if_neg (by rw [show (((τ 3 1).toNat : Nat) : Int) = τ 3 1 by omega]; assumption)]; omega), hM, hm⟩)
            · refine g_aload_n F 0 rfl rfl d_X5_pass_97 ?_
              refine g_dup F rfl d_X5_pass_98 ?_
              refine g_getI F 1 f_X5_15 d_X5_pass_99 (hsC_3 hs) rfl rfl ?_
              refine g_iconst F d_X5_pass_102 ?_
              refine g_isub F d_X5_pass_103 ?_
              refine g_putI F 1 f_X5_15 d_X5_pass_104 (hsC_3 hs) rfl rfl rfl rfl rfl ?_
              refine g_goto F d_X5_pass_107 ?_
              exact ih69 (up τ 3 1 ((τ 3 1) - 1)) (by rw [up_same]; omega) (by rw [up_ne τ (by decide)]; exact hM) (by rw [up_ne τ (by decide), up_same, ← hR, show (τ 3 1 + 1).toNat = (τ 3 1 - 1 + 1).toNat + 1 by omega, popN, if_pos (by rw [show (((τ 3 1 - 1 + 1).toNat : Nat) : Int) = τ 3 1 by omega]; exact h94)]) (hm.up (by decide) _ _) (by rw [up_same]; omega)
      have hi1 : -1 ≤ (up σ 4 (σ 3 1) ((σ 4 (σ 3 1)) - 1)) 3 1 ∧ (up σ 4 (σ 3 1) ((σ 4 (σ 3 1)) - 1)) 3 1 ≤ 9 := by first | (rw [e3]; omega) | (rw [up_ne _ (by decide), up_same]; omega)
      have hi2 : (up σ 4 (σ 3 1) ((σ 4 (σ 3 1)) - 1)) 4 = passM (σ 3 1) (σ 4) t := by
        funext j
        unfold passM
        first
          | (rw [if_neg (by omega), e1]; done)
          | (rw [up_at, up_ne _ (by decide), e1]; split <;> (try split) <;> (try split) <;> first | rfl | omega)
      have hi3 : popN ((up σ 4 (σ 3 1) ((σ 4 (σ 3 1)) - 1)) 4) ((up σ 4 (σ 3 1) ((σ 4 (σ 3 1)) - 1)) 3 1 + 1).toNat = passL (σ 3 1) (σ 4) t := by
        rw [hi2]
        unfold passL
        first
          | (rw [if_neg (by omega), e3]; done)
          | (rw [if_pos (by omega), up_ne _ (by decide), up_same]; congr 1; omega)
      have hi4 : Sm [3, 4] σ (up σ 4 (σ 3 1) ((σ 4 (σ 3 1)) - 1)) := by
        first
          | exact (Sm.refl _ _).up (by decide) _ _
          | exact (((Sm.refl _ _).up (by decide) _ _).up (by decide) _ _).up (by decide) _ _
      exact loop69 _ (up σ 4 (σ 3 1) ((σ 4 (σ 3 1)) - 1)) hi1 hi2 hi3 hi4 (Nat.lt_succ_self _)
    · refine g_aload_n F 0 rfl rfl d_X5_pass_49 ?_
      refine g_dup F rfl d_X5_pass_50 ?_
      refine g_getI F 1 f_X5_15 d_X5_pass_51 (hsC_3 hs) rfl rfl ?_
      refine G_top (b := σ 3 1) (by rw [e3]) ?_
      refine g_iconst F d_X5_pass_54 ?_
      refine g_iadd F d_X5_pass_55 ?_
      refine g_putI F 1 f_X5_15 d_X5_pass_56 (hsC_3 hs) rfl rfl rfl rfl rfl ?_
      refine g_aload_n F 0 rfl rfl d_X5_pass_59 ?_
      refine g_getR F f_X5_9 d_X5_pass_60 (hsC_3 hs) rfl ?_
      refine g_aload_n F 0 rfl rfl d_X5_pass_63 ?_
      refine g_getI F 1 f_X5_15 d_X5_pass_64 (hsC_3 hs) rfl rfl ?_
      refine G_top (b := σ 3 1 + 1) (up_same _ _ _ _) ?_
      refine g_iload_n F 1 rfl rfl d_X5_pass_67 ?_
      refine g_iastore F d_X5_pass_68 (hsC_4 hs) (by omega) (by omega) (by decide) ?_
      have loop69 : ∀ (nn : Nat) (τ : Sg), (-1 ≤ τ 3 1 ∧ τ 3 1 ≤ 9) → (τ 4 = passM (σ 3 1) (σ 4) t) → (popN (τ 4) (τ 3 1 + 1).toNat = passL (σ 3 1) (σ 4) t) → (Sm [3, 4] σ τ) → (τ 3 1 + 1).toNat < nn → G X E 2 q sh τ 0 0 Q 69 [(0, .ref (q 3)), (1, vI t)] [] := by
        intro n69
        induction n69 with
        | zero => intro τ hL1 hM hR hm hm69; exact absurd hm69 (Nat.not_lt_zero _)
        | succ n69 ih69 =>
          intro τ hL1 hM hR hm hm69
          have hB3 := hB2 (τ 3 1)
          rw [← hM] at hB3
          refine g_aload_n F 0 rfl rfl d_X5_pass_69 ?_
          refine g_getI F 1 f_X5_15 d_X5_pass_70 (hsC_3 hs) rfl rfl ?_
          refine g_if_lt F d_X5_pass_73 ⟨by omega, by omega⟩ (fun h73 => ?_) (fun h73 => ?_)
          · exact hQ d_X5_pass_110 (⟨by rw [← hR]; first | (rw [show (τ 3 1 + 1).toNat = 0 by omega]; simp [popN]; omega) | (rw [show (τ 3 1 + 1).toNat = (τ 3 1).toNat + 1 by omega, popN, if_neg (by rw [show (((τ 3 1).toNat : Nat) : Int) = τ 3 1 by omega]; assumption)]; omega), hM, hm⟩)
          · refine g_aload_n F 0 rfl rfl d_X5_pass_76 ?_
            refine g_getI F 1 f_X5_15 d_X5_pass_77 (hsC_3 hs) rfl rfl ?_
            refine g_bipush F (by decide) d_X5_pass_80 ?_
            refine g_icmp_gt F d_X5_pass_82 ⟨by omega, by omega⟩ ⟨by decide, by decide⟩ (fun h82 => by exfalso; omega) (fun h82 => ?_)
            refine g_aload_n F 0 rfl rfl d_X5_pass_85 ?_
            refine g_getR F f_X5_9 d_X5_pass_86 (hsC_3 hs) rfl ?_
            refine g_aload_n F 0 rfl rfl d_X5_pass_89 ?_
            refine g_getI F 1 f_X5_15 d_X5_pass_90 (hsC_3 hs) rfl rfl ?_
            refine g_iaload F d_X5_pass_93 (hsC_4 hs) (by omega) (by omega) (by decide) ?_
            refine g_if_ne F d_X5_pass_94 ⟨by omega, by omega⟩ (fun h94 => ?_) (fun h94 => ?_)
            · exact hQ d_X5_pass_110 (⟨by rw [← hR]; first | (rw [show (τ 3 1 + 1).toNat = 0 by omega]; simp [popN]; omega) | (rw [show (τ 3 1 + 1).toNat = (τ 3 1).toNat + 1 by omega, popN, if_neg (by rw [show (((τ 3 1).toNat : Nat) : Int) = τ 3 1 by omega]; assumption)]; omega), hM, hm⟩)
            · refine g_aload_n F 0 rfl rfl d_X5_pass_97 ?_
              refine g_dup F rfl d_X5_pass_98 ?_
              refine g_getI F 1 f_X5_15 d_X5_pass_99 (hsC_3 hs) rfl rfl ?_
              refine g_iconst F d_X5_pass_102 ?_
              refine g_isub F d_X5_pass_103 ?_
              refine g_putI F 1 f_X5_15 d_X5_pass_104 (hsC_3 hs) rfl rfl rfl rfl rfl ?_
              refine g_goto F d_X5_pass_107 ?_
              exact ih69 (up τ 3 1 ((τ 3 1) - 1)) (by rw [up_same]; omega) (by rw [up_ne τ (by decide)]; exact hM) (by rw [up_ne τ (by decide), up_same, ← hR, show (τ 3 1 + 1).toNat = (τ 3 1 - 1 + 1).toNat + 1 by omega, popN, if_pos (by rw [show (((τ 3 1 - 1 + 1).toNat : Nat) : Int) = τ 3 1 by omega]; exact h94)]) (hm.up (by decide) _ _) (by rw [up_same]; omega)
      have hi1 : -1 ≤ (up (up (up σ 4 (σ 3 1) ((σ 4 (σ 3 1)) - 1)) 3 1 ((σ 3 1) + 1)) 4 (σ 3 1 + 1) t) 3 1 ∧ (up (up (up σ 4 (σ 3 1) ((σ 4 (σ 3 1)) - 1)) 3 1 ((σ 3 1) + 1)) 4 (σ 3 1 + 1) t) 3 1 ≤ 9 := by first | (rw [e3]; omega) | (rw [up_ne _ (by decide), up_same]; omega)
      have hi2 : (up (up (up σ 4 (σ 3 1) ((σ 4 (σ 3 1)) - 1)) 3 1 ((σ 3 1) + 1)) 4 (σ 3 1 + 1) t) 4 = passM (σ 3 1) (σ 4) t := by
        funext j
        unfold passM
        first
          | (rw [if_neg (by omega), e1]; done)
          | (rw [up_at, up_ne _ (by decide), e1]; split <;> (try split) <;> (try split) <;> first | rfl | omega)
      have hi3 : popN ((up (up (up σ 4 (σ 3 1) ((σ 4 (σ 3 1)) - 1)) 3 1 ((σ 3 1) + 1)) 4 (σ 3 1 + 1) t) 4) ((up (up (up σ 4 (σ 3 1) ((σ 4 (σ 3 1)) - 1)) 3 1 ((σ 3 1) + 1)) 4 (σ 3 1 + 1) t) 3 1 + 1).toNat = passL (σ 3 1) (σ 4) t := by
        rw [hi2]
        unfold passL
        first
          | (rw [if_neg (by omega), e3]; done)
          | (rw [if_pos (by omega), up_ne _ (by decide), up_same]; congr 1; omega)
      have hi4 : Sm [3, 4] σ (up (up (up σ 4 (σ 3 1) ((σ 4 (σ 3 1)) - 1)) 3 1 ((σ 3 1) + 1)) 4 (σ 3 1 + 1) t) := by
        first
          | exact (Sm.refl _ _).up (by decide) _ _
          | exact (((Sm.refl _ _).up (by decide) _ _).up (by decide) _ _).up (by decide) _ _
      exact loop69 _ (up (up (up σ 4 (σ 3 1) ((σ 4 (σ 3 1)) - 1)) 3 1 ((σ 3 1) + 1)) 4 (σ 3 1 + 1) t) hi1 hi2 hi3 hi4 (Nat.lt_succ_self _)
set_option maxHeartbeats 1000000 in
theorem c_X5_firstFault (l : Launch) (E : Ev) (q : Nat → Nat) (sh : List Shp) (σ : Sg) (hs : HsC sh) (y : Int) (hy : 0 ≤ y ∧ y < 4) (hn : 0 ≤ σ 1 1 ∧ σ 1 1 ≤ 30) (hsg : ∀ j, rg (σ 2 j)) (hB : ∀ j, 0 ≤ σ 4 j ∧ σ 4 j ≤ 3) : CI l E yX5_firstFault cX5_firstFault 5 .int ({ frames := 4, cells := 0, slots := 0, locals := 82 } : Room) q sh σ [.ref (q 3), .ref (q 1), vI y] (fun z τ => z = ffun (σ 2) (σ 1 1) y (σ 1 1).toNat 0 0 (fun j => if j = 0 then 1 else σ 4 j) ∧ Sm [3, 4] σ τ ∧ ∀ j, 0 ≤ τ 4 j ∧ τ 4 j ≤ 3) := by
  refine CI_of (own := RX5) (by decide) rfl (Nat.le_of_ble_eq_true rfl) (fun X Q F hQ => ?_)
  show G X E 5 q sh σ 0 0 Q 0 [(0, .ref (q 3)), (1, .ref (q 1)), (2, vI y)] []
  refine g_aload_n F 0 rfl rfl d_X5_firstFault_0 ?_
  refine g_iconst F d_X5_firstFault_1 ?_
  refine g_putI F 1 f_X5_15 d_X5_firstFault_2 (hsC_3 hs) rfl rfl rfl rfl rfl ?_
  refine g_aload_n F 0 rfl rfl d_X5_firstFault_5 ?_
  refine g_getR F f_X5_9 d_X5_firstFault_6 (hsC_3 hs) rfl ?_
  refine g_iconst F d_X5_firstFault_9 ?_
  refine g_iconst F d_X5_firstFault_10 ?_
  refine g_iastore F d_X5_firstFault_11 (hsC_4 hs) (by omega) (by omega) (by decide) ?_
  refine g_iconst F d_X5_firstFault_12 ?_
  refine g_istore_n F (lv' := [(3, vI 0), (0, .ref (q 3)), (1, .ref (q 1)), (2, vI y)]) rfl (by decide) rfl d_X5_firstFault_13 ?_
  have loop14 : ∀ (nn : Nat) (i : Int) (τ : Sg), (0 ≤ i ∧ i ≤ σ 1 1) → (-1 ≤ τ 3 1 ∧ τ 3 1 ≤ 9) → (∀ j, 0 ≤ τ 4 j ∧ τ 4 j ≤ 3) → (0 ≤ τ 3 1 → 1 ≤ τ 4 (τ 3 1)) → (Sm [3, 4] σ τ) → (ffun (σ 2) (σ 1 1) y (σ 1 1 - i).toNat i (τ 3 1) (τ 4) = ffun (σ 2) (σ 1 1) y (σ 1 1).toNat 0 0 (fun j => if j = 0 then 1 else σ 4 j)) → (σ 1 1 - i).toNat < nn → G X E 5 q sh τ 0 0 Q 14 [(0, .ref (q 3)), (1, .ref (q 1)), (2, vI y), (3, vI i)] [] := by
    intro n14
    induction n14 with
    | zero => intro i τ hi hL hT hT1 hm hr hm14; exact absurd hm14 (Nat.not_lt_zero _)
    | succ n14 ih14 =>
      intro i τ hi hL hT hT1 hm hr hm14
      have e1 : τ 1 = σ 1 := hm 1 (by decide)
      have e2 : τ 2 = σ 2 := hm 2 (by decide)
      refine g_iload_n F 3 rfl rfl d_X5_firstFault_14 ?_
      refine g_aload_n F 1 rfl rfl d_X5_firstFault_15 ?_
      refine g_Vi F (own := RX5) (c_X4_count l E q sh τ hs  ) k_X5_19 (hsC_1 hs) rfl rfl [vI i] d_X5_firstFault_16 ⟨rfl, rfl, by decide, by decide⟩ ⟨Nat.zero_le _, Nat.zero_le _⟩ rfl (Nat.le_of_ble_eq_true rfl) ?_
      rintro _ _ ⟨rfl, rfl⟩
      refine G_top (b := σ 1 1) (by rw [e1]) ?_
      refine g_icmp_ge F d_X5_firstFault_19 ⟨by omega, by omega⟩ ⟨by omega, by omega⟩ (fun h19 => ?_) (fun h19 => ?_)
      · refine g_aload_n F 0 rfl rfl d_X5_firstFault_56 ?_
        refine g_getI F 1 f_X5_15 d_X5_firstFault_57 (hsC_3 hs) rfl rfl ?_
        refine g_if_ge F d_X5_firstFault_60 ⟨by omega, by omega⟩ (fun h60 => ?_) (fun h60 => ?_)
        · refine g_aload_n F 1 rfl rfl d_X5_firstFault_68 ?_
          refine g_Vi F (own := RX5) (c_X4_count l E q sh τ hs  ) k_X5_19 (hsC_1 hs) rfl rfl [] d_X5_firstFault_69 ⟨rfl, rfl, by decide, by decide⟩ ⟨Nat.zero_le _, Nat.zero_le _⟩ rfl (Nat.le_of_ble_eq_true rfl) ?_
          rintro _ _ ⟨rfl, rfl⟩
          refine G_top (b := σ 1 1) (by rw [e1]) ?_
          exact hQ d_X5_firstFault_72 (⟨by rw [← hr, show (σ 1 1 - i).toNat = 0 by omega, ffun]; first | (rw [if_pos (by omega)]; done) | (rw [if_neg (by omega)]; done), hm, hT⟩)
        · refine g_bipush F (by decide) d_X5_firstFault_63 ?_
          refine g_goto F d_X5_firstFault_65 ?_
          exact hQ d_X5_firstFault_72 (⟨by rw [← hr, show (σ 1 1 - i).toNat = 0 by omega, ffun]; first | (rw [if_pos (by omega)]; done) | (rw [if_neg (by omega)]; done), hm, hT⟩)
      · refine g_aload_n F 1 rfl rfl d_X5_firstFault_22 ?_
        refine g_iload_n F 3 rfl rfl d_X5_firstFault_23 ?_
        refine g_Vi F (own := RX5) (c_X4_signAt l E q sh τ hs i ⟨by omega, by rw [e1]; omega, by rw [e1]; omega⟩) k_X5_25 (hsC_1 hs) rfl rfl [] d_X5_firstFault_24 ⟨rfl, rfl, by decide, by decide⟩ ⟨Nat.zero_le _, Nat.zero_le _⟩ rfl (Nat.le_of_ble_eq_true rfl) ?_
        rintro _ _ ⟨rfl, rfl⟩
        refine G_top (b := σ 2 i) (by rw [e2]) ?_
        refine g_istore F (lv' := [(4, vI (σ 2 i)), (0, .ref (q 3)), (1, .ref (q 1)), (2, vI y), (3, vI i)]) (by decide) rfl d_X5_firstFault_27 ?_
        refine g_aload_n F 1 rfl rfl d_X5_firstFault_29 ?_
        refine g_iload F 0 rfl d_X5_firstFault_30 ?_
        refine g_iload_n F 3 rfl rfl d_X5_firstFault_32 ?_
        refine g_Vi F (own := RX5) (c_X5_canStand l E q sh τ hs (σ 2 i) y (hsg _) hy hL) k_X5_29 (hsC_3 hs) rfl rfl [] d_X5_firstFault_33 ⟨rfl, rfl, by decide, by decide⟩ ⟨Nat.zero_le _, Nat.zero_le _⟩ rfl (Nat.le_of_ble_eq_true rfl) ?_
        rintro _ _ ⟨rfl, rfl⟩
        refine g_b_ne F d_X5_firstFault_36 (fun h36 => ?_) (fun h36 => ?_)
        · refine g_aload_n F 1 rfl rfl d_X5_firstFault_41 ?_
          refine g_iload F 0 rfl d_X5_firstFault_42 ?_
          refine g_Si F (own := RX5) (c_X6_textsOf l E q sh τ (σ 2 i) (hsg _)) k_X5_33 [.ref (q 3)] d_X5_firstFault_44 ⟨rfl, rfl, by decide, by decide⟩ ⟨Nat.zero_le _, Nat.zero_le _⟩ rfl (Nat.le_of_ble_eq_true rfl) ?_
          rintro _ _ ⟨rfl, rfl⟩
          refine g_Vv F (own := RX5) (c_X5_pass l E q sh τ hs (tx (σ 2 i)) (tx_in _) (by have := (canSt_iff.mp h36).1; omega) hT (hT1 (canSt_iff.mp h36).1)) k_X5_38 (hsC_3 hs) rfl rfl [] d_X5_firstFault_47 ⟨rfl, rfl, by decide, by decide⟩ ⟨Nat.zero_le _, Nat.zero_le _⟩ rfl (Nat.le_of_ble_eq_true rfl) ?_
          intro τ2 hp
          have hc9 := (canSt_iff.mp h36).1
          have hB9 := passM_in hT (hT1 hc9) (tx_in (σ 2 i))
          refine g_iinc F (lv' := [(3, vI (i + 1)), (4, vI (σ 2 i)), (0, .ref (q 3)), (1, .ref (q 1)), (2, vI y)]) 4 rfl rfl (by decide) rfl d_X5_firstFault_50 ?_
          refine g_goto F d_X5_firstFault_53 ?_
          refine G_sub (ks := [2, 3, 4, 0]) rfl ?_
          exact ih14 (i + 1) τ2 (by omega) (by rw [hp.1]; exact passL_in _ _ (by omega)) (by rw [hp.2.1]; exact hB9) (fun h => by rw [hp.1, hp.2.1]; rw [hp.1] at h; exact passL_1 hB9 h) (hm.trans hp.2.2) (by rw [hp.1, hp.2.1, ← hr, show (σ 1 1 - i).toNat = (σ 1 1 - (i + 1)).toNat + 1 by omega, ffun, if_pos h36]) (by omega)
        · refine g_iload_n F 4 rfl rfl d_X5_firstFault_39 ?_
          exact hQ d_X5_firstFault_40 (⟨by rw [← hr, show (σ 1 1 - i).toNat = (σ 1 1 - i - 1).toNat + 1 by omega, ffun, if_neg h36], hm, hT⟩)
  have hi1 : (up (up σ 3 1 0) 4 0 1) 4 = fun j => if j = 0 then 1 else σ 4 j := by
    funext j
    rw [up_at, up_ne _ (by decide)]
  have hi2 : ∀ j, 0 ≤ (up (up σ 3 1 0) 4 0 1) 4 j ∧ (up (up σ 3 1 0) 4 0 1) 4 j ≤ 3 := by
    intro j
    have := hB j
    rw [hi1]
    dsimp only
    split <;> omega
  refine G_sub (ks := [1, 2, 3, 0]) rfl ?_
  exact loop14 _ 0 (up (up σ 3 1 0) 4 0 1) (by omega) (by rw [up_ne _ (by decide), up_same]; omega) hi2 (fun _ => by rw [hi1]; rw [up_ne _ (by decide), up_same]; simp) (((Sm.refl _ _).up (by decide) _ _).up (by decide) _ _) (by rw [hi1]; simp only [Int.sub_zero]; rw [up_ne _ (by decide), up_same]) (Nat.lt_succ_self _)
