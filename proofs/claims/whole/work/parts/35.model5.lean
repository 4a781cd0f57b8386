/-! the reference: part, against any family of solutions -/
def PVok (σ : Sg) (x : Int) (PV : Int → Int → Bool) : Prop := ∀ s, 0 ≤ s → s ≤ aA x → Sol (σ 31) (σ 32) (mtb σ) (PV s) s (x * 30) (σ 34 x)
def vPartM (σ : Sg) (PV : Int → Int → Bool) (x y k : Int) : Int := if (0 ≤ x ∧ x < 4) ∧ 0 ≤ y ∧ y < σ 34 x then (if 0 ≤ k ∧ k ≤ 1 then (if k = 0 then b2 (PV (aA x) (x * 30 + y)) else need3 (fun s => PV s (x * 30 + y)) x) else -2) else -1
theorem MOK.move {σ τ : Sg} (h : MOK σ) (hm : Sm [39] σ τ) : MOK τ := by
  unfold MOK at h ⊢
  rw [hm 31 (by decide), hm 32 (by decide), hm 33 (by decide), hm 34 (by decide)]
  exact h
theorem MTR.move {σ τ : Sg} (h : MTR σ) (hm : Sm [39] σ τ) : MTR τ := fun f => by rw [hm 37 (by decide)]; exact h f
/-- what findMay found at a node is the family's -/
theorem found_eq {σ τ τ2 : Sg} {x y s : Int} {PV : Int → Int → Bool} (hx : 0 ≤ x ∧ x < 4) (hy : 0 ≤ y ∧ y < σ 34 x) (hs : 0 ≤ s ∧ s ≤ aA x) (hM : MOK σ) (hP : PVok σ x PV) (hm : Sm [39] σ τ) (h01 : ∀ j, 0 ≤ j → j < τ 34 x → τ2 39 j = 0 ∨ τ2 39 j = 1) (hso : Sol (τ 31) (τ 32) (mtb τ) (Vb τ2 x) s (x * 30) (τ 34 x)) : τ2 39 y = b2 (PV s (x * 30 + y)) := by
  have e : mtb τ = mtb σ := by unfold mtb; rw [hm 37 (by decide)]
  rw [hm 31 (by decide), hm 32 (by decide), hm 34 (by decide), e] at hso
  rw [hm 34 (by decide)] at h01
  rw [Vb_b2 (x := x) (h01 y hy.1 hy.2)]
  congr 1
  exact hso.eq (hM.1 x hx.1 hx.2).1 (fun _ _ _ _ _ _ => rfl) (hP s hs.1 hs.2) (by omega) (by omega)
theorem b2_nf {b : Bool} (h : ¬ b2 b = 0) : b = true := by cases b <;> simp_all [b2]
set_option maxHeartbeats 1000000 in
theorem c_X9_part (l : Launch) (E : Ev) (q : Nat → Nat) (sh : List Shp) (σ : Sg) (hs : HsM sh) (x y k : Int) (PV : Int → Int → Bool) (rx : rg x) (ry : rg y) (rk : rg k) (hN : ∀ f, 0 ≤ f → f < 4 → 0 ≤ σ 34 f ∧ σ 34 f ≤ 30) (hM : MOK σ) (hT : MTR σ) (hC : C2 σ) (hP : (0 ≤ x ∧ x < 4) → PVok σ x PV) : CI l E yX9_part cX9_part 6 .int ({ frames := 3, cells := 0, slots := 0, locals := 72 } : Room) q sh σ [.ref (q 30), vI x, vI y, vI k] (fun z τ => z = vPartM σ PV x y k ∧ Sm [39] σ τ ∧ C2 τ) := by
  have rx1 := rx.1
  have rx2 := rx.2
  have ry1 := ry.1
  have ry2 := ry.2
  have rk1 := rk.1
  have rk2 := rk.2
  have haa := aA_in x
  have hna := nA_in x
  refine CI_of (own := RX9) (by decide) rfl (Nat.le_of_ble_eq_true rfl) (fun X Q F hQ => ?_)
  show G X E 6 q sh σ 0 0 Q 0 [(0, .ref (q 30)), (1, vI x), (2, vI y), (3, vI k)] []
  refine g_aload_n F 0 rfl rfl d_X9_part_0 ?_
  refine g_iload_n F 1 rfl rfl d_X9_part_1 ?_
  refine g_iload_n F 2 rfl rfl d_X9_part_2 ?_
  refine g_Vi F (own := RX9) (c_X9_isNode l E q sh σ hs x y rx ry hN) k_X9_109 (hsM_30 hs) rfl rfl [] d_X9_part_3 ⟨rfl, rfl, by decide, by decide⟩ ⟨Nat.zero_le _, Nat.zero_le _⟩ rfl (Nat.le_of_ble_eq_true rfl) ?_
  rintro _ _ ⟨rfl, rfl⟩
  refine g_b_ne F d_X9_part_6 (fun h6 => ?_) (fun h6 => ?_)
  · have h69 := hN x h6.1.1 h6.1.2
    have hPx := hP h6.1
    refine g_iload_n F 3 rfl rfl d_X9_part_11 ?_
    refine g_i2l F ⟨by omega, by omega⟩ d_X9_part_12 ?_
    refine g_lconst F (z := 0) rfl d_X9_part_13 ?_
    refine g_lconst F (z := 1) rfl d_X9_part_14 ?_
    refine g_Si F (own := RX9) (c_X9_in l E q sh σ k 0 1 rk ⟨by decide, by decide⟩ ⟨by decide, by decide⟩) k_X9_69 [] d_X9_part_15 ⟨rfl, rfl, by decide, by decide⟩ ⟨Nat.zero_le _, Nat.zero_le _⟩ rfl (Nat.le_of_ble_eq_true rfl) ?_
    rintro _ _ ⟨rfl, rfl⟩
    refine g_b_ne F d_X9_part_18 (fun h18 => ?_) (fun h18 => ?_)
    · refine g_iload_n F 3 rfl rfl d_X9_part_24 ?_
      refine g_if_ne F d_X9_part_25 ⟨by omega, by omega⟩ (fun h25 => ?_) (fun h25 => ?_)
      · refine g_iconst F d_X9_part_44 ?_
        refine g_istore F (lv' := [(4, vI 0), (0, .ref (q 30)), (1, vI x), (2, vI y), (3, vI k)]) (by decide) rfl d_X9_part_45 ?_
        refine g_iconst F d_X9_part_47 ?_
        refine g_istore F (lv' := [(5, vI 0), (4, vI 0), (0, .ref (q 30)), (1, vI x), (2, vI y), (3, vI k)]) (by decide) rfl d_X9_part_48 ?_
        have loop50 : ∀ (nn : Nat) (w : Int) (a : Int) (τ : Sg), (0 ≤ a ∧ a ≤ nA x) → (w = c3 a (!PV (cutA x 1) (x * 30 + y)) (!PV (cutA x 2) (x * 30 + y)) (!PV (cutA x 4) (x * 30 + y))) → (Sm [39] σ τ) → (C2 τ) → (nA x - a).toNat < nn → G X E 6 q sh τ 0 0 Q 50 [(0, .ref (q 30)), (1, vI x), (2, vI y), (3, vI k), (4, vI w), (5, vI a)] [] := by
          intro n50
          induction n50 with
          | zero => intro w a τ ha hw hm hC1 hm50; exact absurd hm50 (Nat.not_lt_zero _)
          | succ n50 ih50 =>
            intro w a τ ha hw hm hC1 hm50
            refine g_iload F 5 rfl d_X9_part_50 ?_
            refine g_iload_n F 1 rfl rfl d_X9_part_52 ?_
            refine g_Si F (own := RX9) (c_X9_argumentsOf l E q sh τ x (by omega)) k_X9_85 [vI a] d_X9_part_53 ⟨rfl, rfl, by decide, by decide⟩ ⟨Nat.zero_le _, Nat.zero_le _⟩ rfl (Nat.le_of_ble_eq_true rfl) ?_
            rintro _ _ ⟨rfl, rfl⟩
            refine g_icmp_ge F d_X9_part_56 ⟨by omega, by omega⟩ ⟨by omega, by omega⟩ (fun h56 => ?_) (fun h56 => ?_)
            · refine g_iload F 4 rfl d_X9_part_103 ?_
              exact hQ d_X9_part_105 (⟨by unfold vPartM; rw [if_pos h6, if_pos h18, if_neg h25, hw, show a = nA x by omega]; rfl, hm, hC1⟩)
            · have hs3 := shl3 (a := a) (by omega)
              have hc3 := cutA_in h6.1 hs3
              refine g_aload_n F 0 rfl rfl d_X9_part_59 ?_
              refine g_iload_n F 1 rfl rfl d_X9_part_60 ?_
              refine g_iload_n F 1 rfl rfl d_X9_part_61 ?_
              refine g_Si F (own := RX9) (c_X9_allOf l E q sh τ x (by omega)) k_X9_130 [vI x, .ref (q 30)] d_X9_part_62 ⟨rfl, rfl, by decide, by decide⟩ ⟨Nat.zero_le _, Nat.zero_le _⟩ rfl (Nat.le_of_ble_eq_true rfl) ?_
              rintro _ _ ⟨rfl, rfl⟩
              refine g_iconst F d_X9_part_65 ?_
              refine g_iload F 5 rfl d_X9_part_66 ?_
              refine g_ishl F d_X9_part_68 ?_
              refine g_iconst F d_X9_part_69 ?_
              refine g_ixor F d_X9_part_70 ?_
              refine g_iand F d_X9_part_71 ?_
              refine G_top (b := cutA x (bShl 1 a)) (rfl) ?_
              refine g_Vv F (own := RX9) (c_X9_findMay l E q sh τ hs x (cutA x (bShl 1 a)) h6.1 (by omega) (hM.move hm) (hT.move hm) hC1) k_X9_123 (hsM_30 hs) rfl rfl [] d_X9_part_72 ⟨rfl, rfl, by decide, by decide⟩ ⟨Nat.zero_le _, Nat.zero_le _⟩ rfl (Nat.le_of_ble_eq_true rfl) ?_
              intro τ2 hf
              have hfe := found_eq h6.1 h6.2 (s := cutA x (bShl 1 a)) (by omega) hM hPx hm hf.2.2.1 hf.2.2.2
              refine g_iload F 4 rfl d_X9_part_75 ?_
              refine g_aload_n F 0 rfl rfl d_X9_part_77 ?_
              refine g_getR F f_X9_34 d_X9_part_78 (hsM_30 hs) rfl ?_
              refine g_iload_n F 2 rfl rfl d_X9_part_81 ?_
              refine g_iaload F d_X9_part_82 (hsM_39 hs) (by omega) (by omega) (by decide) ?_
              refine G_top (b := b2 (PV (cutA x (bShl 1 a)) (x * 30 + y))) (hfe) ?_
              refine g_if_ne F d_X9_part_83 ⟨by have := b2_in (PV (cutA x (bShl 1 a)) (x * 30 + y)); omega, by have := b2_in (PV (cutA x (bShl 1 a)) (x * 30 + y)); omega⟩ (fun h83 => ?_) (fun h83 => ?_)
              · refine g_iconst F d_X9_part_93 ?_
                refine g_ior F d_X9_part_94 ?_
                refine g_istore F (lv' := [(4, vI (bOr w 0)), (0, .ref (q 30)), (1, vI x), (2, vI y), (3, vI k), (5, vI a)]) (by decide) rfl d_X9_part_95 ?_
                refine g_iinc F (lv' := [(5, vI (a + 1)), (4, vI (bOr w 0)), (0, .ref (q 30)), (1, vI x), (2, vI y), (3, vI k)]) 5 rfl rfl (by decide) rfl d_X9_part_97 ?_
                refine g_goto F d_X9_part_100 ?_
                have hw2 : (bOr w 0) = c3 (a + 1) (!PV (cutA x 1) (x * 30 + y)) (!PV (cutA x 2) (x * 30 + y)) (!PV (cutA x 4) (x * 30 + y)) := by
                  rw [hw]
                  first
                    | (apply c3_with (by omega); rw [sel3 (by omega) (fun s => PV s (x * 30 + y)) x]; simp; exact b2_f.mp h83)
                    | (rw [c3_or0 (by omega)]; apply c3_skip (by omega); rw [sel3 (by omega) (fun s => PV s (x * 30 + y)) x]; simp; exact b2_nf h83)
                refine G_sub (ks := [2, 3, 4, 5, 1, 0]) rfl ?_
                exact ih50 (bOr w 0) (a + 1) τ2 (by omega) hw2 (hm.trans hf.1) hf.2.1 (by omega)
              · refine g_iconst F d_X9_part_86 ?_
                refine g_iload F 5 rfl d_X9_part_87 ?_
                refine g_ishl F d_X9_part_89 ?_
                refine g_goto F d_X9_part_90 ?_
                refine g_ior F d_X9_part_94 ?_
                refine g_istore F (lv' := [(4, vI (bOr w (bShl 1 a))), (0, .ref (q 30)), (1, vI x), (2, vI y), (3, vI k), (5, vI a)]) (by decide) rfl d_X9_part_95 ?_
                refine g_iinc F (lv' := [(5, vI (a + 1)), (4, vI (bOr w (bShl 1 a))), (0, .ref (q 30)), (1, vI x), (2, vI y), (3, vI k)]) 5 rfl rfl (by decide) rfl d_X9_part_97 ?_
                refine g_goto F d_X9_part_100 ?_
                have hw2 : (bOr w (bShl 1 a)) = c3 (a + 1) (!PV (cutA x 1) (x * 30 + y)) (!PV (cutA x 2) (x * 30 + y)) (!PV (cutA x 4) (x * 30 + y)) := by
                  rw [hw]
                  first
                    | (apply c3_with (by omega); rw [sel3 (by omega) (fun s => PV s (x * 30 + y)) x]; simp; exact b2_f.mp h83)
                    | (rw [c3_or0 (by omega)]; apply c3_skip (by omega); rw [sel3 (by omega) (fun s => PV s (x * 30 + y)) x]; simp; exact b2_nf h83)
                refine G_sub (ks := [2, 3, 4, 5, 1, 0]) rfl ?_
                exact ih50 (bOr w (bShl 1 a)) (a + 1) τ2 (by omega) hw2 (hm.trans hf.1) hf.2.1 (by omega)
        refine G_sub (ks := [2, 3, 4, 5, 1, 0]) rfl ?_
        exact loop50 _ 0 0 σ (by omega) (c3_0 _ _ _).symm (Sm.refl _ _) hC (Nat.lt_succ_self _)
      · refine g_aload_n F 0 rfl rfl d_X9_part_28 ?_
        refine g_iload_n F 1 rfl rfl d_X9_part_29 ?_
        refine g_iload_n F 1 rfl rfl d_X9_part_30 ?_
        refine g_Si F (own := RX9) (c_X9_allOf l E q sh σ x (by omega)) k_X9_130 [vI x, .ref (q 30)] d_X9_part_31 ⟨rfl, rfl, by decide, by decide⟩ ⟨Nat.zero_le _, Nat.zero_le _⟩ rfl (Nat.le_of_ble_eq_true rfl) ?_
        rintro _ _ ⟨rfl, rfl⟩
        refine g_Vv F (own := RX9) (c_X9_findMay l E q sh σ hs x (aA x) h6.1 (by omega) hM hT hC) k_X9_123 (hsM_30 hs) rfl rfl [] d_X9_part_34 ⟨rfl, rfl, by decide, by decide⟩ ⟨Nat.zero_le _, Nat.zero_le _⟩ rfl (Nat.le_of_ble_eq_true rfl) ?_
        intro τ2 hf
        have hfe := found_eq h6.1 h6.2 (s := aA x) (by omega) hM hPx (Sm.refl _ _) hf.2.2.1 hf.2.2.2
        refine g_aload_n F 0 rfl rfl d_X9_part_37 ?_
        refine g_getR F f_X9_34 d_X9_part_38 (hsM_30 hs) rfl ?_
        refine g_iload_n F 2 rfl rfl d_X9_part_41 ?_
        refine g_iaload F d_X9_part_42 (hsM_39 hs) (by omega) (by omega) (by decide) ?_
        exact hQ d_X9_part_43 (⟨by unfold vPartM; rw [if_pos h6, if_pos h18, if_pos h25]; exact hfe, hf.1, hf.2.1⟩)
    · refine g_bipush F (by decide) d_X9_part_21 ?_
      exact hQ d_X9_part_23 (⟨by unfold vPartM; rw [if_pos h6, if_neg h18], Sm.refl _ _, hC⟩)
  · refine g_iconst F d_X9_part_9 ?_
    exact hQ d_X9_part_10 (⟨by unfold vPartM; rw [if_neg h6], Sm.refl _ _, hC⟩)
