set_option maxHeartbeats 1000000 in
theorem c_X8_isFunction (l : Launch) (E : Ev) (q : Nat → Nat) (sh : List Shp) (σ : Sg) (x : Int) (rx : rg x) : CI l E yX8_isFunction cX8_isFunction 1 .boolean ({ frames := 0, cells := 0, slots := 0, locals := 0 } : Room) q sh σ [vI x] (is (if 0 ≤ x ∧ x < 4 then 1 else 0) σ) := by
  have rx1 := rx.1
  have rx2 := rx.2
  refine CB_of (own := RX8) (by decide) rfl (Nat.le_of_ble_eq_true rfl) (fun X Q F hQ => ?_)
  show G X E 1 q sh σ 0 0 Q 0 [(0, vI x)] []
  refine g_iload_n F 0 rfl rfl d_X8_isFunction_0 ?_
  refine g_if_lt F d_X8_isFunction_1 ⟨by omega, by omega⟩ (fun h1 => ?_) (fun h1 => ?_)
  · refine g_iconst F d_X8_isFunction_13 ?_
    exact hQ d_X8_isFunction_14 (Or.inl rfl) (⟨by split <;> omega, rfl⟩)
  · refine g_iload_n F 0 rfl rfl d_X8_isFunction_4 ?_
    refine g_iconst F d_X8_isFunction_5 ?_
    refine g_icmp_ge F d_X8_isFunction_6 ⟨by omega, by omega⟩ ⟨by decide, by decide⟩ (fun h6 => ?_) (fun h6 => ?_)
    · refine g_iconst F d_X8_isFunction_13 ?_
      exact hQ d_X8_isFunction_14 (Or.inl rfl) (⟨by split <;> omega, rfl⟩)
    · refine g_iconst F d_X8_isFunction_9 ?_
      refine g_goto F d_X8_isFunction_10 ?_
      exact hQ d_X8_isFunction_14 (Or.inr rfl) (⟨by split <;> omega, rfl⟩)
set_option maxHeartbeats 1000000 in
theorem c_X8_isPlace (l : Launch) (E : Ev) (q : Nat → Nat) (sh : List Shp) (σ : Sg) (x : Int) (rx : rg x) : CI l E yX8_isPlace cX8_isPlace 1 .boolean ({ frames := 0, cells := 0, slots := 0, locals := 0 } : Room) q sh σ [vI x] (is (if 0 ≤ x ∧ x < 120 then 1 else 0) σ) := by
  have rx1 := rx.1
  have rx2 := rx.2
  refine CB_of (own := RX8) (by decide) rfl (Nat.le_of_ble_eq_true rfl) (fun X Q F hQ => ?_)
  show G X E 1 q sh σ 0 0 Q 0 [(0, vI x)] []
  refine g_iload_n F 0 rfl rfl d_X8_isPlace_0 ?_
  refine g_if_lt F d_X8_isPlace_1 ⟨by omega, by omega⟩ (fun h1 => ?_) (fun h1 => ?_)
  · refine g_iconst F d_X8_isPlace_14 ?_
    exact hQ d_X8_isPlace_15 (Or.inl rfl) (⟨by split <;> omega, rfl⟩)
  · refine g_iload_n F 0 rfl rfl d_X8_isPlace_4 ?_
    refine g_bipush F (by decide) d_X8_isPlace_5 ?_
    refine g_icmp_ge F d_X8_isPlace_7 ⟨by omega, by omega⟩ ⟨by decide, by decide⟩ (fun h7 => ?_) (fun h7 => ?_)
    · refine g_iconst F d_X8_isPlace_14 ?_
      exact hQ d_X8_isPlace_15 (Or.inl rfl) (⟨by split <;> omega, rfl⟩)
    · refine g_iconst F d_X8_isPlace_10 ?_
      refine g_goto F d_X8_isPlace_11 ?_
      exact hQ d_X8_isPlace_15 (Or.inr rfl) (⟨by split <;> omega, rfl⟩)
set_option maxHeartbeats 1000000 in
theorem c_X8_isWay (l : Launch) (E : Ev) (q : Nat → Nat) (sh : List Shp) (σ : Sg) (x : Int) (rx : rg x) : CI l E yX8_isWay cX8_isWay 1 .boolean ({ frames := 0, cells := 0, slots := 0, locals := 0 } : Room) q sh σ [vI x] (is (if 0 ≤ x ∧ x < 4 then 1 else 0) σ) := by
  have rx1 := rx.1
  have rx2 := rx.2
  refine CB_of (own := RX8) (by decide) rfl (Nat.le_of_ble_eq_true rfl) (fun X Q F hQ => ?_)
  show G X E 1 q sh σ 0 0 Q 0 [(0, vI x)] []
  refine g_iload_n F 0 rfl rfl d_X8_isWay_0 ?_
  refine g_if_lt F d_X8_isWay_1 ⟨by omega, by omega⟩ (fun h1 => ?_) (fun h1 => ?_)
  · refine g_iconst F d_X8_isWay_13 ?_
    exact hQ d_X8_isWay_14 (Or.inl rfl) (⟨by split <;> omega, rfl⟩)
  · refine g_iload_n F 0 rfl rfl d_X8_isWay_4 ?_
    refine g_iconst F d_X8_isWay_5 ?_
    refine g_icmp_ge F d_X8_isWay_6 ⟨by omega, by omega⟩ ⟨by decide, by decide⟩ (fun h6 => ?_) (fun h6 => ?_)
    · refine g_iconst F d_X8_isWay_13 ?_
      exact hQ d_X8_isWay_14 (Or.inl rfl) (⟨by split <;> omega, rfl⟩)
    · refine g_iconst F d_X8_isWay_9 ?_
      refine g_goto F d_X8_isWay_10 ?_
      exact hQ d_X8_isWay_14 (Or.inr rfl) (⟨by split <;> omega, rfl⟩)
set_option maxHeartbeats 1000000 in
theorem c_X8_asAnswer (l : Launch) (E : Ev) (q : Nat → Nat) (sh : List Shp) (σ : Sg) (x : Int) (hx : x = 0 ∨ x = 1) : CI l E yX8_asAnswer cX8_asAnswer 1 .int ({ frames := 0, cells := 0, slots := 0, locals := 0 } : Room) q sh σ [vI x] (is (x) σ) := by
  refine CI_of (own := RX8) (by decide) rfl (Nat.le_of_ble_eq_true rfl) (fun X Q F hQ => ?_)
  show G X E 1 q sh σ 0 0 Q 0 [(0, vI x)] []
  refine g_iload_n F 0 rfl rfl d_X8_asAnswer_0 ?_
  refine g_if_eq F d_X8_asAnswer_1 ⟨by omega, by omega⟩ (fun h1 => ?_) (fun h1 => ?_)
  · refine g_iconst F d_X8_asAnswer_8 ?_
    exact hQ d_X8_asAnswer_9 (⟨by omega, rfl⟩)
  · refine g_iconst F d_X8_asAnswer_4 ?_
    refine g_goto F d_X8_asAnswer_5 ?_
    exact hQ d_X8_asAnswer_9 (⟨by omega, rfl⟩)
set_option maxHeartbeats 1000000 in
theorem c_X8_argumentsOf (l : Launch) (E : Ev) (q : Nat → Nat) (sh : List Shp) (σ : Sg) (x : Int) (rx : rg x) : CI l E yX8_argumentsOf cX8_argumentsOf 1 .int ({ frames := 1, cells := 0, slots := 0, locals := 20 } : Room) q sh σ [vI x] (is (nA x) σ) := by
  have rx1 := rx.1
  have rx2 := rx.2
  refine CI_of (own := RX8) (by decide) rfl (Nat.le_of_ble_eq_true rfl) (fun X Q F hQ => ?_)
  show G X E 1 q sh σ 0 0 Q 0 [(0, vI x)] []
  refine g_iload_n F 0 rfl rfl d_X8_argumentsOf_0 ?_
  refine g_Si F (own := RX8) (c_X8_isFunction l E q sh σ x ⟨by omega, by omega⟩) k_X8_75 [] d_X8_argumentsOf_1 ⟨rfl, rfl, by decide, by decide⟩ ⟨Nat.zero_le _, Nat.zero_le _⟩ rfl (Nat.le_of_ble_eq_true rfl) ?_
  rintro _ _ ⟨rfl, rfl⟩
  refine g_b_eq F d_X8_argumentsOf_4 (fun h4 => ?_) (fun h4 => ?_)
  · refine g_iconst F d_X8_argumentsOf_15 ?_
    exact hQ d_X8_argumentsOf_16 (⟨by first | exact (stV_0 (by assumption)).symm | exact nA_out (by assumption), rfl⟩)
  · refine g_gets F 0 (by decide) rfl (mg 150 (by decide +kernel) rfl) d_X8_argumentsOf_7 ?_
    refine g_iload_n F 0 rfl rfl d_X8_argumentsOf_10 ?_
    refine g_sald F 0 (by decide) (by omega) (by show _ < (4 : Int); omega) d_X8_argumentsOf_11 ?_
    refine g_goto F d_X8_argumentsOf_12 ?_
    exact hQ d_X8_argumentsOf_16 (⟨by first | exact (stV_0 (by assumption)).symm | exact nA_out (by assumption), rfl⟩)
set_option maxHeartbeats 1000000 in
theorem c_X8_hasArgument (l : Launch) (E : Ev) (q : Nat → Nat) (sh : List Shp) (σ : Sg) (x y : Int) (rx : rg x) (ry : rg y) : CI l E yX8_hasArgument cX8_hasArgument 2 .boolean ({ frames := 1, cells := 0, slots := 0, locals := 20 } : Room) q sh σ [vI x, vI y] (is (if (0 ≤ x ∧ x < 4) ∧ 0 ≤ y ∧ y < nA x then 1 else 0) σ) := by
  have rx1 := rx.1
  have rx2 := rx.2
  have ry1 := ry.1
  have ry2 := ry.2
  have hn := nA_in x
  refine CB_of (own := RX8) (by decide) rfl (Nat.le_of_ble_eq_true rfl) (fun X Q F hQ => ?_)
  show G X E 2 q sh σ 0 0 Q 0 [(0, vI x), (1, vI y)] []
  refine g_iload_n F 0 rfl rfl d_X8_hasArgument_0 ?_
  refine g_Si F (own := RX8) (c_X8_isFunction l E q sh σ x ⟨by omega, by omega⟩) k_X8_75 [] d_X8_hasArgument_1 ⟨rfl, rfl, by decide, by decide⟩ ⟨Nat.zero_le _, Nat.zero_le _⟩ rfl (Nat.le_of_ble_eq_true rfl) ?_
  rintro _ _ ⟨rfl, rfl⟩
  refine g_b_eq F d_X8_hasArgument_4 (fun h4 => ?_) (fun h4 => ?_)
  · refine g_iconst F d_X8_hasArgument_24 ?_
    exact hQ d_X8_hasArgument_25 (Or.inl rfl) (⟨by first | (rw [if_neg (by omega)]; done) | (rw [if_pos (by omega)]; done), rfl⟩)
  · refine g_iload_n F 1 rfl rfl d_X8_hasArgument_7 ?_
    refine g_if_lt F d_X8_hasArgument_8 ⟨by omega, by omega⟩ (fun h8 => ?_) (fun h8 => ?_)
    · refine g_iconst F d_X8_hasArgument_24 ?_
      exact hQ d_X8_hasArgument_25 (Or.inl rfl) (⟨by first | (rw [if_neg (by omega)]; done) | (rw [if_pos (by omega)]; done), rfl⟩)
    · refine g_iload_n F 1 rfl rfl d_X8_hasArgument_11 ?_
      refine g_gets F 0 (by decide) rfl (mg 150 (by decide +kernel) rfl) d_X8_hasArgument_12 ?_
      refine g_iload_n F 0 rfl rfl d_X8_hasArgument_15 ?_
      refine g_sald F 0 (by decide) (by omega) (by show _ < (4 : Int); omega) d_X8_hasArgument_16 ?_
      refine G_top (b := nA x) (stV_0 h4) ?_
      refine g_icmp_ge F d_X8_hasArgument_17 ⟨by omega, by omega⟩ ⟨by omega, by omega⟩ (fun h17 => ?_) (fun h17 => ?_)
      · refine g_iconst F d_X8_hasArgument_24 ?_
        exact hQ d_X8_hasArgument_25 (Or.inl rfl) (⟨by first | (rw [if_neg (by omega)]; done) | (rw [if_pos (by omega)]; done), rfl⟩)
      · refine g_iconst F d_X8_hasArgument_20 ?_
        refine g_goto F d_X8_hasArgument_21 ?_
        exact hQ d_X8_hasArgument_25 (Or.inr rfl) (⟨by first | (rw [if_neg (by omega)]; done) | (rw [if_pos (by omega)]; done), rfl⟩)
set_option maxHeartbeats 1000000 in
theorem c_X8_allArguments (l : Launch) (E : Ev) (q : Nat → Nat) (sh : List Shp) (σ : Sg) (x : Int) (rx : rg x) : CI l E yX8_allArguments cX8_allArguments 1 .int ({ frames := 2, cells := 0, slots := 0, locals := 40 } : Room) q sh σ [vI x] (is (aA x) σ) := by
  have rx1 := rx.1
  have rx2 := rx.2
  refine CI_of (own := RX8) (by decide) rfl (Nat.le_of_ble_eq_true rfl) (fun X Q F hQ => ?_)
  show G X E 1 q sh σ 0 0 Q 0 [(0, vI x)] []
  refine g_iconst F d_X8_allArguments_0 ?_
  refine g_iload_n F 0 rfl rfl d_X8_allArguments_1 ?_
  refine g_Si F (own := RX8) (c_X8_argumentsOf l E q sh σ x ⟨by omega, by omega⟩) k_X8_168 [vI 1] d_X8_allArguments_2 ⟨rfl, rfl, by decide, by decide⟩ ⟨Nat.zero_le _, Nat.zero_le _⟩ rfl (Nat.le_of_ble_eq_true rfl) ?_
  rintro _ _ ⟨rfl, rfl⟩
  refine g_ishl F d_X8_allArguments_5 ?_
  refine g_iconst F d_X8_allArguments_6 ?_
  refine g_isub F d_X8_allArguments_7 ?_
  exact hQ d_X8_allArguments_8 (⟨(aA_eq x).symm, rfl⟩)
set_option maxHeartbeats 1000000 in
theorem c_X8_shiftOf (l : Launch) (E : Ev) (q : Nat → Nat) (sh : List Shp) (σ : Sg) (x y : Int) (rx : rg x) (ry : rg y) : CI l E yX8_shiftOf cX8_shiftOf 2 .int ({ frames := 2, cells := 0, slots := 0, locals := 40 } : Room) q sh σ [vI x, vI y] (is (3 * (nA x - 1 - y)) σ) := by
  have rx1 := rx.1
  have rx2 := rx.2
  have ry1 := ry.1
  have ry2 := ry.2
  refine CI_of (own := RX8) (by decide) rfl (Nat.le_of_ble_eq_true rfl) (fun X Q F hQ => ?_)
  show G X E 2 q sh σ 0 0 Q 0 [(0, vI x), (1, vI y)] []
  refine g_iconst F d_X8_shiftOf_0 ?_
  refine g_iload_n F 0 rfl rfl d_X8_shiftOf_1 ?_
  refine g_Si F (own := RX8) (c_X8_argumentsOf l E q sh σ x ⟨by omega, by omega⟩) k_X8_168 [vI 3] d_X8_shiftOf_2 ⟨rfl, rfl, by decide, by decide⟩ ⟨Nat.zero_le _, Nat.zero_le _⟩ rfl (Nat.le_of_ble_eq_true rfl) ?_
  rintro _ _ ⟨rfl, rfl⟩
  refine g_iconst F d_X8_shiftOf_5 ?_
  refine g_isub F d_X8_shiftOf_6 ?_
  refine g_iload_n F 1 rfl rfl d_X8_shiftOf_7 ?_
  refine g_isub F d_X8_shiftOf_8 ?_
  refine g_imul F d_X8_shiftOf_9 ?_
  exact hQ d_X8_shiftOf_10 (⟨by first | rfl | omega | (simp only [*]; done) | (simp [*]; done) | (split <;> omega), rfl⟩)
set_option maxHeartbeats 1000000 in
theorem c_X8_sortOfEnd (l : Launch) (E : Ev) (q : Nat → Nat) (sh : List Shp) (σ : Sg) (x : Int) (rx : rg x) : CI l E yX8_sortOfEnd cX8_sortOfEnd 1 .int ({ frames := 0, cells := 0, slots := 0, locals := 0 } : Room) q sh σ [vI x] (is (if x < 8 then 0 else x - 7) σ) := by
  have rx1 := rx.1
  have rx2 := rx.2
  refine CI_of (own := RX8) (by decide) rfl (Nat.le_of_ble_eq_true rfl) (fun X Q F hQ => ?_)
  show G X E 1 q sh σ 0 0 Q 0 [(0, vI x)] []
  refine g_iload_n F 0 rfl rfl d_X8_sortOfEnd_0 ?_
  refine g_bipush F (by decide) d_X8_sortOfEnd_1 ?_
  refine g_icmp_ge F d_X8_sortOfEnd_3 ⟨by omega, by omega⟩ ⟨by decide, by decide⟩ (fun h3 => ?_) (fun h3 => ?_)
  · refine g_iload_n F 0 rfl rfl d_X8_sortOfEnd_10 ?_
    refine g_bipush F (by decide) d_X8_sortOfEnd_11 ?_
    refine g_isub F d_X8_sortOfEnd_13 ?_
    refine g_iconst F d_X8_sortOfEnd_14 ?_
    refine g_iadd F d_X8_sortOfEnd_15 ?_
    exact hQ d_X8_sortOfEnd_16 (⟨by split <;> omega, rfl⟩)
  · refine g_iconst F d_X8_sortOfEnd_6 ?_
    refine g_goto F d_X8_sortOfEnd_7 ?_
    exact hQ d_X8_sortOfEnd_16 (⟨by split <;> omega, rfl⟩)
