theorem kd_0 {x : Int} (h1 : ¬ (48 ≤ x ∧ x ≤ 55)) (h2 : ¬ (120 ≤ x ∧ x ≤ 122)) (h3 : x ≠ 33 ∧ x ≠ 42 ∧ x ≠ 43 ∧ x ≠ 45 ∧ x ≠ 63 ∧ x ≠ 102 ∧ x ≠ 103 ∧ x ≠ 104 ∧ x ≠ 107 ∧ x ≠ 109) : kd x = 0 := by
  unfold kd
  rw [if_neg h1, if_neg h2, if_neg (by omega), if_neg (by omega), if_neg (by omega), if_neg (by omega)]
/-- over so many texts: the place behind -/
def hop (Z : Int → Int) (a : Int) : Nat → Int
  | 0 => a
  | k + 1 => hop Z a k + Z (hop Z a k)
/-- where the text number t of the text at p begins -/
def tp (Z : Int → Int) (p t : Int) : Int := hop Z (p + 1) t.toNat
theorem tp_0 (Z : Int → Int) (p : Int) : tp Z p 0 = p + 1 := rfl
theorem tp_1 (Z : Int → Int) (p : Int) : tp Z p 1 = p + 1 + Z (p + 1) := rfl
theorem tp_2 (Z : Int → Int) (p : Int) : tp Z p 2 = p + 1 + Z (p + 1) + Z (p + 1 + Z (p + 1)) := rfl
theorem tp_succ (Z : Int → Int) (p t : Int) (h : 0 ≤ t) : tp Z p (t + 1) = tp Z p t + Z (tp Z p t) := by
  unfold tp
  rw [show (t + 1).toNat = t.toNat + 1 by omega]
  rfl
set_option maxHeartbeats 1000000 in
theorem c_X6_kindOf (l : Launch) (E : Ev) (q : Nat → Nat) (sh : List Shp) (σ : Sg) (x : Int) (rx : rg x) : CI l E yX6_kindOf cX6_kindOf 1 .int ({ frames := 0, cells := 0, slots := 0, locals := 0 } : Room) q sh σ [vI x] (is (kd x) σ) := by
  have rx1 := rx.1
  have rx2 := rx.2
  refine CI_of (own := RX6) (by decide) rfl (Nat.le_of_ble_eq_true rfl) (fun X Q F hQ => ?_)
  show G X E 1 q sh σ 0 0 Q 0 [(0, vI x)] []
  refine g_iload_n F 0 rfl rfl d_X6_kindOf_0 ?_
  refine g_bipush F (by decide) d_X6_kindOf_1 ?_
  refine g_icmp_lt F d_X6_kindOf_3 ⟨by omega, by omega⟩ ⟨by decide, by decide⟩ (fun h3 => ?_) (fun h3 => ?_)
  · refine g_iload_n F 0 rfl rfl d_X6_kindOf_14 ?_
    refine g_bipush F (by decide) d_X6_kindOf_15 ?_
    refine g_icmp_lt F d_X6_kindOf_17 ⟨by omega, by omega⟩ ⟨by decide, by decide⟩ (fun h17 => ?_) (fun h17 => ?_)
    · refine g_iload_n F 0 rfl rfl d_X6_kindOf_28 ?_
      have hc : x = 33 ∨ x = 42 ∨ x = 43 ∨ x = 45 ∨ x = 63 ∨ x = 102 ∨ x = 103 ∨ x = 104 ∨ x = 107 ∨ x = 109 ∨ (x ≠ 33 ∧ x ≠ 42 ∧ x ≠ 43 ∧ x ≠ 45 ∧ x ≠ 63 ∧ x ≠ 102 ∧ x ≠ 103 ∧ x ≠ 104 ∧ x ≠ 107 ∧ x ≠ 109) := by omega
      rcases hc with hc | hc | hc | hc | hc | hc | hc | hc | hc | hc | hc
      · refine g_look F d_X6_kindOf_29 ⟨by omega, by omega⟩ (off := 91) (tgt := 120) (by decide) (by rw [hc]; decide) rfl ?_
        refine g_iconst F d_X6_kindOf_120 ?_
        exact hQ d_X6_kindOf_121 (⟨kd_2.mpr hc, rfl⟩)
      · refine g_look F d_X6_kindOf_29 ⟨by omega, by omega⟩ (off := 93) (tgt := 122) (by decide) (by rw [hc]; decide) rfl ?_
        refine g_iconst F d_X6_kindOf_122 ?_
        exact hQ d_X6_kindOf_123 (⟨kd_4.mpr (by omega), rfl⟩)
      · refine g_look F d_X6_kindOf_29 ⟨by omega, by omega⟩ (off := 93) (tgt := 122) (by decide) (by rw [hc]; decide) rfl ?_
        refine g_iconst F d_X6_kindOf_122 ?_
        exact hQ d_X6_kindOf_123 (⟨kd_4.mpr (by omega), rfl⟩)
      · refine g_look F d_X6_kindOf_29 ⟨by omega, by omega⟩ (off := 93) (tgt := 122) (by decide) (by rw [hc]; decide) rfl ?_
        refine g_iconst F d_X6_kindOf_122 ?_
        exact hQ d_X6_kindOf_123 (⟨kd_4.mpr (by omega), rfl⟩)
      · refine g_look F d_X6_kindOf_29 ⟨by omega, by omega⟩ (off := 95) (tgt := 124) (by decide) (by rw [hc]; decide) rfl ?_
        refine g_iconst F d_X6_kindOf_124 ?_
        exact hQ d_X6_kindOf_125 (⟨kd_5.mpr hc, rfl⟩)
      · refine g_look F d_X6_kindOf_29 ⟨by omega, by omega⟩ (off := 97) (tgt := 126) (by decide) (by rw [hc]; decide) rfl ?_
        refine g_bipush F (by decide) d_X6_kindOf_126 ?_
        exact hQ d_X6_kindOf_128 (⟨kd_6.mpr (by omega), rfl⟩)
      · refine g_look F d_X6_kindOf_29 ⟨by omega, by omega⟩ (off := 97) (tgt := 126) (by decide) (by rw [hc]; decide) rfl ?_
        refine g_bipush F (by decide) d_X6_kindOf_126 ?_
        exact hQ d_X6_kindOf_128 (⟨kd_6.mpr (by omega), rfl⟩)
      · refine g_look F d_X6_kindOf_29 ⟨by omega, by omega⟩ (off := 97) (tgt := 126) (by decide) (by rw [hc]; decide) rfl ?_
        refine g_bipush F (by decide) d_X6_kindOf_126 ?_
        exact hQ d_X6_kindOf_128 (⟨kd_6.mpr (by omega), rfl⟩)
      · refine g_look F d_X6_kindOf_29 ⟨by omega, by omega⟩ (off := 97) (tgt := 126) (by decide) (by rw [hc]; decide) rfl ?_
        refine g_bipush F (by decide) d_X6_kindOf_126 ?_
        exact hQ d_X6_kindOf_128 (⟨kd_6.mpr (by omega), rfl⟩)
      · refine g_look F d_X6_kindOf_29 ⟨by omega, by omega⟩ (off := 93) (tgt := 122) (by decide) (by rw [hc]; decide) rfl ?_
        refine g_iconst F d_X6_kindOf_122 ?_
        exact hQ d_X6_kindOf_123 (⟨kd_4.mpr (by omega), rfl⟩)
      · refine g_look F d_X6_kindOf_29 ⟨by omega, by omega⟩ (off := 100) (tgt := 129) (by decide) (by show Op.lookupswitch.offset [(33, 91), (42, 93), (43, 93), (45, 93), (63, 95), (102, 97), (103, 97), (104, 97), (107, 97), (109, 93)] 100 x = 100; (repeat (rw [Op.lookupswitch.offset_cons, if_neg (by omega)])); rfl) rfl ?_
        refine g_iconst F d_X6_kindOf_129 ?_
        exact hQ d_X6_kindOf_130 (⟨kd_0 (by omega) (by omega) hc, rfl⟩)
    · refine g_iload_n F 0 rfl rfl d_X6_kindOf_20 ?_
      refine g_bipush F (by decide) d_X6_kindOf_21 ?_
      refine g_icmp_gt F d_X6_kindOf_23 ⟨by omega, by omega⟩ ⟨by decide, by decide⟩ (fun h23 => ?_) (fun h23 => ?_)
      · refine g_iload_n F 0 rfl rfl d_X6_kindOf_28 ?_
        have hc : x = 33 ∨ x = 42 ∨ x = 43 ∨ x = 45 ∨ x = 63 ∨ x = 102 ∨ x = 103 ∨ x = 104 ∨ x = 107 ∨ x = 109 ∨ (x ≠ 33 ∧ x ≠ 42 ∧ x ≠ 43 ∧ x ≠ 45 ∧ x ≠ 63 ∧ x ≠ 102 ∧ x ≠ 103 ∧ x ≠ 104 ∧ x ≠ 107 ∧ x ≠ 109) := by omega
        rcases hc with hc | hc | hc | hc | hc | hc | hc | hc | hc | hc | hc
        · refine g_look F d_X6_kindOf_29 ⟨by omega, by omega⟩ (off := 91) (tgt := 120) (by decide) (by rw [hc]; decide) rfl ?_
          refine g_iconst F d_X6_kindOf_120 ?_
          exact hQ d_X6_kindOf_121 (⟨kd_2.mpr hc, rfl⟩)
        · refine g_look F d_X6_kindOf_29 ⟨by omega, by omega⟩ (off := 93) (tgt := 122) (by decide) (by rw [hc]; decide) rfl ?_
          refine g_iconst F d_X6_kindOf_122 ?_
          exact hQ d_X6_kindOf_123 (⟨kd_4.mpr (by omega), rfl⟩)
        · refine g_look F d_X6_kindOf_29 ⟨by omega, by omega⟩ (off := 93) (tgt := 122) (by decide) (by rw [hc]; decide) rfl ?_
          refine g_iconst F d_X6_kindOf_122 ?_
          exact hQ d_X6_kindOf_123 (⟨kd_4.mpr (by omega), rfl⟩)
        · refine g_look F d_X6_kindOf_29 ⟨by omega, by omega⟩ (off := 93) (tgt := 122) (by decide) (by rw [hc]; decide) rfl ?_
          refine g_iconst F d_X6_kindOf_122 ?_
          exact hQ d_X6_kindOf_123 (⟨kd_4.mpr (by omega), rfl⟩)
        · refine g_look F d_X6_kindOf_29 ⟨by omega, by omega⟩ (off := 95) (tgt := 124) (by decide) (by rw [hc]; decide) rfl ?_
          refine g_iconst F d_X6_kindOf_124 ?_
          exact hQ d_X6_kindOf_125 (⟨kd_5.mpr hc, rfl⟩)
        · refine g_look F d_X6_kindOf_29 ⟨by omega, by omega⟩ (off := 97) (tgt := 126) (by decide) (by rw [hc]; decide) rfl ?_
          refine g_bipush F (by decide) d_X6_kindOf_126 ?_
          exact hQ d_X6_kindOf_128 (⟨kd_6.mpr (by omega), rfl⟩)
        · refine g_look F d_X6_kindOf_29 ⟨by omega, by omega⟩ (off := 97) (tgt := 126) (by decide) (by rw [hc]; decide) rfl ?_
          refine g_bipush F (by decide) d_X6_kindOf_126 ?_
          exact hQ d_X6_kindOf_128 (⟨kd_6.mpr (by omega), rfl⟩)
        · refine g_look F d_X6_kindOf_29 ⟨by omega, by omega⟩ (off := 97) (tgt := 126) (by decide) (by rw [hc]; decide) rfl ?_
          refine g_bipush F (by decide) d_X6_kindOf_126 ?_
          exact hQ d_X6_kindOf_128 (⟨kd_6.mpr (by omega), rfl⟩)
        · refine g_look F d_X6_kindOf_29 ⟨by omega, by omega⟩ (off := 97) (tgt := 126) (by decide) (by rw [hc]; decide) rfl ?_
          refine g_bipush F (by decide) d_X6_kindOf_126 ?_
          exact hQ d_X6_kindOf_128 (⟨kd_6.mpr (by omega), rfl⟩)
        · refine g_look F d_X6_kindOf_29 ⟨by omega, by omega⟩ (off := 93) (tgt := 122) (by decide) (by rw [hc]; decide) rfl ?_
          refine g_iconst F d_X6_kindOf_122 ?_
          exact hQ d_X6_kindOf_123 (⟨kd_4.mpr (by omega), rfl⟩)
        · refine g_look F d_X6_kindOf_29 ⟨by omega, by omega⟩ (off := 100) (tgt := 129) (by decide) (by show Op.lookupswitch.offset [(33, 91), (42, 93), (43, 93), (45, 93), (63, 95), (102, 97), (103, 97), (104, 97), (107, 97), (109, 93)] 100 x = 100; (repeat (rw [Op.lookupswitch.offset_cons, if_neg (by omega)])); rfl) rfl ?_
          refine g_iconst F d_X6_kindOf_129 ?_
          exact hQ d_X6_kindOf_130 (⟨kd_0 (by omega) (by omega) hc, rfl⟩)
      · refine g_iconst F d_X6_kindOf_26 ?_
        exact hQ d_X6_kindOf_27 (⟨kd_3.mpr (by omega), rfl⟩)
  · refine g_iload_n F 0 rfl rfl d_X6_kindOf_6 ?_
    refine g_bipush F (by decide) d_X6_kindOf_7 ?_
    refine g_icmp_gt F d_X6_kindOf_9 ⟨by omega, by omega⟩ ⟨by decide, by decide⟩ (fun h9 => ?_) (fun h9 => ?_)
    · refine g_iload_n F 0 rfl rfl d_X6_kindOf_14 ?_
      refine g_bipush F (by decide) d_X6_kindOf_15 ?_
      refine g_icmp_lt F d_X6_kindOf_17 ⟨by omega, by omega⟩ ⟨by decide, by decide⟩ (fun h17 => ?_) (fun h17 => ?_)
      · refine g_iload_n F 0 rfl rfl d_X6_kindOf_28 ?_
        have hc : x = 33 ∨ x = 42 ∨ x = 43 ∨ x = 45 ∨ x = 63 ∨ x = 102 ∨ x = 103 ∨ x = 104 ∨ x = 107 ∨ x = 109 ∨ (x ≠ 33 ∧ x ≠ 42 ∧ x ≠ 43 ∧ x ≠ 45 ∧ x ≠ 63 ∧ x ≠ 102 ∧ x ≠ 103 ∧ x ≠ 104 ∧ x ≠ 107 ∧ x ≠ 109) := by omega
        rcases hc with hc | hc | hc | hc | hc | hc | hc | hc | hc | hc | hc
        · refine g_look F d_X6_kindOf_29 ⟨by omega, by omega⟩ (off := 91) (tgt := 120) (by decide) (by rw [hc]; decide) rfl ?_
          refine g_iconst F d_X6_kindOf_120 ?_
          exact hQ d_X6_kindOf_121 (⟨kd_2.mpr hc, rfl⟩)
        · refine g_look F d_X6_kindOf_29 ⟨by omega, by omega⟩ (off := 93) (tgt := 122) (by decide) (by rw [hc]; decide) rfl ?_
          refine g_iconst F d_X6_kindOf_122 ?_
          exact hQ d_X6_kindOf_123 (⟨kd_4.mpr (by omega), rfl⟩)
        · refine g_look F d_X6_kindOf_29 ⟨by omega, by omega⟩ (off := 93) (tgt := 122) (by decide) (by rw [hc]; decide) rfl ?_
          refine g_iconst F d_X6_kindOf_122 ?_
          exact hQ d_X6_kindOf_123 (⟨kd_4.mpr (by omega), rfl⟩)
        · refine g_look F d_X6_kindOf_29 ⟨by omega, by omega⟩ (off := 93) (tgt := 122) (by decide) (by rw [hc]; decide) rfl ?_
          refine g_iconst F d_X6_kindOf_122 ?_
          exact hQ d_X6_kindOf_123 (⟨kd_4.mpr (by omega), rfl⟩)
        · refine g_look F d_X6_kindOf_29 ⟨by omega, by omega⟩ (off := 95) (tgt := 124) (by decide) (by rw [hc]; decide) rfl ?_
          refine g_iconst F d_X6_kindOf_124 ?_
          exact hQ d_X6_kindOf_125 (⟨kd_5.mpr hc, rfl⟩)
        · refine g_look F d_X6_kindOf_29 ⟨by omega, by omega⟩ (off := 97) (tgt := 126) (by decide) (by rw [hc]; decide) rfl ?_
          refine g_bipush F (by decide) d_X6_kindOf_126 ?_
          exact hQ d_X6_kindOf_128 (⟨kd_6.mpr (by omega), rfl⟩)
        · refine g_look F d_X6_kindOf_29 ⟨by omega, by omega⟩ (off := 97) (tgt := 126) (by decide) (by rw [hc]; decide) rfl ?_
          refine g_bipush F (by decide) d_X6_kindOf_126 ?_
          exact hQ d_X6_kindOf_128 (⟨kd_6.mpr (by omega), rfl⟩)
        · refine g_look F d_X6_kindOf_29 ⟨by omega, by omega⟩ (off := 97) (tgt := 126) (by decide) (by rw [hc]; decide) rfl ?_
          refine g_bipush F (by decide) d_X6_kindOf_126 ?_
          exact hQ d_X6_kindOf_128 (⟨kd_6.mpr (by omega), rfl⟩)
        · refine g_look F d_X6_kindOf_29 ⟨by omega, by omega⟩ (off := 97) (tgt := 126) (by decide) (by rw [hc]; decide) rfl ?_
          refine g_bipush F (by decide) d_X6_kindOf_126 ?_
          exact hQ d_X6_kindOf_128 (⟨kd_6.mpr (by omega), rfl⟩)
        · refine g_look F d_X6_kindOf_29 ⟨by omega, by omega⟩ (off := 93) (tgt := 122) (by decide) (by rw [hc]; decide) rfl ?_
          refine g_iconst F d_X6_kindOf_122 ?_
          exact hQ d_X6_kindOf_123 (⟨kd_4.mpr (by omega), rfl⟩)
        · refine g_look F d_X6_kindOf_29 ⟨by omega, by omega⟩ (off := 100) (tgt := 129) (by decide) (by show Op.lookupswitch.offset [(33, 91), (42, 93), (43, 93), (45, 93), (63, 95), (102, 97), (103, 97), (104, 97), (107, 97), (109, 93)] 100 x = 100; (repeat (rw [Op.lookupswitch.offset_cons, if_neg (by omega)])); rfl) rfl ?_
          refine g_iconst F d_X6_kindOf_129 ?_
          exact hQ d_X6_kindOf_130 (⟨kd_0 (by omega) (by omega) hc, rfl⟩)
      · refine g_iload_n F 0 rfl rfl d_X6_kindOf_20 ?_
        refine g_bipush F (by decide) d_X6_kindOf_21 ?_
        refine g_icmp_gt F d_X6_kindOf_23 ⟨by omega, by omega⟩ ⟨by decide, by decide⟩ (fun h23 => ?_) (fun h23 => ?_)
        · refine g_iload_n F 0 rfl rfl d_X6_kindOf_28 ?_
          have hc : x = 33 ∨ x = 42 ∨ x = 43 ∨ x = 45 ∨ x = 63 ∨ x = 102 ∨ x = 103 ∨ x = 104 ∨ x = 107 ∨ x = 109 ∨ (x ≠ 33 ∧ x ≠ 42 ∧ x ≠ 43 ∧ x ≠ 45 ∧ x ≠ 63 ∧ x ≠ 102 ∧ x ≠ 103 ∧ x ≠ 104 ∧ x ≠ 107 ∧ x ≠ 109) := by omega
          rcases hc with hc | hc | hc | hc | hc | hc | hc | hc | hc | hc | hc
          · refine g_look F d_X6_kindOf_29 ⟨by omega, by omega⟩ (off := 91) (tgt := 120) (by decide) (by rw [hc]; decide) rfl ?_
            refine g_iconst F d_X6_kindOf_120 ?_
            exact hQ d_X6_kindOf_121 (⟨kd_2.mpr hc, rfl⟩)
          · refine g_look F d_X6_kindOf_29 ⟨by omega, by omega⟩ (off := 93) (tgt := 122) (by decide) (by rw [hc]; decide) rfl ?_
            refine g_iconst F d_X6_kindOf_122 ?_
            exact hQ d_X6_kindOf_123 (⟨kd_4.mpr (by omega), rfl⟩)
          · refine g_look F d_X6_kindOf_29 ⟨by omega, by omega⟩ (off := 93) (tgt := 122) (by decide) (by rw [hc]; decide) rfl ?_
            refine g_iconst F d_X6_kindOf_122 ?_
            exact hQ d_X6_kindOf_123 (⟨kd_4.mpr (by omega), rfl⟩)
          · refine g_look F d_X6_kindOf_29 ⟨by omega, by omega⟩ (off := 93) (tgt := 122) (by decide) (by rw [hc]; decide) rfl ?_
            refine g_iconst F d_X6_kindOf_122 ?_
            exact hQ d_X6_kindOf_123 (⟨kd_4.mpr (by omega), rfl⟩)
          · refine g_look F d_X6_kindOf_29 ⟨by omega, by omega⟩ (off := 95) (tgt := 124) (by decide) (by rw [hc]; decide) rfl ?_
            refine g_iconst F d_X6_kindOf_124 ?_
            exact hQ d_X6_kindOf_125 (⟨kd_5.mpr hc, rfl⟩)
          · refine g_look F d_X6_kindOf_29 ⟨by omega, by omega⟩ (off := 97) (tgt := 126) (by decide) (by rw [hc]; decide) rfl ?_
            refine g_bipush F (by decide) d_X6_kindOf_126 ?_
            exact hQ d_X6_kindOf_128 (⟨kd_6.mpr (by omega), rfl⟩)
          · refine g_look F d_X6_kindOf_29 ⟨by omega, by omega⟩ (off := 97) (tgt := 126) (by decide) (by rw [hc]; decide) rfl ?_
            refine g_bipush F (by decide) d_X6_kindOf_126 ?_
            exact hQ d_X6_kindOf_128 (⟨kd_6.mpr (by omega), rfl⟩)
          · refine g_look F d_X6_kindOf_29 ⟨by omega, by omega⟩ (off := 97) (tgt := 126) (by decide) (by rw [hc]; decide) rfl ?_
            refine g_bipush F (by decide) d_X6_kindOf_126 ?_
            exact hQ d_X6_kindOf_128 (⟨kd_6.mpr (by omega), rfl⟩)
          · refine g_look F d_X6_kindOf_29 ⟨by omega, by omega⟩ (off := 97) (tgt := 126) (by decide) (by rw [hc]; decide) rfl ?_
            refine g_bipush F (by decide) d_X6_kindOf_126 ?_
            exact hQ d_X6_kindOf_128 (⟨kd_6.mpr (by omega), rfl⟩)
          · refine g_look F d_X6_kindOf_29 ⟨by omega, by omega⟩ (off := 93) (tgt := 122) (by decide) (by rw [hc]; decide) rfl ?_
            refine g_iconst F d_X6_kindOf_122 ?_
            exact hQ d_X6_kindOf_123 (⟨kd_4.mpr (by omega), rfl⟩)
          · refine g_look F d_X6_kindOf_29 ⟨by omega, by omega⟩ (off := 100) (tgt := 129) (by decide) (by show Op.lookupswitch.offset [(33, 91), (42, 93), (43, 93), (45, 93), (63, 95), (102, 97), (103, 97), (104, 97), (107, 97), (109, 93)] 100 x = 100; (repeat (rw [Op.lookupswitch.offset_cons, if_neg (by omega)])); rfl) rfl ?_
            refine g_iconst F d_X6_kindOf_129 ?_
            exact hQ d_X6_kindOf_130 (⟨kd_0 (by omega) (by omega) hc, rfl⟩)
        · refine g_iconst F d_X6_kindOf_26 ?_
          exact hQ d_X6_kindOf_27 (⟨kd_3.mpr (by omega), rfl⟩)
    · refine g_iconst F d_X6_kindOf_12 ?_
      exact hQ d_X6_kindOf_13 (⟨kd_1.mpr (by omega), rfl⟩)
set_option maxHeartbeats 1000000 in
theorem c_X6_worthOf (l : Launch) (E : Ev) (q : Nat → Nat) (sh : List Shp) (σ : Sg) (x : Int) (rx : rg x) : CI l E yX6_worthOf cX6_worthOf 1 .int ({ frames := 1, cells := 0, slots := 0, locals := 20 } : Room) q sh σ [vI x] (is (wo x) σ) := by
  have rx1 := rx.1
  have rx2 := rx.2
  have hk := kd_in x
  refine CI_of (own := RX6) (by decide) rfl (Nat.le_of_ble_eq_true rfl) (fun X Q F hQ => ?_)
  show G X E 1 q sh σ 0 0 Q 0 [(0, vI x)] []
  refine g_iload_n F 0 rfl rfl d_X6_worthOf_0 ?_
  refine g_Si F (own := RX6) (c_X6_kindOf l E q sh σ x ⟨by omega, by omega⟩) k_X6_9 [] d_X6_worthOf_1 ⟨rfl, rfl, by decide, by decide⟩ ⟨Nat.zero_le _, Nat.zero_le _⟩ rfl (Nat.le_of_ble_eq_true rfl) ?_
  rintro _ _ ⟨rfl, rfl⟩
  have hc : kd x = 1 ∨ kd x = 3 ∨ kd x = 6 ∨ (kd x ≠ 1 ∧ kd x ≠ 3 ∧ kd x ≠ 6) := by omega
  rcases hc with hc | hc | hc | hc
  · refine g_look F d_X6_worthOf_4 ⟨by omega, by omega⟩ (off := 36) (tgt := 40) (by decide) (by rw [hc]; decide) rfl ?_
    refine g_iload_n F 0 rfl rfl d_X6_worthOf_40 ?_
    refine g_bipush F (by decide) d_X6_worthOf_41 ?_
    refine g_isub F d_X6_worthOf_43 ?_
    exact hQ d_X6_worthOf_44 (⟨wo_1 hc, rfl⟩)
  · refine g_look F d_X6_worthOf_4 ⟨by omega, by omega⟩ (off := 41) (tgt := 45) (by decide) (by rw [hc]; decide) rfl ?_
    refine g_iload_n F 0 rfl rfl d_X6_worthOf_45 ?_
    refine g_bipush F (by decide) d_X6_worthOf_46 ?_
    refine g_isub F d_X6_worthOf_48 ?_
    exact hQ d_X6_worthOf_49 (⟨wo_3 hc, rfl⟩)
  · refine g_look F d_X6_worthOf_4 ⟨by omega, by omega⟩ (off := 46) (tgt := 50) (by decide) (by rw [hc]; decide) rfl ?_
    refine g_iload_n F 0 rfl rfl d_X6_worthOf_50 ?_
    refine g_bipush F (by decide) d_X6_worthOf_51 ?_
    refine g_icmp_ne F d_X6_worthOf_53 ⟨by omega, by omega⟩ ⟨by decide, by decide⟩ (fun h53 => ?_) (fun h53 => ?_)
    · refine g_iload_n F 0 rfl rfl d_X6_worthOf_60 ?_
      refine g_bipush F (by decide) d_X6_worthOf_61 ?_
      refine g_isub F d_X6_worthOf_63 ?_
      exact hQ d_X6_worthOf_64 (⟨by unfold wo; rw [if_neg (by omega), if_neg (by omega), if_pos hc]; simp [h53], rfl⟩)
    · refine g_iconst F d_X6_worthOf_56 ?_
      refine g_goto F d_X6_worthOf_57 ?_
      exact hQ d_X6_worthOf_64 (⟨by unfold wo; rw [if_neg (by omega), if_neg (by omega), if_pos hc]; simp [h53], rfl⟩)
  · refine g_look F d_X6_worthOf_4 ⟨by omega, by omega⟩ (off := 61) (tgt := 65) (by decide) (by show Op.lookupswitch.offset [(1, 36), (3, 41), (6, 46)] 61 (kd x) = 61; (repeat (rw [Op.lookupswitch.offset_cons, if_neg (by omega)])); rfl) rfl ?_
    refine g_iload_n F 0 rfl rfl d_X6_worthOf_65 ?_
    exact hQ d_X6_worthOf_66 (⟨by simp [wo, hc.1, hc.2.1, hc.2.2], rfl⟩)
set_option maxHeartbeats 1000000 in
theorem c_X6_textsOf (l : Launch) (E : Ev) (q : Nat → Nat) (sh : List Shp) (σ : Sg) (x : Int) (rx : rg x) : CI l E yX6_textsOf cX6_textsOf 1 .int ({ frames := 2, cells := 0, slots := 0, locals := 40 } : Room) q sh σ [vI x] (is (tx x) σ) := by
  have rx1 := rx.1
  have rx2 := rx.2
  have hk := kd_in x
  refine CI_of (own := RX6) (by decide) rfl (Nat.le_of_ble_eq_true rfl) (fun X Q F hQ => ?_)
  show G X E 1 q sh σ 0 0 Q 0 [(0, vI x)] []
  refine g_iload_n F 0 rfl rfl d_X6_textsOf_0 ?_
  refine g_Si F (own := RX6) (c_X6_kindOf l E q sh σ x ⟨by omega, by omega⟩) k_X6_9 [] d_X6_textsOf_1 ⟨rfl, rfl, by decide, by decide⟩ ⟨Nat.zero_le _, Nat.zero_le _⟩ rfl (Nat.le_of_ble_eq_true rfl) ?_
  rintro _ _ ⟨rfl, rfl⟩
  have hc : kd x = 4 ∨ kd x = 5 ∨ kd x = 6 ∨ (kd x < 4 ∨ 6 < kd x) := by omega
  rcases hc with hc | hc | hc | hc
  · refine g_tabIn F d_X6_textsOf_4 ⟨by omega, by omega⟩ 0 (tgt := 32) (by omega) (by decide) rfl rfl ?_
    refine g_iconst F d_X6_textsOf_32 ?_
    exact hQ d_X6_textsOf_33 (⟨by simp [tx, hc], rfl⟩)
  · refine g_tabIn F d_X6_textsOf_4 ⟨by omega, by omega⟩ 1 (tgt := 34) (by omega) (by decide) rfl rfl ?_
    refine g_iconst F d_X6_textsOf_34 ?_
    exact hQ d_X6_textsOf_35 (⟨by simp [tx, hc], rfl⟩)
  · have hw := wo_6 hc
    refine g_tabIn F d_X6_textsOf_4 ⟨by omega, by omega⟩ 2 (tgt := 36) (by omega) (by decide) rfl rfl ?_
    refine g_iload_n F 0 rfl rfl d_X6_textsOf_36 ?_
    refine g_Si F (own := RX6) (c_X6_worthOf l E q sh σ x ⟨by omega, by omega⟩) k_X6_13 [] d_X6_textsOf_37 ⟨rfl, rfl, by decide, by decide⟩ ⟨Nat.zero_le _, Nat.zero_le _⟩ rfl (Nat.le_of_ble_eq_true rfl) ?_
    rintro _ _ ⟨rfl, rfl⟩
    refine g_Ni F (own := RX6) (c_X8_argumentsOf l E q sh σ (wo x) ⟨by omega, by omega⟩) k_X6_16 [] d_X6_textsOf_40 ⟨rfl, rfl, by decide, by decide⟩ ⟨Nat.zero_le _, Nat.zero_le _⟩ rfl (Nat.le_of_ble_eq_true rfl) ?_
    rintro _ _ ⟨rfl, rfl⟩
    exact hQ d_X6_textsOf_43 (⟨by simp [tx, hc], rfl⟩)
  · refine g_tabOut F d_X6_textsOf_4 ⟨by omega, by omega⟩ (tgt := 44) (by omega) rfl ?_
    refine g_iconst F d_X6_textsOf_44 ?_
    exact hQ d_X6_textsOf_45 (⟨by unfold tx; rw [if_neg (by omega), if_neg (by omega), if_neg (by omega)], rfl⟩)
set_option maxHeartbeats 1000000 in
theorem c_X4_count (l : Launch) (E : Ev) (q : Nat → Nat) (sh : List Shp) (σ : Sg) (hs : HsC sh) : CI l E yX4_count cX4_count 1 .int ({ frames := 0, cells := 0, slots := 0, locals := 0 } : Room) q sh σ [.ref (q 1)] (is (σ 1 1) σ) := by
  refine CI_of (own := RX4) (by decide) rfl (Nat.le_of_ble_eq_true rfl) (fun X Q F hQ => ?_)
  show G X E 1 q sh σ 0 0 Q 0 [(0, .ref (q 1))] []
  refine g_aload_n F 0 rfl rfl d_X4_count_0 ?_
  refine g_getI F 1 f_X4_15 d_X4_count_1 (hsC_1 hs) rfl rfl ?_
  exact hQ d_X4_count_4 (⟨by first | rfl | omega | (simp only [*]; done) | (simp [*]; done) | (split <;> omega), rfl⟩)
set_option maxHeartbeats 1000000 in
theorem c_X4_clear (l : Launch) (E : Ev) (q : Nat → Nat) (sh : List Shp) (σ : Sg) (hs : HsC sh) : CV l E yX4_clear cX4_clear 1 ({ frames := 0, cells := 0, slots := 0, locals := 0 } : Room) q sh σ [.ref (q 1)] (isS (up σ 1 1 0)) := by
  refine CV_of (own := RX4) (by decide) rfl (Nat.le_of_ble_eq_true rfl) (fun X Q F hQ => ?_)
  show G X E 1 q sh σ 0 0 Q 0 [(0, .ref (q 1))] []
  refine g_aload_n F 0 rfl rfl d_X4_clear_0 ?_
  refine g_iconst F d_X4_clear_1 ?_
  refine g_putI F 1 f_X4_15 d_X4_clear_2 (hsC_1 hs) rfl rfl rfl rfl rfl ?_
  exact hQ d_X4_clear_5 (rfl)
set_option maxHeartbeats 1000000 in
theorem c_X4_signAt (l : Launch) (E : Ev) (q : Nat → Nat) (sh : List Shp) (σ : Sg) (hs : HsC sh) (p : Int) (hp : 0 ≤ p ∧ p < σ 1 1 ∧ σ 1 1 ≤ 30) : CI l E yX4_signAt cX4_signAt 2 .int ({ frames := 0, cells := 0, slots := 0, locals := 0 } : Room) q sh σ [.ref (q 1), vI p] (is (σ 2 p) σ) := by
  refine CI_of (own := RX4) (by decide) rfl (Nat.le_of_ble_eq_true rfl) (fun X Q F hQ => ?_)
  show G X E 2 q sh σ 0 0 Q 0 [(0, .ref (q 1)), (1, vI p)] []
  refine g_iload_n F 1 rfl rfl d_X4_signAt_0 ?_
  refine g_if_lt F d_X4_signAt_1 ⟨by omega, by omega⟩ (fun h1 => by exfalso; omega) (fun h1 => ?_)
  refine g_iload_n F 1 rfl rfl d_X4_signAt_4 ?_
  refine g_aload_n F 0 rfl rfl d_X4_signAt_5 ?_
  refine g_getI F 1 f_X4_15 d_X4_signAt_6 (hsC_1 hs) rfl rfl ?_
  refine g_icmp_ge F d_X4_signAt_9 ⟨by omega, by omega⟩ ⟨by omega, by omega⟩ (fun h9 => by exfalso; omega) (fun h9 => ?_)
  refine g_iload_n F 1 rfl rfl d_X4_signAt_12 ?_
  refine g_bipush F (by decide) d_X4_signAt_13 ?_
  refine g_icmp_ge F d_X4_signAt_15 ⟨by omega, by omega⟩ ⟨by decide, by decide⟩ (fun h15 => by exfalso; omega) (fun h15 => ?_)
  refine g_aload_n F 0 rfl rfl d_X4_signAt_18 ?_
  refine g_getR F f_X4_9 d_X4_signAt_19 (hsC_1 hs) rfl ?_
  refine g_iload_n F 1 rfl rfl d_X4_signAt_22 ?_
  refine g_iaload F d_X4_signAt_23 (hsC_2 hs) (by omega) (by omega) (by decide) ?_
  refine g_goto F d_X4_signAt_24 ?_
  exact hQ d_X4_signAt_28 (⟨by first | rfl | omega | (simp only [*]; done) | (simp [*]; done) | (split <;> omega), rfl⟩)
set_option maxHeartbeats 1000000 in
theorem c_X4_add (l : Launch) (E : Ev) (q : Nat → Nat) (sh : List Shp) (σ : Sg) (hs : HsC sh) (x : Int) (hn : 0 ≤ σ 1 1 ∧ σ 1 1 ≤ 30) : CI l E yX4_add cX4_add 2 .boolean ({ frames := 0, cells := 0, slots := 0, locals := 0 } : Room) q sh σ [.ref (q 1), vI x] (fun z τ => (σ 1 1 < 30 → z = 1 ∧ τ = up (up σ 2 (σ 1 1) x) 1 1 (σ 1 1 + 1)) ∧ (σ 1 1 = 30 → z = 0 ∧ τ = σ)) := by
  refine CB_of (own := RX4) (by decide) rfl (Nat.le_of_ble_eq_true rfl) (fun X Q F hQ => ?_)
  show G X E 2 q sh σ 0 0 Q 0 [(0, .ref (q 1)), (1, vI x)] []
  refine g_aload_n F 0 rfl rfl d_X4_add_0 ?_
  refine g_getI F 1 f_X4_15 d_X4_add_1 (hsC_1 hs) rfl rfl ?_
  refine g_if_lt F d_X4_add_4 ⟨by omega, by omega⟩ (fun h4 => by exfalso; omega) (fun h4 => ?_)
  refine g_aload_n F 0 rfl rfl d_X4_add_7 ?_
  refine g_getI F 1 f_X4_15 d_X4_add_8 (hsC_1 hs) rfl rfl ?_
  refine g_bipush F (by decide) d_X4_add_11 ?_
  refine g_icmp_lt F d_X4_add_13 ⟨by omega, by omega⟩ ⟨by decide, by decide⟩ (fun h13 => ?_) (fun h13 => ?_)
  · refine g_aload_n F 0 rfl rfl d_X4_add_18 ?_
    refine g_getR F f_X4_9 d_X4_add_19 (hsC_1 hs) rfl ?_
    refine g_aload_n F 0 rfl rfl d_X4_add_22 ?_
    refine g_getI F 1 f_X4_15 d_X4_add_23 (hsC_1 hs) rfl rfl ?_
    refine g_iload_n F 1 rfl rfl d_X4_add_26 ?_
    refine g_iastore F d_X4_add_27 (hsC_2 hs) (by omega) (by omega) (by decide) ?_
    refine g_aload_n F 0 rfl rfl d_X4_add_28 ?_
    refine g_dup F rfl d_X4_add_29 ?_
    refine g_getI F 1 f_X4_15 d_X4_add_30 (hsC_1 hs) rfl rfl ?_
    refine g_iconst F d_X4_add_33 ?_
    refine g_iadd F d_X4_add_34 ?_
    refine g_putI F 1 f_X4_15 d_X4_add_35 (hsC_1 hs) rfl rfl rfl rfl rfl ?_
    refine g_iconst F d_X4_add_38 ?_
    exact hQ d_X4_add_39 (Or.inr rfl) (⟨fun _ => ⟨rfl, by rw [up_ne σ (by decide)]⟩, fun h => by exfalso; omega⟩)
  · refine g_iconst F d_X4_add_16 ?_
    exact hQ d_X4_add_17 (Or.inl rfl) (⟨fun h => by exfalso; omega, fun _ => ⟨rfl, rfl⟩⟩)
set_option maxHeartbeats 1000000 in
theorem c_X0_count (l : Launch) (E : Ev) (q : Nat → Nat) (sh : List Shp) (σ : Sg) (hs : HsB sh) (x : Int) (hx : 0 ≤ x ∧ x < 4) : CI l E yX0_count cX0_count 2 .int ({ frames := 1, cells := 0, slots := 0, locals := 20 } : Room) q sh σ [.ref (q 5), vI x] (is (σ 6 x) σ) := by
  refine CI_of (own := RX0) (by decide) rfl (Nat.le_of_ble_eq_true rfl) (fun X Q F hQ => ?_)
  show G X E 2 q sh σ 0 0 Q 0 [(0, .ref (q 5)), (1, vI x)] []
  refine g_iload_n F 1 rfl rfl d_X0_count_0 ?_
  refine g_Ni F (own := RX0) (c_X8_isFunction l E q sh σ x ⟨by omega, by omega⟩) k_X0_42 [] d_X0_count_1 ⟨rfl, rfl, by decide, by decide⟩ ⟨Nat.zero_le _, Nat.zero_le _⟩ rfl (Nat.le_of_ble_eq_true rfl) ?_
  rintro _ _ ⟨rfl, rfl⟩
  refine g_b_eq F d_X0_count_4 (fun h4 => by exfalso; omega) (fun h4 => ?_)
  refine g_aload_n F 0 rfl rfl d_X0_count_7 ?_
  refine g_getR F f_X0_9 d_X0_count_8 (hsB_5 hs) rfl ?_
  refine g_iload_n F 1 rfl rfl d_X0_count_11 ?_
  refine g_iaload F d_X0_count_12 (hsB_6 hs) (by omega) (by omega) (by decide) ?_
  refine g_goto F d_X0_count_13 ?_
  exact hQ d_X0_count_17 (⟨by first | rfl | omega | (simp only [*]; done) | (simp [*]; done) | (split <;> omega), rfl⟩)
set_option maxHeartbeats 1000000 in
theorem c_X0_root (l : Launch) (E : Ev) (q : Nat → Nat) (sh : List Shp) (σ : Sg) (hs : HsB sh) (x : Int) (hx : 0 ≤ x ∧ x < 4) : CI l E yX0_root cX0_root 2 .int ({ frames := 1, cells := 0, slots := 0, locals := 20 } : Room) q sh σ [.ref (q 5), vI x] (is (x * 30) σ) := by
  refine CI_of (own := RX0) (by decide) rfl (Nat.le_of_ble_eq_true rfl) (fun X Q F hQ => ?_)
  show G X E 2 q sh σ 0 0 Q 0 [(0, .ref (q 5)), (1, vI x)] []
  refine g_iload_n F 1 rfl rfl d_X0_root_0 ?_
  refine g_Ni F (own := RX0) (c_X8_isFunction l E q sh σ x ⟨by omega, by omega⟩) k_X0_42 [] d_X0_root_1 ⟨rfl, rfl, by decide, by decide⟩ ⟨Nat.zero_le _, Nat.zero_le _⟩ rfl (Nat.le_of_ble_eq_true rfl) ?_
  rintro _ _ ⟨rfl, rfl⟩
  refine g_b_eq F d_X0_root_4 (fun h4 => by exfalso; omega) (fun h4 => ?_)
  refine g_iload_n F 1 rfl rfl d_X0_root_7 ?_
  refine g_bipush F (by decide) d_X0_root_8 ?_
  refine g_imul F d_X0_root_10 ?_
  refine g_goto F d_X0_root_11 ?_
  exact hQ d_X0_root_15 (⟨by first | rfl | omega | (simp only [*]; done) | (simp [*]; done) | (split <;> omega), rfl⟩)
set_option maxHeartbeats 1000000 in
theorem c_X0_signAt (l : Launch) (E : Ev) (q : Nat → Nat) (sh : List Shp) (σ : Sg) (hs : HsB sh) (p : Int) (hp : 0 ≤ p ∧ p < 120) : CI l E yX0_signAt cX0_signAt 2 .int ({ frames := 1, cells := 0, slots := 0, locals := 20 } : Room) q sh σ [.ref (q 5), vI p] (is (σ 7 p) σ) := by
  refine CI_of (own := RX0) (by decide) rfl (Nat.le_of_ble_eq_true rfl) (fun X Q F hQ => ?_)
  show G X E 2 q sh σ 0 0 Q 0 [(0, .ref (q 5)), (1, vI p)] []
  refine g_iload_n F 1 rfl rfl d_X0_signAt_0 ?_
  refine g_Ni F (own := RX0) (c_X8_isPlace l E q sh σ p ⟨by omega, by omega⟩) k_X0_55 [] d_X0_signAt_1 ⟨rfl, rfl, by decide, by decide⟩ ⟨Nat.zero_le _, Nat.zero_le _⟩ rfl (Nat.le_of_ble_eq_true rfl) ?_
  rintro _ _ ⟨rfl, rfl⟩
  refine g_b_eq F d_X0_signAt_4 (fun h4 => by exfalso; omega) (fun h4 => ?_)
  refine g_aload_n F 0 rfl rfl d_X0_signAt_7 ?_
  refine g_getR F f_X0_15 d_X0_signAt_8 (hsB_5 hs) rfl ?_
  refine g_iload_n F 1 rfl rfl d_X0_signAt_11 ?_
  refine g_iaload F d_X0_signAt_12 (hsB_7 hs) (by omega) (by omega) (by decide) ?_
  refine g_goto F d_X0_signAt_13 ?_
  exact hQ d_X0_signAt_18 (⟨by first | rfl | omega | (simp only [*]; done) | (simp [*]; done) | (split <;> omega), rfl⟩)
set_option maxHeartbeats 1000000 in
theorem c_X0_kindAt (l : Launch) (E : Ev) (q : Nat → Nat) (sh : List Shp) (σ : Sg) (hs : HsB sh) (p : Int) (hp : 0 ≤ p ∧ p < 120) : CI l E yX0_kindAt cX0_kindAt 2 .int ({ frames := 1, cells := 0, slots := 0, locals := 20 } : Room) q sh σ [.ref (q 5), vI p] (is (σ 8 p) σ) := by
  refine CI_of (own := RX0) (by decide) rfl (Nat.le_of_ble_eq_true rfl) (fun X Q F hQ => ?_)
  show G X E 2 q sh σ 0 0 Q 0 [(0, .ref (q 5)), (1, vI p)] []
  refine g_iload_n F 1 rfl rfl d_X0_kindAt_0 ?_
  refine g_Ni F (own := RX0) (c_X8_isPlace l E q sh σ p ⟨by omega, by omega⟩) k_X0_55 [] d_X0_kindAt_1 ⟨rfl, rfl, by decide, by decide⟩ ⟨Nat.zero_le _, Nat.zero_le _⟩ rfl (Nat.le_of_ble_eq_true rfl) ?_
  rintro _ _ ⟨rfl, rfl⟩
  refine g_b_eq F d_X0_kindAt_4 (fun h4 => by exfalso; omega) (fun h4 => ?_)
  refine g_aload_n F 0 rfl rfl d_X0_kindAt_7 ?_
  refine g_getR F f_X0_18 d_X0_kindAt_8 (hsB_5 hs) rfl ?_
  refine g_iload_n F 1 rfl rfl d_X0_kindAt_11 ?_
  refine g_iaload F d_X0_kindAt_12 (hsB_8 hs) (by omega) (by omega) (by decide) ?_
  refine g_goto F d_X0_kindAt_13 ?_
  exact hQ d_X0_kindAt_17 (⟨by first | rfl | omega | (simp only [*]; done) | (simp [*]; done) | (split <;> omega), rfl⟩)
set_option maxHeartbeats 1000000 in
theorem c_X0_worthAt (l : Launch) (E : Ev) (q : Nat → Nat) (sh : List Shp) (σ : Sg) (hs : HsB sh) (p : Int) (hp : 0 ≤ p ∧ p < 120) : CI l E yX0_worthAt cX0_worthAt 2 .int ({ frames := 1, cells := 0, slots := 0, locals := 20 } : Room) q sh σ [.ref (q 5), vI p] (is (σ 9 p) σ) := by
  refine CI_of (own := RX0) (by decide) rfl (Nat.le_of_ble_eq_true rfl) (fun X Q F hQ => ?_)
  show G X E 2 q sh σ 0 0 Q 0 [(0, .ref (q 5)), (1, vI p)] []
  refine g_iload_n F 1 rfl rfl d_X0_worthAt_0 ?_
  refine g_Ni F (own := RX0) (c_X8_isPlace l E q sh σ p ⟨by omega, by omega⟩) k_X0_55 [] d_X0_worthAt_1 ⟨rfl, rfl, by decide, by decide⟩ ⟨Nat.zero_le _, Nat.zero_le _⟩ rfl (Nat.le_of_ble_eq_true rfl) ?_
  rintro _ _ ⟨rfl, rfl⟩
  refine g_b_eq F d_X0_worthAt_4 (fun h4 => by exfalso; omega) (fun h4 => ?_)
  refine g_aload_n F 0 rfl rfl d_X0_worthAt_7 ?_
  refine g_getR F f_X0_21 d_X0_worthAt_8 (hsB_5 hs) rfl ?_
  refine g_iload_n F 1 rfl rfl d_X0_worthAt_11 ?_
  refine g_iaload F d_X0_worthAt_12 (hsB_9 hs) (by omega) (by omega) (by decide) ?_
  refine g_goto F d_X0_worthAt_13 ?_
  exact hQ d_X0_worthAt_17 (⟨by first | rfl | omega | (simp only [*]; done) | (simp [*]; done) | (split <;> omega), rfl⟩)
set_option maxHeartbeats 1000000 in
theorem c_X0_spanAt (l : Launch) (E : Ev) (q : Nat → Nat) (sh : List Shp) (σ : Sg) (hs : HsB sh) (p : Int) (hp : 0 ≤ p ∧ p < 120) : CI l E yX0_spanAt cX0_spanAt 2 .int ({ frames := 1, cells := 0, slots := 0, locals := 20 } : Room) q sh σ [.ref (q 5), vI p] (is (σ 10 p) σ) := by
  refine CI_of (own := RX0) (by decide) rfl (Nat.le_of_ble_eq_true rfl) (fun X Q F hQ => ?_)
  show G X E 2 q sh σ 0 0 Q 0 [(0, .ref (q 5)), (1, vI p)] []
  refine g_iload_n F 1 rfl rfl d_X0_spanAt_0 ?_
  refine g_Ni F (own := RX0) (c_X8_isPlace l E q sh σ p ⟨by omega, by omega⟩) k_X0_55 [] d_X0_spanAt_1 ⟨rfl, rfl, by decide, by decide⟩ ⟨Nat.zero_le _, Nat.zero_le _⟩ rfl (Nat.le_of_ble_eq_true rfl) ?_
  rintro _ _ ⟨rfl, rfl⟩
  refine g_b_eq F d_X0_spanAt_4 (fun h4 => by exfalso; omega) (fun h4 => ?_)
  refine g_aload_n F 0 rfl rfl d_X0_spanAt_7 ?_
  refine g_getR F f_X0_24 d_X0_spanAt_8 (hsB_5 hs) rfl ?_
  refine g_iload_n F 1 rfl rfl d_X0_spanAt_11 ?_
  refine g_iaload F d_X0_spanAt_12 (hsB_10 hs) (by omega) (by omega) (by decide) ?_
  refine g_goto F d_X0_spanAt_13 ?_
  exact hQ d_X0_spanAt_17 (⟨by first | rfl | omega | (simp only [*]; done) | (simp [*]; done) | (split <;> omega), rfl⟩)
set_option maxHeartbeats 1000000 in
theorem c_X0_depthAt (l : Launch) (E : Ev) (q : Nat → Nat) (sh : List Shp) (σ : Sg) (hs : HsB sh) (p : Int) (hp : 0 ≤ p ∧ p < 120) : CI l E yX0_depthAt cX0_depthAt 2 .int ({ frames := 1, cells := 0, slots := 0, locals := 20 } : Room) q sh σ [.ref (q 5), vI p] (is (σ 11 p) σ) := by
  refine CI_of (own := RX0) (by decide) rfl (Nat.le_of_ble_eq_true rfl) (fun X Q F hQ => ?_)
  show G X E 2 q sh σ 0 0 Q 0 [(0, .ref (q 5)), (1, vI p)] []
  refine g_iload_n F 1 rfl rfl d_X0_depthAt_0 ?_
  refine g_Ni F (own := RX0) (c_X8_isPlace l E q sh σ p ⟨by omega, by omega⟩) k_X0_55 [] d_X0_depthAt_1 ⟨rfl, rfl, by decide, by decide⟩ ⟨Nat.zero_le _, Nat.zero_le _⟩ rfl (Nat.le_of_ble_eq_true rfl) ?_
  rintro _ _ ⟨rfl, rfl⟩
  refine g_b_eq F d_X0_depthAt_4 (fun h4 => by exfalso; omega) (fun h4 => ?_)
  refine g_aload_n F 0 rfl rfl d_X0_depthAt_7 ?_
  refine g_getR F f_X0_27 d_X0_depthAt_8 (hsB_5 hs) rfl ?_
  refine g_iload_n F 1 rfl rfl d_X0_depthAt_11 ?_
  refine g_iaload F d_X0_depthAt_12 (hsB_11 hs) (by omega) (by omega) (by decide) ?_
  refine g_goto F d_X0_depthAt_13 ?_
  exact hQ d_X0_depthAt_17 (⟨by first | rfl | omega | (simp only [*]; done) | (simp [*]; done) | (split <;> omega), rfl⟩)
set_option maxHeartbeats 1000000 in
theorem c_X0_setSpan (l : Launch) (E : Ev) (q : Nat → Nat) (sh : List Shp) (σ : Sg) (hs : HsB sh) (p v : Int) (hp : 0 ≤ p ∧ p < 120) : CV l E yX0_setSpan cX0_setSpan 3 ({ frames := 1, cells := 0, slots := 0, locals := 20 } : Room) q sh σ [.ref (q 5), vI p, vI v] (isS (up σ 10 p v)) := by
  refine CV_of (own := RX0) (by decide) rfl (Nat.le_of_ble_eq_true rfl) (fun X Q F hQ => ?_)
  show G X E 3 q sh σ 0 0 Q 0 [(0, .ref (q 5)), (1, vI p), (2, vI v)] []
  refine g_iload_n F 1 rfl rfl d_X0_setSpan_0 ?_
  refine g_Ni F (own := RX0) (c_X8_isPlace l E q sh σ p ⟨by omega, by omega⟩) k_X0_55 [] d_X0_setSpan_1 ⟨rfl, rfl, by decide, by decide⟩ ⟨Nat.zero_le _, Nat.zero_le _⟩ rfl (Nat.le_of_ble_eq_true rfl) ?_
  rintro _ _ ⟨rfl, rfl⟩
  refine g_b_eq F d_X0_setSpan_4 (fun h4 => by exfalso; omega) (fun h4 => ?_)
  refine g_aload_n F 0 rfl rfl d_X0_setSpan_7 ?_
  refine g_getR F f_X0_24 d_X0_setSpan_8 (hsB_5 hs) rfl ?_
  refine g_iload_n F 1 rfl rfl d_X0_setSpan_11 ?_
  refine g_iload_n F 2 rfl rfl d_X0_setSpan_12 ?_
  refine g_iastore F d_X0_setSpan_13 (hsB_10 hs) (by omega) (by omega) (by decide) ?_
  exact hQ d_X0_setSpan_14 (rfl)
set_option maxHeartbeats 1000000 in
theorem c_X0_setDepth (l : Launch) (E : Ev) (q : Nat → Nat) (sh : List Shp) (σ : Sg) (hs : HsB sh) (p v : Int) (hp : 0 ≤ p ∧ p < 120) : CV l E yX0_setDepth cX0_setDepth 3 ({ frames := 1, cells := 0, slots := 0, locals := 20 } : Room) q sh σ [.ref (q 5), vI p, vI v] (isS (up σ 11 p v)) := by
  refine CV_of (own := RX0) (by decide) rfl (Nat.le_of_ble_eq_true rfl) (fun X Q F hQ => ?_)
  show G X E 3 q sh σ 0 0 Q 0 [(0, .ref (q 5)), (1, vI p), (2, vI v)] []
  refine g_iload_n F 1 rfl rfl d_X0_setDepth_0 ?_
  refine g_Ni F (own := RX0) (c_X8_isPlace l E q sh σ p ⟨by omega, by omega⟩) k_X0_55 [] d_X0_setDepth_1 ⟨rfl, rfl, by decide, by decide⟩ ⟨Nat.zero_le _, Nat.zero_le _⟩ rfl (Nat.le_of_ble_eq_true rfl) ?_
  rintro _ _ ⟨rfl, rfl⟩
  refine g_b_eq F d_X0_setDepth_4 (fun h4 => by exfalso; omega) (fun h4 => ?_)
  refine g_aload_n F 0 rfl rfl d_X0_setDepth_7 ?_
  refine g_getR F f_X0_27 d_X0_setDepth_8 (hsB_5 hs) rfl ?_
  refine g_iload_n F 1 rfl rfl d_X0_setDepth_11 ?_
  refine g_iload_n F 2 rfl rfl d_X0_setDepth_12 ?_
  refine g_iastore F d_X0_setDepth_13 (hsB_11 hs) (by omega) (by omega) (by decide) ?_
  exact hQ d_X0_setDepth_14 (rfl)
set_option maxHeartbeats 1000000 in
theorem c_X0_setSign (l : Launch) (E : Ev) (q : Nat → Nat) (sh : List Shp) (σ : Sg) (hs : HsB sh) (p v : Int) (hp : 0 ≤ p ∧ p < 120) (rv : rg v) : CV l E yX0_setSign cX0_setSign 3 ({ frames := 2, cells := 0, slots := 0, locals := 40 } : Room) q sh σ [.ref (q 5), vI p, vI v] (isS (up (up (up σ 7 p v) 8 p (kd v)) 9 p (wo v))) := by
  have rv1 := rv.1
  have rv2 := rv.2
  refine CV_of (own := RX0) (by decide) rfl (Nat.le_of_ble_eq_true rfl) (fun X Q F hQ => ?_)
  show G X E 3 q sh σ 0 0 Q 0 [(0, .ref (q 5)), (1, vI p), (2, vI v)] []
  refine g_iload_n F 1 rfl rfl d_X0_setSign_0 ?_
  refine g_Ni F (own := RX0) (c_X8_isPlace l E q sh σ p ⟨by omega, by omega⟩) k_X0_55 [] d_X0_setSign_1 ⟨rfl, rfl, by decide, by decide⟩ ⟨Nat.zero_le _, Nat.zero_le _⟩ rfl (Nat.le_of_ble_eq_true rfl) ?_
  rintro _ _ ⟨rfl, rfl⟩
  refine g_b_eq F d_X0_setSign_4 (fun h4 => by exfalso; omega) (fun h4 => ?_)
  refine g_aload_n F 0 rfl rfl d_X0_setSign_7 ?_
  refine g_getR F f_X0_15 d_X0_setSign_8 (hsB_5 hs) rfl ?_
  refine g_iload_n F 1 rfl rfl d_X0_setSign_11 ?_
  refine g_iload_n F 2 rfl rfl d_X0_setSign_12 ?_
  refine g_iastore F d_X0_setSign_13 (hsB_7 hs) (by omega) (by omega) (by decide) ?_
  refine g_aload_n F 0 rfl rfl d_X0_setSign_14 ?_
  refine g_getR F f_X0_18 d_X0_setSign_15 (hsB_5 hs) rfl ?_
  refine g_iload_n F 1 rfl rfl d_X0_setSign_18 ?_
  refine g_iload_n F 2 rfl rfl d_X0_setSign_19 ?_
  refine g_Si F (own := RX0) (c_X6_kindOf l E q sh (up σ 7 p v) v ⟨by omega, by omega⟩) k_X0_58 [vI p, .ref (q 8)] d_X0_setSign_20 ⟨rfl, rfl, by decide, by decide⟩ ⟨Nat.zero_le _, Nat.zero_le _⟩ rfl (Nat.le_of_ble_eq_true rfl) ?_
  rintro _ _ ⟨rfl, rfl⟩
  refine g_iastore F d_X0_setSign_23 (hsB_8 hs) (by omega) (by omega) (by decide) ?_
  refine g_aload_n F 0 rfl rfl d_X0_setSign_24 ?_
  refine g_getR F f_X0_21 d_X0_setSign_25 (hsB_5 hs) rfl ?_
  refine g_iload_n F 1 rfl rfl d_X0_setSign_28 ?_
  refine g_iload_n F 2 rfl rfl d_X0_setSign_29 ?_
  refine g_Si F (own := RX0) (c_X6_worthOf l E q sh (up (up σ 7 p v) 8 p (kd v)) v ⟨by omega, by omega⟩) k_X0_63 [vI p, .ref (q 9)] d_X0_setSign_30 ⟨rfl, rfl, by decide, by decide⟩ ⟨Nat.zero_le _, Nat.zero_le _⟩ rfl (Nat.le_of_ble_eq_true rfl) ?_
  rintro _ _ ⟨rfl, rfl⟩
  refine g_iastore F d_X0_setSign_33 (hsB_9 hs) (by omega) (by omega) (by decide) ?_
  exact hQ d_X0_setSign_34 (rfl)
set_option maxHeartbeats 1000000 in
theorem c_X0_textPlace (l : Launch) (E : Ev) (q : Nat → Nat) (sh : List Shp) (σ : Sg) (hs : HsB sh) (p t : Int) (hp : 0 ≤ p ∧ p < 120) (ht : 0 ≤ t ∧ t ≤ 3) (hh : ∀ j : Int, 0 ≤ j → j < t → 0 ≤ tp (σ 10) p j ∧ tp (σ 10) p j < 120) : CI l E yX0_textPlace cX0_textPlace 5 .int ({ frames := 0, cells := 0, slots := 0, locals := 0 } : Room) q sh σ [.ref (q 5), vI p, vI t] (is (tp (σ 10) p t) σ) := by
  refine CI_of (own := RX0) (by decide) rfl (Nat.le_of_ble_eq_true rfl) (fun X Q F hQ => ?_)
  show G X E 5 q sh σ 0 0 Q 0 [(0, .ref (q 5)), (1, vI p), (2, vI t)] []
  refine g_iload_n F 1 rfl rfl d_X0_textPlace_0 ?_
  refine g_iconst F d_X0_textPlace_1 ?_
  refine g_iadd F d_X0_textPlace_2 ?_
  refine g_istore_n F (lv' := [(3, vI (p + 1)), (0, .ref (q 5)), (1, vI p), (2, vI t)]) rfl (by decide) rfl d_X0_textPlace_3 ?_
  refine g_iconst F d_X0_textPlace_4 ?_
  refine g_istore F (lv' := [(4, vI 0), (3, vI (p + 1)), (0, .ref (q 5)), (1, vI p), (2, vI t)]) (by decide) rfl d_X0_textPlace_5 ?_
  have loop7 : ∀ (nn : Nat) (a : Int) (i : Int), (0 ≤ i ∧ i ≤ t) → (a = tp (σ 10) p i) → (t - i).toNat < nn → G X E 5 q sh σ 0 0 Q 7 [(0, .ref (q 5)), (1, vI p), (2, vI t), (3, vI a), (4, vI i)] [] := by
    intro n7
    induction n7 with
    | zero => intro a i hi ha hm7; exact absurd hm7 (Nat.not_lt_zero _)
    | succ n7 ih7 =>
      intro a i hi ha hm7
      refine g_iload F 4 rfl d_X0_textPlace_7 ?_
      refine g_iload_n F 2 rfl rfl d_X0_textPlace_9 ?_
      refine g_icmp_ge F d_X0_textPlace_10 ⟨by omega, by omega⟩ ⟨by omega, by omega⟩ (fun h10 => ?_) (fun h10 => ?_)
      · refine g_iload_n F 3 rfl rfl d_X0_textPlace_38 ?_
        exact hQ d_X0_textPlace_39 (⟨by rw [ha, show i = t by omega], rfl⟩)
      · have hb := hh i hi.1 (by omega)
        rw [← ha] at hb
        refine g_iload_n F 3 rfl rfl d_X0_textPlace_13 ?_
        refine g_if_lt F d_X0_textPlace_14 ⟨by omega, by omega⟩ (fun h14 => by exfalso; omega) (fun h14 => ?_)
        refine g_iload_n F 3 rfl rfl d_X0_textPlace_17 ?_
        refine g_bipush F (by decide) d_X0_textPlace_18 ?_
        refine g_icmp_ge F d_X0_textPlace_20 ⟨by omega, by omega⟩ ⟨by decide, by decide⟩ (fun h20 => by exfalso; omega) (fun h20 => ?_)
        refine g_iload_n F 3 rfl rfl d_X0_textPlace_23 ?_
        refine g_aload_n F 0 rfl rfl d_X0_textPlace_24 ?_
        refine g_getR F f_X0_24 d_X0_textPlace_25 (hsB_5 hs) rfl ?_
        refine g_iload_n F 3 rfl rfl d_X0_textPlace_28 ?_
        refine g_iaload F d_X0_textPlace_29 (hsB_10 hs) (by omega) (by omega) (by decide) ?_
        refine g_iadd F d_X0_textPlace_30 ?_
        refine g_istore_n F (lv' := [(3, vI (a + (σ 10 a))), (0, .ref (q 5)), (1, vI p), (2, vI t), (4, vI i)]) rfl (by decide) rfl d_X0_textPlace_31 ?_
        refine g_iinc F (lv' := [(4, vI (i + 1)), (3, vI (a + (σ 10 a))), (0, .ref (q 5)), (1, vI p), (2, vI t)]) 4 rfl rfl (by decide) rfl d_X0_textPlace_32 ?_
        refine g_goto F d_X0_textPlace_35 ?_
        refine G_sub (ks := [2, 3, 4, 1, 0]) rfl ?_
        exact ih7 (a + (σ 10 a)) (i + 1) (by omega) (by rw [tp_succ _ _ _ hi.1, ← ha]) (by omega)
  refine G_sub (ks := [2, 3, 4, 1, 0]) rfl ?_
  exact loop7 _ (p + 1) 0 (by omega) (tp_0 _ _).symm (Nat.lt_succ_self _)
