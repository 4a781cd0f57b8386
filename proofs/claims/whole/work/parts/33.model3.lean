/-! the reference: the machine's small steps, told ARGUMENTS -/
def nGo (σ : Sg) (n c : Int) : Sg := up (up σ 30 21 n) 30 22 c
def nCome (σ : Sg) (v : Int) : Sg := up (up σ 30 21 (-1)) 30 23 v
def nWait (σ : Sg) (k n c m : Int) : Sg := up (up (up (up (up σ 44 (σ 30 18) k) 45 (σ 30 18) n) 46 (σ 30 18) c) 47 (σ 30 18) m) 30 18 (σ 30 18 + 1)
/-- how often by nine -/
def dv (a : Int) : Nat → Int
  | 0 => a
  | j + 1 => dv a j / 9
theorem dv_in {a : Int} (h : 0 ≤ a ∧ a < 729) : ∀ j : Nat, 0 ≤ dv a j ∧ dv a j < 729
  | 0 => h
  | j + 1 => by
    have ih := dv_in h j
    unfold dv
    omega
def tdo (f a k : Int) : Int := dv a (nA f - 1 - k).toNat % 9
def arN (f a : Int) : Nat → Bool
  | 0 => true
  | j + 1 => arN f a j && decide (tdo f a j < 8)
set_option maxHeartbeats 1000000 in
theorem c_X9_come (l : Launch) (E : Ev) (q : Nat → Nat) (sh : List Shp) (σ : Sg) (hs : HsM sh) (v : Int) : CV l E yX9_come cX9_come 2 ({ frames := 0, cells := 0, slots := 0, locals := 0 } : Room) q sh σ [.ref (q 30), vI v] (isS (nCome σ v)) := by
  refine CV_of (own := RX9) (by decide) rfl (Nat.le_of_ble_eq_true rfl) (fun X Q F hQ => ?_)
  show G X E 2 q sh σ 0 0 Q 0 [(0, .ref (q 30)), (1, vI v)] []
  refine g_aload_n F 0 rfl rfl d_X9_come_0 ?_
  refine g_iconst F d_X9_come_1 ?_
  refine g_putI F 21 f_X9_149 d_X9_come_2 (hsM_30 hs) rfl rfl rfl rfl rfl ?_
  refine g_aload_n F 0 rfl rfl d_X9_come_5 ?_
  refine g_iload_n F 1 rfl rfl d_X9_come_6 ?_
  refine g_putI F 23 f_X9_152 d_X9_come_7 (hsM_30 hs) rfl rfl rfl rfl rfl ?_
  exact hQ d_X9_come_10 (rfl)
set_option maxHeartbeats 1000000 in
theorem c_X9_go (l : Launch) (E : Ev) (q : Nat → Nat) (sh : List Shp) (σ : Sg) (hs : HsM sh) (n c : Int) : CV l E yX9_go cX9_go 3 ({ frames := 0, cells := 0, slots := 0, locals := 0 } : Room) q sh σ [.ref (q 30), vI n, vI c] (isS (nGo σ n c)) := by
  refine CV_of (own := RX9) (by decide) rfl (Nat.le_of_ble_eq_true rfl) (fun X Q F hQ => ?_)
  show G X E 3 q sh σ 0 0 Q 0 [(0, .ref (q 30)), (1, vI n), (2, vI c)] []
  refine g_aload_n F 0 rfl rfl d_X9_go_0 ?_
  refine g_iload_n F 1 rfl rfl d_X9_go_1 ?_
  refine g_putI F 21 f_X9_149 d_X9_go_2 (hsM_30 hs) rfl rfl rfl rfl rfl ?_
  refine g_aload_n F 0 rfl rfl d_X9_go_5 ?_
  refine g_iload_n F 2 rfl rfl d_X9_go_6 ?_
  refine g_putI F 22 f_X9_155 d_X9_go_7 (hsM_30 hs) rfl rfl rfl rfl rfl ?_
  exact hQ d_X9_go_10 (rfl)
set_option maxHeartbeats 1000000 in
theorem c_X9_waitFor (l : Launch) (E : Ev) (q : Nat → Nat) (sh : List Shp) (σ : Sg) (hs : HsM sh) (k n c m : Int) (hw : 0 ≤ σ 30 18 ∧ σ 30 18 < 1000) : CV l E yX9_waitFor cX9_waitFor 5 ({ frames := 0, cells := 0, slots := 0, locals := 0 } : Room) q sh σ [.ref (q 30), vI k, vI n, vI c, vI m] (isS (nWait σ k n c m)) := by
  refine CV_of (own := RX9) (by decide) rfl (Nat.le_of_ble_eq_true rfl) (fun X Q F hQ => ?_)
  show G X E 5 q sh σ 0 0 Q 0 [(0, .ref (q 30)), (1, vI k), (2, vI n), (3, vI c), (4, vI m)] []
  refine g_aload_n F 0 rfl rfl d_X9_waitFor_0 ?_
  refine g_getR F f_X9_49 d_X9_waitFor_1 (hsM_30 hs) rfl ?_
  refine g_aload_n F 0 rfl rfl d_X9_waitFor_4 ?_
  refine g_getI F 18 f_X9_145 d_X9_waitFor_5 (hsM_30 hs) rfl rfl ?_
  refine g_iload_n F 1 rfl rfl d_X9_waitFor_8 ?_
  refine g_iastore F d_X9_waitFor_9 (hsM_44 hs) (by omega) (by omega) (by decide) ?_
  refine g_aload_n F 0 rfl rfl d_X9_waitFor_10 ?_
  refine g_getR F f_X9_52 d_X9_waitFor_11 (hsM_30 hs) rfl ?_
  refine g_aload_n F 0 rfl rfl d_X9_waitFor_14 ?_
  refine g_getI F 18 f_X9_145 d_X9_waitFor_15 (hsM_30 hs) rfl rfl ?_
  refine G_top (b := σ 30 18) (by rw [up_ne _ (by decide)]) ?_
  refine g_iload_n F 2 rfl rfl d_X9_waitFor_18 ?_
  refine g_iastore F d_X9_waitFor_19 (hsM_45 hs) (by omega) (by omega) (by decide) ?_
  refine g_aload_n F 0 rfl rfl d_X9_waitFor_20 ?_
  refine g_getR F f_X9_55 d_X9_waitFor_21 (hsM_30 hs) rfl ?_
  refine g_aload_n F 0 rfl rfl d_X9_waitFor_24 ?_
  refine g_getI F 18 f_X9_145 d_X9_waitFor_25 (hsM_30 hs) rfl rfl ?_
  refine G_top (b := σ 30 18) (by rw [up_ne _ (by decide), up_ne _ (by decide)]) ?_
  refine g_iload_n F 3 rfl rfl d_X9_waitFor_28 ?_
  refine g_iastore F d_X9_waitFor_29 (hsM_46 hs) (by omega) (by omega) (by decide) ?_
  refine g_aload_n F 0 rfl rfl d_X9_waitFor_30 ?_
  refine g_getR F f_X9_58 d_X9_waitFor_31 (hsM_30 hs) rfl ?_
  refine g_aload_n F 0 rfl rfl d_X9_waitFor_34 ?_
  refine g_getI F 18 f_X9_145 d_X9_waitFor_35 (hsM_30 hs) rfl rfl ?_
  refine G_top (b := σ 30 18) (by rw [up_ne _ (by decide), up_ne _ (by decide), up_ne _ (by decide)]) ?_
  refine g_iload F 4 rfl d_X9_waitFor_38 ?_
  refine g_iastore F d_X9_waitFor_40 (hsM_47 hs) (by omega) (by omega) (by decide) ?_
  refine g_aload_n F 0 rfl rfl d_X9_waitFor_41 ?_
  refine g_dup F rfl d_X9_waitFor_42 ?_
  refine g_getI F 18 f_X9_145 d_X9_waitFor_43 (hsM_30 hs) rfl rfl ?_
  refine G_top (b := σ 30 18) (by rw [up_ne _ (by decide), up_ne _ (by decide), up_ne _ (by decide), up_ne _ (by decide)]) ?_
  refine g_iconst F d_X9_waitFor_46 ?_
  refine g_iadd F d_X9_waitFor_47 ?_
  refine g_putI F 18 f_X9_145 d_X9_waitFor_48 (hsM_30 hs) rfl rfl rfl rfl rfl ?_
  exact hQ d_X9_waitFor_51 (rfl)
set_option maxHeartbeats 1000000 in
theorem c_X9_toldOne (l : Launch) (E : Ev) (q : Nat → Nat) (sh : List Shp) (σ : Sg) (x y k : Int) (hx : 0 ≤ x ∧ x < 4) (hy : 0 ≤ y ∧ y < 729) (hk : 0 ≤ k ∧ k < nA x) : CI l E yX9_toldOne cX9_toldOne 5 .int ({ frames := 1, cells := 0, slots := 0, locals := 20 } : Room) q sh σ [vI x, vI y, vI k] (is (tdo x y k) σ) := by
  have hn := nA_in x
  refine CI_of (own := RX9) (by decide) rfl (Nat.le_of_ble_eq_true rfl) (fun X Q F hQ => ?_)
  show G X E 5 q sh σ 0 0 Q 0 [(0, vI x), (1, vI y), (2, vI k)] []
  refine g_iload_n F 1 rfl rfl d_X9_toldOne_0 ?_
  refine g_istore_n F (lv' := [(3, vI y), (0, vI x), (1, vI y), (2, vI k)]) rfl (by decide) rfl d_X9_toldOne_1 ?_
  refine g_iload_n F 1 rfl rfl d_X9_toldOne_2 ?_
  refine g_Si F (own := RX9) (c_X9_argumentsOf l E q sh σ x (by omega)) k_X9_85 [] d_X9_toldOne_3 ⟨rfl, rfl, by decide, by decide⟩ ⟨Nat.zero_le _, Nat.zero_le _⟩ rfl (Nat.le_of_ble_eq_true rfl) ?_
  rintro _ _ ⟨rfl, rfl⟩
  refine g_iconst F d_X9_toldOne_6 ?_
  refine g_isub F d_X9_toldOne_7 ?_
  refine g_istore F (lv' := [(4, vI ((nA x) - 1)), (3, vI y), (0, vI x), (1, vI y), (2, vI k)]) (by decide) rfl d_X9_toldOne_8 ?_
  have loop10 : ∀ (nn : Nat) (w : Int) (j : Int), (k ≤ j ∧ j ≤ nA x - 1) → (w = dv y (nA x - 1 - j).toNat) → (j - k).toNat < nn → G X E 5 q sh σ 0 0 Q 10 [(0, vI x), (1, vI y), (2, vI k), (3, vI w), (4, vI j)] [] := by
    intro n10
    induction n10 with
    | zero => intro w j hj hw hm10; exact absurd hm10 (Nat.not_lt_zero _)
    | succ n10 ih10 =>
      intro w j hj hw hm10
      have hwi := dv_in hy (nA x - 1 - j).toNat
      rw [← hw] at hwi
      refine g_iload F 4 rfl d_X9_toldOne_10 ?_
      refine g_iload_n F 2 rfl rfl d_X9_toldOne_12 ?_
      refine g_icmp_le F d_X9_toldOne_13 ⟨by omega, by omega⟩ ⟨by omega, by omega⟩ (fun h13 => ?_) (fun h13 => ?_)
      · refine g_iload_n F 3 rfl rfl d_X9_toldOne_27 ?_
        refine g_bipush F (by decide) d_X9_toldOne_28 ?_
        refine g_irem F ⟨by omega, by omega, by omega, by omega⟩ d_X9_toldOne_30 ?_
        exact hQ d_X9_toldOne_31 (⟨by unfold tdo; rw [hw, show j = k by omega], rfl⟩)
      · refine g_iload_n F 3 rfl rfl d_X9_toldOne_16 ?_
        refine g_bipush F (by decide) d_X9_toldOne_17 ?_
        refine g_idiv F ⟨by omega, by omega, by omega, by omega⟩ d_X9_toldOne_19 ?_
        refine g_istore_n F (lv' := [(3, vI (w / 9)), (0, vI x), (1, vI y), (2, vI k), (4, vI j)]) rfl (by decide) rfl d_X9_toldOne_20 ?_
        refine g_iinc F (lv' := [(4, vI (j + (-1))), (3, vI (w / 9)), (0, vI x), (1, vI y), (2, vI k)]) 4 rfl rfl (by decide) rfl d_X9_toldOne_21 ?_
        refine g_goto F d_X9_toldOne_24 ?_
        refine G_sub (ks := [2, 3, 4, 1, 0]) rfl ?_
        exact ih10 (w / 9) (j + (-1)) (by omega) (by rw [show (nA x - 1 - (j + (-1))).toNat = (nA x - 1 - j).toNat + 1 by omega, dv, ← hw]) (by omega)
  refine G_sub (ks := [2, 3, 4, 1, 0]) rfl ?_
  exact loop10 _ y ((nA x) - 1) (by omega) (by rw [show (nA x - 1 - (nA x - 1)).toNat = 0 by omega]; rfl) (Nat.lt_succ_self _)
set_option maxHeartbeats 1000000 in
theorem c_X9_areNumbers (l : Launch) (E : Ev) (q : Nat → Nat) (sh : List Shp) (σ : Sg) (x y : Int) (hx : 0 ≤ x ∧ x < 4) (hy : 0 ≤ y ∧ y < 729) : CI l E yX9_areNumbers cX9_areNumbers 4 .boolean ({ frames := 2, cells := 0, slots := 0, locals := 44 } : Room) q sh σ [vI x, vI y] (is (if arN x y (nA x).toNat = true then 1 else 0) σ) := by
  have hn := nA_in x
  refine CB_of (own := RX9) (by decide) rfl (Nat.le_of_ble_eq_true rfl) (fun X Q F hQ => ?_)
  show G X E 4 q sh σ 0 0 Q 0 [(0, vI x), (1, vI y)] []
  refine g_iconst F d_X9_areNumbers_0 ?_
  refine g_istore_n F (lv' := [(2, vI 1), (0, vI x), (1, vI y)]) rfl (by decide) rfl d_X9_areNumbers_1 ?_
  refine g_iconst F d_X9_areNumbers_2 ?_
  refine g_istore_n F (lv' := [(3, vI 0), (2, vI 1), (0, vI x), (1, vI y)]) rfl (by decide) rfl d_X9_areNumbers_3 ?_
  have loop4 : ∀ (nn : Nat) (w : Int) (j : Int), (0 ≤ j ∧ j ≤ nA x) → (w = if arN x y j.toNat = true then 1 else 0) → (nA x - j).toNat < nn → G X E 4 q sh σ 0 0 Q 4 [(0, vI x), (1, vI y), (2, vI w), (3, vI j)] [] := by
    intro n4
    induction n4 with
    | zero => intro w j hj hw hm4; exact absurd hm4 (Nat.not_lt_zero _)
    | succ n4 ih4 =>
      intro w j hj hw hm4
      have hw01 : w = 0 ∨ w = 1 := by rw [hw]; split <;> simp
      refine g_iload_n F 3 rfl rfl d_X9_areNumbers_4 ?_
      refine g_iload_n F 0 rfl rfl d_X9_areNumbers_5 ?_
      refine g_Si F (own := RX9) (c_X9_argumentsOf l E q sh σ x (by omega)) k_X9_85 [vI j] d_X9_areNumbers_6 ⟨rfl, rfl, by decide, by decide⟩ ⟨Nat.zero_le _, Nat.zero_le _⟩ rfl (Nat.le_of_ble_eq_true rfl) ?_
      rintro _ _ ⟨rfl, rfl⟩
      refine g_icmp_ge F d_X9_areNumbers_9 ⟨by omega, by omega⟩ ⟨by omega, by omega⟩ (fun h9 => ?_) (fun h9 => ?_)
      · refine g_iload_n F 2 rfl rfl d_X9_areNumbers_39 ?_
        exact hQ d_X9_areNumbers_40 hw01 (⟨by rw [hw, show j = nA x by omega], rfl⟩)
      · refine g_iload_n F 2 rfl rfl d_X9_areNumbers_12 ?_
        refine g_if_eq F d_X9_areNumbers_13 ⟨by omega, by omega⟩ (fun h13 => ?_) (fun h13 => ?_)
        · refine g_iconst F d_X9_areNumbers_31 ?_
          refine g_istore_n F (lv' := [(2, vI 0), (0, vI x), (1, vI y), (3, vI j)]) rfl (by decide) rfl d_X9_areNumbers_32 ?_
          refine g_iinc F (lv' := [(3, vI (j + 1)), (2, vI 0), (0, vI x), (1, vI y)]) 3 rfl rfl (by decide) rfl d_X9_areNumbers_33 ?_
          refine g_goto F d_X9_areNumbers_36 ?_
          have hw2 : (0 : Int) = if arN x y (j + 1).toNat = true then 1 else 0 := by
            rw [show (j + 1).toNat = j.toNat + 1 by omega, arN, show ((j.toNat : Nat) : Int) = j by omega]
            by_cases ha : arN x y j.toNat = true
            · rw [if_pos ha] at hw
              first
                | (exfalso; omega)
                | (rw [if_pos (by rw [ha]; simpa using h24)]; done)
                | (rw [if_neg (by rw [ha]; simpa using h24)]; done)
            · rw [if_neg ha] at hw
              first
                | (exfalso; omega)
                | (rw [if_neg (by simp [ha])]; done)
          refine G_sub (ks := [2, 3, 1, 0]) rfl ?_
          exact ih4 0 (j + 1) (by omega) hw2 (by omega)
        · refine g_iload_n F 0 rfl rfl d_X9_areNumbers_16 ?_
          refine g_iload_n F 1 rfl rfl d_X9_areNumbers_17 ?_
          refine g_iload_n F 3 rfl rfl d_X9_areNumbers_18 ?_
          refine g_Si F (own := RX9) (c_X9_toldOne l E q sh σ x y j hx hy (by omega)) k_X9_191 [] d_X9_areNumbers_19 ⟨rfl, rfl, by decide, by decide⟩ ⟨Nat.zero_le _, Nat.zero_le _⟩ rfl (Nat.le_of_ble_eq_true rfl) ?_
          rintro _ _ ⟨rfl, rfl⟩
          refine g_bipush F (by decide) d_X9_areNumbers_22 ?_
          have htd := Int.emod_lt_of_pos (dv y (nA x - 1 - j).toNat) (show (0 : Int) < 9 by decide)
          have htd0 := Int.emod_nonneg (dv y (nA x - 1 - j).toNat) (show (9 : Int) ≠ 0 by decide)
          have htd1 : tdo x y j = dv y (nA x - 1 - j).toNat % 9 := rfl
          refine g_icmp_ge F d_X9_areNumbers_24 ⟨by omega, by omega⟩ ⟨by decide, by decide⟩ (fun h24 => ?_) (fun h24 => ?_)
          · refine g_iconst F d_X9_areNumbers_31 ?_
            refine g_istore_n F (lv' := [(2, vI 0), (0, vI x), (1, vI y), (3, vI j)]) rfl (by decide) rfl d_X9_areNumbers_32 ?_
            refine g_iinc F (lv' := [(3, vI (j + 1)), (2, vI 0), (0, vI x), (1, vI y)]) 3 rfl rfl (by decide) rfl d_X9_areNumbers_33 ?_
            refine g_goto F d_X9_areNumbers_36 ?_
            have hw2 : (0 : Int) = if arN x y (j + 1).toNat = true then 1 else 0 := by
              rw [show (j + 1).toNat = j.toNat + 1 by omega, arN, show ((j.toNat : Nat) : Int) = j by omega]
              by_cases ha : arN x y j.toNat = true
              · rw [if_pos ha] at hw
                first
                  | (exfalso; omega)
                  | (rw [if_pos (by rw [ha]; simpa using h24)]; done)
                  | (rw [if_neg (by rw [ha]; simpa using h24)]; done)
              · rw [if_neg ha] at hw
                first
                  | (exfalso; omega)
                  | (rw [if_neg (by simp [ha])]; done)
            refine G_sub (ks := [2, 3, 1, 0]) rfl ?_
            exact ih4 0 (j + 1) (by omega) hw2 (by omega)
          · refine g_iconst F d_X9_areNumbers_27 ?_
            refine g_goto F d_X9_areNumbers_28 ?_
            refine g_istore_n F (lv' := [(2, vI 1), (0, vI x), (1, vI y), (3, vI j)]) rfl (by decide) rfl d_X9_areNumbers_32 ?_
            refine g_iinc F (lv' := [(3, vI (j + 1)), (2, vI 1), (0, vI x), (1, vI y)]) 3 rfl rfl (by decide) rfl d_X9_areNumbers_33 ?_
            refine g_goto F d_X9_areNumbers_36 ?_
            have hw2 : (1 : Int) = if arN x y (j + 1).toNat = true then 1 else 0 := by
              rw [show (j + 1).toNat = j.toNat + 1 by omega, arN, show ((j.toNat : Nat) : Int) = j by omega]
              by_cases ha : arN x y j.toNat = true
              · rw [if_pos ha] at hw
                first
                  | (exfalso; omega)
                  | (rw [if_pos (by rw [ha]; simpa using h24)]; done)
                  | (rw [if_neg (by rw [ha]; simpa using h24)]; done)
              · rw [if_neg ha] at hw
                first
                  | (exfalso; omega)
                  | (rw [if_neg (by simp [ha])]; done)
            refine G_sub (ks := [2, 3, 1, 0]) rfl ?_
            exact ih4 1 (j + 1) (by omega) hw2 (by omega)
  refine G_sub (ks := [2, 3, 1, 0]) rfl ?_
  exact loop4 _ 1 0 (by omega) (by simp [arN]) (Nat.lt_succ_self _)
