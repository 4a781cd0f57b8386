/-! the reference: a call goes on, an ARGUMENT is begun -/
def nxP (P : Int → Bool) : Nat → Int → Int
  | 0, j => j
  | n + 1, j => if P j = true then j else nxP P n (j + 1)
theorem nxP_end {P : Int → Bool} {n j : Int} (h : n ≤ j) : nxP P (n - j).toNat j = j := by
  rw [show (n - j).toNat = 0 by omega]; rfl
theorem nxP_yes {P : Int → Bool} {n j : Int} (h : j < n) (hp : P j = true) : nxP P (n - j).toNat j = j := by
  rw [show (n - j).toNat = (n - j - 1).toNat + 1 by omega, nxP, if_pos hp]
theorem nxP_no {P : Int → Bool} {n j : Int} (h : j < n) (hp : P j = false) : nxP P (n - j).toNat j = nxP P (n - (j + 1)).toNat (j + 1) := by
  rw [show (n - j).toNat = (n - (j + 1)).toNat + 1 by omega, nxP, if_neg (by rw [hp]; simp)]
/-- whether an ARGUMENT is worked ahead -/
def amB (σ : Sg) (w f j : Int) : Bool := decide (w = 2) || (decide (w = 3) && !mtb σ f (cutA f (bShl 1 j)))
theorem amB_2 {σ : Sg} {w f j : Int} (h : w = 2) : amB σ w f j = true := by unfold amB; rw [decide_eq_true h]; rfl
theorem amB_3 {σ : Sg} {w f j : Int} (h : w = 3) (hm : mtb σ f (cutA f (bShl 1 j)) = false) : amB σ w f j = true := by unfold amB; rw [decide_eq_true h, hm]; simp
theorem amB_n {σ : Sg} {w f j : Int} (h : ¬ w = 2) (h3 : ¬ w = 3) : amB σ w f j = false := by unfold amB; rw [decide_eq_false h, decide_eq_false h3]; rfl
theorem amB_m {σ : Sg} {w f j : Int} (h : ¬ w = 2) (hm : ¬ mtb σ f (cutA f (bShl 1 j)) = false) : amB σ w f j = false := by
  unfold amB
  cases hb : mtb σ f (cutA f (bShl 1 j)) with
  | false => exact absurd hb hm
  | true => rw [decide_eq_false h]; simp
def nAt (σ : Sg) (c k w : Int) : Int := nxP (amB σ w (σ 40 c)) (nA (σ 40 c) - k).toNat k
def nAh (σ : Sg) (c k w : Int) : Sg := if nAt σ c k w < nA (σ 40 c) then nGo (nWait σ 5 (nAt σ c k w) c w) (σ 42 (3 * c + nAt σ c k w)) (σ 43 (3 * c + nAt σ c k w)) else nGo σ 0 c
theorem nWait_row {σ : Sg} {k n c m : Int} {r : Nat} (h : r ∉ [30, 44, 45, 46, 47]) : nWait σ k n c m r = σ r := by
  simp at h
  unfold nWait
  rw [up_ne _ (by omega), up_ne _ (by omega), up_ne _ (by omega), up_ne _ (by omega), up_ne _ (by omega)]
def nArg (σ : Sg) (s w : Int) : Sg := if σ 41 s = 8 then up σ 30 20 8 else if 0 ≤ σ 41 s then nCome σ (σ 41 s) else if w = 0 then nGo σ (σ 42 s) (σ 43 s) else nGo (nWait σ 4 0 0 s) (σ 42 s) (σ 43 s)
set_option maxHeartbeats 1000000 in
theorem c_X9_goAhead (l : Launch) (E : Ev) (q : Nat → Nat) (sh : List Shp) (σ : Sg) (hs : HsM sh) (c k w : Int) (hc : 0 ≤ c ∧ c < 302) (hf : 0 ≤ σ 40 c ∧ σ 40 c < 4) (hk : 0 ≤ k ∧ k ≤ nA (σ 40 c)) (hw : 0 ≤ w ∧ w < 4) (hs0 : 0 ≤ σ 30 18 ∧ σ 30 18 < 1000) (hT : MTR σ) : CV l E yX9_goAhead cX9_goAhead 6 ({ frames := 3, cells := 0, slots := 0, locals := 62 } : Room) q sh σ [.ref (q 30), vI c, vI k, vI w] (isS (nAh σ c k w)) := by
  have hn := nA_in (σ 40 c)
  refine CV_of (own := RX9) (by decide) rfl (Nat.le_of_ble_eq_true rfl) (fun X Q F hQ => ?_)
  show G X E 6 q sh σ 0 0 Q 0 [(0, .ref (q 30)), (1, vI c), (2, vI k), (3, vI w)] []
  refine g_aload_n F 0 rfl rfl d_X9_goAhead_0 ?_
  refine g_getR F f_X9_37 d_X9_goAhead_1 (hsM_30 hs) rfl ?_
  refine g_iload_n F 1 rfl rfl d_X9_goAhead_4 ?_
  refine g_iaload F d_X9_goAhead_5 (hsM_40 hs) (by omega) (by omega) (by decide) ?_
  refine g_istore F (lv' := [(4, vI (σ 40 c)), (0, .ref (q 30)), (1, vI c), (2, vI k), (3, vI w)]) (by decide) rfl d_X9_goAhead_6 ?_
  refine g_iload_n F 3 rfl rfl d_X9_goAhead_8 ?_
  refine g_istore F (lv' := [(5, vI k), (4, vI (σ 40 c)), (0, .ref (q 30)), (1, vI c), (2, vI k), (3, vI w)]) (by decide) rfl d_X9_goAhead_9 ?_
  have loop11 : ∀ (nn : Nat) (j : Int), (0 ≤ j ∧ j ≤ nA (σ 40 c)) → (nxP (amB σ w (σ 40 c)) (nA (σ 40 c) - j).toNat j = nAt σ c k w) → (nA (σ 40 c) - j).toNat < nn → G X E 6 q sh σ 0 0 Q 11 [(0, .ref (q 30)), (1, vI c), (2, vI k), (3, vI w), (4, vI (σ 40 c)), (5, vI j)] [] := by
    intro n11
    induction n11 with
    | zero => intro j hj hx hm11; exact absurd hm11 (Nat.not_lt_zero _)
    | succ n11 ih11 =>
      intro j hj hx hm11
      refine g_iload F 5 rfl d_X9_goAhead_11 ?_
      refine g_iload F 4 rfl d_X9_goAhead_13 ?_
      refine g_Si F (own := RX9) (c_X9_argumentsOf l E q sh σ (σ 40 c) (by omega)) k_X9_85 [vI j] d_X9_goAhead_15 ⟨rfl, rfl, by decide, by decide⟩ ⟨Nat.zero_le _, Nat.zero_le _⟩ rfl (Nat.le_of_ble_eq_true rfl) ?_
      rintro _ _ ⟨rfl, rfl⟩
      refine g_icmp_ge F d_X9_goAhead_18 ⟨by omega, by omega⟩ ⟨by omega, by omega⟩ (fun h18 => ?_) (fun h18 => ?_)
      · refine g_aload_n F 0 rfl rfl d_X9_goAhead_84 ?_
        refine g_iconst F d_X9_goAhead_85 ?_
        refine g_iload_n F 1 rfl rfl d_X9_goAhead_86 ?_
        refine g_Vv F (own := RX9) (c_X9_go l E q sh σ hs 0 c ) k_X9_179 (hsM_30 hs) rfl rfl [] d_X9_goAhead_87 ⟨rfl, rfl, by decide, by decide⟩ ⟨Nat.zero_le _, Nat.zero_le _⟩ rfl (Nat.le_of_ble_eq_true rfl) ?_
        rintro _ rfl
        exact hQ d_X9_goAhead_90 (by unfold nAh; rw [← hx, nxP_end (by omega), if_neg (by omega)])
      · refine g_iload_n F 3 rfl rfl d_X9_goAhead_21 ?_
        refine g_iconst F d_X9_goAhead_22 ?_
        refine g_icmp_eq F d_X9_goAhead_23 ⟨by omega, by omega⟩ ⟨by decide, by decide⟩ (fun h23 => ?_) (fun h23 => ?_)
        · refine g_aload_n F 0 rfl rfl d_X9_goAhead_42 ?_
          refine g_iconst F d_X9_goAhead_43 ?_
          refine g_iload F 5 rfl d_X9_goAhead_44 ?_
          refine g_iload_n F 1 rfl rfl d_X9_goAhead_46 ?_
          refine g_iload_n F 3 rfl rfl d_X9_goAhead_47 ?_
          refine g_Vv F (own := RX9) (c_X9_waitFor l E q sh σ hs 5 j c w hs0) k_X9_171 (hsM_30 hs) rfl rfl [] d_X9_goAhead_48 ⟨rfl, rfl, by decide, by decide⟩ ⟨Nat.zero_le _, Nat.zero_le _⟩ rfl (Nat.le_of_ble_eq_true rfl) ?_
          rintro _ rfl
          refine g_aload_n F 0 rfl rfl d_X9_goAhead_51 ?_
          refine g_aload_n F 0 rfl rfl d_X9_goAhead_52 ?_
          refine g_getR F f_X9_43 d_X9_goAhead_53 (hsM_30 hs) rfl ?_
          refine g_iconst F d_X9_goAhead_56 ?_
          refine g_iload_n F 1 rfl rfl d_X9_goAhead_57 ?_
          refine g_imul F d_X9_goAhead_58 ?_
          refine g_iload F 5 rfl d_X9_goAhead_59 ?_
          refine g_iadd F d_X9_goAhead_61 ?_
          refine g_iaload F d_X9_goAhead_62 (hsM_42 hs) (by omega) (by omega) (by decide) ?_
          refine G_top (b := σ 42 (3 * c + j)) (by rw [nWait_row (by decide)]) ?_
          refine g_aload_n F 0 rfl rfl d_X9_goAhead_63 ?_
          refine g_getR F f_X9_46 d_X9_goAhead_64 (hsM_30 hs) rfl ?_
          refine g_iconst F d_X9_goAhead_67 ?_
          refine g_iload_n F 1 rfl rfl d_X9_goAhead_68 ?_
          refine g_imul F d_X9_goAhead_69 ?_
          refine g_iload F 5 rfl d_X9_goAhead_70 ?_
          refine g_iadd F d_X9_goAhead_72 ?_
          refine g_iaload F d_X9_goAhead_73 (hsM_43 hs) (by omega) (by omega) (by decide) ?_
          refine G_top (b := σ 43 (3 * c + j)) (by rw [nWait_row (by decide)]) ?_
          refine g_Vv F (own := RX9) (c_X9_go l E q sh (nWait σ 5 j c w) hs (σ 42 (3 * c + j)) (σ 43 (3 * c + j)) ) k_X9_179 (hsM_30 hs) rfl rfl [] d_X9_goAhead_74 ⟨rfl, rfl, by decide, by decide⟩ ⟨Nat.zero_le _, Nat.zero_le _⟩ rfl (Nat.le_of_ble_eq_true rfl) ?_
          rintro _ rfl
          exact hQ d_X9_goAhead_77 (by unfold nAh; rw [← hx]; first | (rw [nxP_yes (by omega) (amB_2 h23), if_pos (by omega)]; done) | (rw [nxP_yes (by omega) (amB_3 h28 h39), if_pos (by omega)]; done))
        · refine g_iload_n F 3 rfl rfl d_X9_goAhead_26 ?_
          refine g_iconst F d_X9_goAhead_27 ?_
          refine g_icmp_ne F d_X9_goAhead_28 ⟨by omega, by omega⟩ ⟨by decide, by decide⟩ (fun h28 => ?_) (fun h28 => ?_)
          · refine g_iinc F (lv' := [(5, vI (j + 1)), (0, .ref (q 30)), (1, vI c), (2, vI k), (3, vI w), (4, vI (σ 40 c))]) 5 rfl rfl (by decide) rfl d_X9_goAhead_78 ?_
            refine g_goto F d_X9_goAhead_81 ?_
            refine G_sub (ks := [1, 2, 3, 4, 5, 0]) rfl ?_
            exact ih11 (j + 1) (by omega) (by rw [← hx]; first | exact (nxP_no (by omega) (amB_n h23 h28)).symm | exact (nxP_no (by omega) (amB_m h23 h39)).symm) (by omega)
          · refine g_aload_n F 0 rfl rfl d_X9_goAhead_31 ?_
            refine g_iload F 4 rfl d_X9_goAhead_32 ?_
            refine g_iload F 5 rfl d_X9_goAhead_34 ?_
            refine g_Vi F (own := RX9) (c_X9_isMust l E q sh σ hs (σ 40 c) j hf (by omega) hT) k_X9_136 (hsM_30 hs) rfl rfl [] d_X9_goAhead_36 ⟨rfl, rfl, by decide, by decide⟩ ⟨Nat.zero_le _, Nat.zero_le _⟩ rfl (Nat.le_of_ble_eq_true rfl) ?_
            rintro _ _ ⟨rfl, rfl⟩
            refine g_b_eq F d_X9_goAhead_39 (fun h39 => ?_) (fun h39 => ?_)
            · refine g_iinc F (lv' := [(5, vI (j + 1)), (0, .ref (q 30)), (1, vI c), (2, vI k), (3, vI w), (4, vI (σ 40 c))]) 5 rfl rfl (by decide) rfl d_X9_goAhead_78 ?_
              refine g_goto F d_X9_goAhead_81 ?_
              refine G_sub (ks := [1, 2, 3, 4, 5, 0]) rfl ?_
              exact ih11 (j + 1) (by omega) (by rw [← hx]; first | exact (nxP_no (by omega) (amB_n h23 h28)).symm | exact (nxP_no (by omega) (amB_m h23 h39)).symm) (by omega)
            · refine g_aload_n F 0 rfl rfl d_X9_goAhead_42 ?_
              refine g_iconst F d_X9_goAhead_43 ?_
              refine g_iload F 5 rfl d_X9_goAhead_44 ?_
              refine g_iload_n F 1 rfl rfl d_X9_goAhead_46 ?_
              refine g_iload_n F 3 rfl rfl d_X9_goAhead_47 ?_
              refine g_Vv F (own := RX9) (c_X9_waitFor l E q sh σ hs 5 j c w hs0) k_X9_171 (hsM_30 hs) rfl rfl [] d_X9_goAhead_48 ⟨rfl, rfl, by decide, by decide⟩ ⟨Nat.zero_le _, Nat.zero_le _⟩ rfl (Nat.le_of_ble_eq_true rfl) ?_
              rintro _ rfl
              refine g_aload_n F 0 rfl rfl d_X9_goAhead_51 ?_
              refine g_aload_n F 0 rfl rfl d_X9_goAhead_52 ?_
              refine g_getR F f_X9_43 d_X9_goAhead_53 (hsM_30 hs) rfl ?_
              refine g_iconst F d_X9_goAhead_56 ?_
              refine g_iload_n F 1 rfl rfl d_X9_goAhead_57 ?_
              refine g_imul F d_X9_goAhead_58 ?_
              refine g_iload F 5 rfl d_X9_goAhead_59 ?_
              refine g_iadd F d_X9_goAhead_61 ?_
              refine g_iaload F d_X9_goAhead_62 (hsM_42 hs) (by omega) (by omega) (by decide) ?_
              refine G_top (b := σ 42 (3 * c + j)) (by rw [nWait_row (by decide)]) ?_
              refine g_aload_n F 0 rfl rfl d_X9_goAhead_63 ?_
              refine g_getR F f_X9_46 d_X9_goAhead_64 (hsM_30 hs) rfl ?_
              refine g_iconst F d_X9_goAhead_67 ?_
              refine g_iload_n F 1 rfl rfl d_X9_goAhead_68 ?_
              refine g_imul F d_X9_goAhead_69 ?_
              refine g_iload F 5 rfl d_X9_goAhead_70 ?_
              refine g_iadd F d_X9_goAhead_72 ?_
              refine g_iaload F d_X9_goAhead_73 (hsM_43 hs) (by omega) (by omega) (by decide) ?_
              refine G_top (b := σ 43 (3 * c + j)) (by rw [nWait_row (by decide)]) ?_
              refine g_Vv F (own := RX9) (c_X9_go l E q sh (nWait σ 5 j c w) hs (σ 42 (3 * c + j)) (σ 43 (3 * c + j)) ) k_X9_179 (hsM_30 hs) rfl rfl [] d_X9_goAhead_74 ⟨rfl, rfl, by decide, by decide⟩ ⟨Nat.zero_le _, Nat.zero_le _⟩ rfl (Nat.le_of_ble_eq_true rfl) ?_
              rintro _ rfl
              exact hQ d_X9_goAhead_77 (by unfold nAh; rw [← hx]; first | (rw [nxP_yes (by omega) (amB_2 h23), if_pos (by omega)]; done) | (rw [nxP_yes (by omega) (amB_3 h28 h39), if_pos (by omega)]; done))
  refine G_sub (ks := [2, 3, 4, 5, 1, 0]) rfl ?_
  exact loop11 _ k (by omega) rfl (Nat.lt_succ_self _)
set_option maxHeartbeats 1000000 in
theorem c_X9_beginArgument (l : Launch) (E : Ev) (q : Nat → Nat) (sh : List Shp) (σ : Sg) (hs : HsM sh) (s w : Int) (hs1 : 0 ≤ s ∧ s < 906) (hv : -1 ≤ σ 41 s ∧ σ 41 s ≤ 8) (hw : 0 ≤ w ∧ w < 4) (hs0 : 0 ≤ σ 30 18 ∧ σ 30 18 < 1000) : CV l E yX9_beginArgument cX9_beginArgument 3 ({ frames := 1, cells := 0, slots := 0, locals := 24 } : Room) q sh σ [.ref (q 30), vI s, vI w] (isS (nArg σ s w)) := by
  refine CV_of (own := RX9) (by decide) rfl (Nat.le_of_ble_eq_true rfl) (fun X Q F hQ => ?_)
  show G X E 3 q sh σ 0 0 Q 0 [(0, .ref (q 30)), (1, vI s), (2, vI w)] []
  refine g_aload_n F 0 rfl rfl d_X9_beginArgument_0 ?_
  refine g_getR F f_X9_40 d_X9_beginArgument_1 (hsM_30 hs) rfl ?_
  refine g_iload_n F 1 rfl rfl d_X9_beginArgument_4 ?_
  refine g_iaload F d_X9_beginArgument_5 (hsM_41 hs) (by omega) (by omega) (by decide) ?_
  refine g_bipush F (by decide) d_X9_beginArgument_6 ?_
  refine g_icmp_ne F d_X9_beginArgument_8 ⟨by omega, by omega⟩ ⟨by decide, by decide⟩ (fun h8 => ?_) (fun h8 => ?_)
  · refine g_aload_n F 0 rfl rfl d_X9_beginArgument_20 ?_
    refine g_getR F f_X9_40 d_X9_beginArgument_21 (hsM_30 hs) rfl ?_
    refine g_iload_n F 1 rfl rfl d_X9_beginArgument_24 ?_
    refine g_iaload F d_X9_beginArgument_25 (hsM_41 hs) (by omega) (by omega) (by decide) ?_
    refine g_if_lt F d_X9_beginArgument_26 ⟨by omega, by omega⟩ (fun h26 => ?_) (fun h26 => ?_)
    · refine g_iload_n F 2 rfl rfl d_X9_beginArgument_42 ?_
      refine g_if_eq F d_X9_beginArgument_43 ⟨by omega, by omega⟩ (fun h43 => ?_) (fun h43 => ?_)
      · refine g_aload_n F 0 rfl rfl d_X9_beginArgument_54 ?_
        refine g_aload_n F 0 rfl rfl d_X9_beginArgument_55 ?_
        refine g_getR F f_X9_43 d_X9_beginArgument_56 (hsM_30 hs) rfl ?_
        refine g_iload_n F 1 rfl rfl d_X9_beginArgument_59 ?_
        refine g_iaload F d_X9_beginArgument_60 (hsM_42 hs) (by omega) (by omega) (by decide) ?_
        refine g_aload_n F 0 rfl rfl d_X9_beginArgument_61 ?_
        refine g_getR F f_X9_46 d_X9_beginArgument_62 (hsM_30 hs) rfl ?_
        refine g_iload_n F 1 rfl rfl d_X9_beginArgument_65 ?_
        refine g_iaload F d_X9_beginArgument_66 (hsM_43 hs) (by omega) (by omega) (by decide) ?_
        refine g_Vv F (own := RX9) (c_X9_go l E q sh σ hs (σ 42 s) (σ 43 s) ) k_X9_179 (hsM_30 hs) rfl rfl [] d_X9_beginArgument_67 ⟨rfl, rfl, by decide, by decide⟩ ⟨Nat.zero_le _, Nat.zero_le _⟩ rfl (Nat.le_of_ble_eq_true rfl) ?_
        rintro _ rfl
        exact hQ d_X9_beginArgument_70 (by unfold nArg; first | (rw [if_pos (by omega)]; done) | (rw [if_neg (by omega), if_pos (by omega)]; done) | (rw [if_neg (by omega), if_neg (by omega), if_pos (by omega)]; done) | (rw [if_neg (by omega), if_neg (by omega), if_neg (by omega), nWait_row (r := 42) (by decide), nWait_row (r := 43) (by decide)]; done))
      · refine g_aload_n F 0 rfl rfl d_X9_beginArgument_46 ?_
        refine g_iconst F d_X9_beginArgument_47 ?_
        refine g_iconst F d_X9_beginArgument_48 ?_
        refine g_iconst F d_X9_beginArgument_49 ?_
        refine g_iload_n F 1 rfl rfl d_X9_beginArgument_50 ?_
        refine g_Vv F (own := RX9) (c_X9_waitFor l E q sh σ hs 4 0 0 s hs0) k_X9_171 (hsM_30 hs) rfl rfl [] d_X9_beginArgument_51 ⟨rfl, rfl, by decide, by decide⟩ ⟨Nat.zero_le _, Nat.zero_le _⟩ rfl (Nat.le_of_ble_eq_true rfl) ?_
        rintro _ rfl
        refine g_aload_n F 0 rfl rfl d_X9_beginArgument_54 ?_
        refine g_aload_n F 0 rfl rfl d_X9_beginArgument_55 ?_
        refine g_getR F f_X9_43 d_X9_beginArgument_56 (hsM_30 hs) rfl ?_
        refine g_iload_n F 1 rfl rfl d_X9_beginArgument_59 ?_
        refine g_iaload F d_X9_beginArgument_60 (hsM_42 hs) (by omega) (by omega) (by decide) ?_
        refine g_aload_n F 0 rfl rfl d_X9_beginArgument_61 ?_
        refine g_getR F f_X9_46 d_X9_beginArgument_62 (hsM_30 hs) rfl ?_
        refine g_iload_n F 1 rfl rfl d_X9_beginArgument_65 ?_
        refine g_iaload F d_X9_beginArgument_66 (hsM_43 hs) (by omega) (by omega) (by decide) ?_
        refine g_Vv F (own := RX9) (c_X9_go l E q sh (nWait σ 4 0 0 s) hs ((nWait σ 4 0 0 s) 42 s) ((nWait σ 4 0 0 s) 43 s) ) k_X9_179 (hsM_30 hs) rfl rfl [] d_X9_beginArgument_67 ⟨rfl, rfl, by decide, by decide⟩ ⟨Nat.zero_le _, Nat.zero_le _⟩ rfl (Nat.le_of_ble_eq_true rfl) ?_
        rintro _ rfl
        exact hQ d_X9_beginArgument_70 (by unfold nArg; first | (rw [if_pos (by omega)]; done) | (rw [if_neg (by omega), if_pos (by omega)]; done) | (rw [if_neg (by omega), if_neg (by omega), if_pos (by omega)]; done) | (rw [if_neg (by omega), if_neg (by omega), if_neg (by omega), nWait_row (r := 42) (by decide), nWait_row (r := 43) (by decide)]; done))
    · refine g_aload_n F 0 rfl rfl d_X9_beginArgument_29 ?_
      refine g_aload_n F 0 rfl rfl d_X9_beginArgument_30 ?_
      refine g_getR F f_X9_40 d_X9_beginArgument_31 (hsM_30 hs) rfl ?_
      refine g_iload_n F 1 rfl rfl d_X9_beginArgument_34 ?_
      refine g_iaload F d_X9_beginArgument_35 (hsM_41 hs) (by omega) (by omega) (by decide) ?_
      refine g_Vv F (own := RX9) (c_X9_come l E q sh σ hs (σ 41 s) ) k_X9_175 (hsM_30 hs) rfl rfl [] d_X9_beginArgument_36 ⟨rfl, rfl, by decide, by decide⟩ ⟨Nat.zero_le _, Nat.zero_le _⟩ rfl (Nat.le_of_ble_eq_true rfl) ?_
      rintro _ rfl
      refine g_goto F d_X9_beginArgument_39 ?_
      exact hQ d_X9_beginArgument_70 (by unfold nArg; first | (rw [if_pos (by omega)]; done) | (rw [if_neg (by omega), if_pos (by omega)]; done) | (rw [if_neg (by omega), if_neg (by omega), if_pos (by omega)]; done) | (rw [if_neg (by omega), if_neg (by omega), if_neg (by omega), nWait_row (r := 42) (by decide), nWait_row (r := 43) (by decide)]; done))
  · refine g_aload_n F 0 rfl rfl d_X9_beginArgument_11 ?_
    refine g_bipush F (by decide) d_X9_beginArgument_12 ?_
    refine g_putI F 20 f_X9_161 d_X9_beginArgument_14 (hsM_30 hs) rfl rfl rfl rfl rfl ?_
    refine g_goto F d_X9_beginArgument_17 ?_
    exact hQ d_X9_beginArgument_70 (by unfold nArg; first | (rw [if_pos (by omega)]; done) | (rw [if_neg (by omega), if_pos (by omega)]; done) | (rw [if_neg (by omega), if_neg (by omega), if_pos (by omega)]; done) | (rw [if_neg (by omega), if_neg (by omega), if_neg (by omega), nWait_row (r := 42) (by decide), nWait_row (r := 43) (by decide)]; done))
