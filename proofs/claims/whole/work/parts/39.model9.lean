/-! the reference: what came is handed on -/
def oN (σ : Sg) : Int := σ 45 (σ 30 18 - 1)
def oC (σ : Sg) : Int := σ 46 (σ 30 18 - 1)
def oM (σ : Sg) : Int := σ 47 (σ 30 18 - 1)
def oK (σ : Sg) : Int := σ 44 (σ 30 18 - 1)
def oF (σ : Sg) : Int := σ 40 (oC σ)
def nOn (σ : Sg) : Sg := if oK σ = 1 then nGo (nWait (up σ 30 18 (σ 30 18 - 1)) 2 (oN σ) (oC σ) (σ 30 23)) (tp (σ 32) (oF σ * 30 + oN σ) 1 - oF σ * 30) (oC σ)
  else if oK σ = 2 then nCome (up σ 30 18 (σ 30 18 - 1)) (ac (σ 31 (oF σ * 30 + oN σ)) (oM σ) (σ 30 23))
  else if oK σ = 3 then nGo (up σ 30 18 (σ 30 18 - 1)) (tp (σ 32) (oF σ * 30 + oN σ) (if σ 30 23 = 0 then 1 else 2) - oF σ * 30) (oC σ)
  else if oK σ = 4 then up (up σ 30 18 (σ 30 18 - 1)) 41 (oM σ) (σ 30 23)
  else nAh (up (up σ 30 18 (σ 30 18 - 1)) 41 (3 * oC σ + oN σ) (σ 30 23)) (oC σ) (oN σ + 1) (oM σ)
/-- what goOn needs of the top of the stack -/
def PO (σ : Sg) : Prop := (1 ≤ σ 30 18 ∧ σ 30 18 ≤ 1000) ∧ (0 ≤ oC σ ∧ oC σ < 302) ∧ (0 ≤ oF σ ∧ oF σ < 4) ∧ (0 ≤ σ 30 23 ∧ σ 30 23 < 8) ∧ (1 ≤ oK σ ∧ oK σ ≤ 5) ∧ (oK σ ≤ 3 → ∀ j, 0 ≤ j → j < 2 → 0 ≤ tp (σ 32) (oF σ * 30 + oN σ) j ∧ tp (σ 32) (oF σ * 30 + oN σ) j < 150) ∧ (oK σ = 2 → (0 ≤ oM σ ∧ oM σ < 8) ∧ 0 ≤ oF σ * 30 + oN σ ∧ oF σ * 30 + oN σ < 150) ∧ (oK σ = 4 → 0 ≤ oM σ ∧ oM σ < 906) ∧ (oK σ = 5 → (0 ≤ oM σ ∧ oM σ < 4) ∧ 0 ≤ oN σ ∧ oN σ < nA (oF σ))
set_option maxHeartbeats 1000000 in
theorem c_X9_goOn (l : Launch) (E : Ev) (q : Nat → Nat) (sh : List Shp) (σ : Sg) (hs : HsM sh) (hPO : PO σ) (hT : MTR σ) (hrg : ∀ j, rg (σ 31 j)) : CV l E yX9_goOn cX9_goOn 5 ({ frames := 4, cells := 0, slots := 0, locals := 87 } : Room) q sh σ [.ref (q 30)] (isS (nOn σ)) := by
  obtain ⟨p1, p2, p3, p4, p5, p6, p7, p8, p9⟩ := hPO
  have hna := nA_in (oF σ)
  obtain ⟨σ1, e1⟩ : ∃ s, s = up σ 30 18 (σ 30 18 - 1) := ⟨_, rfl⟩
  have a31 : σ1 31 = σ 31 := by rw [e1]; exact up_ne _ (by decide) _ _
  have a32 : σ1 32 = σ 32 := by rw [e1]; exact up_ne _ (by decide) _ _
  have a37 : σ1 37 = σ 37 := by rw [e1]; exact up_ne _ (by decide) _ _
  have a40 : σ1 40 = σ 40 := by rw [e1]; exact up_ne _ (by decide) _ _
  have a44 : σ1 44 = σ 44 := by rw [e1]; exact up_ne _ (by decide) _ _
  have a45 : σ1 45 = σ 45 := by rw [e1]; exact up_ne _ (by decide) _ _
  have a46 : σ1 46 = σ 46 := by rw [e1]; exact up_ne _ (by decide) _ _
  have a47 : σ1 47 = σ 47 := by rw [e1]; exact up_ne _ (by decide) _ _
  have a30 : ∀ j, j ≠ 18 → σ1 30 j = σ 30 j := fun j hj => by rw [e1]; exact up_other _ _ hj _
  have aw : σ1 30 18 = σ 30 18 - 1 := by rw [e1]; exact up_same _ _ _ _
  refine CV_of (own := RX9) (by decide) rfl (Nat.le_of_ble_eq_true rfl) (fun X Q F hQ => ?_)
  show G X E 5 q sh σ 0 0 Q 0 [(0, .ref (q 30))] []
  refine g_aload_n F 0 rfl rfl d_X9_goOn_0 ?_
  refine g_dup F rfl d_X9_goOn_1 ?_
  refine g_getI F 18 f_X9_145 d_X9_goOn_2 (hsM_30 hs) rfl rfl ?_
  refine g_iconst F d_X9_goOn_5 ?_
  refine g_isub F d_X9_goOn_6 ?_
  refine g_putI F 18 f_X9_145 d_X9_goOn_7 (hsM_30 hs) rfl rfl rfl rfl rfl ?_
  refine G_eq (τ := σ1) e1.symm ?_
  refine g_aload_n F 0 rfl rfl d_X9_goOn_10 ?_
  refine g_getR F f_X9_52 d_X9_goOn_11 (hsM_30 hs) rfl ?_
  refine g_aload_n F 0 rfl rfl d_X9_goOn_14 ?_
  refine g_getI F 18 f_X9_145 d_X9_goOn_15 (hsM_30 hs) rfl rfl ?_
  refine G_top (b := σ 30 18 - 1) (aw) ?_
  refine g_iaload F d_X9_goOn_18 (hsM_45 hs) (by omega) (by omega) (by decide) ?_
  refine G_top (b := oN σ) (by rw [a45]; rfl) ?_
  refine g_istore_n F (lv' := [(1, vI (oN σ)), (0, .ref (q 30))]) rfl (by decide) rfl d_X9_goOn_19 ?_
  refine g_aload_n F 1 rfl rfl d_X9_goOn_20 ?_
  refine g_getR F f_X9_55 d_X9_goOn_21 (hsM_30 hs) rfl ?_
  refine g_aload_n F 1 rfl rfl d_X9_goOn_24 ?_
  refine g_getI F 18 f_X9_145 d_X9_goOn_25 (hsM_30 hs) rfl rfl ?_
  refine G_top (b := σ 30 18 - 1) (aw) ?_
  refine g_iaload F d_X9_goOn_28 (hsM_46 hs) (by omega) (by omega) (by decide) ?_
  refine G_top (b := oC σ) (by rw [a46]; rfl) ?_
  refine g_istore_n F (lv' := [(2, vI (oC σ)), (1, vI (oN σ)), (0, .ref (q 30))]) rfl (by decide) rfl d_X9_goOn_29 ?_
  refine g_aload_n F 2 rfl rfl d_X9_goOn_30 ?_
  refine g_getR F f_X9_58 d_X9_goOn_31 (hsM_30 hs) rfl ?_
  refine g_aload_n F 2 rfl rfl d_X9_goOn_34 ?_
  refine g_getI F 18 f_X9_145 d_X9_goOn_35 (hsM_30 hs) rfl rfl ?_
  refine G_top (b := σ 30 18 - 1) (aw) ?_
  refine g_iaload F d_X9_goOn_38 (hsM_47 hs) (by omega) (by omega) (by decide) ?_
  refine G_top (b := oM σ) (by rw [a47]; rfl) ?_
  refine g_istore_n F (lv' := [(3, vI (oM σ)), (2, vI (oC σ)), (1, vI (oN σ)), (0, .ref (q 30))]) rfl (by decide) rfl d_X9_goOn_39 ?_
  refine g_aload_n F 3 rfl rfl d_X9_goOn_40 ?_
  refine g_getR F f_X9_37 d_X9_goOn_41 (hsM_30 hs) rfl ?_
  refine g_iload_n F 1 rfl rfl d_X9_goOn_44 ?_
  refine g_iaload F d_X9_goOn_45 (hsM_40 hs) (by omega) (by omega) (by decide) ?_
  refine G_top (b := oF σ) (by rw [a40]; rfl) ?_
  refine g_istore F (lv' := [(4, vI (oF σ)), (3, vI (oM σ)), (2, vI (oC σ)), (1, vI (oN σ)), (0, .ref (q 30))]) (by decide) rfl d_X9_goOn_46 ?_
  refine g_aload_n F 4 rfl rfl d_X9_goOn_48 ?_
  refine g_getR F f_X9_49 d_X9_goOn_49 (hsM_30 hs) rfl ?_
  refine g_aload_n F 4 rfl rfl d_X9_goOn_52 ?_
  refine g_getI F 18 f_X9_145 d_X9_goOn_53 (hsM_30 hs) rfl rfl ?_
  refine G_top (b := σ 30 18 - 1) (aw) ?_
  refine g_iaload F d_X9_goOn_56 (hsM_44 hs) (by omega) (by omega) (by decide) ?_
  refine G_top (b := oK σ) (by rw [a44]; rfl) ?_
  have hcs : oK σ = 1 ∨ oK σ = 2 ∨ oK σ = 3 ∨ oK σ = 4 ∨ oK σ = 5 := by omega
  rcases hcs with hk | hk | hk | hk | hk
  · have q6 := p6 (by omega)
    refine g_tabIn F d_X9_goOn_57 ⟨by omega, by omega⟩ 0 (tgt := 88) (by omega) (by decide) rfl rfl ?_
    refine g_aload_n F 4 rfl rfl d_X9_goOn_88 ?_
    refine g_iconst F d_X9_goOn_89 ?_
    refine g_iload_n F 3 rfl rfl d_X9_goOn_90 ?_
    refine g_iload_n F 2 rfl rfl d_X9_goOn_91 ?_
    refine g_aload_n F 4 rfl rfl d_X9_goOn_92 ?_
    refine g_getI F 23 f_X9_152 d_X9_goOn_93 (hsM_30 hs) rfl rfl ?_
    refine G_top (b := σ 30 23) (a30 23 (by decide)) ?_
    refine g_Vv F (own := RX9) (c_X9_waitFor l E q sh σ1 hs 2 (oN σ) (oC σ) (σ 30 23) (by rw [aw]; omega)) k_X9_171 (hsM_30 hs) rfl rfl [] d_X9_goOn_96 ⟨rfl, rfl, by decide, by decide⟩ ⟨Nat.zero_le _, Nat.zero_le _⟩ rfl (Nat.le_of_ble_eq_true rfl) ?_
    rintro _ rfl
    refine g_aload_n F 4 rfl rfl d_X9_goOn_99 ?_
    refine g_aload_n F 4 rfl rfl d_X9_goOn_100 ?_
    refine g_iload F 0 rfl d_X9_goOn_101 ?_
    refine g_iload_n F 3 rfl rfl d_X9_goOn_103 ?_
    refine g_iconst F d_X9_goOn_104 ?_
    refine g_Vi F (own := RX9) (c_X9_textOf l E q sh (nWait σ1 2 (oN σ) (oC σ) (σ 30 23)) hs (oF σ) (oN σ) 1 p3 (by omega) (fun j h0 h1 => by rw [nWait_row (by decide), a32]; exact q6 j h0 (by omega))) k_X9_113 (hsM_30 hs) rfl rfl [.ref (q 30)] d_X9_goOn_105 ⟨rfl, rfl, by decide, by decide⟩ ⟨Nat.zero_le _, Nat.zero_le _⟩ rfl (Nat.le_of_ble_eq_true rfl) ?_
    rintro _ _ ⟨rfl, rfl⟩
    refine G_top (b := tp (σ 32) (oF σ * 30 + oN σ) 1 - oF σ * 30) (by rw [nWait_row (by decide), a32]) ?_
    refine g_iload_n F 2 rfl rfl d_X9_goOn_108 ?_
    refine g_Vv F (own := RX9) (c_X9_go l E q sh (nWait σ1 2 (oN σ) (oC σ) (σ 30 23)) hs (tp (σ 32) (oF σ * 30 + oN σ) 1 - oF σ * 30) (oC σ) ) k_X9_179 (hsM_30 hs) rfl rfl [] d_X9_goOn_109 ⟨rfl, rfl, by decide, by decide⟩ ⟨Nat.zero_le _, Nat.zero_le _⟩ rfl (Nat.le_of_ble_eq_true rfl) ?_
    rintro _ rfl
    refine g_goto F d_X9_goOn_112 ?_
    exact hQ d_X9_goOn_205 (by unfold nOn; rw [← e1]; first | (rw [if_pos hk]; done) | (rw [if_neg (by omega), if_pos hk]; done) | (rw [if_neg (by omega), if_neg (by omega), if_pos hk]; done) | (rw [if_neg (by omega), if_neg (by omega), if_neg (by omega), if_pos hk]; done) | (rw [if_neg (by omega), if_neg (by omega), if_neg (by omega), if_neg (by omega)]; done))
  · have q7 := p7 hk
    have q71 := q7.1
    have q72 := q7.2
    refine g_tabIn F d_X9_goOn_57 ⟨by omega, by omega⟩ 1 (tgt := 115) (by omega) (by decide) rfl rfl ?_
    refine g_aload_n F 4 rfl rfl d_X9_goOn_115 ?_
    refine g_aload_n F 4 rfl rfl d_X9_goOn_116 ?_
    refine g_getR F f_X9_7 d_X9_goOn_117 (hsM_30 hs) rfl ?_
    refine g_bipush F (by decide) d_X9_goOn_120 ?_
    refine g_iload F 0 rfl d_X9_goOn_122 ?_
    refine g_imul F d_X9_goOn_124 ?_
    refine g_iload_n F 3 rfl rfl d_X9_goOn_125 ?_
    refine g_iadd F d_X9_goOn_126 ?_
    refine G_top (b := oF σ * 30 + oN σ) (by omega) ?_
    refine g_iaload F d_X9_goOn_127 (hsM_31 hs) (by omega) (by omega) (by decide) ?_
    refine G_top (b := σ 31 (oF σ * 30 + oN σ)) (by rw [a31]) ?_
    refine g_iload_n F 1 rfl rfl d_X9_goOn_128 ?_
    refine g_aload_n F 4 rfl rfl d_X9_goOn_129 ?_
    refine g_getI F 23 f_X9_152 d_X9_goOn_130 (hsM_30 hs) rfl rfl ?_
    refine G_top (b := σ 30 23) (a30 23 (by decide)) ?_
    refine g_Si F (own := RX9) (c_X9_act l E q sh σ1 (σ 31 (oF σ * 30 + oN σ)) (oM σ) (σ 30 23) (hrg _) q71 p4) k_X9_188 [.ref (q 30)] d_X9_goOn_133 ⟨rfl, rfl, by decide, by decide⟩ ⟨Nat.zero_le _, Nat.zero_le _⟩ rfl (Nat.le_of_ble_eq_true rfl) ?_
    rintro _ _ ⟨rfl, rfl⟩
    refine g_Vv F (own := RX9) (c_X9_come l E q sh σ1 hs (ac (σ 31 (oF σ * 30 + oN σ)) (oM σ) (σ 30 23)) ) k_X9_175 (hsM_30 hs) rfl rfl [] d_X9_goOn_136 ⟨rfl, rfl, by decide, by decide⟩ ⟨Nat.zero_le _, Nat.zero_le _⟩ rfl (Nat.le_of_ble_eq_true rfl) ?_
    rintro _ rfl
    refine g_goto F d_X9_goOn_139 ?_
    exact hQ d_X9_goOn_205 (by unfold nOn; rw [← e1]; first | (rw [if_pos hk]; done) | (rw [if_neg (by omega), if_pos hk]; done) | (rw [if_neg (by omega), if_neg (by omega), if_pos hk]; done) | (rw [if_neg (by omega), if_neg (by omega), if_neg (by omega), if_pos hk]; done) | (rw [if_neg (by omega), if_neg (by omega), if_neg (by omega), if_neg (by omega)]; done))
  · have q6 := p6 (by omega)
    refine g_tabIn F d_X9_goOn_57 ⟨by omega, by omega⟩ 2 (tgt := 142) (by omega) (by decide) rfl rfl ?_
    refine g_aload_n F 4 rfl rfl d_X9_goOn_142 ?_
    refine g_aload_n F 4 rfl rfl d_X9_goOn_143 ?_
    refine g_iload F 0 rfl d_X9_goOn_144 ?_
    refine g_iload_n F 3 rfl rfl d_X9_goOn_146 ?_
    refine g_aload_n F 4 rfl rfl d_X9_goOn_147 ?_
    refine g_getI F 23 f_X9_152 d_X9_goOn_148 (hsM_30 hs) rfl rfl ?_
    refine G_top (b := σ 30 23) (a30 23 (by decide)) ?_
    refine g_if_ne F d_X9_goOn_151 ⟨by omega, by omega⟩ (fun h151 => ?_) (fun h151 => ?_)
    · refine g_iconst F d_X9_goOn_158 ?_
      refine g_Vi F (own := RX9) (c_X9_textOf l E q sh σ1 hs (oF σ) (oN σ) 2 p3 (by omega) (fun j h0 h1 => by rw [a32]; exact q6 j h0 (by omega))) k_X9_113 (hsM_30 hs) rfl rfl [.ref (q 30)] d_X9_goOn_159 ⟨rfl, rfl, by decide, by decide⟩ ⟨Nat.zero_le _, Nat.zero_le _⟩ rfl (Nat.le_of_ble_eq_true rfl) ?_
      rintro _ _ ⟨rfl, rfl⟩
      have hT5 : tp (σ1 32) (oF σ * 30 + oN σ) 2 - oF σ * 30 = tp (σ 32) (oF σ * 30 + oN σ) (if σ 30 23 = 0 then 1 else 2) - oF σ * 30 := by
        rw [a32]
        first
          | (rw [if_pos h151]; done)
          | (rw [if_neg h151]; done)
      refine G_top (b := tp (σ 32) (oF σ * 30 + oN σ) (if σ 30 23 = 0 then 1 else 2) - oF σ * 30) (hT5) ?_
      refine g_iload_n F 2 rfl rfl d_X9_goOn_162 ?_
      refine g_Vv F (own := RX9) (c_X9_go l E q sh σ1 hs (tp (σ 32) (oF σ * 30 + oN σ) (if σ 30 23 = 0 then 1 else 2) - oF σ * 30) (oC σ) ) k_X9_179 (hsM_30 hs) rfl rfl [] d_X9_goOn_163 ⟨rfl, rfl, by decide, by decide⟩ ⟨Nat.zero_le _, Nat.zero_le _⟩ rfl (Nat.le_of_ble_eq_true rfl) ?_
      rintro _ rfl
      refine g_goto F d_X9_goOn_166 ?_
      exact hQ d_X9_goOn_205 (by unfold nOn; rw [← e1]; first | (rw [if_pos hk]; done) | (rw [if_neg (by omega), if_pos hk]; done) | (rw [if_neg (by omega), if_neg (by omega), if_pos hk]; done) | (rw [if_neg (by omega), if_neg (by omega), if_neg (by omega), if_pos hk]; done) | (rw [if_neg (by omega), if_neg (by omega), if_neg (by omega), if_neg (by omega)]; done))
    · refine g_iconst F d_X9_goOn_154 ?_
      refine g_goto F d_X9_goOn_155 ?_
      refine g_Vi F (own := RX9) (c_X9_textOf l E q sh σ1 hs (oF σ) (oN σ) 1 p3 (by omega) (fun j h0 h1 => by rw [a32]; exact q6 j h0 (by omega))) k_X9_113 (hsM_30 hs) rfl rfl [.ref (q 30)] d_X9_goOn_159 ⟨rfl, rfl, by decide, by decide⟩ ⟨Nat.zero_le _, Nat.zero_le _⟩ rfl (Nat.le_of_ble_eq_true rfl) ?_
      rintro _ _ ⟨rfl, rfl⟩
      have hT5 : tp (σ1 32) (oF σ * 30 + oN σ) 1 - oF σ * 30 = tp (σ 32) (oF σ * 30 + oN σ) (if σ 30 23 = 0 then 1 else 2) - oF σ * 30 := by
        rw [a32]
        first
          | (rw [if_pos h151]; done)
          | (rw [if_neg h151]; done)
      refine G_top (b := tp (σ 32) (oF σ * 30 + oN σ) (if σ 30 23 = 0 then 1 else 2) - oF σ * 30) (hT5) ?_
      refine g_iload_n F 2 rfl rfl d_X9_goOn_162 ?_
      refine g_Vv F (own := RX9) (c_X9_go l E q sh σ1 hs (tp (σ 32) (oF σ * 30 + oN σ) (if σ 30 23 = 0 then 1 else 2) - oF σ * 30) (oC σ) ) k_X9_179 (hsM_30 hs) rfl rfl [] d_X9_goOn_163 ⟨rfl, rfl, by decide, by decide⟩ ⟨Nat.zero_le _, Nat.zero_le _⟩ rfl (Nat.le_of_ble_eq_true rfl) ?_
      rintro _ rfl
      refine g_goto F d_X9_goOn_166 ?_
      exact hQ d_X9_goOn_205 (by unfold nOn; rw [← e1]; first | (rw [if_pos hk]; done) | (rw [if_neg (by omega), if_pos hk]; done) | (rw [if_neg (by omega), if_neg (by omega), if_pos hk]; done) | (rw [if_neg (by omega), if_neg (by omega), if_neg (by omega), if_pos hk]; done) | (rw [if_neg (by omega), if_neg (by omega), if_neg (by omega), if_neg (by omega)]; done))
  · have q8 := p8 hk
    refine g_tabIn F d_X9_goOn_57 ⟨by omega, by omega⟩ 3 (tgt := 169) (by omega) (by decide) rfl rfl ?_
    refine g_aload_n F 4 rfl rfl d_X9_goOn_169 ?_
    refine g_getR F f_X9_40 d_X9_goOn_170 (hsM_30 hs) rfl ?_
    refine g_iload_n F 1 rfl rfl d_X9_goOn_173 ?_
    refine g_aload_n F 4 rfl rfl d_X9_goOn_174 ?_
    refine g_getI F 23 f_X9_152 d_X9_goOn_175 (hsM_30 hs) rfl rfl ?_
    refine G_top (b := σ 30 23) (a30 23 (by decide)) ?_
    refine g_iastore F d_X9_goOn_178 (hsM_41 hs) (by omega) (by omega) (by decide) ?_
    refine g_goto F d_X9_goOn_179 ?_
    exact hQ d_X9_goOn_205 (by unfold nOn; rw [← e1]; first | (rw [if_pos hk]; done) | (rw [if_neg (by omega), if_pos hk]; done) | (rw [if_neg (by omega), if_neg (by omega), if_pos hk]; done) | (rw [if_neg (by omega), if_neg (by omega), if_neg (by omega), if_pos hk]; done) | (rw [if_neg (by omega), if_neg (by omega), if_neg (by omega), if_neg (by omega)]; done))
  · have q9 := p9 hk
    have q91 := q9.1
    have q92 := q9.2
    refine g_tabOut F d_X9_goOn_57 ⟨by omega, by omega⟩ (tgt := 182) (by omega) rfl ?_
    refine g_aload_n F 4 rfl rfl d_X9_goOn_182 ?_
    refine g_getR F f_X9_40 d_X9_goOn_183 (hsM_30 hs) rfl ?_
    refine g_iconst F d_X9_goOn_186 ?_
    refine g_iload_n F 2 rfl rfl d_X9_goOn_187 ?_
    refine g_imul F d_X9_goOn_188 ?_
    refine g_iload_n F 3 rfl rfl d_X9_goOn_189 ?_
    refine g_iadd F d_X9_goOn_190 ?_
    refine g_aload_n F 4 rfl rfl d_X9_goOn_191 ?_
    refine g_getI F 23 f_X9_152 d_X9_goOn_192 (hsM_30 hs) rfl rfl ?_
    refine G_top (b := σ 30 23) (a30 23 (by decide)) ?_
    refine g_iastore F d_X9_goOn_195 (hsM_41 hs) (by omega) (by omega) (by decide) ?_
    refine g_aload_n F 4 rfl rfl d_X9_goOn_196 ?_
    refine g_iload_n F 2 rfl rfl d_X9_goOn_197 ?_
    refine g_iload_n F 3 rfl rfl d_X9_goOn_198 ?_
    refine g_iconst F d_X9_goOn_199 ?_
    refine g_iadd F d_X9_goOn_200 ?_
    refine g_iload_n F 1 rfl rfl d_X9_goOn_201 ?_
    refine g_Vv F (own := RX9) (c_X9_goAhead l E q sh (up σ1 41 ((3 * (oC σ)) + (oN σ)) (σ 30 23)) hs (oC σ) (oN σ + 1) (oM σ) p2 (by rw [up_ne _ (by decide), a40]; exact p3) (by rw [up_ne _ (by decide), a40]; show 0 ≤ oN σ + 1 ∧ oN σ + 1 ≤ nA (oF σ); omega) q91 (by rw [up_ne _ (by decide), aw]; omega) (fun z => by rw [up_ne _ (by decide), a37]; exact hT z)) k_X9_185 (hsM_30 hs) rfl rfl [] d_X9_goOn_202 ⟨rfl, rfl, by decide, by decide⟩ ⟨Nat.zero_le _, Nat.zero_le _⟩ rfl (Nat.le_of_ble_eq_true rfl) ?_
    rintro _ rfl
    exact hQ d_X9_goOn_205 (by unfold nOn; rw [← e1]; first | (rw [if_pos hk]; done) | (rw [if_neg (by omega), if_pos hk]; done) | (rw [if_neg (by omega), if_neg (by omega), if_pos hk]; done) | (rw [if_neg (by omega), if_neg (by omega), if_neg (by omega), if_pos hk]; done) | (rw [if_neg (by omega), if_neg (by omega), if_neg (by omega), if_neg (by omega)]; done))
