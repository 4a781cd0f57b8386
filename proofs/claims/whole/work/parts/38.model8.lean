/-! the reference: a text is begun -/
def cF (σ : Sg) : Int := σ 40 (σ 30 22)
def cP (σ : Sg) : Int := cF σ * 30 + σ 30 21
def nBegin (σ : Sg) (w : Int) : Sg := if σ 30 19 = 300 then up σ 30 20 9
  else if kd (σ 31 (cP σ)) = 6 then nCall (up σ 30 19 (σ 30 19 + 1)) (wo (σ 31 (cP σ))) (cF σ) w
  else if kd (σ 31 (cP σ)) = 3 then nArg (up σ 30 19 (σ 30 19 + 1)) (3 * σ 30 22 + wo (σ 31 (cP σ))) w
  else if kd (σ 31 (cP σ)) = 4 ∨ kd (σ 31 (cP σ)) = 5 then up (nWait (up σ 30 19 (σ 30 19 + 1)) (if kd (σ 31 (cP σ)) = 5 then 3 else 1) (σ 30 21) (σ 30 22) 0) 30 21 (σ 30 21 + 1)
  else if kd (σ 31 (cP σ)) = 2 then up (up σ 30 19 (σ 30 19 + 1)) 30 20 8
  else nCome (up σ 30 19 (σ 30 19 + 1)) (wo (σ 31 (cP σ)))
theorem nWait_21 (σ : Sg) (k n c m : Int) : nWait σ k n c m 30 21 = σ 30 21 := by
  unfold nWait
  rw [up_other _ _ (by decide), up_ne _ (by decide), up_ne _ (by decide), up_ne _ (by decide), up_ne _ (by decide)]
set_option maxHeartbeats 1000000 in
theorem c_X9_begin (l : Launch) (E : Ev) (q : Nat → Nat) (sh : List Shp) (σ : Sg) (hs : HsM sh) (w : Int) (hM : MOK σ) (hT : MTR σ) (hst : 0 ≤ σ 30 19 ∧ σ 30 19 ≤ 300) (hcl : 0 ≤ σ 30 22 ∧ σ 30 22 < 302) (hf : 0 ≤ cF σ ∧ cF σ < 4) (hnd : 0 ≤ σ 30 21 ∧ σ 30 21 < σ 34 (cF σ)) (hw : 0 ≤ w ∧ w < 4) (hs0 : 0 ≤ σ 30 18 ∧ σ 30 18 < 1000) (hc : 0 ≤ σ 30 13 ∧ σ 30 13 < 302) (hv : kd (σ 31 (cP σ)) = 3 → -1 ≤ σ 41 (3 * σ 30 22 + wo (σ 31 (cP σ))) ∧ σ 41 (3 * σ 30 22 + wo (σ 31 (cP σ))) ≤ 8) : CV l E yX9_begin cX9_begin 4 ({ frames := 5, cells := 0, slots := 0, locals := 112 } : Room) q sh σ [.ref (q 30), vI w] (isS (nBegin σ w)) := by
  have hB := (hM.1 (cF σ) hf.1 hf.2).1
  have hn1 := hB.1
  have hn2 := hB.2.1
  have ecp : cP σ = cF σ * 30 + σ 30 21 := rfl
  have hch := (hB.2.2.2.2 (cP σ) (by omega) (by omega)).2.1
  have hvd := ((hM.1 (cF σ) hf.1 hf.2).2 (cP σ) (by omega) (by omega)).1
  have hkd := kd_in (σ 31 (cP σ))
  have hrg := hM.2 (cP σ)
  have hrg1 := hrg.1
  have hrg2 := hrg.2
  have hcb := cb_in (σ 31 (cP σ))
  obtain ⟨σ1, e1⟩ : ∃ s, s = up σ 30 19 (σ 30 19 + 1) := ⟨_, rfl⟩
  have a31 : σ1 31 = σ 31 := by rw [e1]; exact up_ne _ (by decide) _ _
  have a32 : σ1 32 = σ 32 := by rw [e1]; exact up_ne _ (by decide) _ _
  have a37 : σ1 37 = σ 37 := by rw [e1]; exact up_ne _ (by decide) _ _
  have a40 : σ1 40 = σ 40 := by rw [e1]; exact up_ne _ (by decide) _ _
  have a41 : σ1 41 = σ 41 := by rw [e1]; exact up_ne _ (by decide) _ _
  have a30 : ∀ j, j ≠ 19 → σ1 30 j = σ 30 j := fun j hj => by rw [e1]; exact up_other _ _ hj _
  refine CV_of (own := RX9) (by decide) rfl (Nat.le_of_ble_eq_true rfl) (fun X Q F hQ => ?_)
  show G X E 4 q sh σ 0 0 Q 0 [(0, .ref (q 30)), (1, vI w)] []
  refine g_aload_n F 0 rfl rfl d_X9_begin_0 ?_
  refine g_getI F 19 f_X9_158 d_X9_begin_1 (hsM_30 hs) rfl rfl ?_
  refine g_sipush F (by decide) d_X9_begin_4 ?_
  refine g_icmp_ne F d_X9_begin_7 ⟨by omega, by omega⟩ ⟨by decide, by decide⟩ (fun h7 => ?_) (fun h7 => ?_)
  · refine g_aload_n F 0 rfl rfl d_X9_begin_17 ?_
    refine g_dup F rfl d_X9_begin_18 ?_
    refine g_getI F 19 f_X9_158 d_X9_begin_19 (hsM_30 hs) rfl rfl ?_
    refine g_iconst F d_X9_begin_22 ?_
    refine g_iadd F d_X9_begin_23 ?_
    refine g_putI F 19 f_X9_158 d_X9_begin_24 (hsM_30 hs) rfl rfl rfl rfl rfl ?_
    refine G_eq (τ := σ1) e1.symm ?_
    refine g_aload_n F 0 rfl rfl d_X9_begin_27 ?_
    refine g_getR F f_X9_37 d_X9_begin_28 (hsM_30 hs) rfl ?_
    refine g_aload_n F 0 rfl rfl d_X9_begin_31 ?_
    refine g_getI F 22 f_X9_155 d_X9_begin_32 (hsM_30 hs) rfl rfl ?_
    refine G_top (b := σ 30 22) (a30 22 (by decide)) ?_
    refine g_iaload F d_X9_begin_35 (hsM_40 hs) (by omega) (by omega) (by decide) ?_
    refine G_top (b := cF σ) (by rw [a40]; rfl) ?_
    refine g_istore_n F (lv' := [(2, vI (cF σ)), (0, .ref (q 30)), (1, vI w)]) rfl (by decide) rfl d_X9_begin_36 ?_
    refine g_aload_n F 1 rfl rfl d_X9_begin_37 ?_
    refine g_getR F f_X9_7 d_X9_begin_38 (hsM_30 hs) rfl ?_
    refine g_bipush F (by decide) d_X9_begin_41 ?_
    refine g_iload_n F 0 rfl rfl d_X9_begin_43 ?_
    refine g_imul F d_X9_begin_44 ?_
    refine g_aload_n F 1 rfl rfl d_X9_begin_45 ?_
    refine g_getI F 21 f_X9_149 d_X9_begin_46 (hsM_30 hs) rfl rfl ?_
    refine G_top (b := σ 30 21) (a30 21 (by decide)) ?_
    refine g_iadd F d_X9_begin_49 ?_
    refine G_top (b := cP σ) (by rw [ecp]; omega) ?_
    refine g_iaload F d_X9_begin_50 (hsM_31 hs) (by omega) (by omega) (by decide) ?_
    refine G_top (b := σ 31 (cP σ)) (by rw [a31]) ?_
    refine g_istore_n F (lv' := [(3, vI (σ 31 (cP σ))), (2, vI (cF σ)), (0, .ref (q 30)), (1, vI w)]) rfl (by decide) rfl d_X9_begin_51 ?_
    refine g_iload_n F 0 rfl rfl d_X9_begin_52 ?_
    refine g_Si F (own := RX9) (c_X9_calledBy l E q sh σ1 (σ 31 (cP σ)) hrg) k_X9_81 [] d_X9_begin_53 ⟨rfl, rfl, by decide, by decide⟩ ⟨Nat.zero_le _, Nat.zero_le _⟩ rfl (Nat.le_of_ble_eq_true rfl) ?_
    rintro _ _ ⟨rfl, rfl⟩
    refine g_if_lt F d_X9_begin_56 ⟨by omega, by omega⟩ (fun h56 => ?_) (fun h56 => ?_)
    · have n6 : kd (σ 31 (cP σ)) ≠ 6 := fun z => by have := cb_iff.mpr z; omega
      have k5 : kd (σ 31 (cP σ)) = 5 ↔ σ 31 (cP σ) = 63 := kd_5
      have k2 : kd (σ 31 (cP σ)) = 2 ↔ σ 31 (cP σ) = 33 := kd_2
      refine g_iload_n F 0 rfl rfl d_X9_begin_72 ?_
      refine g_Si F (own := RX9) (c_X9_isArgument l E q sh σ1 (σ 31 (cP σ)) hrg) k_X9_92 [] d_X9_begin_73 ⟨rfl, rfl, by decide, by decide⟩ ⟨Nat.zero_le _, Nat.zero_le _⟩ rfl (Nat.le_of_ble_eq_true rfl) ?_
      rintro _ _ ⟨rfl, rfl⟩
      refine g_b_eq F d_X9_begin_76 (fun h76 => ?_) (fun h76 => ?_)
      · refine g_iload_n F 0 rfl rfl d_X9_begin_98 ?_
        refine g_Si F (own := RX9) (c_X9_isAct l E q sh σ1 (σ 31 (cP σ)) hrg) k_X9_88 [] d_X9_begin_99 ⟨rfl, rfl, by decide, by decide⟩ ⟨Nat.zero_le _, Nat.zero_le _⟩ rfl (Nat.le_of_ble_eq_true rfl) ?_
        rintro _ _ ⟨rfl, rfl⟩
        refine g_b_ne F d_X9_begin_102 (fun h102 => ?_) (fun h102 => ?_)
        · refine g_aload_n F 2 rfl rfl d_X9_begin_111 ?_
          refine g_iload_n F 0 rfl rfl d_X9_begin_112 ?_
          refine g_bipush F (by decide) d_X9_begin_113 ?_
          refine g_icmp_ne F d_X9_begin_115 ⟨by omega, by omega⟩ ⟨by decide, by decide⟩ (fun h115 => ?_) (fun h115 => ?_)
          · refine g_iconst F d_X9_begin_122 ?_
            refine g_aload_n F 2 rfl rfl d_X9_begin_123 ?_
            refine g_getI F 21 f_X9_149 d_X9_begin_124 (hsM_30 hs) rfl rfl ?_
            refine G_top (b := σ 30 21) (a30 21 (by decide)) ?_
            refine g_aload_n F 2 rfl rfl d_X9_begin_127 ?_
            refine g_getI F 22 f_X9_155 d_X9_begin_128 (hsM_30 hs) rfl rfl ?_
            refine G_top (b := σ 30 22) (a30 22 (by decide)) ?_
            refine g_iconst F d_X9_begin_131 ?_
            refine g_Vv F (own := RX9) (c_X9_waitFor l E q sh σ1 hs 1 (σ 30 21) (σ 30 22) 0 (by rw [a30 18 (by decide)]; exact hs0)) k_X9_171 (hsM_30 hs) rfl rfl [] d_X9_begin_132 ⟨rfl, rfl, by decide, by decide⟩ ⟨Nat.zero_le _, Nat.zero_le _⟩ rfl (Nat.le_of_ble_eq_true rfl) ?_
            rintro _ rfl
            refine g_aload_n F 2 rfl rfl d_X9_begin_135 ?_
            refine g_dup F rfl d_X9_begin_136 ?_
            refine g_getI F 21 f_X9_149 d_X9_begin_137 (hsM_30 hs) rfl rfl ?_
            refine G_top (b := σ 30 21) (by rw [nWait_21]; exact a30 21 (by decide)) ?_
            refine g_iconst F d_X9_begin_140 ?_
            refine g_iadd F d_X9_begin_141 ?_
            refine g_putI F 21 f_X9_149 d_X9_begin_142 (hsM_30 hs) rfl rfl rfl rfl rfl ?_
            refine g_goto F d_X9_begin_145 ?_
            exact hQ d_X9_begin_171 (by unfold nBegin; rw [if_neg h7, ← e1]; first | (rw [if_pos hk]; done) | (rw [if_neg n6, if_pos h76]; done) | (rw [if_neg n6, if_neg (by omega), if_pos (by omega), if_pos (k5.mpr (by omega))]; done) | (rw [if_neg n6, if_neg (by omega), if_pos (by omega), if_neg (by omega)]; done) | (rw [if_neg n6, if_neg (by omega), if_neg (by omega), if_pos (k2.mpr (by omega))]; done) | (rw [if_neg n6, if_neg (by omega), if_neg (by omega), if_neg (by omega)]; done))
          · refine g_iconst F d_X9_begin_118 ?_
            refine g_goto F d_X9_begin_119 ?_
            refine g_aload_n F 2 rfl rfl d_X9_begin_123 ?_
            refine g_getI F 21 f_X9_149 d_X9_begin_124 (hsM_30 hs) rfl rfl ?_
            refine G_top (b := σ 30 21) (a30 21 (by decide)) ?_
            refine g_aload_n F 2 rfl rfl d_X9_begin_127 ?_
            refine g_getI F 22 f_X9_155 d_X9_begin_128 (hsM_30 hs) rfl rfl ?_
            refine G_top (b := σ 30 22) (a30 22 (by decide)) ?_
            refine g_iconst F d_X9_begin_131 ?_
            refine g_Vv F (own := RX9) (c_X9_waitFor l E q sh σ1 hs 3 (σ 30 21) (σ 30 22) 0 (by rw [a30 18 (by decide)]; exact hs0)) k_X9_171 (hsM_30 hs) rfl rfl [] d_X9_begin_132 ⟨rfl, rfl, by decide, by decide⟩ ⟨Nat.zero_le _, Nat.zero_le _⟩ rfl (Nat.le_of_ble_eq_true rfl) ?_
            rintro _ rfl
            refine g_aload_n F 2 rfl rfl d_X9_begin_135 ?_
            refine g_dup F rfl d_X9_begin_136 ?_
            refine g_getI F 21 f_X9_149 d_X9_begin_137 (hsM_30 hs) rfl rfl ?_
            refine G_top (b := σ 30 21) (by rw [nWait_21]; exact a30 21 (by decide)) ?_
            refine g_iconst F d_X9_begin_140 ?_
            refine g_iadd F d_X9_begin_141 ?_
            refine g_putI F 21 f_X9_149 d_X9_begin_142 (hsM_30 hs) rfl rfl rfl rfl rfl ?_
            refine g_goto F d_X9_begin_145 ?_
            exact hQ d_X9_begin_171 (by unfold nBegin; rw [if_neg h7, ← e1]; first | (rw [if_pos hk]; done) | (rw [if_neg n6, if_pos h76]; done) | (rw [if_neg n6, if_neg (by omega), if_pos (by omega), if_pos (k5.mpr (by omega))]; done) | (rw [if_neg n6, if_neg (by omega), if_pos (by omega), if_neg (by omega)]; done) | (rw [if_neg n6, if_neg (by omega), if_neg (by omega), if_pos (k2.mpr (by omega))]; done) | (rw [if_neg n6, if_neg (by omega), if_neg (by omega), if_neg (by omega)]; done))
        · refine g_iload_n F 0 rfl rfl d_X9_begin_105 ?_
          refine g_bipush F (by decide) d_X9_begin_106 ?_
          refine g_icmp_ne F d_X9_begin_108 ⟨by omega, by omega⟩ ⟨by decide, by decide⟩ (fun h108 => ?_) (fun h108 => ?_)
          · refine g_iload_n F 0 rfl rfl d_X9_begin_148 ?_
            refine g_bipush F (by decide) d_X9_begin_149 ?_
            refine g_icmp_ne F d_X9_begin_151 ⟨by omega, by omega⟩ ⟨by decide, by decide⟩ (fun h151 => ?_) (fun h151 => ?_)
            · have hk1 : kd (σ 31 (cP σ)) = 1 := by omega
              have w1 := wo_1 hk1
              refine g_aload_n F 2 rfl rfl d_X9_begin_163 ?_
              refine g_iload_n F 0 rfl rfl d_X9_begin_164 ?_
              refine g_bipush F (by decide) d_X9_begin_165 ?_
              refine g_isub F d_X9_begin_167 ?_
              refine G_top (b := wo (σ 31 (cP σ))) (by rw [w1]) ?_
              refine g_Vv F (own := RX9) (c_X9_come l E q sh σ1 hs (wo (σ 31 (cP σ))) ) k_X9_175 (hsM_30 hs) rfl rfl [] d_X9_begin_168 ⟨rfl, rfl, by decide, by decide⟩ ⟨Nat.zero_le _, Nat.zero_le _⟩ rfl (Nat.le_of_ble_eq_true rfl) ?_
              rintro _ rfl
              exact hQ d_X9_begin_171 (by unfold nBegin; rw [if_neg h7, ← e1]; first | (rw [if_pos hk]; done) | (rw [if_neg n6, if_pos h76]; done) | (rw [if_neg n6, if_neg (by omega), if_pos (by omega), if_pos (k5.mpr (by omega))]; done) | (rw [if_neg n6, if_neg (by omega), if_pos (by omega), if_neg (by omega)]; done) | (rw [if_neg n6, if_neg (by omega), if_neg (by omega), if_pos (k2.mpr (by omega))]; done) | (rw [if_neg n6, if_neg (by omega), if_neg (by omega), if_neg (by omega)]; done))
            · refine g_aload_n F 2 rfl rfl d_X9_begin_154 ?_
              refine g_bipush F (by decide) d_X9_begin_155 ?_
              refine g_putI F 20 f_X9_161 d_X9_begin_157 (hsM_30 hs) rfl rfl rfl rfl rfl ?_
              refine g_goto F d_X9_begin_160 ?_
              exact hQ d_X9_begin_171 (by unfold nBegin; rw [if_neg h7, ← e1]; first | (rw [if_pos hk]; done) | (rw [if_neg n6, if_pos h76]; done) | (rw [if_neg n6, if_neg (by omega), if_pos (by omega), if_pos (k5.mpr (by omega))]; done) | (rw [if_neg n6, if_neg (by omega), if_pos (by omega), if_neg (by omega)]; done) | (rw [if_neg n6, if_neg (by omega), if_neg (by omega), if_pos (k2.mpr (by omega))]; done) | (rw [if_neg n6, if_neg (by omega), if_neg (by omega), if_neg (by omega)]; done))
          · refine g_aload_n F 2 rfl rfl d_X9_begin_111 ?_
            refine g_iload_n F 0 rfl rfl d_X9_begin_112 ?_
            refine g_bipush F (by decide) d_X9_begin_113 ?_
            refine g_icmp_ne F d_X9_begin_115 ⟨by omega, by omega⟩ ⟨by decide, by decide⟩ (fun h115 => ?_) (fun h115 => ?_)
            · refine g_iconst F d_X9_begin_122 ?_
              refine g_aload_n F 2 rfl rfl d_X9_begin_123 ?_
              refine g_getI F 21 f_X9_149 d_X9_begin_124 (hsM_30 hs) rfl rfl ?_
              refine G_top (b := σ 30 21) (a30 21 (by decide)) ?_
              refine g_aload_n F 2 rfl rfl d_X9_begin_127 ?_
              refine g_getI F 22 f_X9_155 d_X9_begin_128 (hsM_30 hs) rfl rfl ?_
              refine G_top (b := σ 30 22) (a30 22 (by decide)) ?_
              refine g_iconst F d_X9_begin_131 ?_
              refine g_Vv F (own := RX9) (c_X9_waitFor l E q sh σ1 hs 1 (σ 30 21) (σ 30 22) 0 (by rw [a30 18 (by decide)]; exact hs0)) k_X9_171 (hsM_30 hs) rfl rfl [] d_X9_begin_132 ⟨rfl, rfl, by decide, by decide⟩ ⟨Nat.zero_le _, Nat.zero_le _⟩ rfl (Nat.le_of_ble_eq_true rfl) ?_
              rintro _ rfl
              refine g_aload_n F 2 rfl rfl d_X9_begin_135 ?_
              refine g_dup F rfl d_X9_begin_136 ?_
              refine g_getI F 21 f_X9_149 d_X9_begin_137 (hsM_30 hs) rfl rfl ?_
              refine G_top (b := σ 30 21) (by rw [nWait_21]; exact a30 21 (by decide)) ?_
              refine g_iconst F d_X9_begin_140 ?_
              refine g_iadd F d_X9_begin_141 ?_
              refine g_putI F 21 f_X9_149 d_X9_begin_142 (hsM_30 hs) rfl rfl rfl rfl rfl ?_
              refine g_goto F d_X9_begin_145 ?_
              exact hQ d_X9_begin_171 (by unfold nBegin; rw [if_neg h7, ← e1]; first | (rw [if_pos hk]; done) | (rw [if_neg n6, if_pos h76]; done) | (rw [if_neg n6, if_neg (by omega), if_pos (by omega), if_pos (k5.mpr (by omega))]; done) | (rw [if_neg n6, if_neg (by omega), if_pos (by omega), if_neg (by omega)]; done) | (rw [if_neg n6, if_neg (by omega), if_neg (by omega), if_pos (k2.mpr (by omega))]; done) | (rw [if_neg n6, if_neg (by omega), if_neg (by omega), if_neg (by omega)]; done))
            · refine g_iconst F d_X9_begin_118 ?_
              refine g_goto F d_X9_begin_119 ?_
              refine g_aload_n F 2 rfl rfl d_X9_begin_123 ?_
              refine g_getI F 21 f_X9_149 d_X9_begin_124 (hsM_30 hs) rfl rfl ?_
              refine G_top (b := σ 30 21) (a30 21 (by decide)) ?_
              refine g_aload_n F 2 rfl rfl d_X9_begin_127 ?_
              refine g_getI F 22 f_X9_155 d_X9_begin_128 (hsM_30 hs) rfl rfl ?_
              refine G_top (b := σ 30 22) (a30 22 (by decide)) ?_
              refine g_iconst F d_X9_begin_131 ?_
              refine g_Vv F (own := RX9) (c_X9_waitFor l E q sh σ1 hs 3 (σ 30 21) (σ 30 22) 0 (by rw [a30 18 (by decide)]; exact hs0)) k_X9_171 (hsM_30 hs) rfl rfl [] d_X9_begin_132 ⟨rfl, rfl, by decide, by decide⟩ ⟨Nat.zero_le _, Nat.zero_le _⟩ rfl (Nat.le_of_ble_eq_true rfl) ?_
              rintro _ rfl
              refine g_aload_n F 2 rfl rfl d_X9_begin_135 ?_
              refine g_dup F rfl d_X9_begin_136 ?_
              refine g_getI F 21 f_X9_149 d_X9_begin_137 (hsM_30 hs) rfl rfl ?_
              refine G_top (b := σ 30 21) (by rw [nWait_21]; exact a30 21 (by decide)) ?_
              refine g_iconst F d_X9_begin_140 ?_
              refine g_iadd F d_X9_begin_141 ?_
              refine g_putI F 21 f_X9_149 d_X9_begin_142 (hsM_30 hs) rfl rfl rfl rfl rfl ?_
              refine g_goto F d_X9_begin_145 ?_
              exact hQ d_X9_begin_171 (by unfold nBegin; rw [if_neg h7, ← e1]; first | (rw [if_pos hk]; done) | (rw [if_neg n6, if_pos h76]; done) | (rw [if_neg n6, if_neg (by omega), if_pos (by omega), if_pos (k5.mpr (by omega))]; done) | (rw [if_neg n6, if_neg (by omega), if_pos (by omega), if_neg (by omega)]; done) | (rw [if_neg n6, if_neg (by omega), if_neg (by omega), if_pos (k2.mpr (by omega))]; done) | (rw [if_neg n6, if_neg (by omega), if_neg (by omega), if_neg (by omega)]; done))
      · have w3 := wo_3 h76
        have b3 := kd_3.mp h76
        have hv3 := hv h76
        refine g_aload_n F 2 rfl rfl d_X9_begin_79 ?_
        refine g_iconst F d_X9_begin_80 ?_
        refine g_aload_n F 2 rfl rfl d_X9_begin_81 ?_
        refine g_getI F 22 f_X9_155 d_X9_begin_82 (hsM_30 hs) rfl rfl ?_
        refine G_top (b := σ 30 22) (a30 22 (by decide)) ?_
        refine g_imul F d_X9_begin_85 ?_
        refine g_iload_n F 0 rfl rfl d_X9_begin_86 ?_
        refine g_iadd F d_X9_begin_87 ?_
        refine g_bipush F (by decide) d_X9_begin_88 ?_
        refine g_isub F d_X9_begin_90 ?_
        refine G_top (b := 3 * σ 30 22 + wo (σ 31 (cP σ))) (by rw [w3]; omega) ?_
        refine g_iload_n F 3 rfl rfl d_X9_begin_91 ?_
        refine g_Vv F (own := RX9) (c_X9_beginArgument l E q sh σ1 hs (3 * σ 30 22 + wo (σ 31 (cP σ))) w (by omega) (by rw [a41]; exact hv3) hw (by rw [a30 18 (by decide)]; exact hs0)) k_X9_168 (hsM_30 hs) rfl rfl [] d_X9_begin_92 ⟨rfl, rfl, by decide, by decide⟩ ⟨Nat.zero_le _, Nat.zero_le _⟩ rfl (Nat.le_of_ble_eq_true rfl) ?_
        rintro _ rfl
        refine g_goto F d_X9_begin_95 ?_
        exact hQ d_X9_begin_171 (by unfold nBegin; rw [if_neg h7, ← e1]; first | (rw [if_pos hk]; done) | (rw [if_neg n6, if_pos h76]; done) | (rw [if_neg n6, if_neg (by omega), if_pos (by omega), if_pos (k5.mpr (by omega))]; done) | (rw [if_neg n6, if_neg (by omega), if_pos (by omega), if_neg (by omega)]; done) | (rw [if_neg n6, if_neg (by omega), if_neg (by omega), if_pos (k2.mpr (by omega))]; done) | (rw [if_neg n6, if_neg (by omega), if_neg (by omega), if_neg (by omega)]; done))
    · have hk := cb_iff.mp (by omega : 0 ≤ cb (σ 31 (cP σ)))
      have ht9 := tx_6 hk
      have hw6 := wo_6 hk
      have e6 := cb_6 hk
      refine g_aload_n F 2 rfl rfl d_X9_begin_59 ?_
      refine g_iload_n F 0 rfl rfl d_X9_begin_60 ?_
      refine g_Si F (own := RX9) (c_X9_calledBy l E q sh σ1 (σ 31 (cP σ)) hrg) k_X9_81 [.ref (q 30)] d_X9_begin_61 ⟨rfl, rfl, by decide, by decide⟩ ⟨Nat.zero_le _, Nat.zero_le _⟩ rfl (Nat.le_of_ble_eq_true rfl) ?_
      rintro _ _ ⟨rfl, rfl⟩
      refine G_top (b := wo (σ 31 (cP σ))) (e6) ?_
      refine g_iload_n F 1 rfl rfl d_X9_begin_64 ?_
      refine g_iload_n F 3 rfl rfl d_X9_begin_65 ?_
      refine g_Vv F (own := RX9) (c_X9_beginCall l E q sh σ1 hs (wo (σ 31 (cP σ))) (cF σ) w hw6 hf hw (by rw [a30 13 (by decide)]; exact hc) (by rw [a30 18 (by decide)]; exact hs0) (fun z => by rw [a37]; exact hT z) (fun j h0 h1 => by rw [a32, a30 21 (by decide), ← ecp]; have h9 := hch j h0 (by omega); omega)) k_X9_164 (hsM_30 hs) rfl rfl [] d_X9_begin_66 ⟨rfl, rfl, by decide, by decide⟩ ⟨Nat.zero_le _, Nat.zero_le _⟩ rfl (Nat.le_of_ble_eq_true rfl) ?_
      rintro _ rfl
      refine g_goto F d_X9_begin_69 ?_
      exact hQ d_X9_begin_171 (by unfold nBegin; rw [if_neg h7, ← e1]; first | (rw [if_pos hk]; done) | (rw [if_neg n6, if_pos h76]; done) | (rw [if_neg n6, if_neg (by omega), if_pos (by omega), if_pos (k5.mpr (by omega))]; done) | (rw [if_neg n6, if_neg (by omega), if_pos (by omega), if_neg (by omega)]; done) | (rw [if_neg n6, if_neg (by omega), if_neg (by omega), if_pos (k2.mpr (by omega))]; done) | (rw [if_neg n6, if_neg (by omega), if_neg (by omega), if_neg (by omega)]; done))
  · refine g_aload_n F 0 rfl rfl d_X9_begin_10 ?_
    refine g_bipush F (by decide) d_X9_begin_11 ?_
    refine g_putI F 20 f_X9_161 d_X9_begin_13 (hsM_30 hs) rfl rfl rfl rfl rfl ?_
    exact hQ d_X9_begin_16 (by unfold nBegin; rw [if_pos h7])
