/-- how a RUN starts -/
def mStart (σ : Sg) (f a wy : Int) : Sg := mGo (tkT (chs (up (up (up (up (up σ 21 10 wy) 21 12 (-1)) 21 13 0) 21 9 0) 21 5 1) 4 28 f) (nA f).toNat a (chs (up (up (up (up (up σ 21 10 wy) 21 12 (-1)) 21 13 0) 21 9 0) 21 5 1) 4)) (f * 30) 0
theorem mRun_stop {σ : Sg} (h : ¬ σ 21 12 = -1) : ∀ k : Nat, mRun k σ = σ
  | 0 => rfl
  | k + 1 => by unfold mRun; rw [if_neg h]
def mDone (σ : Sg) : Sg := if σ 21 12 = -1 then up σ 21 12 9 else σ
/-- an invariant of the turns: enough to take a turn, kept by it -/
def TurnInv (J : Sg → Prop) : Prop := ∀ τ, J τ → BOK τ ∧ AH τ ∧ (τ 21 16 = 0 ∨ τ 21 16 = 1) ∧ rg (τ 21 12) ∧ (τ 21 12 = -1 → (τ 21 16 = 0 → PB τ) ∧ (τ 21 16 = 1 → PK τ) ∧ J (mTurn τ))
set_option maxHeartbeats 1000000 in
theorem c_X2_giveBack (l : Launch) (E : Ev) (q : Nat → Nat) (sh : List Shp) (σ : Sg) (hs : HsC sh) (hBO : BOK σ) (hA : AH σ) (hPK : PK σ) : CV l E yX2_giveBack cX2_giveBack 4 ({ frames := 3, cells := 0, slots := 0, locals := 68 } : Room) q sh σ [.ref (q 21)] (isS (mBack σ)) := by
  obtain ⟨hq, hPK2⟩ := hPK
  obtain ⟨σ1, e1⟩ : ∃ s, s = up σ 21 9 (σ 21 9 - 1) := ⟨_, rfl⟩
  have a6 : σ1 6 = σ 6 := by rw [e1]; exact up_ne _ (by decide) _ _
  have a8 : σ1 8 = σ 8 := by rw [e1]; exact up_ne _ (by decide) _ _
  have a9 : σ1 9 = σ 9 := by rw [e1]; exact up_ne _ (by decide) _ _
  have a10 : σ1 10 = σ 10 := by rw [e1]; exact up_ne _ (by decide) _ _
  have a25 : σ1 25 = σ 25 := by rw [e1]; exact up_ne _ (by decide) _ _
  have a26 : σ1 26 = σ 26 := by rw [e1]; exact up_ne _ (by decide) _ _
  have a27 : σ1 27 = σ 27 := by rw [e1]; exact up_ne _ (by decide) _ _
  have a28 : σ1 28 = σ 28 := by rw [e1]; exact up_ne _ (by decide) _ _
  have a21 : ∀ j, j ≠ 9 → σ1 21 j = σ 21 j := fun j hj => by rw [e1]; exact up_other _ _ hj _
  have aw : σ1 21 9 = σ 21 9 - 1 := by rw [e1]; exact up_same _ _ _ _
  refine CV_of (own := RX2) (by decide) rfl (Nat.le_of_ble_eq_true rfl) (fun X Q F hQ => ?_)
  show G X E 4 q sh σ 0 0 Q 0 [(0, .ref (q 21))] []
  refine g_aload_n F 0 rfl rfl d_X2_giveBack_0 ?_
  refine g_getI F 9 f_X2_51 d_X2_giveBack_1 (hsC_21 hs) rfl rfl ?_
  refine g_if_le F d_X2_giveBack_4 ⟨by omega, by omega⟩ (fun h4 => ?_) (fun h4 => ?_)
  · refine g_aload_n F 0 rfl rfl d_X2_giveBack_17 ?_
    refine g_aload_n F 0 rfl rfl d_X2_giveBack_18 ?_
    refine g_getI F 17 f_X2_147 d_X2_giveBack_19 (hsC_21 hs) rfl rfl ?_
    refine g_putI F 12 f_X2_41 d_X2_giveBack_22 (hsC_21 hs) rfl rfl rfl rfl rfl ?_
    exact hQ d_X2_giveBack_25 (by unfold mBack; rw [if_pos (by omega)])
  · refine g_aload_n F 0 rfl rfl d_X2_giveBack_7 ?_
    refine g_getI F 9 f_X2_51 d_X2_giveBack_8 (hsC_21 hs) rfl rfl ?_
    refine g_sipush F (by decide) d_X2_giveBack_11 ?_
    refine g_icmp_le F d_X2_giveBack_14 ⟨by omega, by omega⟩ ⟨by decide, by decide⟩ (fun h14 => ?_) (fun h14 => by exfalso; omega)
    refine g_aload_n F 0 rfl rfl d_X2_giveBack_26 ?_
    refine g_dup F rfl d_X2_giveBack_27 ?_
    refine g_getI F 9 f_X2_51 d_X2_giveBack_28 (hsC_21 hs) rfl rfl ?_
    refine g_iconst F d_X2_giveBack_31 ?_
    refine g_isub F d_X2_giveBack_32 ?_
    refine g_putI F 9 f_X2_51 d_X2_giveBack_33 (hsC_21 hs) rfl rfl rfl rfl rfl ?_
    obtain ⟨f, hf, hp, hc, hh, h6, h7⟩ := hPK2 (by omega)
    have hB := (hBO f hf.1 hf.2).1
    have hn1 := hB.1
    have hn2 := hB.2.1
    have hKK := (hBO f hf.1 hf.2).2 (tpP σ) hp.1 hp.2
    have hch := (hB.2.2.2.2 (tpP σ) hp.1 hp.2).2.1
    have hkd := kd_in (σ 7 (tpP σ))
    refine G_eq (τ := σ1) e1.symm ?_
    refine g_aload_n F 0 rfl rfl d_X2_giveBack_36 ?_
    refine g_getR F f_X2_21 d_X2_giveBack_37 (hsC_21 hs) rfl ?_
    refine g_aload_n F 0 rfl rfl d_X2_giveBack_40 ?_
    refine g_getI F 9 f_X2_51 d_X2_giveBack_41 (hsC_21 hs) rfl rfl ?_
    refine G_top (b := σ 21 9 - 1) (aw) ?_
    refine g_iaload F d_X2_giveBack_44 (hsC_25 hs) (by omega) (by omega) (by decide) ?_
    refine G_top (b := tpP σ) (by rw [a25]; rfl) ?_
    refine g_istore_n F (lv' := [(1, vI (tpP σ)), (0, .ref (q 21))]) rfl (by decide) rfl d_X2_giveBack_45 ?_
    refine g_aload_n F 1 rfl rfl d_X2_giveBack_46 ?_
    refine g_getR F f_X2_24 d_X2_giveBack_47 (hsC_21 hs) rfl ?_
    refine g_aload_n F 1 rfl rfl d_X2_giveBack_50 ?_
    refine g_getI F 9 f_X2_51 d_X2_giveBack_51 (hsC_21 hs) rfl rfl ?_
    refine G_top (b := σ 21 9 - 1) (aw) ?_
    refine g_iaload F d_X2_giveBack_54 (hsC_26 hs) (by omega) (by omega) (by decide) ?_
    refine G_top (b := tpC σ) (by rw [a26]; rfl) ?_
    refine g_istore_n F (lv' := [(2, vI (tpC σ)), (1, vI (tpP σ)), (0, .ref (q 21))]) rfl (by decide) rfl d_X2_giveBack_55 ?_
    refine g_aload_n F 2 rfl rfl d_X2_giveBack_56 ?_
    refine g_getR F f_X2_27 d_X2_giveBack_57 (hsC_21 hs) rfl ?_
    refine g_aload_n F 2 rfl rfl d_X2_giveBack_60 ?_
    refine g_getI F 9 f_X2_51 d_X2_giveBack_61 (hsC_21 hs) rfl rfl ?_
    refine G_top (b := σ 21 9 - 1) (aw) ?_
    refine g_iaload F d_X2_giveBack_64 (hsC_27 hs) (by omega) (by omega) (by decide) ?_
    refine G_top (b := tpH σ) (by rw [a27]; rfl) ?_
    refine g_istore_n F (lv' := [(3, vI (tpH σ)), (2, vI (tpC σ)), (1, vI (tpP σ)), (0, .ref (q 21))]) rfl (by decide) rfl d_X2_giveBack_65 ?_
    refine g_aload_n F 3 rfl rfl d_X2_giveBack_66 ?_
    refine g_getR F f_X2_33 d_X2_giveBack_67 (hsC_21 hs) rfl ?_
    refine g_iload_n F 2 rfl rfl d_X2_giveBack_70 ?_
    refine g_Vi F (own := RX2) (c_X0_kindAt l E q sh σ1 hs.B (tpP σ) (by omega)) k_X2_111 (hsC_5 hs) rfl rfl [] d_X2_giveBack_71 ⟨rfl, rfl, by decide, by decide⟩ ⟨Nat.zero_le _, Nat.zero_le _⟩ rfl (Nat.le_of_ble_eq_true rfl) ?_
    rintro _ _ ⟨rfl, rfl⟩
    refine G_top (b := kd (σ 7 (tpP σ))) (by rw [a8]; exact hKK.1) ?_
    have hcs : kd (σ 7 (tpP σ)) = 3 ∨ kd (σ 7 (tpP σ)) = 4 ∨ kd (σ 7 (tpP σ)) = 5 ∨ kd (σ 7 (tpP σ)) = 6 ∨ (kd (σ 7 (tpP σ)) < 3 ∨ 6 < kd (σ 7 (tpP σ))) := by omega
    rcases hcs with hk | hk | hk | hk | hk
    · have h3 := kd_3.mp hk
      have h4 := wo_3 hk
      refine g_tabIn F d_X2_giveBack_74 ⟨by omega, by omega⟩ 0 (tgt := 142) (by omega) (by decide) rfl rfl ?_
      refine g_aload_n F 3 rfl rfl d_X2_giveBack_142 ?_
      refine g_iload_n F 1 rfl rfl d_X2_giveBack_143 ?_
      refine g_aload_n F 3 rfl rfl d_X2_giveBack_144 ?_
      refine g_getR F f_X2_33 d_X2_giveBack_145 (hsC_21 hs) rfl ?_
      refine g_iload_n F 2 rfl rfl d_X2_giveBack_148 ?_
      refine g_Vi F (own := RX2) (c_X0_worthAt l E q sh σ1 hs.B (tpP σ) (by omega)) k_X2_114 (hsC_5 hs) rfl rfl [vI (tpC σ), .ref (q 21)] d_X2_giveBack_149 ⟨rfl, rfl, by decide, by decide⟩ ⟨Nat.zero_le _, Nat.zero_le _⟩ rfl (Nat.le_of_ble_eq_true rfl) ?_
      rintro _ _ ⟨rfl, rfl⟩
      refine G_top (b := wo (σ 7 (tpP σ))) (by rw [a9]; exact hKK.2.1) ?_
      refine g_Si F (own := RX2) (c_X2_slotOf l E q sh σ1 (tpC σ) (wo (σ 7 (tpP σ))) ) k_X2_124 [.ref (q 21)] d_X2_giveBack_152 ⟨rfl, rfl, by decide, by decide⟩ ⟨Nat.zero_le _, Nat.zero_le _⟩ rfl (Nat.le_of_ble_eq_true rfl) ?_
      rintro _ _ ⟨rfl, rfl⟩
      refine g_aload_n F 3 rfl rfl d_X2_giveBack_155 ?_
      refine g_getI F 17 f_X2_147 d_X2_giveBack_156 (hsC_21 hs) rfl rfl ?_
      refine G_top (b := σ 21 17) (a21 17 (by decide)) ?_
      refine g_Vv F (own := RX2) (c_X2_setSlot l E q sh σ1 hs ((tpC σ) * 3 + (wo (σ 7 (tpP σ)))) (σ 21 17) (by omega)) k_X2_94 (hsC_21 hs) rfl rfl [] d_X2_giveBack_159 ⟨rfl, rfl, by decide, by decide⟩ ⟨Nat.zero_le _, Nat.zero_le _⟩ rfl (Nat.le_of_ble_eq_true rfl) ?_
      rintro _ rfl
      refine g_goto F d_X2_giveBack_162 ?_
      exact hQ d_X2_giveBack_201 (by unfold mBack; rw [if_neg (by omega), ← e1]; first | (rw [if_neg (by omega), if_neg (by omega), if_neg (by omega), if_pos hk, if_pos h167]; done) | (rw [if_neg (by omega), if_neg (by omega), if_neg (by omega), if_pos hk, if_neg h167]; done) | (rw [if_pos hk]; done) | (rw [if_neg (by omega), if_pos hk]; done) | (rw [if_neg (by omega), if_neg (by omega), if_pos hk]; done) | (rw [if_neg (by omega), if_neg (by omega), if_neg (by omega), if_pos hk]; done) | (rw [if_neg (by omega), if_neg (by omega), if_neg (by omega), if_neg (by omega)]; done))
    · have ht9 := tx_4 hk
      have hc0 := hch 0 (by omega) (by omega)
      rw [tp_0] at hc0
      have hac := act_sign hk
      have h17 := h7 (by omega)
      refine g_tabIn F d_X2_giveBack_74 ⟨by omega, by omega⟩ 1 (tgt := 104) (by omega) (by decide) rfl rfl ?_
      refine g_aload_n F 3 rfl rfl d_X2_giveBack_104 ?_
      refine g_iload_n F 2 rfl rfl d_X2_giveBack_105 ?_
      refine g_iload_n F 1 rfl rfl d_X2_giveBack_106 ?_
      refine g_iload_n F 0 rfl rfl d_X2_giveBack_107 ?_
      refine g_Vv F (own := RX2) (c_X2_goOnActing l E q sh σ1 hs (tpP σ) (tpC σ) (tpH σ) (by omega) hh (by rw [a21 17 (by decide)]; omega) (by omega) (by rw [a9, hKK.2.1]; exact hac)) k_X2_150 (hsC_21 hs) rfl rfl [] d_X2_giveBack_108 ⟨rfl, rfl, by decide, by decide⟩ ⟨Nat.zero_le _, Nat.zero_le _⟩ rfl (Nat.le_of_ble_eq_true rfl) ?_
      rintro _ rfl
      refine g_goto F d_X2_giveBack_111 ?_
      exact hQ d_X2_giveBack_201 (by unfold mBack; rw [if_neg (by omega), ← e1]; first | (rw [if_neg (by omega), if_neg (by omega), if_neg (by omega), if_pos hk, if_pos h167]; done) | (rw [if_neg (by omega), if_neg (by omega), if_neg (by omega), if_pos hk, if_neg h167]; done) | (rw [if_pos hk]; done) | (rw [if_neg (by omega), if_pos hk]; done) | (rw [if_neg (by omega), if_neg (by omega), if_pos hk]; done) | (rw [if_neg (by omega), if_neg (by omega), if_neg (by omega), if_pos hk]; done) | (rw [if_neg (by omega), if_neg (by omega), if_neg (by omega), if_neg (by omega)]; done))
    · have ht9 := tx_5 hk
      refine g_tabIn F d_X2_giveBack_74 ⟨by omega, by omega⟩ 2 (tgt := 114) (by omega) (by decide) rfl rfl ?_
      refine g_aload_n F 3 rfl rfl d_X2_giveBack_114 ?_
      refine g_aload_n F 3 rfl rfl d_X2_giveBack_115 ?_
      refine g_getR F f_X2_33 d_X2_giveBack_116 (hsC_21 hs) rfl ?_
      refine g_iload_n F 2 rfl rfl d_X2_giveBack_119 ?_
      refine g_aload_n F 3 rfl rfl d_X2_giveBack_120 ?_
      refine g_getI F 17 f_X2_147 d_X2_giveBack_121 (hsC_21 hs) rfl rfl ?_
      refine G_top (b := σ 21 17) (a21 17 (by decide)) ?_
      refine g_if_ne F d_X2_giveBack_124 ⟨by omega, by omega⟩ (fun h124 => ?_) (fun h124 => ?_)
      · refine g_iconst F d_X2_giveBack_131 ?_
        refine g_Vi F (own := RX2) (c_X0_textPlace l E q sh σ1 hs.B (tpP σ) 2 (by omega) (by omega) (fun j h0 h1 => by rw [a10]; have h9 := hch j h0 (by omega); omega)) k_X2_141 (hsC_5 hs) rfl rfl [.ref (q 21)] d_X2_giveBack_132 ⟨rfl, rfl, by decide, by decide⟩ ⟨Nat.zero_le _, Nat.zero_le _⟩ rfl (Nat.le_of_ble_eq_true rfl) ?_
        rintro _ _ ⟨rfl, rfl⟩
        have hT5 : tp (σ1 10) (tpP σ) 2 = tp (σ 10) (tpP σ) (if σ 21 17 = 0 then 1 else 2) := by
          rw [a10]
          first
            | (rw [if_pos h124]; done)
            | (rw [if_neg h124]; done)
        refine G_top (b := tp (σ 10) (tpP σ) (if σ 21 17 = 0 then 1 else 2)) (hT5) ?_
        refine g_iload_n F 1 rfl rfl d_X2_giveBack_135 ?_
        refine g_Vv F (own := RX2) (c_X2_goTo l E q sh σ1 hs (tp (σ 10) (tpP σ) (if σ 21 17 = 0 then 1 else 2)) (tpC σ) ) k_X2_70 (hsC_21 hs) rfl rfl [] d_X2_giveBack_136 ⟨rfl, rfl, by decide, by decide⟩ ⟨Nat.zero_le _, Nat.zero_le _⟩ rfl (Nat.le_of_ble_eq_true rfl) ?_
        rintro _ rfl
        refine g_goto F d_X2_giveBack_139 ?_
        exact hQ d_X2_giveBack_201 (by unfold mBack; rw [if_neg (by omega), ← e1]; first | (rw [if_neg (by omega), if_neg (by omega), if_neg (by omega), if_pos hk, if_pos h167]; done) | (rw [if_neg (by omega), if_neg (by omega), if_neg (by omega), if_pos hk, if_neg h167]; done) | (rw [if_pos hk]; done) | (rw [if_neg (by omega), if_pos hk]; done) | (rw [if_neg (by omega), if_neg (by omega), if_pos hk]; done) | (rw [if_neg (by omega), if_neg (by omega), if_neg (by omega), if_pos hk]; done) | (rw [if_neg (by omega), if_neg (by omega), if_neg (by omega), if_neg (by omega)]; done))
      · refine g_iconst F d_X2_giveBack_127 ?_
        refine g_goto F d_X2_giveBack_128 ?_
        refine g_Vi F (own := RX2) (c_X0_textPlace l E q sh σ1 hs.B (tpP σ) 1 (by omega) (by omega) (fun j h0 h1 => by rw [a10]; have h9 := hch j h0 (by omega); omega)) k_X2_141 (hsC_5 hs) rfl rfl [.ref (q 21)] d_X2_giveBack_132 ⟨rfl, rfl, by decide, by decide⟩ ⟨Nat.zero_le _, Nat.zero_le _⟩ rfl (Nat.le_of_ble_eq_true rfl) ?_
        rintro _ _ ⟨rfl, rfl⟩
        have hT5 : tp (σ1 10) (tpP σ) 1 = tp (σ 10) (tpP σ) (if σ 21 17 = 0 then 1 else 2) := by
          rw [a10]
          first
            | (rw [if_pos h124]; done)
            | (rw [if_neg h124]; done)
        refine G_top (b := tp (σ 10) (tpP σ) (if σ 21 17 = 0 then 1 else 2)) (hT5) ?_
        refine g_iload_n F 1 rfl rfl d_X2_giveBack_135 ?_
        refine g_Vv F (own := RX2) (c_X2_goTo l E q sh σ1 hs (tp (σ 10) (tpP σ) (if σ 21 17 = 0 then 1 else 2)) (tpC σ) ) k_X2_70 (hsC_21 hs) rfl rfl [] d_X2_giveBack_136 ⟨rfl, rfl, by decide, by decide⟩ ⟨Nat.zero_le _, Nat.zero_le _⟩ rfl (Nat.le_of_ble_eq_true rfl) ?_
        rintro _ rfl
        refine g_goto F d_X2_giveBack_139 ?_
        exact hQ d_X2_giveBack_201 (by unfold mBack; rw [if_neg (by omega), ← e1]; first | (rw [if_neg (by omega), if_neg (by omega), if_neg (by omega), if_pos hk, if_pos h167]; done) | (rw [if_neg (by omega), if_neg (by omega), if_neg (by omega), if_pos hk, if_neg h167]; done) | (rw [if_pos hk]; done) | (rw [if_neg (by omega), if_pos hk]; done) | (rw [if_neg (by omega), if_neg (by omega), if_pos hk]; done) | (rw [if_neg (by omega), if_neg (by omega), if_neg (by omega), if_pos hk]; done) | (rw [if_neg (by omega), if_neg (by omega), if_neg (by omega), if_neg (by omega)]; done))
    · have ht9 := tx_6 hk
      have hw6 := wo_6 hk
      have h66 := h6 hk
      have hna := nA_in (wo (σ 7 (tpP σ)))
      refine g_tabIn F d_X2_giveBack_74 ⟨by omega, by omega⟩ 3 (tgt := 165) (by omega) (by decide) rfl rfl ?_
      refine g_iload_n F 0 rfl rfl d_X2_giveBack_165 ?_
      refine g_iconst F d_X2_giveBack_166 ?_
      refine g_icmp_eq F d_X2_giveBack_167 ⟨by omega, by omega⟩ ⟨by decide, by decide⟩ (fun h167 => ?_) (fun h167 => ?_)
      · refine g_aload_n F 3 rfl rfl d_X2_giveBack_183 ?_
        refine g_iload_n F 2 rfl rfl d_X2_giveBack_184 ?_
        refine g_iload_n F 1 rfl rfl d_X2_giveBack_185 ?_
        refine g_iload_n F 0 rfl rfl d_X2_giveBack_186 ?_
        refine g_iconst F d_X2_giveBack_187 ?_
        refine g_iadd F d_X2_giveBack_188 ?_
        refine g_Vv F (own := RX2) (c_X2_goOnCalling l E q sh σ1 hs (tpP σ) (tpC σ) ((tpH σ) + 1) (by omega) (by first | (rw [a9, hKK.2.1]; exact hw6) | (rw [up_ne _ (by decide), a9, hKK.2.1]; exact hw6)) hc (by first | (rw [a9, hKK.2.1]; omega) | (rw [up_ne _ (by decide), a9, hKK.2.1]; omega)) (by first | (rw [aw]; omega) | (rw [up_ne _ (by decide), aw]; omega)) (fun k => by first | (rw [a28]; exact hA k) | (rw [up_ne _ (by decide), a28]; exact hA k))) k_X2_153 (hsC_21 hs) rfl rfl [] d_X2_giveBack_189 ⟨rfl, rfl, by decide, by decide⟩ ⟨Nat.zero_le _, Nat.zero_le _⟩ rfl (Nat.le_of_ble_eq_true rfl) ?_
        rintro _ rfl
        refine g_goto F d_X2_giveBack_192 ?_
        exact hQ d_X2_giveBack_201 (by unfold mBack; rw [if_neg (by omega), ← e1]; first | (rw [if_neg (by omega), if_neg (by omega), if_neg (by omega), if_pos hk, if_pos h167]; done) | (rw [if_neg (by omega), if_neg (by omega), if_neg (by omega), if_pos hk, if_neg h167]; done) | (rw [if_pos hk]; done) | (rw [if_neg (by omega), if_pos hk]; done) | (rw [if_neg (by omega), if_neg (by omega), if_pos hk]; done) | (rw [if_neg (by omega), if_neg (by omega), if_neg (by omega), if_pos hk]; done) | (rw [if_neg (by omega), if_neg (by omega), if_neg (by omega), if_neg (by omega)]; done))
      · refine g_aload_n F 3 rfl rfl d_X2_giveBack_170 ?_
        refine g_iload_n F 1 rfl rfl d_X2_giveBack_171 ?_
        refine g_iload_n F 0 rfl rfl d_X2_giveBack_172 ?_
        refine g_Si F (own := RX2) (c_X2_slotOf l E q sh σ1 (tpC σ) (tpH σ) ) k_X2_124 [.ref (q 21)] d_X2_giveBack_173 ⟨rfl, rfl, by decide, by decide⟩ ⟨Nat.zero_le _, Nat.zero_le _⟩ rfl (Nat.le_of_ble_eq_true rfl) ?_
        rintro _ _ ⟨rfl, rfl⟩
        refine g_aload_n F 3 rfl rfl d_X2_giveBack_176 ?_
        refine g_getI F 17 f_X2_147 d_X2_giveBack_177 (hsC_21 hs) rfl rfl ?_
        refine G_top (b := σ 21 17) (a21 17 (by decide)) ?_
        refine g_Vv F (own := RX2) (c_X2_setSlot l E q sh σ1 hs ((tpC σ) * 3 + (tpH σ)) (σ 21 17) (by omega)) k_X2_94 (hsC_21 hs) rfl rfl [] d_X2_giveBack_180 ⟨rfl, rfl, by decide, by decide⟩ ⟨Nat.zero_le _, Nat.zero_le _⟩ rfl (Nat.le_of_ble_eq_true rfl) ?_
        rintro _ rfl
        refine g_aload_n F 3 rfl rfl d_X2_giveBack_183 ?_
        refine g_iload_n F 2 rfl rfl d_X2_giveBack_184 ?_
        refine g_iload_n F 1 rfl rfl d_X2_giveBack_185 ?_
        refine g_iload_n F 0 rfl rfl d_X2_giveBack_186 ?_
        refine g_iconst F d_X2_giveBack_187 ?_
        refine g_iadd F d_X2_giveBack_188 ?_
        refine g_Vv F (own := RX2) (c_X2_goOnCalling l E q sh (up σ1 22 ((tpC σ) * 3 + (tpH σ)) (σ 21 17)) hs (tpP σ) (tpC σ) ((tpH σ) + 1) (by omega) (by first | (rw [a9, hKK.2.1]; exact hw6) | (rw [up_ne _ (by decide), a9, hKK.2.1]; exact hw6)) hc (by first | (rw [a9, hKK.2.1]; omega) | (rw [up_ne _ (by decide), a9, hKK.2.1]; omega)) (by first | (rw [aw]; omega) | (rw [up_ne _ (by decide), aw]; omega)) (fun k => by first | (rw [a28]; exact hA k) | (rw [up_ne _ (by decide), a28]; exact hA k))) k_X2_153 (hsC_21 hs) rfl rfl [] d_X2_giveBack_189 ⟨rfl, rfl, by decide, by decide⟩ ⟨Nat.zero_le _, Nat.zero_le _⟩ rfl (Nat.le_of_ble_eq_true rfl) ?_
        rintro _ rfl
        refine g_goto F d_X2_giveBack_192 ?_
        exact hQ d_X2_giveBack_201 (by unfold mBack; rw [if_neg (by omega), ← e1]; first | (rw [if_neg (by omega), if_neg (by omega), if_neg (by omega), if_pos hk, if_pos h167]; done) | (rw [if_neg (by omega), if_neg (by omega), if_neg (by omega), if_pos hk, if_neg h167]; done) | (rw [if_pos hk]; done) | (rw [if_neg (by omega), if_pos hk]; done) | (rw [if_neg (by omega), if_neg (by omega), if_pos hk]; done) | (rw [if_neg (by omega), if_neg (by omega), if_neg (by omega), if_pos hk]; done) | (rw [if_neg (by omega), if_neg (by omega), if_neg (by omega), if_neg (by omega)]; done))
    · refine g_tabOut F d_X2_giveBack_74 ⟨by omega, by omega⟩ (tgt := 195) (by omega) rfl ?_
      refine g_aload_n F 3 rfl rfl d_X2_giveBack_195 ?_
      refine g_bipush F (by decide) d_X2_giveBack_196 ?_
      refine g_putI F 12 f_X2_41 d_X2_giveBack_198 (hsC_21 hs) rfl rfl rfl rfl rfl ?_
      exact hQ d_X2_giveBack_201 (by unfold mBack; rw [if_neg (by omega), ← e1]; first | (rw [if_neg (by omega), if_neg (by omega), if_neg (by omega), if_pos hk, if_pos h167]; done) | (rw [if_neg (by omega), if_neg (by omega), if_neg (by omega), if_pos hk, if_neg h167]; done) | (rw [if_pos hk]; done) | (rw [if_neg (by omega), if_pos hk]; done) | (rw [if_neg (by omega), if_neg (by omega), if_pos hk]; done) | (rw [if_neg (by omega), if_neg (by omega), if_neg (by omega), if_pos hk]; done) | (rw [if_neg (by omega), if_neg (by omega), if_neg (by omega), if_neg (by omega)]; done))
set_option maxHeartbeats 1000000 in
theorem c_X2_play (l : Launch) (E : Ev) (q : Nat → Nat) (sh : List Shp) (σ : Sg) (hs : HsC sh) (x y wy : Int) (J : Sg → Prop) (hx : 0 ≤ x ∧ x < 4) (hy : 0 ≤ y ∧ y < 729) (hwy : 0 ≤ wy ∧ wy < 4) (hN : ∀ f, 0 ≤ f → f < 4 → 0 ≤ σ 15 f ∧ σ 15 f < 256) (hA0 : AH σ) (hJ : TurnInv J) (hJ0 : J (mStart σ x y wy)) : CV l E yX2_play cX2_play 5 ({ frames := 4, cells := 0, slots := 0, locals := 91 } : Room) q sh σ [.ref (q 21), vI x, vI y, vI wy] (isS (mDone (mRun 3000 (mStart σ x y wy)))) := by
  obtain ⟨σ1, e1⟩ : ∃ s, s = up (up (up (up (up σ 21 10 wy) 21 12 (-1)) 21 13 0) 21 9 0) 21 5 1 := ⟨_, rfl⟩
  have b15 : σ1 15 = σ 15 := by rw [e1, up_ne _ (by decide), up_ne _ (by decide), up_ne _ (by decide), up_ne _ (by decide), up_ne _ (by decide)]
  have b28 : σ1 28 = σ 28 := by rw [e1, up_ne _ (by decide), up_ne _ (by decide), up_ne _ (by decide), up_ne _ (by decide), up_ne _ (by decide)]
  have b10 : σ1 21 10 = wy := by rw [e1, up_other _ _ (by decide), up_other _ _ (by decide), up_other _ _ (by decide), up_other _ _ (by decide), up_same]
  have hAc : AH (chs σ1 4) := by
    intro f
    rw [chs_28]
    split
    · rename_i hf4
      unfold chA
      have h1 := aA_in f
      have h2 := hN f hf4.1 hf4.2
      rw [b15]
      split
      · omega
      · split <;> omega
    · rw [b28]; exact hA0 f
  refine CV_of (own := RX2) (by decide) rfl (Nat.le_of_ble_eq_true rfl) (fun X Q F hQ => ?_)
  show G X E 5 q sh σ 0 0 Q 0 [(0, .ref (q 21)), (1, vI x), (2, vI y), (3, vI wy)] []
  refine g_aload_n F 0 rfl rfl d_X2_play_0 ?_
  refine g_iload_n F 3 rfl rfl d_X2_play_1 ?_
  refine g_putI F 10 f_X2_48 d_X2_play_2 (hsC_21 hs) rfl rfl rfl rfl rfl ?_
  refine g_aload_n F 0 rfl rfl d_X2_play_5 ?_
  refine g_iconst F d_X2_play_6 ?_
  refine g_putI F 12 f_X2_41 d_X2_play_7 (hsC_21 hs) rfl rfl rfl rfl rfl ?_
  refine g_aload_n F 0 rfl rfl d_X2_play_10 ?_
  refine g_iconst F d_X2_play_11 ?_
  refine g_putI F 13 f_X2_45 d_X2_play_12 (hsC_21 hs) rfl rfl rfl rfl rfl ?_
  refine g_aload_n F 0 rfl rfl d_X2_play_15 ?_
  refine g_iconst F d_X2_play_16 ?_
  refine g_putI F 9 f_X2_51 d_X2_play_17 (hsC_21 hs) rfl rfl rfl rfl rfl ?_
  refine g_aload_n F 0 rfl rfl d_X2_play_20 ?_
  refine g_iconst F d_X2_play_21 ?_
  refine g_putI F 5 f_X2_54 d_X2_play_22 (hsC_21 hs) rfl rfl rfl rfl rfl ?_
  refine G_eq (τ := σ1) e1.symm ?_
  refine g_aload_n F 0 rfl rfl d_X2_play_25 ?_
  refine g_Vv F (own := RX2) (c_X2_chooseAhead l E q sh σ1 hs  (by rw [b10]; exact hwy)) k_X2_57 (hsC_21 hs) rfl rfl [] d_X2_play_26 ⟨rfl, rfl, by decide, by decide⟩ ⟨Nat.zero_le _, Nat.zero_le _⟩ rfl (Nat.le_of_ble_eq_true rfl) ?_
  rintro _ rfl
  refine g_aload_n F 0 rfl rfl d_X2_play_29 ?_
  refine g_iload_n F 1 rfl rfl d_X2_play_30 ?_
  refine g_iload_n F 2 rfl rfl d_X2_play_31 ?_
  refine g_Vv F (own := RX2) (c_X2_takeTold l E q sh (chs σ1 4) hs x y hx hy hAc) k_X2_60 (hsC_21 hs) rfl rfl [] d_X2_play_32 ⟨rfl, rfl, by decide, by decide⟩ ⟨Nat.zero_le _, Nat.zero_le _⟩ rfl (Nat.le_of_ble_eq_true rfl) ?_
  rintro _ rfl
  refine g_aload_n F 0 rfl rfl d_X2_play_35 ?_
  refine g_aload_n F 0 rfl rfl d_X2_play_36 ?_
  refine g_getR F f_X2_33 d_X2_play_37 (hsC_21 hs) rfl ?_
  refine g_iload_n F 1 rfl rfl d_X2_play_40 ?_
  refine g_Vi F (own := RX2) (c_X0_root l E q sh (tkT ((chs σ1 4) 28 x) (nA x).toNat y (chs σ1 4)) hs.B x hx) k_X2_64 (hsC_5 hs) rfl rfl [.ref (q 21)] d_X2_play_41 ⟨rfl, rfl, by decide, by decide⟩ ⟨Nat.zero_le _, Nat.zero_le _⟩ rfl (Nat.le_of_ble_eq_true rfl) ?_
  rintro _ _ ⟨rfl, rfl⟩
  refine g_iconst F d_X2_play_44 ?_
  refine g_Vv F (own := RX2) (c_X2_goTo l E q sh (tkT ((chs σ1 4) 28 x) (nA x).toNat y (chs σ1 4)) hs (x * 30) 0 ) k_X2_70 (hsC_21 hs) rfl rfl [] d_X2_play_45 ⟨rfl, rfl, by decide, by decide⟩ ⟨Nat.zero_le _, Nat.zero_le _⟩ rfl (Nat.le_of_ble_eq_true rfl) ?_
  rintro _ rfl
  refine g_iconst F d_X2_play_48 ?_
  refine g_istore F (lv' := [(4, vI 0), (0, .ref (q 21)), (1, vI x), (2, vI y), (3, vI wy)]) (by decide) rfl d_X2_play_49 ?_
  have loop51 : ∀ (nn : Nat) (t : Int) (τ : Sg), (0 ≤ t ∧ t ≤ 3000) → (J τ) → (mRun (3000 - t).toNat τ = mRun 3000 (mStart σ x y wy)) → (3000 - t).toNat < nn → G X E 5 q sh τ 0 0 Q 51 [(0, .ref (q 21)), (1, vI x), (2, vI y), (3, vI wy), (4, vI t)] [] := by
    intro n51
    induction n51 with
    | zero => intro t τ ht hj hr hm51; exact absurd hm51 (Nat.not_lt_zero _)
    | succ n51 ih51 =>
      intro t τ ht hj hr hm51
      obtain ⟨i1, i2, i3, i4, i5⟩ := hJ τ hj
      have i41 := i4.1
      have i42 := i4.2
      refine g_aload_n F 0 rfl rfl d_X2_play_51 ?_
      refine g_getI F 12 f_X2_41 d_X2_play_52 (hsC_21 hs) rfl rfl ?_
      refine g_iconst F d_X2_play_55 ?_
      refine g_icmp_ne F d_X2_play_56 ⟨by omega, by omega⟩ ⟨by decide, by decide⟩ (fun h56 => ?_) (fun h56 => ?_)
      · refine g_aload_n F 0 rfl rfl d_X2_play_91 ?_
        refine g_getI F 12 f_X2_41 d_X2_play_92 (hsC_21 hs) rfl rfl ?_
        refine g_iconst F d_X2_play_95 ?_
        refine g_icmp_ne F d_X2_play_96 ⟨by omega, by omega⟩ ⟨by decide, by decide⟩ (fun h96 => ?_) (fun h96 => ?_)
        · exact hQ d_X2_play_105 (by rw [← hr]; first | (rw [mRun_stop h56]; unfold mDone; first | (rw [if_neg h56]; done) | (exact absurd h96 h56)) | (rw [show (3000 - t).toNat = 0 by omega]; unfold mRun mDone; first | (rw [if_pos h96]; done) | (rw [if_neg h96]; done)))
        · refine g_aload_n F 0 rfl rfl d_X2_play_99 ?_
          refine g_bipush F (by decide) d_X2_play_100 ?_
          refine g_putI F 12 f_X2_41 d_X2_play_102 (hsC_21 hs) rfl rfl rfl rfl rfl ?_
          exact hQ d_X2_play_105 (by rw [← hr]; first | (rw [mRun_stop h56]; unfold mDone; first | (rw [if_neg h56]; done) | (exact absurd h96 h56)) | (rw [show (3000 - t).toNat = 0 by omega]; unfold mRun mDone; first | (rw [if_pos h96]; done) | (rw [if_neg h96]; done)))
      · refine g_iload F 4 rfl d_X2_play_59 ?_
        refine g_sipush F (by decide) d_X2_play_61 ?_
        refine g_icmp_ge F d_X2_play_64 ⟨by omega, by omega⟩ ⟨by decide, by decide⟩ (fun h64 => ?_) (fun h64 => ?_)
        · refine g_aload_n F 0 rfl rfl d_X2_play_91 ?_
          refine g_getI F 12 f_X2_41 d_X2_play_92 (hsC_21 hs) rfl rfl ?_
          refine g_iconst F d_X2_play_95 ?_
          refine g_icmp_ne F d_X2_play_96 ⟨by omega, by omega⟩ ⟨by decide, by decide⟩ (fun h96 => ?_) (fun h96 => ?_)
          · exact hQ d_X2_play_105 (by rw [← hr]; first | (rw [mRun_stop h56]; unfold mDone; first | (rw [if_neg h56]; done) | (exact absurd h96 h56)) | (rw [show (3000 - t).toNat = 0 by omega]; unfold mRun mDone; first | (rw [if_pos h96]; done) | (rw [if_neg h96]; done)))
          · refine g_aload_n F 0 rfl rfl d_X2_play_99 ?_
            refine g_bipush F (by decide) d_X2_play_100 ?_
            refine g_putI F 12 f_X2_41 d_X2_play_102 (hsC_21 hs) rfl rfl rfl rfl rfl ?_
            exact hQ d_X2_play_105 (by rw [← hr]; first | (rw [mRun_stop h56]; unfold mDone; first | (rw [if_neg h56]; done) | (exact absurd h96 h56)) | (rw [show (3000 - t).toNat = 0 by omega]; unfold mRun mDone; first | (rw [if_pos h96]; done) | (rw [if_neg h96]; done)))
        · refine g_aload_n F 0 rfl rfl d_X2_play_67 ?_
          refine g_getI F 16 f_X2_73 d_X2_play_68 (hsC_21 hs) rfl rfl ?_
          refine g_if_eq F d_X2_play_71 ⟨by omega, by omega⟩ (fun h71 => ?_) (fun h71 => ?_)
          · refine g_aload_n F 0 rfl rfl d_X2_play_81 ?_
            refine g_Vv F (own := RX2) (c_X2_begin l E q sh τ hs  i1 i2 ((i5 h56).1 h71)) k_X2_80 (hsC_21 hs) rfl rfl [] d_X2_play_82 ⟨rfl, rfl, by decide, by decide⟩ ⟨Nat.zero_le _, Nat.zero_le _⟩ rfl (Nat.le_of_ble_eq_true rfl) ?_
            rintro _ rfl
            refine g_iinc F (lv' := [(4, vI (t + 1)), (0, .ref (q 21)), (1, vI x), (2, vI y), (3, vI wy)]) 4 rfl rfl (by decide) rfl d_X2_play_85 ?_
            refine g_goto F d_X2_play_88 ?_
            have hst : (mBegin τ) = mTurn τ := by
              unfold mTurn
              first
                | (rw [if_pos h71]; done)
                | (rw [if_neg h71]; done)
            have hr2 : mRun (3000 - (t + 1)).toNat (mBegin τ) = mRun 3000 (mStart σ x y wy) := by
              rw [← hr, show (3000 - t).toNat = (3000 - (t + 1)).toNat + 1 by omega, mRun, if_pos h56, hst]
            have hj2 : J (mBegin τ) := by rw [hst]; exact (i5 h56).2.2
            refine G_sub (ks := [1, 2, 3, 4, 0]) rfl ?_
            exact ih51 (t + 1) (mBegin τ) (by omega) hj2 hr2 (by omega)
          · refine g_aload_n F 0 rfl rfl d_X2_play_74 ?_
            refine g_Vv F (own := RX2) (c_X2_giveBack l E q sh τ hs  i1 i2 ((i5 h56).2.1 (by omega))) k_X2_77 (hsC_21 hs) rfl rfl [] d_X2_play_75 ⟨rfl, rfl, by decide, by decide⟩ ⟨Nat.zero_le _, Nat.zero_le _⟩ rfl (Nat.le_of_ble_eq_true rfl) ?_
            rintro _ rfl
            refine g_goto F d_X2_play_78 ?_
            refine g_iinc F (lv' := [(4, vI (t + 1)), (0, .ref (q 21)), (1, vI x), (2, vI y), (3, vI wy)]) 4 rfl rfl (by decide) rfl d_X2_play_85 ?_
            refine g_goto F d_X2_play_88 ?_
            have hst : (mBack τ) = mTurn τ := by
              unfold mTurn
              first
                | (rw [if_pos h71]; done)
                | (rw [if_neg h71]; done)
            have hr2 : mRun (3000 - (t + 1)).toNat (mBack τ) = mRun 3000 (mStart σ x y wy) := by
              rw [← hr, show (3000 - t).toNat = (3000 - (t + 1)).toNat + 1 by omega, mRun, if_pos h56, hst]
            have hj2 : J (mBack τ) := by rw [hst]; exact (i5 h56).2.2
            refine G_sub (ks := [1, 2, 3, 4, 0]) rfl ?_
            exact ih51 (t + 1) (mBack τ) (by omega) hj2 hr2 (by omega)
  have hst : (mGo (tkT ((chs σ1 4) 28 x) (nA x).toNat y (chs σ1 4)) (x * 30) 0) = mStart σ x y wy := by unfold mStart; rw [← e1]
  have hJ9 : J (mGo (tkT ((chs σ1 4) 28 x) (nA x).toNat y (chs σ1 4)) (x * 30) 0) := by rw [hst]; exact hJ0
  refine G_sub (ks := [1, 2, 3, 4, 0]) rfl ?_
  exact loop51 _ 0 (mGo (tkT ((chs σ1 4) 28 x) (nA x).toNat y (chs σ1 4)) (x * 30) 0) (by omega) hJ9 (by rw [hst]; rfl) (Nat.lt_succ_self _)
