/-! the reference: a RUN -/
abbrev nrows : List Nat := [30, 40, 41, 42, 43, 44, 45, 46, 47]
theorem nGo_Sm {ρ σ : Sg} (h : Sm nrows ρ σ) (n c : Int) : Sm nrows ρ (nGo σ n c) := by
  unfold nGo; exact (h.up (by decide) _ _).up (by decide) _ _
theorem nCome_Sm {ρ σ : Sg} (h : Sm nrows ρ σ) (v : Int) : Sm nrows ρ (nCome σ v) := by
  unfold nCome; exact (h.up (by decide) _ _).up (by decide) _ _
theorem nWait_Sm {ρ σ : Sg} (h : Sm nrows ρ σ) (k n c m : Int) : Sm nrows ρ (nWait σ k n c m) := by
  unfold nWait; exact ((((h.up (by decide) _ _).up (by decide) _ _).up (by decide) _ _).up (by decide) _ _).up (by decide) _ _
theorem nAh_Sm {ρ σ : Sg} (h : Sm nrows ρ σ) (c k w : Int) : Sm nrows ρ (nAh σ c k w) := by
  unfold nAh
  split
  · exact nGo_Sm (nWait_Sm h _ _ _ _) _ _
  · exact nGo_Sm h _ _
theorem nArg_Sm {ρ σ : Sg} (h : Sm nrows ρ σ) (s w : Int) : Sm nrows ρ (nArg σ s w) := by
  unfold nArg
  split
  · exact h.up (by decide) _ _
  · split
    · exact nCome_Sm h _
    · split
      · exact nGo_Sm h _ _
      · exact nGo_Sm (nWait_Sm h _ _ _ _) _ _
theorem nCall_Sm {ρ σ : Sg} (h : Sm nrows ρ σ) (g f w : Int) : Sm nrows ρ (nCall σ g f w) := by
  unfold nCall
  exact nAh_Sm (((h.up (by decide) _ _).trans ((nHangs_Sm _ _ _ _ _ _).wide (by decide))).up (by decide) _ _) _ _ _
theorem nBegin_Sm (σ : Sg) (w : Int) : Sm nrows σ (nBegin σ w) := by
  have h := Sm.refl nrows σ
  unfold nBegin
  split
  · exact h.up (by decide) _ _
  · have h1 : Sm nrows σ (up σ 30 19 (σ 30 19 + 1)) := h.up (by decide) _ _
    split
    · exact nCall_Sm h1 _ _ _
    · split
      · exact nArg_Sm h1 _ _
      · split
        · exact (nWait_Sm h1 _ _ _ _).up (by decide) _ _
        · split
          · exact h1.up (by decide) _ _
          · exact nCome_Sm h1 _
theorem nOn_Sm (σ : Sg) : Sm nrows σ (nOn σ) := by
  have h1 : Sm nrows σ (up σ 30 18 (σ 30 18 - 1)) := (Sm.refl _ _).up (by decide) _ _
  unfold nOn
  split
  · exact nGo_Sm (nWait_Sm h1 _ _ _ _) _ _
  · split
    · exact nCome_Sm h1 _
    · split
      · exact nGo_Sm h1 _ _
      · split
        · exact h1.up (by decide) _ _
        · exact nAh_Sm (h1.up (by decide) _ _) _ _ _
def nTurn (σ : Sg) (w : Int) : Sg := if 0 ≤ σ 30 21 then nBegin σ w else if 0 < σ 30 18 then nOn σ else up σ 30 20 (σ 30 23)
theorem nTurn_Sm (σ : Sg) (w : Int) : Sm nrows σ (nTurn σ w) := by
  unfold nTurn
  split
  · exact nBegin_Sm σ w
  · split
    · exact nOn_Sm σ
    · exact (Sm.refl _ _).up (by decide) _ _
/-- the told ARGUMENTS -/
def nTold (σ : Sg) (f a w : Int) : Nat → Sg
  | 0 => σ
  | k + 1 => up (up (nTold σ f a w k) 41 k (tdo f a k)) 30 20 (if amB σ w f k = true ∧ tdo f a k = 8 then 8 else nTold σ f a w k 30 20)
theorem nTold_Sm (σ : Sg) (f a w : Int) : ∀ k : Nat, Sm [30, 41] σ (nTold σ f a w k)
  | 0 => Sm.refl _ _
  | k + 1 => ((nTold_Sm σ f a w k).up (by decide) _ _).up (by decide) _ _
def nS1 (σ : Sg) (f : Int) : Sg := up (up (up (up (up σ 30 19 0) 30 20 (-1)) 30 18 0) 30 13 1) 40 0 f
def nStart (σ : Sg) (f a w : Int) : Sg := nGo (nTold (nS1 σ f) f a w (nA f).toNat) 0 0
theorem nStart_Sm (σ : Sg) (f a w : Int) : Sm nrows σ (nStart σ f a w) := by
  unfold nStart nS1
  exact nGo_Sm ((((((((Sm.refl nrows σ).up (by decide) _ _).up (by decide) _ _).up (by decide) _ _).up (by decide) _ _).up (by decide) _ _)).trans ((nTold_Sm _ f a w _).wide (by decide))) _ _
theorem nTold_20 (σ : Sg) (f a w : Int) (h : rg (σ 30 20)) : ∀ k : Nat, rg (nTold σ f a w k 30 20)
  | 0 => h
  | k + 1 => by
    unfold nTold
    rw [up_same]
    split
    · exact ⟨by decide, by decide⟩
    · exact nTold_20 σ f a w h k
/-- what begin needs -/
def PBM (σ : Sg) : Prop := (0 ≤ σ 30 19 ∧ σ 30 19 ≤ 300) ∧ (0 ≤ σ 30 22 ∧ σ 30 22 < 302) ∧ (0 ≤ cF σ ∧ cF σ < 4) ∧ (0 ≤ σ 30 21 ∧ σ 30 21 < σ 34 (cF σ)) ∧ (0 ≤ σ 30 18 ∧ σ 30 18 < 1000) ∧ (0 ≤ σ 30 13 ∧ σ 30 13 < 302) ∧ (kd (σ 31 (cP σ)) = 3 → -1 ≤ σ 41 (3 * σ 30 22 + wo (σ 31 (cP σ))) ∧ σ 41 (3 * σ 30 22 + wo (σ 31 (cP σ))) ≤ 8)
/-- an invariant of the turns, with how many may still come -/
def NInv (w : Int) (J : Int → Sg → Prop) : Prop := ∀ kk τ, J kk τ → (rg (τ 30 20) ∧ rg (τ 30 21) ∧ rg (τ 30 18)) ∧ (τ 30 20 < 0 → 1 ≤ kk ∧ (0 ≤ τ 30 21 → PBM τ) ∧ (¬ 0 ≤ τ 30 21 → 0 < τ 30 18 → PO τ) ∧ MTR τ ∧ MOK τ ∧ J (kk - 1) (nTurn τ w))
theorem amB_row {σ τ : Sg} (h : τ 37 = σ 37) (w f j : Int) : amB τ w f j = amB σ w f j := by unfold amB mtb; rw [h]
theorem mtb_up2 (σ : Sg) (s v f r : Int) : mtb (up σ 41 s v) f r = mtb σ f r := by unfold mtb; rw [up_ne _ (by decide)]
set_option maxHeartbeats 1000000 in
theorem c_X9_runIt (l : Launch) (E : Ev) (q : Nat → Nat) (sh : List Shp) (σ : Sg) (hs : HsM sh) (x y w : Int) (J : Int → Sg → Prop) (K : Int) (hx : 0 ≤ x ∧ x < 4) (hy : 0 ≤ y ∧ y < 729) (hw : 0 ≤ w ∧ w < 4) (hT : MTR σ) (hJ : NInv w J) (hK : 0 ≤ K) (hJ0 : J K (nStart σ x y w)) : CV l E yX9_runIt cX9_runIt 6 ({ frames := 6, cells := 0, slots := 0, locals := 135 } : Room) q sh σ [.ref (q 30), vI x, vI y, vI w] (fun τ => (∃ kk, J kk τ) ∧ 0 ≤ τ 30 20 ∧ Sm nrows σ τ) := by
  have hn := nA_in x
  obtain ⟨σ1, e1⟩ : ∃ s, s = nS1 σ x := ⟨_, rfl⟩
  have a37 : σ1 37 = σ 37 := by
    rw [e1]; unfold nS1
    rw [up_ne _ (by decide), up_ne _ (by decide), up_ne _ (by decide), up_ne _ (by decide), up_ne _ (by decide)]
  have a20 : rg (σ1 30 20) := by
    rw [e1]; unfold nS1
    rw [up_ne _ (by decide), up_other _ _ (by decide), up_other _ _ (by decide), up_same]; exact ⟨by decide, by decide⟩
  refine CV_of (own := RX9) (by decide) rfl (Nat.le_of_ble_eq_true rfl) (fun X Q F hQ => ?_)
  show G X E 6 q sh σ 0 0 Q 0 [(0, .ref (q 30)), (1, vI x), (2, vI y), (3, vI w)] []
  refine g_aload_n F 0 rfl rfl d_X9_runIt_0 ?_
  refine g_iconst F d_X9_runIt_1 ?_
  refine g_putI F 19 f_X9_158 d_X9_runIt_2 (hsM_30 hs) rfl rfl rfl rfl rfl ?_
  refine g_aload_n F 0 rfl rfl d_X9_runIt_5 ?_
  refine g_iconst F d_X9_runIt_6 ?_
  refine g_putI F 20 f_X9_161 d_X9_runIt_7 (hsM_30 hs) rfl rfl rfl rfl rfl ?_
  refine g_aload_n F 0 rfl rfl d_X9_runIt_10 ?_
  refine g_iconst F d_X9_runIt_11 ?_
  refine g_putI F 18 f_X9_145 d_X9_runIt_12 (hsM_30 hs) rfl rfl rfl rfl rfl ?_
  refine g_aload_n F 0 rfl rfl d_X9_runIt_15 ?_
  refine g_iconst F d_X9_runIt_16 ?_
  refine g_putI F 13 f_X9_182 d_X9_runIt_17 (hsM_30 hs) rfl rfl rfl rfl rfl ?_
  refine g_aload_n F 0 rfl rfl d_X9_runIt_20 ?_
  refine g_getR F f_X9_37 d_X9_runIt_21 (hsM_30 hs) rfl ?_
  refine g_iconst F d_X9_runIt_24 ?_
  refine g_iload_n F 1 rfl rfl d_X9_runIt_25 ?_
  refine g_iastore F d_X9_runIt_26 (hsM_40 hs) (by omega) (by omega) (by decide) ?_
  refine G_eq (τ := σ1) e1.symm ?_
  refine g_iconst F d_X9_runIt_27 ?_
  refine g_istore F (lv' := [(4, vI 0), (0, .ref (q 30)), (1, vI x), (2, vI y), (3, vI w)]) (by decide) rfl d_X9_runIt_28 ?_
  have loop30 : ∀ (nn : Nat) (t : Int) (τ : Sg), (0 ≤ t ∧ t ≤ nA x) → (τ = nTold σ1 x y w t.toNat) → (nA x - t).toNat < nn → G X E 6 q sh τ 0 0 Q 30 [(0, .ref (q 30)), (1, vI x), (2, vI y), (3, vI w), (4, vI t)] [] := by
    intro n30
    induction n30 with
    | zero => intro t τ ht hτ hm30; exact absurd hm30 (Nat.not_lt_zero _)
    | succ n30 ih30 =>
      intro t τ ht hτ hm30
      have hm : Sm [30, 41] σ1 τ := by rw [hτ]; exact nTold_Sm _ _ _ _ _
      have g37 : τ 37 = σ 37 := (hm 37 (by decide)).trans a37
      have g20 : rg (τ 30 20) := by rw [hτ]; exact nTold_20 _ _ _ _ a20 _
      refine g_iload F 4 rfl d_X9_runIt_30 ?_
      refine g_iload_n F 1 rfl rfl d_X9_runIt_32 ?_
      refine g_Si F (own := RX9) (c_X9_argumentsOf l E q sh τ x (by omega)) k_X9_85 [vI t] d_X9_runIt_33 ⟨rfl, rfl, by decide, by decide⟩ ⟨Nat.zero_le _, Nat.zero_le _⟩ rfl (Nat.le_of_ble_eq_true rfl) ?_
      rintro _ _ ⟨rfl, rfl⟩
      refine g_icmp_ge F d_X9_runIt_36 ⟨by omega, by omega⟩ ⟨by omega, by omega⟩ (fun h36 => ?_) (fun h36 => ?_)
      · refine g_aload_n F 0 rfl rfl d_X9_runIt_116 ?_
        refine g_iconst F d_X9_runIt_117 ?_
        refine g_iconst F d_X9_runIt_118 ?_
        refine g_Vv F (own := RX9) (c_X9_go l E q sh τ hs 0 0 ) k_X9_179 (hsM_30 hs) rfl rfl [] d_X9_runIt_119 ⟨rfl, rfl, by decide, by decide⟩ ⟨Nat.zero_le _, Nat.zero_le _⟩ rfl (Nat.le_of_ble_eq_true rfl) ?_
        rintro _ rfl
        have loop122 : ∀ (nn : Nat) (kk : Int) (τ : Sg), (0 ≤ kk) → (J kk τ) → (Sm nrows σ τ) → (kk).toNat < nn → G X E 6 q sh τ 0 0 Q 122 [(0, .ref (q 30)), (1, vI x), (2, vI y), (3, vI w)] [] := by
          intro n122
          induction n122 with
          | zero => intro kk τ hk hj hm hm122; exact absurd hm122 (Nat.not_lt_zero _)
          | succ n122 ih122 =>
            intro kk τ hk hj hm hm122
            obtain ⟨i1, i2⟩ := hJ kk τ hj
            have r20 := i1.1
            have r21 := i1.2.1
            have r18 := i1.2.2
            clear i1
            refine g_aload_n F 0 rfl rfl d_X9_runIt_122 ?_
            refine g_getI F 20 f_X9_161 d_X9_runIt_123 (hsM_30 hs) rfl rfl ?_
            refine g_if_ge F d_X9_runIt_126 r20 (fun h126 => ?_) (fun h126 => ?_)
            · exact hQ d_X9_runIt_169 (⟨⟨kk, hj⟩, by omega, hm⟩)
            · obtain ⟨j1, j2, j3, j4, j5, j6⟩ := i2 (by omega)
              refine g_aload_n F 0 rfl rfl d_X9_runIt_129 ?_
              refine g_getI F 21 f_X9_149 d_X9_runIt_130 (hsM_30 hs) rfl rfl ?_
              refine g_if_lt F d_X9_runIt_133 r21 (fun h133 => ?_) (fun h133 => ?_)
              · refine g_aload_n F 0 rfl rfl d_X9_runIt_144 ?_
                refine g_getI F 18 f_X9_145 d_X9_runIt_145 (hsM_30 hs) rfl rfl ?_
                refine g_if_le F d_X9_runIt_148 r18 (fun h148 => ?_) (fun h148 => ?_)
                · refine g_aload_n F 0 rfl rfl d_X9_runIt_158 ?_
                  refine g_aload_n F 0 rfl rfl d_X9_runIt_159 ?_
                  refine g_getI F 23 f_X9_152 d_X9_runIt_160 (hsM_30 hs) rfl rfl ?_
                  refine g_putI F 20 f_X9_161 d_X9_runIt_163 (hsM_30 hs) rfl rfl rfl rfl rfl ?_
                  refine g_goto F d_X9_runIt_166 ?_
                  have hst : (up τ 30 20 (τ 30 23)) = nTurn τ w := by
                    unfold nTurn
                    first
                      | (rw [if_pos (by omega)]; done)
                      | (rw [if_neg (by omega), if_pos (by omega)]; done)
                      | (rw [if_neg (by omega), if_neg (by omega)]; done)
                  have hj2 : J (kk - 1) (up τ 30 20 (τ 30 23)) := by rw [hst]; exact j6
                  have hm2 : Sm nrows σ (up τ 30 20 (τ 30 23)) := by rw [hst]; exact hm.trans (nTurn_Sm _ _)
                  exact ih122 (kk - 1) (up τ 30 20 (τ 30 23)) (by omega) hj2 hm2 (by omega)
                · have j33 := j3 (by omega) (by omega)
                  refine g_aload_n F 0 rfl rfl d_X9_runIt_151 ?_
                  refine g_Vv F (own := RX9) (c_X9_goOn l E q sh τ hs  j33 j4 j5.2) k_X9_197 (hsM_30 hs) rfl rfl [] d_X9_runIt_152 ⟨rfl, rfl, by decide, by decide⟩ ⟨Nat.zero_le _, Nat.zero_le _⟩ rfl (Nat.le_of_ble_eq_true rfl) ?_
                  rintro _ rfl
                  refine g_goto F d_X9_runIt_155 ?_
                  have hst : (nOn τ) = nTurn τ w := by
                    unfold nTurn
                    first
                      | (rw [if_pos (by omega)]; done)
                      | (rw [if_neg (by omega), if_pos (by omega)]; done)
                      | (rw [if_neg (by omega), if_neg (by omega)]; done)
                  have hj2 : J (kk - 1) (nOn τ) := by rw [hst]; exact j6
                  have hm2 : Sm nrows σ (nOn τ) := by rw [hst]; exact hm.trans (nTurn_Sm _ _)
                  exact ih122 (kk - 1) (nOn τ) (by omega) hj2 hm2 (by omega)
              · obtain ⟨b1, b2, b3, b4, b5, b6, b7⟩ := j2 (by omega)
                refine g_aload_n F 0 rfl rfl d_X9_runIt_136 ?_
                refine g_iload_n F 3 rfl rfl d_X9_runIt_137 ?_
                refine g_Vv F (own := RX9) (c_X9_begin l E q sh τ hs w j5 j4 b1 b2 b3 b4 hw b5 b6 b7) k_X9_194 (hsM_30 hs) rfl rfl [] d_X9_runIt_138 ⟨rfl, rfl, by decide, by decide⟩ ⟨Nat.zero_le _, Nat.zero_le _⟩ rfl (Nat.le_of_ble_eq_true rfl) ?_
                rintro _ rfl
                refine g_goto F d_X9_runIt_141 ?_
                have hst : (nBegin τ w) = nTurn τ w := by
                  unfold nTurn
                  first
                    | (rw [if_pos (by omega)]; done)
                    | (rw [if_neg (by omega), if_pos (by omega)]; done)
                    | (rw [if_neg (by omega), if_neg (by omega)]; done)
                have hj2 : J (kk - 1) (nBegin τ w) := by rw [hst]; exact j6
                have hm2 : Sm nrows σ (nBegin τ w) := by rw [hst]; exact hm.trans (nTurn_Sm _ _)
                exact ih122 (kk - 1) (nBegin τ w) (by omega) hj2 hm2 (by omega)
        have hst : (nGo τ 0 0) = nStart σ x y w := by unfold nStart; rw [← e1, hτ, show t = nA x by omega]
        have hJ9 : J K (nGo τ 0 0) := by rw [hst]; exact hJ0
        have hm9 : Sm nrows σ (nGo τ 0 0) := by rw [hst]; exact nStart_Sm _ _ _ _
        refine G_sub (ks := [0, 1, 2, 3]) rfl ?_
        exact loop122 _ K _ hK hJ9 hm9 (Nat.lt_succ_self _)
      · refine g_aload_n F 0 rfl rfl d_X9_runIt_39 ?_
        refine g_getR F f_X9_40 d_X9_runIt_40 (hsM_30 hs) rfl ?_
        refine g_iload F 4 rfl d_X9_runIt_43 ?_
        refine g_iload_n F 1 rfl rfl d_X9_runIt_45 ?_
        refine g_iload_n F 2 rfl rfl d_X9_runIt_46 ?_
        refine g_iload F 4 rfl d_X9_runIt_47 ?_
        refine g_Si F (own := RX9) (c_X9_toldOne l E q sh τ x y t hx hy (by omega)) k_X9_191 [vI t, .ref (q 41)] d_X9_runIt_49 ⟨rfl, rfl, by decide, by decide⟩ ⟨Nat.zero_le _, Nat.zero_le _⟩ rfl (Nat.le_of_ble_eq_true rfl) ?_
        rintro _ _ ⟨rfl, rfl⟩
        refine g_iastore F d_X9_runIt_52 (hsM_41 hs) (by omega) (by omega) (by decide) ?_
        refine g_iload_n F 3 rfl rfl d_X9_runIt_53 ?_
        refine g_iconst F d_X9_runIt_54 ?_
        refine g_icmp_eq F d_X9_runIt_55 ⟨by omega, by omega⟩ ⟨by decide, by decide⟩ (fun h55 => ?_) (fun h55 => ?_)
        · refine g_iconst F d_X9_runIt_73 ?_
          refine g_goto F d_X9_runIt_74 ?_
          refine g_istore F (lv' := [(5, vI 1), (0, .ref (q 30)), (1, vI x), (2, vI y), (3, vI w), (4, vI t)]) (by decide) rfl d_X9_runIt_78 ?_
          refine g_aload_n F 1 rfl rfl d_X9_runIt_80 ?_
          refine g_iload F 0 rfl d_X9_runIt_81 ?_
          refine g_if_eq F d_X9_runIt_83 ⟨by decide, by decide⟩ (fun h83 => ?_) (fun h83 => ?_)
          · refine g_aload_n F 1 rfl rfl d_X9_runIt_103 ?_
            refine g_getI F 20 f_X9_161 d_X9_runIt_104 (hsM_30 hs) rfl rfl ?_
            refine G_top (b := τ 30 20) (by rw [up_ne _ (by decide)]) ?_
            refine g_putI F 20 f_X9_161 d_X9_runIt_107 (hsM_30 hs) rfl rfl rfl rfl rfl ?_
            refine g_iinc F (lv' := [(4, vI (t + 1)), (5, vI 1), (0, .ref (q 30)), (1, vI x), (2, vI y), (3, vI w)]) 5 rfl rfl (by decide) rfl d_X9_runIt_110 ?_
            refine g_goto F d_X9_runIt_113 ?_
            have hst : (up (up τ 41 t (tdo x y t)) 30 20 (τ 30 20)) = nTold σ1 x y w (t + 1).toNat := by
              rw [show (t + 1).toNat = t.toNat + 1 by omega, nTold, ← hτ, show ((t.toNat : Nat) : Int) = t by omega, ← amB_row (hm 37 (by decide)) w x t]
              first
                | (exfalso; omega)
                | (rw [if_pos ⟨amB_2 h55, h95⟩]; done)
                | (rw [if_pos ⟨amB_3 h60 ((mtb_up2 _ _ _ _ _).symm.trans h70), h95⟩]; done)
                | (rw [if_neg (fun z => h95 z.2)]; done)
                | (rw [if_neg (fun z => by rw [amB_n h55 h60] at z; exact absurd z.1 (by simp))]; done)
                | (rw [if_neg (fun z => by rw [amB_m h55 (fun u => h70 ((mtb_up2 _ _ _ _ _).trans u))] at z; exact absurd z.1 (by simp))]; done)
            refine G_sub (ks := [2, 3, 4, 5, 0]) rfl ?_
            exact ih30 (t + 1) (up (up τ 41 t (tdo x y t)) 30 20 (τ 30 20)) (by omega) hst (by omega)
          · have htr : rg (tdo x y t) := by unfold tdo; exact ⟨by omega, by omega⟩
            refine g_aload_n F 1 rfl rfl d_X9_runIt_86 ?_
            refine g_getR F f_X9_40 d_X9_runIt_87 (hsM_30 hs) rfl ?_
            refine g_iload F 5 rfl d_X9_runIt_90 ?_
            refine g_iaload F d_X9_runIt_92 (hsM_41 hs) (by omega) (by omega) (by decide) ?_
            refine G_top (b := tdo x y t) (up_same _ _ _ _) ?_
            refine g_bipush F (by decide) d_X9_runIt_93 ?_
            refine g_icmp_ne F d_X9_runIt_95 htr ⟨by decide, by decide⟩ (fun h95 => ?_) (fun h95 => ?_)
            · refine g_aload_n F 1 rfl rfl d_X9_runIt_103 ?_
              refine g_getI F 20 f_X9_161 d_X9_runIt_104 (hsM_30 hs) rfl rfl ?_
              refine G_top (b := τ 30 20) (by rw [up_ne _ (by decide)]) ?_
              refine g_putI F 20 f_X9_161 d_X9_runIt_107 (hsM_30 hs) rfl rfl rfl rfl rfl ?_
              refine g_iinc F (lv' := [(4, vI (t + 1)), (5, vI 1), (0, .ref (q 30)), (1, vI x), (2, vI y), (3, vI w)]) 5 rfl rfl (by decide) rfl d_X9_runIt_110 ?_
              refine g_goto F d_X9_runIt_113 ?_
              have hst : (up (up τ 41 t (tdo x y t)) 30 20 (τ 30 20)) = nTold σ1 x y w (t + 1).toNat := by
                rw [show (t + 1).toNat = t.toNat + 1 by omega, nTold, ← hτ, show ((t.toNat : Nat) : Int) = t by omega, ← amB_row (hm 37 (by decide)) w x t]
                first
                  | (exfalso; omega)
                  | (rw [if_pos ⟨amB_2 h55, h95⟩]; done)
                  | (rw [if_pos ⟨amB_3 h60 ((mtb_up2 _ _ _ _ _).symm.trans h70), h95⟩]; done)
                  | (rw [if_neg (fun z => h95 z.2)]; done)
                  | (rw [if_neg (fun z => by rw [amB_n h55 h60] at z; exact absurd z.1 (by simp))]; done)
                  | (rw [if_neg (fun z => by rw [amB_m h55 (fun u => h70 ((mtb_up2 _ _ _ _ _).trans u))] at z; exact absurd z.1 (by simp))]; done)
              refine G_sub (ks := [2, 3, 4, 5, 0]) rfl ?_
              exact ih30 (t + 1) (up (up τ 41 t (tdo x y t)) 30 20 (τ 30 20)) (by omega) hst (by omega)
            · refine g_bipush F (by decide) d_X9_runIt_98 ?_
              refine g_goto F d_X9_runIt_100 ?_
              refine g_putI F 20 f_X9_161 d_X9_runIt_107 (hsM_30 hs) rfl rfl rfl rfl rfl ?_
              refine g_iinc F (lv' := [(4, vI (t + 1)), (5, vI 1), (0, .ref (q 30)), (1, vI x), (2, vI y), (3, vI w)]) 5 rfl rfl (by decide) rfl d_X9_runIt_110 ?_
              refine g_goto F d_X9_runIt_113 ?_
              have hst : (up (up τ 41 t (tdo x y t)) 30 20 8) = nTold σ1 x y w (t + 1).toNat := by
                rw [show (t + 1).toNat = t.toNat + 1 by omega, nTold, ← hτ, show ((t.toNat : Nat) : Int) = t by omega, ← amB_row (hm 37 (by decide)) w x t]
                first
                  | (exfalso; omega)
                  | (rw [if_pos ⟨amB_2 h55, h95⟩]; done)
                  | (rw [if_pos ⟨amB_3 h60 ((mtb_up2 _ _ _ _ _).symm.trans h70), h95⟩]; done)
                  | (rw [if_neg (fun z => h95 z.2)]; done)
                  | (rw [if_neg (fun z => by rw [amB_n h55 h60] at z; exact absurd z.1 (by simp))]; done)
                  | (rw [if_neg (fun z => by rw [amB_m h55 (fun u => h70 ((mtb_up2 _ _ _ _ _).trans u))] at z; exact absurd z.1 (by simp))]; done)
              refine G_sub (ks := [2, 3, 4, 5, 0]) rfl ?_
              exact ih30 (t + 1) (up (up τ 41 t (tdo x y t)) 30 20 8) (by omega) hst (by omega)
        · refine g_iload_n F 3 rfl rfl d_X9_runIt_58 ?_
          refine g_iconst F d_X9_runIt_59 ?_
          refine g_icmp_ne F d_X9_runIt_60 ⟨by omega, by omega⟩ ⟨by decide, by decide⟩ (fun h60 => ?_) (fun h60 => ?_)
          · refine g_iconst F d_X9_runIt_77 ?_
            refine g_istore F (lv' := [(5, vI 0), (0, .ref (q 30)), (1, vI x), (2, vI y), (3, vI w), (4, vI t)]) (by decide) rfl d_X9_runIt_78 ?_
            refine g_aload_n F 1 rfl rfl d_X9_runIt_80 ?_
            refine g_iload F 0 rfl d_X9_runIt_81 ?_
            refine g_if_eq F d_X9_runIt_83 ⟨by decide, by decide⟩ (fun h83 => ?_) (fun h83 => ?_)
            · refine g_aload_n F 1 rfl rfl d_X9_runIt_103 ?_
              refine g_getI F 20 f_X9_161 d_X9_runIt_104 (hsM_30 hs) rfl rfl ?_
              refine G_top (b := τ 30 20) (by rw [up_ne _ (by decide)]) ?_
              refine g_putI F 20 f_X9_161 d_X9_runIt_107 (hsM_30 hs) rfl rfl rfl rfl rfl ?_
              refine g_iinc F (lv' := [(4, vI (t + 1)), (5, vI 0), (0, .ref (q 30)), (1, vI x), (2, vI y), (3, vI w)]) 5 rfl rfl (by decide) rfl d_X9_runIt_110 ?_
              refine g_goto F d_X9_runIt_113 ?_
              have hst : (up (up τ 41 t (tdo x y t)) 30 20 (τ 30 20)) = nTold σ1 x y w (t + 1).toNat := by
                rw [show (t + 1).toNat = t.toNat + 1 by omega, nTold, ← hτ, show ((t.toNat : Nat) : Int) = t by omega, ← amB_row (hm 37 (by decide)) w x t]
                first
                  | (exfalso; omega)
                  | (rw [if_pos ⟨amB_2 h55, h95⟩]; done)
                  | (rw [if_pos ⟨amB_3 h60 ((mtb_up2 _ _ _ _ _).symm.trans h70), h95⟩]; done)
                  | (rw [if_neg (fun z => h95 z.2)]; done)
                  | (rw [if_neg (fun z => by rw [amB_n h55 h60] at z; exact absurd z.1 (by simp))]; done)
                  | (rw [if_neg (fun z => by rw [amB_m h55 (fun u => h70 ((mtb_up2 _ _ _ _ _).trans u))] at z; exact absurd z.1 (by simp))]; done)
              refine G_sub (ks := [2, 3, 4, 5, 0]) rfl ?_
              exact ih30 (t + 1) (up (up τ 41 t (tdo x y t)) 30 20 (τ 30 20)) (by omega) hst (by omega)
            · have htr : rg (tdo x y t) := by unfold tdo; exact ⟨by omega, by omega⟩
              refine g_aload_n F 1 rfl rfl d_X9_runIt_86 ?_
              refine g_getR F f_X9_40 d_X9_runIt_87 (hsM_30 hs) rfl ?_
              refine g_iload F 5 rfl d_X9_runIt_90 ?_
              refine g_iaload F d_X9_runIt_92 (hsM_41 hs) (by omega) (by omega) (by decide) ?_
              refine G_top (b := tdo x y t) (up_same _ _ _ _) ?_
              refine g_bipush F (by decide) d_X9_runIt_93 ?_
              refine g_icmp_ne F d_X9_runIt_95 htr ⟨by decide, by decide⟩ (fun h95 => ?_) (fun h95 => ?_)
              · refine g_aload_n F 1 rfl rfl d_X9_runIt_103 ?_
                refine g_getI F 20 f_X9_161 d_X9_runIt_104 (hsM_30 hs) rfl rfl ?_
                refine G_top (b := τ 30 20) (by rw [up_ne _ (by decide)]) ?_
                refine g_putI F 20 f_X9_161 d_X9_runIt_107 (hsM_30 hs) rfl rfl rfl rfl rfl ?_
                refine g_iinc F (lv' := [(4, vI (t + 1)), (5, vI 0), (0, .ref (q 30)), (1, vI x), (2, vI y), (3, vI w)]) 5 rfl rfl (by decide) rfl d_X9_runIt_110 ?_
                refine g_goto F d_X9_runIt_113 ?_
                have hst : (up (up τ 41 t (tdo x y t)) 30 20 (τ 30 20)) = nTold σ1 x y w (t + 1).toNat := by
                  rw [show (t + 1).toNat = t.toNat + 1 by omega, nTold, ← hτ, show ((t.toNat : Nat) : Int) = t by omega, ← amB_row (hm 37 (by decide)) w x t]
                  first
                    | (exfalso; omega)
                    | (rw [if_pos ⟨amB_2 h55, h95⟩]; done)
                    | (rw [if_pos ⟨amB_3 h60 ((mtb_up2 _ _ _ _ _).symm.trans h70), h95⟩]; done)
                    | (rw [if_neg (fun z => h95 z.2)]; done)
                    | (rw [if_neg (fun z => by rw [amB_n h55 h60] at z; exact absurd z.1 (by simp))]; done)
                    | (rw [if_neg (fun z => by rw [amB_m h55 (fun u => h70 ((mtb_up2 _ _ _ _ _).trans u))] at z; exact absurd z.1 (by simp))]; done)
                refine G_sub (ks := [2, 3, 4, 5, 0]) rfl ?_
                exact ih30 (t + 1) (up (up τ 41 t (tdo x y t)) 30 20 (τ 30 20)) (by omega) hst (by omega)
              · refine g_bipush F (by decide) d_X9_runIt_98 ?_
                refine g_goto F d_X9_runIt_100 ?_
                refine g_putI F 20 f_X9_161 d_X9_runIt_107 (hsM_30 hs) rfl rfl rfl rfl rfl ?_
                refine g_iinc F (lv' := [(4, vI (t + 1)), (5, vI 0), (0, .ref (q 30)), (1, vI x), (2, vI y), (3, vI w)]) 5 rfl rfl (by decide) rfl d_X9_runIt_110 ?_
                refine g_goto F d_X9_runIt_113 ?_
                have hst : (up (up τ 41 t (tdo x y t)) 30 20 8) = nTold σ1 x y w (t + 1).toNat := by
                  rw [show (t + 1).toNat = t.toNat + 1 by omega, nTold, ← hτ, show ((t.toNat : Nat) : Int) = t by omega, ← amB_row (hm 37 (by decide)) w x t]
                  first
                    | (exfalso; omega)
                    | (rw [if_pos ⟨amB_2 h55, h95⟩]; done)
                    | (rw [if_pos ⟨amB_3 h60 ((mtb_up2 _ _ _ _ _).symm.trans h70), h95⟩]; done)
                    | (rw [if_neg (fun z => h95 z.2)]; done)
                    | (rw [if_neg (fun z => by rw [amB_n h55 h60] at z; exact absurd z.1 (by simp))]; done)
                    | (rw [if_neg (fun z => by rw [amB_m h55 (fun u => h70 ((mtb_up2 _ _ _ _ _).trans u))] at z; exact absurd z.1 (by simp))]; done)
                refine G_sub (ks := [2, 3, 4, 5, 0]) rfl ?_
                exact ih30 (t + 1) (up (up τ 41 t (tdo x y t)) 30 20 8) (by omega) hst (by omega)
          · refine g_aload_n F 0 rfl rfl d_X9_runIt_63 ?_
            refine g_iload_n F 1 rfl rfl d_X9_runIt_64 ?_
            refine g_iload F 4 rfl d_X9_runIt_65 ?_
            refine g_Vi F (own := RX9) (c_X9_isMust l E q sh (up τ 41 t (tdo x y t)) hs x t hx (by omega) (fun z => by rw [up_ne _ (by decide), g37]; exact hT z)) k_X9_136 (hsM_30 hs) rfl rfl [] d_X9_runIt_67 ⟨rfl, rfl, by decide, by decide⟩ ⟨Nat.zero_le _, Nat.zero_le _⟩ rfl (Nat.le_of_ble_eq_true rfl) ?_
            rintro _ _ ⟨rfl, rfl⟩
            refine g_b_eq F d_X9_runIt_70 (fun h70 => ?_) (fun h70 => ?_)
            · refine g_iconst F d_X9_runIt_77 ?_
              refine g_istore F (lv' := [(5, vI 0), (0, .ref (q 30)), (1, vI x), (2, vI y), (3, vI w), (4, vI t)]) (by decide) rfl d_X9_runIt_78 ?_
              refine g_aload_n F 1 rfl rfl d_X9_runIt_80 ?_
              refine g_iload F 0 rfl d_X9_runIt_81 ?_
              refine g_if_eq F d_X9_runIt_83 ⟨by decide, by decide⟩ (fun h83 => ?_) (fun h83 => ?_)
              · refine g_aload_n F 1 rfl rfl d_X9_runIt_103 ?_
                refine g_getI F 20 f_X9_161 d_X9_runIt_104 (hsM_30 hs) rfl rfl ?_
                refine G_top (b := τ 30 20) (by rw [up_ne _ (by decide)]) ?_
                refine g_putI F 20 f_X9_161 d_X9_runIt_107 (hsM_30 hs) rfl rfl rfl rfl rfl ?_
                refine g_iinc F (lv' := [(4, vI (t + 1)), (5, vI 0), (0, .ref (q 30)), (1, vI x), (2, vI y), (3, vI w)]) 5 rfl rfl (by decide) rfl d_X9_runIt_110 ?_
                refine g_goto F d_X9_runIt_113 ?_
                have hst : (up (up τ 41 t (tdo x y t)) 30 20 (τ 30 20)) = nTold σ1 x y w (t + 1).toNat := by
                  rw [show (t + 1).toNat = t.toNat + 1 by omega, nTold, ← hτ, show ((t.toNat : Nat) : Int) = t by omega, ← amB_row (hm 37 (by decide)) w x t]
                  first
                    | (exfalso; omega)
                    | (rw [if_pos ⟨amB_2 h55, h95⟩]; done)
                    | (rw [if_pos ⟨amB_3 h60 ((mtb_up2 _ _ _ _ _).symm.trans h70), h95⟩]; done)
                    | (rw [if_neg (fun z => h95 z.2)]; done)
                    | (rw [if_neg (fun z => by rw [amB_n h55 h60] at z; exact absurd z.1 (by simp))]; done)
                    | (rw [if_neg (fun z => by rw [amB_m h55 (fun u => h70 ((mtb_up2 _ _ _ _ _).trans u))] at z; exact absurd z.1 (by simp))]; done)
                refine G_sub (ks := [2, 3, 4, 5, 0]) rfl ?_
                exact ih30 (t + 1) (up (up τ 41 t (tdo x y t)) 30 20 (τ 30 20)) (by omega) hst (by omega)
              · have htr : rg (tdo x y t) := by unfold tdo; exact ⟨by omega, by omega⟩
                refine g_aload_n F 1 rfl rfl d_X9_runIt_86 ?_
                refine g_getR F f_X9_40 d_X9_runIt_87 (hsM_30 hs) rfl ?_
                refine g_iload F 5 rfl d_X9_runIt_90 ?_
                refine g_iaload F d_X9_runIt_92 (hsM_41 hs) (by omega) (by omega) (by decide) ?_
                refine G_top (b := tdo x y t) (up_same _ _ _ _) ?_
                refine g_bipush F (by decide) d_X9_runIt_93 ?_
                refine g_icmp_ne F d_X9_runIt_95 htr ⟨by decide, by decide⟩ (fun h95 => ?_) (fun h95 => ?_)
                · refine g_aload_n F 1 rfl rfl d_X9_runIt_103 ?_
                  refine g_getI F 20 f_X9_161 d_X9_runIt_104 (hsM_30 hs) rfl rfl ?_
                  refine G_top (b := τ 30 20) (by rw [up_ne _ (by decide)]) ?_
                  refine g_putI F 20 f_X9_161 d_X9_runIt_107 (hsM_30 hs) rfl rfl rfl rfl rfl ?_
                  refine g_iinc F (lv' := [(4, vI (t + 1)), (5, vI 0), (0, .ref (q 30)), (1, vI x), (2, vI y), (3, vI w)]) 5 rfl rfl (by decide) rfl d_X9_runIt_110 ?_
                  refine g_goto F d_X9_runIt_113 ?_
                  have hst : (up (up τ 41 t (tdo x y t)) 30 20 (τ 30 20)) = nTold σ1 x y w (t + 1).toNat := by
                    rw [show (t + 1).toNat = t.toNat + 1 by omega, nTold, ← hτ, show ((t.toNat : Nat) : Int) = t by omega, ← amB_row (hm 37 (by decide)) w x t]
                    first
                      | (exfalso; omega)
                      | (rw [if_pos ⟨amB_2 h55, h95⟩]; done)
                      | (rw [if_pos ⟨amB_3 h60 ((mtb_up2 _ _ _ _ _).symm.trans h70), h95⟩]; done)
                      | (rw [if_neg (fun z => h95 z.2)]; done)
                      | (rw [if_neg (fun z => by rw [amB_n h55 h60] at z; exact absurd z.1 (by simp))]; done)
                      | (rw [if_neg (fun z => by rw [amB_m h55 (fun u => h70 ((mtb_up2 _ _ _ _ _).trans u))] at z; exact absurd z.1 (by simp))]; done)
                  refine G_sub (ks := [2, 3, 4, 5, 0]) rfl ?_
                  exact ih30 (t + 1) (up (up τ 41 t (tdo x y t)) 30 20 (τ 30 20)) (by omega) hst (by omega)
                · refine g_bipush F (by decide) d_X9_runIt_98 ?_
                  refine g_goto F d_X9_runIt_100 ?_
                  refine g_putI F 20 f_X9_161 d_X9_runIt_107 (hsM_30 hs) rfl rfl rfl rfl rfl ?_
                  refine g_iinc F (lv' := [(4, vI (t + 1)), (5, vI 0), (0, .ref (q 30)), (1, vI x), (2, vI y), (3, vI w)]) 5 rfl rfl (by decide) rfl d_X9_runIt_110 ?_
                  refine g_goto F d_X9_runIt_113 ?_
                  have hst : (up (up τ 41 t (tdo x y t)) 30 20 8) = nTold σ1 x y w (t + 1).toNat := by
                    rw [show (t + 1).toNat = t.toNat + 1 by omega, nTold, ← hτ, show ((t.toNat : Nat) : Int) = t by omega, ← amB_row (hm 37 (by decide)) w x t]
                    first
                      | (exfalso; omega)
                      | (rw [if_pos ⟨amB_2 h55, h95⟩]; done)
                      | (rw [if_pos ⟨amB_3 h60 ((mtb_up2 _ _ _ _ _).symm.trans h70), h95⟩]; done)
                      | (rw [if_neg (fun z => h95 z.2)]; done)
                      | (rw [if_neg (fun z => by rw [amB_n h55 h60] at z; exact absurd z.1 (by simp))]; done)
                      | (rw [if_neg (fun z => by rw [amB_m h55 (fun u => h70 ((mtb_up2 _ _ _ _ _).trans u))] at z; exact absurd z.1 (by simp))]; done)
                  refine G_sub (ks := [2, 3, 4, 5, 0]) rfl ?_
                  exact ih30 (t + 1) (up (up τ 41 t (tdo x y t)) 30 20 8) (by omega) hst (by omega)
            · refine g_iconst F d_X9_runIt_73 ?_
              refine g_goto F d_X9_runIt_74 ?_
              refine g_istore F (lv' := [(5, vI 1), (0, .ref (q 30)), (1, vI x), (2, vI y), (3, vI w), (4, vI t)]) (by decide) rfl d_X9_runIt_78 ?_
              refine g_aload_n F 1 rfl rfl d_X9_runIt_80 ?_
              refine g_iload F 0 rfl d_X9_runIt_81 ?_
              refine g_if_eq F d_X9_runIt_83 ⟨by decide, by decide⟩ (fun h83 => ?_) (fun h83 => ?_)
              · refine g_aload_n F 1 rfl rfl d_X9_runIt_103 ?_
                refine g_getI F 20 f_X9_161 d_X9_runIt_104 (hsM_30 hs) rfl rfl ?_
                refine G_top (b := τ 30 20) (by rw [up_ne _ (by decide)]) ?_
                refine g_putI F 20 f_X9_161 d_X9_runIt_107 (hsM_30 hs) rfl rfl rfl rfl rfl ?_
                refine g_iinc F (lv' := [(4, vI (t + 1)), (5, vI 1), (0, .ref (q 30)), (1, vI x), (2, vI y), (3, vI w)]) 5 rfl rfl (by decide) rfl d_X9_runIt_110 ?_
                refine g_goto F d_X9_runIt_113 ?_
                have hst : (up (up τ 41 t (tdo x y t)) 30 20 (τ 30 20)) = nTold σ1 x y w (t + 1).toNat := by
                  rw [show (t + 1).toNat = t.toNat + 1 by omega, nTold, ← hτ, show ((t.toNat : Nat) : Int) = t by omega, ← amB_row (hm 37 (by decide)) w x t]
                  first
                    | (exfalso; omega)
                    | (rw [if_pos ⟨amB_2 h55, h95⟩]; done)
                    | (rw [if_pos ⟨amB_3 h60 ((mtb_up2 _ _ _ _ _).symm.trans h70), h95⟩]; done)
                    | (rw [if_neg (fun z => h95 z.2)]; done)
                    | (rw [if_neg (fun z => by rw [amB_n h55 h60] at z; exact absurd z.1 (by simp))]; done)
                    | (rw [if_neg (fun z => by rw [amB_m h55 (fun u => h70 ((mtb_up2 _ _ _ _ _).trans u))] at z; exact absurd z.1 (by simp))]; done)
                refine G_sub (ks := [2, 3, 4, 5, 0]) rfl ?_
                exact ih30 (t + 1) (up (up τ 41 t (tdo x y t)) 30 20 (τ 30 20)) (by omega) hst (by omega)
              · have htr : rg (tdo x y t) := by unfold tdo; exact ⟨by omega, by omega⟩
                refine g_aload_n F 1 rfl rfl d_X9_runIt_86 ?_
                refine g_getR F f_X9_40 d_X9_runIt_87 (hsM_30 hs) rfl ?_
                refine g_iload F 5 rfl d_X9_runIt_90 ?_
                refine g_iaload F d_X9_runIt_92 (hsM_41 hs) (by omega) (by omega) (by decide) ?_
                refine G_top (b := tdo x y t) (up_same _ _ _ _) ?_
                refine g_bipush F (by decide) d_X9_runIt_93 ?_
                refine g_icmp_ne F d_X9_runIt_95 htr ⟨by decide, by decide⟩ (fun h95 => ?_) (fun h95 => ?_)
                · refine g_aload_n F 1 rfl rfl d_X9_runIt_103 ?_
                  refine g_getI F 20 f_X9_161 d_X9_runIt_104 (hsM_30 hs) rfl rfl ?_
                  refine G_top (b := τ 30 20) (by rw [up_ne _ (by decide)]) ?_
                  refine g_putI F 20 f_X9_161 d_X9_runIt_107 (hsM_30 hs) rfl rfl rfl rfl rfl ?_
                  refine g_iinc F (lv' := [(4, vI (t + 1)), (5, vI 1), (0, .ref (q 30)), (1, vI x), (2, vI y), (3, vI w)]) 5 rfl rfl (by decide) rfl d_X9_runIt_110 ?_
                  refine g_goto F d_X9_runIt_113 ?_
                  have hst : (up (up τ 41 t (tdo x y t)) 30 20 (τ 30 20)) = nTold σ1 x y w (t + 1).toNat := by
                    rw [show (t + 1).toNat = t.toNat + 1 by omega, nTold, ← hτ, show ((t.toNat : Nat) : Int) = t by omega, ← amB_row (hm 37 (by decide)) w x t]
                    first
                      | (exfalso; omega)
                      | (rw [if_pos ⟨amB_2 h55, h95⟩]; done)
                      | (rw [if_pos ⟨amB_3 h60 ((mtb_up2 _ _ _ _ _).symm.trans h70), h95⟩]; done)
                      | (rw [if_neg (fun z => h95 z.2)]; done)
                      | (rw [if_neg (fun z => by rw [amB_n h55 h60] at z; exact absurd z.1 (by simp))]; done)
                      | (rw [if_neg (fun z => by rw [amB_m h55 (fun u => h70 ((mtb_up2 _ _ _ _ _).trans u))] at z; exact absurd z.1 (by simp))]; done)
                  refine G_sub (ks := [2, 3, 4, 5, 0]) rfl ?_
                  exact ih30 (t + 1) (up (up τ 41 t (tdo x y t)) 30 20 (τ 30 20)) (by omega) hst (by omega)
                · refine g_bipush F (by decide) d_X9_runIt_98 ?_
                  refine g_goto F d_X9_runIt_100 ?_
                  refine g_putI F 20 f_X9_161 d_X9_runIt_107 (hsM_30 hs) rfl rfl rfl rfl rfl ?_
                  refine g_iinc F (lv' := [(4, vI (t + 1)), (5, vI 1), (0, .ref (q 30)), (1, vI x), (2, vI y), (3, vI w)]) 5 rfl rfl (by decide) rfl d_X9_runIt_110 ?_
                  refine g_goto F d_X9_runIt_113 ?_
                  have hst : (up (up τ 41 t (tdo x y t)) 30 20 8) = nTold σ1 x y w (t + 1).toNat := by
                    rw [show (t + 1).toNat = t.toNat + 1 by omega, nTold, ← hτ, show ((t.toNat : Nat) : Int) = t by omega, ← amB_row (hm 37 (by decide)) w x t]
                    first
                      | (exfalso; omega)
                      | (rw [if_pos ⟨amB_2 h55, h95⟩]; done)
                      | (rw [if_pos ⟨amB_3 h60 ((mtb_up2 _ _ _ _ _).symm.trans h70), h95⟩]; done)
                      | (rw [if_neg (fun z => h95 z.2)]; done)
                      | (rw [if_neg (fun z => by rw [amB_n h55 h60] at z; exact absurd z.1 (by simp))]; done)
                      | (rw [if_neg (fun z => by rw [amB_m h55 (fun u => h70 ((mtb_up2 _ _ _ _ _).trans u))] at z; exact absurd z.1 (by simp))]; done)
                  refine G_sub (ks := [2, 3, 4, 5, 0]) rfl ?_
                  exact ih30 (t + 1) (up (up τ 41 t (tdo x y t)) 30 20 8) (by omega) hst (by omega)
  refine G_sub (ks := [1, 2, 3, 4, 0]) rfl ?_
  exact loop30 _ 0 σ1 (by omega) rfl (Nat.lt_succ_self _)
