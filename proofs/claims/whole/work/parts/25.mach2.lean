/-! a turn of the Machine -/
def chA (σ : Sg) (f : Int) : Int := if σ 21 10 = 2 then aA f else if σ 21 10 = 3 then σ 15 f else 0
def chs (σ : Sg) : Nat → Sg
  | 0 => σ
  | k + 1 => up (chs σ k) 28 k (chA σ k)
theorem chs_Sm (σ : Sg) : ∀ k : Nat, Sm [28] σ (chs σ k)
  | 0 => Sm.refl _ _
  | k + 1 => (chs_Sm σ k).up (by decide) _ _
theorem chs_28 (σ : Sg) (j : Int) : ∀ k : Nat, chs σ k 28 j = if 0 ≤ j ∧ j < k then chA σ j else σ 28 j
  | 0 => by rw [if_neg (by omega)]; rfl
  | k + 1 => by
    unfold chs
    rw [up_at, chs_28 σ j k]
    by_cases h : j = k
    · rw [if_pos h, if_pos (by omega), h]
    · rw [if_neg h]
      by_cases h2 : 0 ≤ j ∧ j < k
      · rw [if_pos h2, if_pos (by omega)]
      · rw [if_neg h2, if_neg (by omega)]
/-- the told ARGUMENTS, from the last one -/
def tkT (ah : Int) : Nat → Int → Sg → Sg
  | 0, _, σ => σ
  | k + 1, r, σ => tkT ah k (r / 9) (if r % 9 = 8 ∧ bt ah k = true then up (up σ 22 k (r % 9)) 21 12 8 else up σ 22 k (r % 9))
theorem tkT_Sm (ah : Int) : ∀ (k : Nat) (r : Int) (σ : Sg), Sm [21, 22] σ (tkT ah k r σ)
  | 0, _, σ => Sm.refl _ _
  | k + 1, r, σ => by
    unfold tkT
    refine Sm.trans ?_ (tkT_Sm ah k (r / 9) _)
    split
    · exact ((Sm.refl _ _).up (by decide) _ _).up (by decide) _ _
    · exact (Sm.refl _ _).up (by decide) _ _
def mBegin (σ : Sg) : Sg := if 300 ≤ σ 21 13 then up σ 21 12 9
  else if kd (σ 7 (σ 21 14)) = 1 then mGive (up σ 21 13 (σ 21 13 + 1)) (wo (σ 7 (σ 21 14)))
  else if kd (σ 7 (σ 21 14)) = 3 then mArg (up σ 21 13 (σ 21 13 + 1)) (σ 21 15 * 3 + wo (σ 7 (σ 21 14)))
  else if kd (σ 7 (σ 21 14)) = 4 ∨ kd (σ 7 (σ 21 14)) = 5 then mGo (mWait (up σ 21 13 (σ 21 13 + 1)) (σ 21 14) (σ 21 15) (-1)) (σ 21 14 + 1) (σ 21 15)
  else if kd (σ 7 (σ 21 14)) = 6 then mCall (up σ 21 13 (σ 21 13 + 1)) (wo (σ 7 (σ 21 14)))
  else up (up σ 21 13 (σ 21 13 + 1)) 21 12 8
/-- what stands on top of the stack -/
def tpP (σ : Sg) : Int := σ 25 (σ 21 9 - 1)
def tpC (σ : Sg) : Int := σ 26 (σ 21 9 - 1)
def tpH (σ : Sg) : Int := σ 27 (σ 21 9 - 1)
def mBack (σ : Sg) : Sg := if σ 21 9 ≤ 0 then up σ 21 12 (σ 21 17)
  else if kd (σ 7 (tpP σ)) = 4 then mActing (up σ 21 9 (σ 21 9 - 1)) (tpP σ) (tpC σ) (tpH σ)
  else if kd (σ 7 (tpP σ)) = 5 then mGo (up σ 21 9 (σ 21 9 - 1)) (tp (σ 10) (tpP σ) (if σ 21 17 = 0 then 1 else 2)) (tpC σ)
  else if kd (σ 7 (tpP σ)) = 3 then up (up σ 21 9 (σ 21 9 - 1)) 22 (tpC σ * 3 + wo (σ 7 (tpP σ))) (σ 21 17)
  else if kd (σ 7 (tpP σ)) = 6 then mCalling (if tpH σ = -1 then up σ 21 9 (σ 21 9 - 1) else up (up σ 21 9 (σ 21 9 - 1)) 22 (tpC σ * 3 + tpH σ) (σ 21 17)) (tpP σ) (tpC σ) (tpH σ + 1)
  else up (up σ 21 9 (σ 21 9 - 1)) 21 12 8
def mTurn (σ : Sg) : Sg := if σ 21 16 = 0 then mBegin σ else mBack σ
def mRun : Nat → Sg → Sg
  | 0, σ => σ
  | k + 1, σ => if σ 21 12 = -1 then mRun k (mTurn σ) else σ
/-- what a turn needs: to begin a text, to give back -/
def PB (σ : Sg) : Prop := ∃ f, (0 ≤ f ∧ f < 4) ∧ (f * 30 ≤ σ 21 14 ∧ σ 21 14 < f * 30 + σ 6 f) ∧ (0 ≤ σ 21 15 ∧ σ 21 15 ≤ 300) ∧ (0 ≤ σ 21 13 ∧ σ 21 13 ≤ 300) ∧ (0 ≤ σ 21 9 ∧ σ 21 9 ≤ σ 21 13) ∧ (1 ≤ σ 21 5 ∧ σ 21 5 ≤ σ 21 13 + 1) ∧ (0 ≤ σ 21 10 ∧ σ 21 10 < 4) ∧ (kd (σ 7 (σ 21 14)) = 3 → -1 ≤ σ 22 (σ 21 15 * 3 + wo (σ 7 (σ 21 14))) ∧ σ 22 (σ 21 15 * 3 + wo (σ 7 (σ 21 14))) ≤ 8)
def PK (σ : Sg) : Prop := (σ 21 9 ≤ 300 ∧ 0 ≤ σ 21 9 ∧ 0 ≤ σ 21 17 ∧ σ 21 17 ≤ 8) ∧ (0 < σ 21 9 → ∃ f, (0 ≤ f ∧ f < 4) ∧ (f * 30 ≤ tpP σ ∧ tpP σ < f * 30 + σ 6 f) ∧ (0 ≤ tpC σ ∧ tpC σ ≤ 300) ∧ (tpH σ = -1 ∨ (0 ≤ tpH σ ∧ tpH σ < 8)) ∧ (kd (σ 7 (tpP σ)) = 6 → tpH σ < nA (wo (σ 7 (tpP σ)))) ∧ (¬ kd (σ 7 (tpP σ)) = 6 → σ 21 17 < 8))
theorem act_sign {c : Int} (h : kd c = 4) : wo c = 42 ∨ wo c = 43 ∨ wo c = 45 ∨ wo c = 109 := by
  have h2 := kd_4.mp h
  have e : wo c = c := by unfold wo; rw [if_neg (by omega), if_neg (by omega), if_neg (by omega)]
  rw [e]
  omega
set_option maxHeartbeats 1000000 in
theorem c_X2_chooseAhead (l : Launch) (E : Ev) (q : Nat → Nat) (sh : List Shp) (σ : Sg) (hs : HsC sh) (hy : 0 ≤ σ 21 10 ∧ σ 21 10 < 4) : CV l E yX2_chooseAhead cX2_chooseAhead 2 ({ frames := 3, cells := 0, slots := 0, locals := 60 } : Room) q sh σ [.ref (q 21)] (isS (chs σ 4)) := by
  refine CV_of (own := RX2) (by decide) rfl (Nat.le_of_ble_eq_true rfl) (fun X Q F hQ => ?_)
  show G X E 2 q sh σ 0 0 Q 0 [(0, .ref (q 21))] []
  refine g_iconst F d_X2_chooseAhead_0 ?_
  refine g_istore_n F (lv' := [(1, vI 0), (0, .ref (q 21))]) rfl (by decide) rfl d_X2_chooseAhead_1 ?_
  have loop2 : ∀ (nn : Nat) (f : Int) (τ : Sg), (0 ≤ f ∧ f ≤ 4) → (τ = chs σ f.toNat) → (4 - f).toNat < nn → G X E 2 q sh τ 0 0 Q 2 [(0, .ref (q 21)), (1, vI f)] [] := by
    intro n2
    induction n2 with
    | zero => intro f τ hf hτ hm2; exact absurd hm2 (Nat.not_lt_zero _)
    | succ n2 ih2 =>
      intro f τ hf hτ hm2
      have hm : Sm [28] σ τ := by rw [hτ]; exact chs_Sm _ _
      have e21 : τ 21 = σ 21 := hm 21 (by decide)
      have e15 : τ 15 = σ 15 := hm 15 (by decide)
      refine g_iload_n F 1 rfl rfl d_X2_chooseAhead_2 ?_
      refine g_iconst F d_X2_chooseAhead_3 ?_
      refine g_icmp_ge F d_X2_chooseAhead_4 ⟨by omega, by omega⟩ ⟨by decide, by decide⟩ (fun h4 => ?_) (fun h4 => ?_)
      · exact hQ d_X2_chooseAhead_60 (by rw [hτ, show f = 4 by omega]; rfl)
      · refine g_aload_n F 0 rfl rfl d_X2_chooseAhead_7 ?_
        refine g_getI F 10 f_X2_48 d_X2_chooseAhead_8 (hsC_21 hs) rfl rfl ?_
        refine G_top (b := σ 21 10) (by rw [e21]) ?_
        refine g_iconst F d_X2_chooseAhead_11 ?_
        refine g_icmp_ne F d_X2_chooseAhead_12 ⟨by omega, by omega⟩ ⟨by decide, by decide⟩ (fun h12 => ?_) (fun h12 => ?_)
        · refine g_aload_n F 0 rfl rfl d_X2_chooseAhead_28 ?_
          refine g_getR F f_X2_30 d_X2_chooseAhead_29 (hsC_21 hs) rfl ?_
          refine g_iload_n F 1 rfl rfl d_X2_chooseAhead_32 ?_
          refine g_aload_n F 0 rfl rfl d_X2_chooseAhead_33 ?_
          refine g_getI F 10 f_X2_48 d_X2_chooseAhead_34 (hsC_21 hs) rfl rfl ?_
          refine G_top (b := σ 21 10) (by rw [e21]) ?_
          refine g_iconst F d_X2_chooseAhead_37 ?_
          refine g_icmp_ne F d_X2_chooseAhead_38 ⟨by omega, by omega⟩ ⟨by decide, by decide⟩ (fun h38 => ?_) (fun h38 => ?_)
          · refine g_iconst F d_X2_chooseAhead_52 ?_
            refine g_iastore F d_X2_chooseAhead_53 (hsC_28 hs) (by omega) (by omega) (by decide) ?_
            refine g_iinc F (lv' := [(1, vI (f + 1)), (0, .ref (q 21))]) 1 rfl rfl (by decide) rfl d_X2_chooseAhead_54 ?_
            refine g_goto F d_X2_chooseAhead_57 ?_
            have hst : (up τ 28 f 0) = chs σ (f + 1).toNat := by
              rw [show (f + 1).toNat = f.toNat + 1 by omega, chs, ← hτ, show ((f.toNat : Nat) : Int) = f by omega]
              unfold chA
              first
                | (rw [if_pos (by omega)]; done)
                | (rw [if_neg (by omega), if_pos (by omega)]; done)
                | (rw [if_neg (by omega), if_neg (by omega)]; done)
            refine G_sub (ks := [1, 0]) rfl ?_
            exact ih2 (f + 1) (up τ 28 f 0) (by omega) hst (by omega)
          · refine g_aload_n F 0 rfl rfl d_X2_chooseAhead_41 ?_
            refine g_getR F f_X2_37 d_X2_chooseAhead_42 (hsC_21 hs) rfl ?_
            refine g_iload_n F 1 rfl rfl d_X2_chooseAhead_45 ?_
            refine g_Vi F (own := RX2) (c_X7_neededOf l E q sh τ hs f (by omega)) k_X2_86 (hsC_12 hs) rfl rfl [vI f, .ref (q 28)] d_X2_chooseAhead_46 ⟨rfl, rfl, by decide, by decide⟩ ⟨Nat.zero_le _, Nat.zero_le _⟩ rfl (Nat.le_of_ble_eq_true rfl) ?_
            rintro _ _ ⟨rfl, rfl⟩
            refine G_top (b := σ 15 f) (by rw [e15]) ?_
            refine g_goto F d_X2_chooseAhead_49 ?_
            refine g_iastore F d_X2_chooseAhead_53 (hsC_28 hs) (by omega) (by omega) (by decide) ?_
            refine g_iinc F (lv' := [(1, vI (f + 1)), (0, .ref (q 21))]) 1 rfl rfl (by decide) rfl d_X2_chooseAhead_54 ?_
            refine g_goto F d_X2_chooseAhead_57 ?_
            have hst : (up τ 28 f (σ 15 f)) = chs σ (f + 1).toNat := by
              rw [show (f + 1).toNat = f.toNat + 1 by omega, chs, ← hτ, show ((f.toNat : Nat) : Int) = f by omega]
              unfold chA
              first
                | (rw [if_pos (by omega)]; done)
                | (rw [if_neg (by omega), if_pos (by omega)]; done)
                | (rw [if_neg (by omega), if_neg (by omega)]; done)
            refine G_sub (ks := [1, 0]) rfl ?_
            exact ih2 (f + 1) (up τ 28 f (σ 15 f)) (by omega) hst (by omega)
        · refine g_aload_n F 0 rfl rfl d_X2_chooseAhead_15 ?_
          refine g_getR F f_X2_30 d_X2_chooseAhead_16 (hsC_21 hs) rfl ?_
          refine g_iload_n F 1 rfl rfl d_X2_chooseAhead_19 ?_
          refine g_iload_n F 1 rfl rfl d_X2_chooseAhead_20 ?_
          refine g_Ni F (own := RX2) (c_X8_allArguments l E q sh τ f ⟨by omega, by omega⟩) k_X2_83 [vI f, .ref (q 28)] d_X2_chooseAhead_21 ⟨rfl, rfl, by decide, by decide⟩ ⟨Nat.zero_le _, Nat.zero_le _⟩ rfl (Nat.le_of_ble_eq_true rfl) ?_
          rintro _ _ ⟨rfl, rfl⟩
          refine g_iastore F d_X2_chooseAhead_24 (hsC_28 hs) (by omega) (by omega) (by decide) ?_
          refine g_goto F d_X2_chooseAhead_25 ?_
          refine g_iinc F (lv' := [(1, vI (f + 1)), (0, .ref (q 21))]) 1 rfl rfl (by decide) rfl d_X2_chooseAhead_54 ?_
          refine g_goto F d_X2_chooseAhead_57 ?_
          have hst : (up τ 28 f (aA f)) = chs σ (f + 1).toNat := by
            rw [show (f + 1).toNat = f.toNat + 1 by omega, chs, ← hτ, show ((f.toNat : Nat) : Int) = f by omega]
            unfold chA
            first
              | (rw [if_pos (by omega)]; done)
              | (rw [if_neg (by omega), if_pos (by omega)]; done)
              | (rw [if_neg (by omega), if_neg (by omega)]; done)
          refine G_sub (ks := [1, 0]) rfl ?_
          exact ih2 (f + 1) (up τ 28 f (aA f)) (by omega) hst (by omega)
  refine G_sub (ks := [1, 0]) rfl ?_
  exact loop2 _ 0 σ (by omega) rfl (Nat.lt_succ_self _)
set_option maxHeartbeats 1000000 in
theorem c_X2_takeTold (l : Launch) (E : Ev) (q : Nat → Nat) (sh : List Shp) (σ : Sg) (hs : HsC sh) (x y : Int) (hx : 0 ≤ x ∧ x < 4) (hy : 0 ≤ y ∧ y < 729) (hA : AH σ) : CV l E yX2_takeTold cX2_takeTold 5 ({ frames := 2, cells := 0, slots := 0, locals := 42 } : Room) q sh σ [.ref (q 21), vI x, vI y] (isS (tkT (σ 28 x) (nA x).toNat y σ)) := by
  have hn := nA_in x
  refine CV_of (own := RX2) (by decide) rfl (Nat.le_of_ble_eq_true rfl) (fun X Q F hQ => ?_)
  show G X E 5 q sh σ 0 0 Q 0 [(0, .ref (q 21)), (1, vI x), (2, vI y)] []
  refine g_iload_n F 2 rfl rfl d_X2_takeTold_0 ?_
  refine g_istore_n F (lv' := [(3, vI y), (0, .ref (q 21)), (1, vI x), (2, vI y)]) rfl (by decide) rfl d_X2_takeTold_1 ?_
  refine g_iload_n F 2 rfl rfl d_X2_takeTold_2 ?_
  refine g_Ni F (own := RX2) (c_X8_argumentsOf l E q sh σ x ⟨by omega, by omega⟩) k_X2_91 [] d_X2_takeTold_3 ⟨rfl, rfl, by decide, by decide⟩ ⟨Nat.zero_le _, Nat.zero_le _⟩ rfl (Nat.le_of_ble_eq_true rfl) ?_
  rintro _ _ ⟨rfl, rfl⟩
  refine g_iconst F d_X2_takeTold_6 ?_
  refine g_isub F d_X2_takeTold_7 ?_
  refine g_istore F (lv' := [(4, vI ((nA x) - 1)), (3, vI y), (0, .ref (q 21)), (1, vI x), (2, vI y)]) (by decide) rfl d_X2_takeTold_8 ?_
  have loop10 : ∀ (nn : Nat) (r : Int) (a : Int) (τ : Sg), (-1 ≤ a ∧ a ≤ nA x - 1) → (0 ≤ r ∧ r < 729) → (τ 28 = σ 28) → (tkT (σ 28 x) (a + 1).toNat r τ = tkT (σ 28 x) (nA x).toNat y σ) → (a + 1).toNat < nn → G X E 5 q sh τ 0 0 Q 10 [(0, .ref (q 21)), (1, vI x), (2, vI y), (3, vI r), (4, vI a)] [] := by
    intro n10
    induction n10 with
    | zero => intro r a τ ha hr h28 hτ hm10; exact absurd hm10 (Nat.not_lt_zero _)
    | succ n10 ih10 =>
      intro r a τ ha hr h28 hτ hm10
      refine g_iload F 4 rfl d_X2_takeTold_10 ?_
      refine g_if_lt F d_X2_takeTold_12 ⟨by omega, by omega⟩ (fun h12 => ?_) (fun h12 => ?_)
      · exact hQ d_X2_takeTold_63 (by rw [← hτ, show (a + 1).toNat = 0 by omega]; rfl)
      · refine g_aload_n F 0 rfl rfl d_X2_takeTold_15 ?_
        refine g_iload F 4 rfl d_X2_takeTold_16 ?_
        refine g_iload_n F 3 rfl rfl d_X2_takeTold_18 ?_
        refine g_bipush F (by decide) d_X2_takeTold_19 ?_
        refine g_irem F ⟨by omega, by omega, by omega, by omega⟩ d_X2_takeTold_21 ?_
        refine g_Vv F (own := RX2) (c_X2_setSlot l E q sh τ hs a (r % 9) (by omega)) k_X2_94 (hsC_21 hs) rfl rfl [] d_X2_takeTold_22 ⟨rfl, rfl, by decide, by decide⟩ ⟨Nat.zero_le _, Nat.zero_le _⟩ rfl (Nat.le_of_ble_eq_true rfl) ?_
        rintro _ rfl
        refine g_aload_n F 0 rfl rfl d_X2_takeTold_25 ?_
        refine g_iload F 4 rfl d_X2_takeTold_26 ?_
        refine g_Vi F (own := RX2) (c_X2_heldIn l E q sh (up τ 22 a (r % 9)) hs a (by omega)) k_X2_97 (hsC_21 hs) rfl rfl [] d_X2_takeTold_28 ⟨rfl, rfl, by decide, by decide⟩ ⟨Nat.zero_le _, Nat.zero_le _⟩ rfl (Nat.le_of_ble_eq_true rfl) ?_
        rintro _ _ ⟨rfl, rfl⟩
        refine G_top (b := r % 9) (up_same _ _ _ _) ?_
        refine g_bipush F (by decide) d_X2_takeTold_31 ?_
        refine g_icmp_ne F d_X2_takeTold_33 ⟨by omega, by omega⟩ ⟨by decide, by decide⟩ (fun h33 => ?_) (fun h33 => ?_)
        · refine g_iload_n F 3 rfl rfl d_X2_takeTold_52 ?_
          refine g_bipush F (by decide) d_X2_takeTold_53 ?_
          refine g_idiv F ⟨by omega, by omega, by omega, by omega⟩ d_X2_takeTold_55 ?_
          refine g_istore_n F (lv' := [(3, vI (r / 9)), (0, .ref (q 21)), (1, vI x), (2, vI y), (4, vI a)]) rfl (by decide) rfl d_X2_takeTold_56 ?_
          refine g_iinc F (lv' := [(4, vI (a + (-1))), (3, vI (r / 9)), (0, .ref (q 21)), (1, vI x), (2, vI y)]) 4 rfl rfl (by decide) rfl d_X2_takeTold_57 ?_
          refine g_goto F d_X2_takeTold_60 ?_
          have hst : tkT (σ 28 x) (a + (-1) + 1).toNat (r / 9) (up τ 22 a (r % 9)) = tkT (σ 28 x) (nA x).toNat y σ := by
            rw [← hτ, show (a + 1).toNat = (a + (-1) + 1).toNat + 1 by omega, tkT, show (((a + (-1) + 1).toNat : Nat) : Int) = a by omega]
            first
              | (rw [if_pos ⟨h33, h43⟩]; done)
              | (rw [if_neg (fun h => h33 h.1)]; done)
              | (rw [if_neg (fun h => h43 h.2)]; done)
          have hs28 : (up τ 22 a (r % 9)) 28 = σ 28 := by
            first
              | (rw [up_ne _ (by decide), up_ne _ (by decide)]; exact h28)
              | (rw [up_ne _ (by decide)]; exact h28)
          refine G_sub (ks := [2, 3, 4, 1, 0]) rfl ?_
          exact ih10 (r / 9) (a + (-1)) (up τ 22 a (r % 9)) (by omega) (by omega) hs28 hst (by omega)
        · refine g_aload_n F 0 rfl rfl d_X2_takeTold_36 ?_
          refine g_iload_n F 1 rfl rfl d_X2_takeTold_37 ?_
          refine g_iload F 4 rfl d_X2_takeTold_38 ?_
          refine g_Vi F (own := RX2) (c_X2_isAhead l E q sh (up τ 22 a (r % 9)) hs x a hx (by omega) (by rw [up_ne _ (by decide), h28]; exact hA x)) k_X2_100 (hsC_21 hs) rfl rfl [] d_X2_takeTold_40 ⟨rfl, rfl, by decide, by decide⟩ ⟨Nat.zero_le _, Nat.zero_le _⟩ rfl (Nat.le_of_ble_eq_true rfl) ?_
          rintro _ _ ⟨rfl, rfl⟩
          refine G_top (b := if bt (σ 28 x) a = true then 1 else 0) (by rw [up_ne _ (by decide), h28]) ?_
          refine g_b_eq F d_X2_takeTold_43 (fun h43 => ?_) (fun h43 => ?_)
          · refine g_iload_n F 3 rfl rfl d_X2_takeTold_52 ?_
            refine g_bipush F (by decide) d_X2_takeTold_53 ?_
            refine g_idiv F ⟨by omega, by omega, by omega, by omega⟩ d_X2_takeTold_55 ?_
            refine g_istore_n F (lv' := [(3, vI (r / 9)), (0, .ref (q 21)), (1, vI x), (2, vI y), (4, vI a)]) rfl (by decide) rfl d_X2_takeTold_56 ?_
            refine g_iinc F (lv' := [(4, vI (a + (-1))), (3, vI (r / 9)), (0, .ref (q 21)), (1, vI x), (2, vI y)]) 4 rfl rfl (by decide) rfl d_X2_takeTold_57 ?_
            refine g_goto F d_X2_takeTold_60 ?_
            have hst : tkT (σ 28 x) (a + (-1) + 1).toNat (r / 9) (up τ 22 a (r % 9)) = tkT (σ 28 x) (nA x).toNat y σ := by
              rw [← hτ, show (a + 1).toNat = (a + (-1) + 1).toNat + 1 by omega, tkT, show (((a + (-1) + 1).toNat : Nat) : Int) = a by omega]
              first
                | (rw [if_pos ⟨h33, h43⟩]; done)
                | (rw [if_neg (fun h => h33 h.1)]; done)
                | (rw [if_neg (fun h => h43 h.2)]; done)
            have hs28 : (up τ 22 a (r % 9)) 28 = σ 28 := by
              first
                | (rw [up_ne _ (by decide), up_ne _ (by decide)]; exact h28)
                | (rw [up_ne _ (by decide)]; exact h28)
            refine G_sub (ks := [2, 3, 4, 1, 0]) rfl ?_
            exact ih10 (r / 9) (a + (-1)) (up τ 22 a (r % 9)) (by omega) (by omega) hs28 hst (by omega)
          · refine g_aload_n F 0 rfl rfl d_X2_takeTold_46 ?_
            refine g_bipush F (by decide) d_X2_takeTold_47 ?_
            refine g_putI F 12 f_X2_41 d_X2_takeTold_49 (hsC_21 hs) rfl rfl rfl rfl rfl ?_
            refine g_iload_n F 3 rfl rfl d_X2_takeTold_52 ?_
            refine g_bipush F (by decide) d_X2_takeTold_53 ?_
            refine g_idiv F ⟨by omega, by omega, by omega, by omega⟩ d_X2_takeTold_55 ?_
            refine g_istore_n F (lv' := [(3, vI (r / 9)), (0, .ref (q 21)), (1, vI x), (2, vI y), (4, vI a)]) rfl (by decide) rfl d_X2_takeTold_56 ?_
            refine g_iinc F (lv' := [(4, vI (a + (-1))), (3, vI (r / 9)), (0, .ref (q 21)), (1, vI x), (2, vI y)]) 4 rfl rfl (by decide) rfl d_X2_takeTold_57 ?_
            refine g_goto F d_X2_takeTold_60 ?_
            have hst : tkT (σ 28 x) (a + (-1) + 1).toNat (r / 9) (up (up τ 22 a (r % 9)) 21 12 8) = tkT (σ 28 x) (nA x).toNat y σ := by
              rw [← hτ, show (a + 1).toNat = (a + (-1) + 1).toNat + 1 by omega, tkT, show (((a + (-1) + 1).toNat : Nat) : Int) = a by omega]
              first
                | (rw [if_pos ⟨h33, h43⟩]; done)
                | (rw [if_neg (fun h => h33 h.1)]; done)
                | (rw [if_neg (fun h => h43 h.2)]; done)
            have hs28 : (up (up τ 22 a (r % 9)) 21 12 8) 28 = σ 28 := by
              first
                | (rw [up_ne _ (by decide), up_ne _ (by decide)]; exact h28)
                | (rw [up_ne _ (by decide)]; exact h28)
            refine G_sub (ks := [2, 3, 4, 1, 0]) rfl ?_
            exact ih10 (r / 9) (a + (-1)) (up (up τ 22 a (r % 9)) 21 12 8) (by omega) (by omega) hs28 hst (by omega)
  refine G_sub (ks := [2, 3, 4, 1, 0]) rfl ?_
  exact loop10 _ y ((nA x) - 1) σ (by omega) hy rfl (by rw [show nA x - 1 + 1 = nA x by omega]) (Nat.lt_succ_self _)
set_option maxHeartbeats 1000000 in
theorem c_X2_begin (l : Launch) (E : Ev) (q : Nat → Nat) (sh : List Shp) (σ : Sg) (hs : HsC sh) (hBO : BOK σ) (hA : AH σ) (hPB : PB σ) : CV l E yX2_begin cX2_begin 1 ({ frames := 3, cells := 0, slots := 0, locals := 66 } : Room) q sh σ [.ref (q 21)] (isS (mBegin σ)) := by
  obtain ⟨f, hf, hp, hc, htk, hw, hsc, hy, hsl⟩ := hPB
  have hB := (hBO f hf.1 hf.2).1
  have hn1 := hB.1
  have hn2 := hB.2.1
  have hKK := (hBO f hf.1 hf.2).2 (σ 21 14) hp.1 hp.2
  have hch := (hB.2.2.2.2 (σ 21 14) hp.1 hp.2).2.1
  have hkd := kd_in (σ 7 (σ 21 14))
  obtain ⟨σ1, e1⟩ : ∃ s, s = up σ 21 13 (σ 21 13 + 1) := ⟨_, rfl⟩
  have a8 : σ1 8 = σ 8 := by rw [e1]; exact up_ne _ (by decide) _ _
  have a9 : σ1 9 = σ 9 := by rw [e1]; exact up_ne _ (by decide) _ _
  have a10 : σ1 10 = σ 10 := by rw [e1]; exact up_ne _ (by decide) _ _
  have a22 : σ1 22 = σ 22 := by rw [e1]; exact up_ne _ (by decide) _ _
  have a28 : σ1 28 = σ 28 := by rw [e1]; exact up_ne _ (by decide) _ _
  have a21 : ∀ j, j ≠ 13 → σ1 21 j = σ 21 j := fun j hj => by rw [e1]; exact up_other _ _ hj _
  refine CV_of (own := RX2) (by decide) rfl (Nat.le_of_ble_eq_true rfl) (fun X Q F hQ => ?_)
  show G X E 1 q sh σ 0 0 Q 0 [(0, .ref (q 21))] []
  refine g_aload_n F 0 rfl rfl d_X2_begin_0 ?_
  refine g_getI F 13 f_X2_45 d_X2_begin_1 (hsC_21 hs) rfl rfl ?_
  refine g_sipush F (by decide) d_X2_begin_4 ?_
  refine g_icmp_lt F d_X2_begin_7 ⟨by omega, by omega⟩ ⟨by decide, by decide⟩ (fun h7 => ?_) (fun h7 => ?_)
  · refine g_aload_n F 0 rfl rfl d_X2_begin_17 ?_
    refine g_dup F rfl d_X2_begin_18 ?_
    refine g_getI F 13 f_X2_45 d_X2_begin_19 (hsC_21 hs) rfl rfl ?_
    refine g_iconst F d_X2_begin_22 ?_
    refine g_iadd F d_X2_begin_23 ?_
    refine g_putI F 13 f_X2_45 d_X2_begin_24 (hsC_21 hs) rfl rfl rfl rfl rfl ?_
    refine G_eq (τ := σ1) e1.symm ?_
    refine g_aload_n F 0 rfl rfl d_X2_begin_27 ?_
    refine g_getR F f_X2_33 d_X2_begin_28 (hsC_21 hs) rfl ?_
    refine g_aload_n F 0 rfl rfl d_X2_begin_31 ?_
    refine g_getI F 14 f_X2_108 d_X2_begin_32 (hsC_21 hs) rfl rfl ?_
    refine G_top (b := σ 21 14) (a21 14 (by decide)) ?_
    refine g_Vi F (own := RX2) (c_X0_kindAt l E q sh σ1 hs.B (σ 21 14) (by omega)) k_X2_111 (hsC_5 hs) rfl rfl [] d_X2_begin_35 ⟨rfl, rfl, by decide, by decide⟩ ⟨Nat.zero_le _, Nat.zero_le _⟩ rfl (Nat.le_of_ble_eq_true rfl) ?_
    rintro _ _ ⟨rfl, rfl⟩
    refine G_top (b := kd (σ 7 (σ 21 14))) (by rw [a8]; exact hKK.1) ?_
    have hcs : kd (σ 7 (σ 21 14)) = 1 ∨ kd (σ 7 (σ 21 14)) = 2 ∨ kd (σ 7 (σ 21 14)) = 3 ∨ kd (σ 7 (σ 21 14)) = 4 ∨ kd (σ 7 (σ 21 14)) = 5 ∨ kd (σ 7 (σ 21 14)) = 6 ∨ kd (σ 7 (σ 21 14)) = 0 := by omega
    rcases hcs with hk | hk | hk | hk | hk | hk | hk
    · refine g_tabIn F d_X2_begin_38 ⟨by omega, by omega⟩ 0 (tgt := 76) (by omega) (by decide) rfl rfl ?_
      refine g_aload_n F 0 rfl rfl d_X2_begin_76 ?_
      refine g_aload_n F 0 rfl rfl d_X2_begin_77 ?_
      refine g_getR F f_X2_33 d_X2_begin_78 (hsC_21 hs) rfl ?_
      refine g_aload_n F 0 rfl rfl d_X2_begin_81 ?_
      refine g_getI F 14 f_X2_108 d_X2_begin_82 (hsC_21 hs) rfl rfl ?_
      refine G_top (b := σ 21 14) (a21 14 (by decide)) ?_
      refine g_Vi F (own := RX2) (c_X0_worthAt l E q sh σ1 hs.B (σ 21 14) (by omega)) k_X2_114 (hsC_5 hs) rfl rfl [.ref (q 21)] d_X2_begin_85 ⟨rfl, rfl, by decide, by decide⟩ ⟨Nat.zero_le _, Nat.zero_le _⟩ rfl (Nat.le_of_ble_eq_true rfl) ?_
      rintro _ _ ⟨rfl, rfl⟩
      refine G_top (b := wo (σ 7 (σ 21 14))) (by rw [a9]; exact hKK.2.1) ?_
      refine g_Vv F (own := RX2) (c_X2_give l E q sh σ1 hs (wo (σ 7 (σ 21 14))) ) k_X2_117 (hsC_21 hs) rfl rfl [] d_X2_begin_88 ⟨rfl, rfl, by decide, by decide⟩ ⟨Nat.zero_le _, Nat.zero_le _⟩ rfl (Nat.le_of_ble_eq_true rfl) ?_
      rintro _ rfl
      refine g_goto F d_X2_begin_91 ?_
      exact hQ d_X2_begin_173 (by unfold mBegin; rw [if_neg (by omega), ← e1]; first | (rw [if_pos hk]; done) | (rw [if_neg (by omega), if_pos hk]; done) | (rw [if_neg (by omega), if_neg (by omega), if_pos (by omega)]; done) | (rw [if_neg (by omega), if_neg (by omega), if_neg (by omega), if_pos hk]; done) | (rw [if_neg (by omega), if_neg (by omega), if_neg (by omega), if_neg (by omega)]; done))
    · refine g_tabIn F d_X2_begin_38 ⟨by omega, by omega⟩ 1 (tgt := 167) (by omega) (by decide) rfl rfl ?_
      refine g_aload_n F 0 rfl rfl d_X2_begin_167 ?_
      refine g_bipush F (by decide) d_X2_begin_168 ?_
      refine g_putI F 12 f_X2_41 d_X2_begin_170 (hsC_21 hs) rfl rfl rfl rfl rfl ?_
      exact hQ d_X2_begin_173 (by unfold mBegin; rw [if_neg (by omega), ← e1]; first | (rw [if_pos hk]; done) | (rw [if_neg (by omega), if_pos hk]; done) | (rw [if_neg (by omega), if_neg (by omega), if_pos (by omega)]; done) | (rw [if_neg (by omega), if_neg (by omega), if_neg (by omega), if_pos hk]; done) | (rw [if_neg (by omega), if_neg (by omega), if_neg (by omega), if_neg (by omega)]; done))
    · have h3 := kd_3.mp hk
      have h4 := wo_3 hk
      have hs9 := hsl hk
      refine g_tabIn F d_X2_begin_38 ⟨by omega, by omega⟩ 2 (tgt := 94) (by omega) (by decide) rfl rfl ?_
      refine g_aload_n F 0 rfl rfl d_X2_begin_94 ?_
      refine g_aload_n F 0 rfl rfl d_X2_begin_95 ?_
      refine g_getI F 15 f_X2_121 d_X2_begin_96 (hsC_21 hs) rfl rfl ?_
      refine G_top (b := σ 21 15) (a21 15 (by decide)) ?_
      refine g_aload_n F 0 rfl rfl d_X2_begin_99 ?_
      refine g_getR F f_X2_33 d_X2_begin_100 (hsC_21 hs) rfl ?_
      refine g_aload_n F 0 rfl rfl d_X2_begin_103 ?_
      refine g_getI F 14 f_X2_108 d_X2_begin_104 (hsC_21 hs) rfl rfl ?_
      refine G_top (b := σ 21 14) (a21 14 (by decide)) ?_
      refine g_Vi F (own := RX2) (c_X0_worthAt l E q sh σ1 hs.B (σ 21 14) (by omega)) k_X2_114 (hsC_5 hs) rfl rfl [vI (σ 21 15), .ref (q 21)] d_X2_begin_107 ⟨rfl, rfl, by decide, by decide⟩ ⟨Nat.zero_le _, Nat.zero_le _⟩ rfl (Nat.le_of_ble_eq_true rfl) ?_
      rintro _ _ ⟨rfl, rfl⟩
      refine G_top (b := wo (σ 7 (σ 21 14))) (by rw [a9]; exact hKK.2.1) ?_
      refine g_Si F (own := RX2) (c_X2_slotOf l E q sh σ1 (σ 21 15) (wo (σ 7 (σ 21 14))) ) k_X2_124 [.ref (q 21)] d_X2_begin_110 ⟨rfl, rfl, by decide, by decide⟩ ⟨Nat.zero_le _, Nat.zero_le _⟩ rfl (Nat.le_of_ble_eq_true rfl) ?_
      rintro _ _ ⟨rfl, rfl⟩
      refine g_Vv F (own := RX2) (c_X2_beginArgument l E q sh σ1 hs ((σ 21 15) * 3 + (wo (σ 7 (σ 21 14)))) (by omega) (by rw [a22]; exact hs9) (by rw [a21 9 (by decide)]; omega) (by rw [a21 10 (by decide)]; exact hy)) k_X2_128 (hsC_21 hs) rfl rfl [] d_X2_begin_113 ⟨rfl, rfl, by decide, by decide⟩ ⟨Nat.zero_le _, Nat.zero_le _⟩ rfl (Nat.le_of_ble_eq_true rfl) ?_
      rintro _ rfl
      refine g_goto F d_X2_begin_116 ?_
      exact hQ d_X2_begin_173 (by unfold mBegin; rw [if_neg (by omega), ← e1]; first | (rw [if_pos hk]; done) | (rw [if_neg (by omega), if_pos hk]; done) | (rw [if_neg (by omega), if_neg (by omega), if_pos (by omega)]; done) | (rw [if_neg (by omega), if_neg (by omega), if_neg (by omega), if_pos hk]; done) | (rw [if_neg (by omega), if_neg (by omega), if_neg (by omega), if_neg (by omega)]; done))
    · refine g_tabIn F d_X2_begin_38 ⟨by omega, by omega⟩ 3 (tgt := 119) (by omega) (by decide) rfl rfl ?_
      have hw14 : mWait σ1 (σ 21 14) (σ 21 15) (-1) 21 14 = σ 21 14 := by
        unfold mWait
        rw [up_other _ _ (by decide), up_ne _ (by decide), up_ne _ (by decide), up_ne _ (by decide)]
        exact a21 14 (by decide)
      have hw15 : mWait σ1 (σ 21 14) (σ 21 15) (-1) 21 15 = σ 21 15 := by
        unfold mWait
        rw [up_other _ _ (by decide), up_ne _ (by decide), up_ne _ (by decide), up_ne _ (by decide)]
        exact a21 15 (by decide)
      refine g_aload_n F 0 rfl rfl d_X2_begin_119 ?_
      refine g_aload_n F 0 rfl rfl d_X2_begin_120 ?_
      refine g_getI F 14 f_X2_108 d_X2_begin_121 (hsC_21 hs) rfl rfl ?_
      refine G_top (b := σ 21 14) (a21 14 (by decide)) ?_
      refine g_aload_n F 0 rfl rfl d_X2_begin_124 ?_
      refine g_getI F 15 f_X2_121 d_X2_begin_125 (hsC_21 hs) rfl rfl ?_
      refine G_top (b := σ 21 15) (a21 15 (by decide)) ?_
      refine g_iconst F d_X2_begin_128 ?_
      refine g_Vv F (own := RX2) (c_X2_await l E q sh σ1 hs (σ 21 14) (σ 21 15) (-1) (by rw [a21 9 (by decide)]; omega)) k_X2_131 (hsC_21 hs) rfl rfl [] d_X2_begin_129 ⟨rfl, rfl, by decide, by decide⟩ ⟨Nat.zero_le _, Nat.zero_le _⟩ rfl (Nat.le_of_ble_eq_true rfl) ?_
      rintro _ rfl
      refine g_aload_n F 0 rfl rfl d_X2_begin_132 ?_
      refine g_aload_n F 0 rfl rfl d_X2_begin_133 ?_
      refine g_getI F 14 f_X2_108 d_X2_begin_134 (hsC_21 hs) rfl rfl ?_
      refine G_top (b := σ 21 14) (hw14) ?_
      refine g_iconst F d_X2_begin_137 ?_
      refine g_iadd F d_X2_begin_138 ?_
      refine g_aload_n F 0 rfl rfl d_X2_begin_139 ?_
      refine g_getI F 15 f_X2_121 d_X2_begin_140 (hsC_21 hs) rfl rfl ?_
      refine G_top (b := σ 21 15) (hw15) ?_
      refine g_Vv F (own := RX2) (c_X2_goTo l E q sh (mWait σ1 (σ 21 14) (σ 21 15) (-1)) hs ((σ 21 14) + 1) (σ 21 15) ) k_X2_70 (hsC_21 hs) rfl rfl [] d_X2_begin_143 ⟨rfl, rfl, by decide, by decide⟩ ⟨Nat.zero_le _, Nat.zero_le _⟩ rfl (Nat.le_of_ble_eq_true rfl) ?_
      rintro _ rfl
      refine g_goto F d_X2_begin_146 ?_
      exact hQ d_X2_begin_173 (by unfold mBegin; rw [if_neg (by omega), ← e1]; first | (rw [if_pos hk]; done) | (rw [if_neg (by omega), if_pos hk]; done) | (rw [if_neg (by omega), if_neg (by omega), if_pos (by omega)]; done) | (rw [if_neg (by omega), if_neg (by omega), if_neg (by omega), if_pos hk]; done) | (rw [if_neg (by omega), if_neg (by omega), if_neg (by omega), if_neg (by omega)]; done))
    · refine g_tabIn F d_X2_begin_38 ⟨by omega, by omega⟩ 4 (tgt := 119) (by omega) (by decide) rfl rfl ?_
      have hw14 : mWait σ1 (σ 21 14) (σ 21 15) (-1) 21 14 = σ 21 14 := by
        unfold mWait
        rw [up_other _ _ (by decide), up_ne _ (by decide), up_ne _ (by decide), up_ne _ (by decide)]
        exact a21 14 (by decide)
      have hw15 : mWait σ1 (σ 21 14) (σ 21 15) (-1) 21 15 = σ 21 15 := by
        unfold mWait
        rw [up_other _ _ (by decide), up_ne _ (by decide), up_ne _ (by decide), up_ne _ (by decide)]
        exact a21 15 (by decide)
      refine g_aload_n F 0 rfl rfl d_X2_begin_119 ?_
      refine g_aload_n F 0 rfl rfl d_X2_begin_120 ?_
      refine g_getI F 14 f_X2_108 d_X2_begin_121 (hsC_21 hs) rfl rfl ?_
      refine G_top (b := σ 21 14) (a21 14 (by decide)) ?_
      refine g_aload_n F 0 rfl rfl d_X2_begin_124 ?_
      refine g_getI F 15 f_X2_121 d_X2_begin_125 (hsC_21 hs) rfl rfl ?_
      refine G_top (b := σ 21 15) (a21 15 (by decide)) ?_
      refine g_iconst F d_X2_begin_128 ?_
      refine g_Vv F (own := RX2) (c_X2_await l E q sh σ1 hs (σ 21 14) (σ 21 15) (-1) (by rw [a21 9 (by decide)]; omega)) k_X2_131 (hsC_21 hs) rfl rfl [] d_X2_begin_129 ⟨rfl, rfl, by decide, by decide⟩ ⟨Nat.zero_le _, Nat.zero_le _⟩ rfl (Nat.le_of_ble_eq_true rfl) ?_
      rintro _ rfl
      refine g_aload_n F 0 rfl rfl d_X2_begin_132 ?_
      refine g_aload_n F 0 rfl rfl d_X2_begin_133 ?_
      refine g_getI F 14 f_X2_108 d_X2_begin_134 (hsC_21 hs) rfl rfl ?_
      refine G_top (b := σ 21 14) (hw14) ?_
      refine g_iconst F d_X2_begin_137 ?_
      refine g_iadd F d_X2_begin_138 ?_
      refine g_aload_n F 0 rfl rfl d_X2_begin_139 ?_
      refine g_getI F 15 f_X2_121 d_X2_begin_140 (hsC_21 hs) rfl rfl ?_
      refine G_top (b := σ 21 15) (hw15) ?_
      refine g_Vv F (own := RX2) (c_X2_goTo l E q sh (mWait σ1 (σ 21 14) (σ 21 15) (-1)) hs ((σ 21 14) + 1) (σ 21 15) ) k_X2_70 (hsC_21 hs) rfl rfl [] d_X2_begin_143 ⟨rfl, rfl, by decide, by decide⟩ ⟨Nat.zero_le _, Nat.zero_le _⟩ rfl (Nat.le_of_ble_eq_true rfl) ?_
      rintro _ rfl
      refine g_goto F d_X2_begin_146 ?_
      exact hQ d_X2_begin_173 (by unfold mBegin; rw [if_neg (by omega), ← e1]; first | (rw [if_pos hk]; done) | (rw [if_neg (by omega), if_pos hk]; done) | (rw [if_neg (by omega), if_neg (by omega), if_pos (by omega)]; done) | (rw [if_neg (by omega), if_neg (by omega), if_neg (by omega), if_pos hk]; done) | (rw [if_neg (by omega), if_neg (by omega), if_neg (by omega), if_neg (by omega)]; done))
    · have ht9 := tx_6 hk
      have hw6 := wo_6 hk
      refine g_tabIn F d_X2_begin_38 ⟨by omega, by omega⟩ 5 (tgt := 149) (by omega) (by decide) rfl rfl ?_
      refine g_aload_n F 0 rfl rfl d_X2_begin_149 ?_
      refine g_aload_n F 0 rfl rfl d_X2_begin_150 ?_
      refine g_getR F f_X2_33 d_X2_begin_151 (hsC_21 hs) rfl ?_
      refine g_aload_n F 0 rfl rfl d_X2_begin_154 ?_
      refine g_getI F 14 f_X2_108 d_X2_begin_155 (hsC_21 hs) rfl rfl ?_
      refine G_top (b := σ 21 14) (a21 14 (by decide)) ?_
      refine g_Vi F (own := RX2) (c_X0_worthAt l E q sh σ1 hs.B (σ 21 14) (by omega)) k_X2_114 (hsC_5 hs) rfl rfl [.ref (q 21)] d_X2_begin_158 ⟨rfl, rfl, by decide, by decide⟩ ⟨Nat.zero_le _, Nat.zero_le _⟩ rfl (Nat.le_of_ble_eq_true rfl) ?_
      rintro _ _ ⟨rfl, rfl⟩
      refine G_top (b := wo (σ 7 (σ 21 14))) (by rw [a9]; exact hKK.2.1) ?_
      refine g_Vv F (own := RX2) (c_X2_beginCall l E q sh σ1 hs (wo (σ 7 (σ 21 14))) hw6 (by rw [a21 5 (by decide)]; omega) (by rw [a21 14 (by decide)]; omega) (fun j h0 h1 => by rw [a10, a21 14 (by decide)]; have h9 := hch j h0 (by omega); omega) (by rw [a21 9 (by decide)]; omega)) k_X2_135 (hsC_21 hs) rfl rfl [] d_X2_begin_161 ⟨rfl, rfl, by decide, by decide⟩ ⟨Nat.zero_le _, Nat.zero_le _⟩ rfl (Nat.le_of_ble_eq_true rfl) ?_
      rintro _ rfl
      refine g_goto F d_X2_begin_164 ?_
      exact hQ d_X2_begin_173 (by unfold mBegin; rw [if_neg (by omega), ← e1]; first | (rw [if_pos hk]; done) | (rw [if_neg (by omega), if_pos hk]; done) | (rw [if_neg (by omega), if_neg (by omega), if_pos (by omega)]; done) | (rw [if_neg (by omega), if_neg (by omega), if_neg (by omega), if_pos hk]; done) | (rw [if_neg (by omega), if_neg (by omega), if_neg (by omega), if_neg (by omega)]; done))
    · refine g_tabOut F d_X2_begin_38 ⟨by omega, by omega⟩ (tgt := 167) (by omega) rfl ?_
      refine g_aload_n F 0 rfl rfl d_X2_begin_167 ?_
      refine g_bipush F (by decide) d_X2_begin_168 ?_
      refine g_putI F 12 f_X2_41 d_X2_begin_170 (hsC_21 hs) rfl rfl rfl rfl rfl ?_
      exact hQ d_X2_begin_173 (by unfold mBegin; rw [if_neg (by omega), ← e1]; first | (rw [if_pos hk]; done) | (rw [if_neg (by omega), if_pos hk]; done) | (rw [if_neg (by omega), if_neg (by omega), if_pos (by omega)]; done) | (rw [if_neg (by omega), if_neg (by omega), if_neg (by omega), if_pos hk]; done) | (rw [if_neg (by omega), if_neg (by omega), if_neg (by omega), if_neg (by omega)]; done))
  · refine g_aload_n F 0 rfl rfl d_X2_begin_10 ?_
    refine g_bipush F (by decide) d_X2_begin_11 ?_
    refine g_putI F 12 f_X2_41 d_X2_begin_13 (hsC_21 hs) rfl rfl rfl rfl rfl ?_
    exact hQ d_X2_begin_16 (by unfold mBegin; rw [if_pos (by omega)])
