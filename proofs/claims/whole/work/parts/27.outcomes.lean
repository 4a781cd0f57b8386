/-! the Outcomes: runs remembered -/
abbrev mrows : List Nat := [21, 22, 23, 24, 25, 26, 27, 28]
abbrev trows : List Nat := [21, 22, 23, 24, 25, 26, 27]
theorem mGo_Sm {ρ : Sg} {σ : Sg} (h : Sm trows ρ σ) (p c : Int) : Sm trows ρ (mGo σ p c) := by
  unfold mGo; exact ((h.up (by decide) _ _).up (by decide) _ _).up (by decide) _ _
theorem mGive_Sm {ρ : Sg} {σ : Sg} (h : Sm trows ρ σ) (v : Int) : Sm trows ρ (mGive σ v) := by
  unfold mGive; exact (h.up (by decide) _ _).up (by decide) _ _
theorem mWait_Sm {ρ : Sg} {σ : Sg} (h : Sm trows ρ σ) (p c v : Int) : Sm trows ρ (mWait σ p c v) := by
  unfold mWait; exact (((h.up (by decide) _ _).up (by decide) _ _).up (by decide) _ _).up (by decide) _ _
theorem mSlot_Sm {ρ : Sg} {σ : Sg} (h : Sm trows ρ σ) (s : Int) : Sm trows ρ (mSlot σ s) := mGo_Sm h _ _
theorem mCalling_Sm {ρ : Sg} {σ : Sg} (h : Sm trows ρ σ) (p c k : Int) : Sm trows ρ (mCalling σ p c k) := by
  unfold mCalling
  split
  · exact mSlot_Sm (mWait_Sm h _ _ _) _
  · exact mGo_Sm h _ _
theorem mActing_Sm {ρ : Sg} {σ : Sg} (h : Sm trows ρ σ) (p c k : Int) : Sm trows ρ (mActing σ p c k) := by
  unfold mActing
  split
  · exact mGo_Sm (mWait_Sm h _ _ _) _ _
  · exact mGive_Sm h _
theorem mArg_Sm {ρ : Sg} {σ : Sg} (h : Sm trows ρ σ) (s : Int) : Sm trows ρ (mArg σ s) := by
  unfold mArg
  split
  · exact h.up (by decide) _ _
  · split
    · split
      · exact mSlot_Sm h _
      · exact mSlot_Sm (mWait_Sm h _ _ _) _
    · exact mGive_Sm h _
theorem mCall_Sm {ρ : Sg} {σ : Sg} (h : Sm trows ρ σ) (g : Int) : Sm trows ρ (mCall σ g) := by
  unfold mCall
  exact mGive_Sm (mWait_Sm ((h.up (by decide) _ _).trans ((hangs_Sm _ _ _ _ _).wide (by decide))) _ _ _) _
theorem mTurn_Sm (σ : Sg) : Sm trows σ (mTurn σ) := by
  have h := Sm.refl trows σ
  unfold mTurn
  split
  · unfold mBegin
    split
    · exact h.up (by decide) _ _
    · have h1 : Sm trows σ (up σ 21 13 (σ 21 13 + 1)) := h.up (by decide) _ _
      split
      · exact mGive_Sm h1 _
      · split
        · exact mArg_Sm h1 _
        · split
          · exact mGo_Sm (mWait_Sm h1 _ _ _) _ _
          · split
            · exact mCall_Sm h1 _
            · exact h1.up (by decide) _ _
  · unfold mBack
    split
    · exact h.up (by decide) _ _
    · have h1 : Sm trows σ (up σ 21 9 (σ 21 9 - 1)) := h.up (by decide) _ _
      split
      · exact mActing_Sm h1 _ _ _
      · split
        · exact mGo_Sm h1 _ _
        · split
          · exact h1.up (by decide) _ _
          · split
            · refine mCalling_Sm ?_ _ _ _
              split
              · exact h1
              · exact h1.up (by decide) _ _
            · exact h1.up (by decide) _ _
theorem mRun_Sm : ∀ (k : Nat) (σ : Sg), Sm trows σ (mRun k σ)
  | 0, σ => Sm.refl _ _
  | k + 1, σ => by
    unfold mRun
    split
    · exact (mTurn_Sm σ).trans (mRun_Sm k _)
    · exact Sm.refl _ _
theorem mDone_Sm (σ : Sg) : Sm trows σ (mDone σ) := by
  unfold mDone
  split
  · exact (Sm.refl _ _).up (by decide) _ _
  · exact Sm.refl _ _
/-- a RUN, played -/
def mPlay (σ : Sg) (f a w : Int) : Sg := mDone (mRun 3000 (mStart σ f a w))
theorem mStart_Sm (σ : Sg) (f a w : Int) : Sm mrows σ (mStart σ f a w) := by
  unfold mStart
  have h1 : Sm mrows σ (up (up (up (up (up σ 21 10 w) 21 12 (-1)) 21 13 0) 21 9 0) 21 5 1) := (((((Sm.refl _ _).up (by decide) _ _).up (by decide) _ _).up (by decide) _ _).up (by decide) _ _).up (by decide) _ _
  have h2 := h1.trans ((chs_Sm _ 4).wide (by decide))
  have h3 := h2.trans ((tkT_Sm (chs (up (up (up (up (up σ 21 10 w) 21 12 (-1)) 21 13 0) 21 9 0) 21 5 1) 4 28 f) (nA f).toNat a _).wide (by decide))
  unfold mGo
  exact ((h3.up (by decide) _ _).up (by decide) _ _).up (by decide) _ _
theorem mPlay_Sm (σ : Sg) (f a w : Int) : Sm mrows σ (mPlay σ f a w) :=
  ((mStart_Sm σ f a w).trans ((mRun_Sm 3000 _).wide (by decide))).trans ((mDone_Sm _).wide (by decide))
/-- the row of the static numbers -/
def inRun (f a w : Int) : Prop := (0 ≤ f ∧ f < 4) ∧ (0 ≤ a ∧ a < stV 1 f) ∧ (0 ≤ w ∧ w < 4)
def ixR (f a w : Int) : Int := stV 4 f + w * stV 1 f + a
theorem ixR_in {f a w : Int} (h : inRun f a w) : 0 ≤ ixR f a w ∧ ixR f a w < 3600 := by
  obtain ⟨hf, ha, hw⟩ := h
  unfold ixR
  rcases four hf with rfl | rfl | rfl | rfl
  · change 0 ≤ a ∧ a < 9 at ha; change 0 ≤ 0 + w * 9 + a ∧ 0 + w * 9 + a < 3600; omega
  · change 0 ≤ a ∧ a < 81 at ha; change 0 ≤ 36 + w * 81 + a ∧ 36 + w * 81 + a < 3600; omega
  · change 0 ≤ a ∧ a < 729 at ha; change 0 ≤ 360 + w * 729 + a ∧ 360 + w * 729 + a < 3600; omega
  · change 0 ≤ a ∧ a < 81 at ha; change 0 ≤ 3276 + w * 81 + a ∧ 3276 + w * 81 + a < 3600; omega
theorem ixR_inj {f a w f' a' w' : Int} (h : inRun f a w) (h' : inRun f' a' w') (e : ixR f a w = ixR f' a' w') : f = f' ∧ a = a' ∧ w = w' := by
  obtain ⟨hf, ha, hw⟩ := h
  obtain ⟨hf', ha', hw'⟩ := h'
  unfold ixR at e
  rcases four hf with rfl | rfl | rfl | rfl <;> rcases four hf' with rfl | rfl | rfl | rfl <;>
    simp only [stV, stT, List.getD, Int.toNat] at e ha ha' <;> simp at e ha ha' <;> omega
theorem stV1_in {f : Int} (h : 0 ≤ f ∧ f < 4) : 9 ≤ stV 1 f ∧ stV 1 f ≤ 729 := by rcases four h with rfl | rfl | rfl | rfl <;> decide
theorem stV4_in {f : Int} (h : 0 ≤ f ∧ f < 4) : 0 ≤ stV 4 f ∧ stV 4 f ≤ 3276 := by rcases four h with rfl | rfl | rfl | rfl <;> decide
abbrev RF : Type := Int → Int → Int → Int
abbrev brows : List Nat := [6, 7, 8, 9, 10, 11, 15]
/-- the runs of the BODIES as they stand end so, in so many steps -/
def RunOk (σ : Sg) (re rt : RF) : Prop := ∀ τ : Sg, (∀ k ∈ brows, τ k = σ k) → AH τ → ∀ f a w, inRun f a w → (∃ J, TurnInv J ∧ J (mStart τ f a w)) ∧ mPlay τ f a w 21 12 = re f a w ∧ mPlay τ f a w 21 13 = rt f a w ∧ (0 ≤ re f a w ∧ re f a w ≤ 9) ∧ (0 ≤ rt f a w ∧ rt f a w ≤ 300) ∧ AH (mPlay τ f a w)
theorem RunOk.move {σ τ : Sg} {re rt : RF} (h : RunOk σ re rt) (e : ∀ k ∈ brows, τ k = σ k) : RunOk τ re rt :=
  fun υ hu => h υ (fun k hk => (hu k hk).trans (e k hk))
def KeptOk (σ : Sg) (re rt : RF) : Prop := ∀ f a w, inRun f a w → σ 29 (ixR f a w) = -1 ∨ σ 29 (ixR f a w) = rt f a w * 10 + re f a w
/-- all that runs need of the state -/
def RSt (σ : Sg) (re rt : RF) : Prop := RunOk σ re rt ∧ KeptOk σ re rt ∧ AH σ ∧ ∀ f, 0 ≤ f → f < 4 → 0 ≤ σ 15 f ∧ σ 15 f < 256
abbrev orows : List Nat := [21, 22, 23, 24, 25, 26, 27, 28, 29]
theorem kept_new {σ : Sg} {re rt : RF} {x y w : Int} (hin : inRun x y w) (hRun : RunOk σ re rt) (hKept : KeptOk σ re rt) (h15 : ∀ f, 0 ≤ f → f < 4 → 0 ≤ σ 15 f ∧ σ 15 f < 256) (hpm : Sm mrows σ (mPlay σ x y w)) (hA : AH (mPlay σ x y w)) :
    up (mPlay σ x y w) 29 (ixR x y w) (rt x y w * 10 + re x y w) 29 (ixR x y w) = rt x y w * 10 + re x y w ∧ Sm orows σ (up (mPlay σ x y w) 29 (ixR x y w) (rt x y w * 10 + re x y w)) ∧ RSt (up (mPlay σ x y w) 29 (ixR x y w) (rt x y w * 10 + re x y w)) re rt := by
  have hm : Sm orows σ (up (mPlay σ x y w) 29 (ixR x y w) (rt x y w * 10 + re x y w)) := (hpm.wide (by decide)).up (by decide) _ _
  refine ⟨up_same _ _ _ _, hm, hRun.move (fun k hk => hm k (by revert k; decide)), ?_, ?_, ?_⟩
  · intro f a w' h
    rw [up_at]
    split
    · rename_i e
      obtain ⟨rfl, rfl, rfl⟩ := ixR_inj h hin e
      exact Or.inr rfl
    · rw [hpm 29 (by decide)]
      exact hKept f a w' h
  · intro f
    rw [up_ne _ (by decide)]
    exact hA f
  · intro f
    rw [hm 15 (by decide)]
    exact h15 f
set_option maxHeartbeats 1000000 in
theorem c_X3_forget (l : Launch) (E : Ev) (q : Nat → Nat) (sh : List Shp) (σ : Sg) (hs : HsC sh) : CV l E yX3_forget cX3_forget 1 ({ frames := 1, cells := 0, slots := 0, locals := 23 } : Room) q sh σ [.ref (q 20)] (fun τ => Sm [29] σ τ ∧ ∀ j, 0 ≤ j → j < 3600 → τ 29 j = -1) := by
  refine CV_of (own := RX3) (by decide) rfl (Nat.le_of_ble_eq_true rfl) (fun X Q F hQ => ?_)
  show G X E 1 q sh σ 0 0 Q 0 [(0, .ref (q 20))] []
  refine g_aload_n F 0 rfl rfl d_X3_forget_0 ?_
  refine g_getR F f_X3_11 d_X3_forget_1 (hsC_20 hs) rfl ?_
  refine g_iconst F d_X3_forget_4 ?_
  refine g_Sv F (own := RX3) (c_J7_fill_53178 l E q sh σ 29 3600 (-1) (hsC_29 hs) (by decide)) k_X3_19 [] d_X3_forget_5 ⟨rfl, rfl, by decide, by decide⟩ ⟨Nat.zero_le _, Nat.zero_le _⟩ rfl (Nat.le_of_ble_eq_true rfl) ?_
  intro τ1 hp
  exact hQ d_X3_forget_8 (⟨hp.2.2, fun j a b => hp.1 j a (by omega)⟩)
set_option maxHeartbeats 1000000 in
theorem c_X3_endIn (l : Launch) (E : Ev) (q : Nat → Nat) (sh : List Shp) (σ : Sg) (x : Int) (hx : 0 ≤ x ∧ x < 2147483648) : CI l E yX3_endIn cX3_endIn 1 .int ({ frames := 0, cells := 0, slots := 0, locals := 0 } : Room) q sh σ [vI x] (is (x % 10) σ) := by
  refine CI_of (own := RX3) (by decide) rfl (Nat.le_of_ble_eq_true rfl) (fun X Q F hQ => ?_)
  show G X E 1 q sh σ 0 0 Q 0 [(0, vI x)] []
  refine g_iload_n F 0 rfl rfl d_X3_endIn_0 ?_
  refine g_bipush F (by decide) d_X3_endIn_1 ?_
  refine g_irem F ⟨by omega, by omega, by omega, by omega⟩ d_X3_endIn_3 ?_
  exact hQ d_X3_endIn_4 (⟨by first | rfl | omega | (simp only [*]; done) | (simp [*]; done) | (split <;> omega), rfl⟩)
set_option maxHeartbeats 1000000 in
theorem c_X3_stepsIn (l : Launch) (E : Ev) (q : Nat → Nat) (sh : List Shp) (σ : Sg) (x : Int) (hx : 0 ≤ x ∧ x < 2147483648) : CI l E yX3_stepsIn cX3_stepsIn 1 .int ({ frames := 0, cells := 0, slots := 0, locals := 0 } : Room) q sh σ [vI x] (is (x / 10) σ) := by
  refine CI_of (own := RX3) (by decide) rfl (Nat.le_of_ble_eq_true rfl) (fun X Q F hQ => ?_)
  show G X E 1 q sh σ 0 0 Q 0 [(0, vI x)] []
  refine g_iload_n F 0 rfl rfl d_X3_stepsIn_0 ?_
  refine g_bipush F (by decide) d_X3_stepsIn_1 ?_
  refine g_idiv F ⟨by omega, by omega, by omega, by omega⟩ d_X3_stepsIn_3 ?_
  exact hQ d_X3_stepsIn_4 (⟨by first | rfl | omega | (simp only [*]; done) | (simp [*]; done) | (split <;> omega), rfl⟩)
set_option maxHeartbeats 1000000 in
theorem c_X3_of (l : Launch) (E : Ev) (q : Nat → Nat) (sh : List Shp) (σ : Sg) (hs : HsC sh) (x y w : Int) (re rt : RF) (hin : inRun x y w) (hR : RSt σ re rt) : CI l E yX3_of cX3_of 5 .int ({ frames := 5, cells := 0, slots := 0, locals := 115 } : Room) q sh σ [.ref (q 20), vI x, vI y, vI w] (fun z τ => z = rt x y w * 10 + re x y w ∧ Sm orows σ τ ∧ RSt τ re rt) := by
  obtain ⟨hRun, hKept, hA, h15⟩ := hR
  have hix := ixR_in hin
  have hx := hin.1
  have hyy := hin.2.1
  have hww := hin.2.2
  have t1 := stV1_in hx
  have t4 := stV4_in hx
  have hr9 := hRun σ (fun _ _ => rfl) hA x y w hin
  obtain ⟨⟨J, hJ, hJ0⟩, hr1, hr2, hr3, hr4, hr5⟩ := hr9
  have hk9 := hKept x y w hin
  have hkr : rg (σ 29 (ixR x y w)) := by rcases hk9 with q | q <;> rw [q] <;> exact ⟨by omega, by omega⟩
  have hpm := mPlay_Sm σ x y w
  have hp29 : mPlay σ x y w 29 = σ 29 := hpm 29 (by decide)
  refine CI_of (own := RX3) (by decide) rfl (Nat.le_of_ble_eq_true rfl) (fun X Q F hQ => ?_)
  show G X E 5 q sh σ 0 0 Q 0 [(0, .ref (q 20)), (1, vI x), (2, vI y), (3, vI w)] []
  refine g_iload_n F 1 rfl rfl d_X3_of_0 ?_
  refine g_Ni F (own := RX3) (c_X8_isFunction l E q sh σ x ⟨by omega, by omega⟩) k_X3_25 [] d_X3_of_1 ⟨rfl, rfl, by decide, by decide⟩ ⟨Nat.zero_le _, Nat.zero_le _⟩ rfl (Nat.le_of_ble_eq_true rfl) ?_
  rintro _ _ ⟨rfl, rfl⟩
  refine g_b_ne F d_X3_of_4 (fun h4 => ?_) (fun h4 => by exfalso; omega)
  refine g_gets F 4 (by decide) rfl (mg 531 (by decide +kernel) rfl) d_X3_of_10 ?_
  refine g_iload_n F 1 rfl rfl d_X3_of_13 ?_
  refine g_sald F 4 (by decide) (by omega) (by show _ < (4 : Int); omega) d_X3_of_14 ?_
  refine g_iload_n F 3 rfl rfl d_X3_of_15 ?_
  refine g_getsN F (host := "NeedTables") 1 (by decide) rfl (by decide +kernel) d_X3_of_16 ?_
  refine g_iload_n F 1 rfl rfl d_X3_of_19 ?_
  refine g_sald F 1 (by decide) (by omega) (by show _ < (4 : Int); omega) d_X3_of_20 ?_
  refine g_imul F d_X3_of_21 ?_
  refine g_iadd F d_X3_of_22 ?_
  refine g_iload_n F 2 rfl rfl d_X3_of_23 ?_
  refine g_iadd F d_X3_of_24 ?_
  refine G_top (b := ixR x y w) (rfl) ?_
  refine g_istore F (lv' := [(4, vI (ixR x y w)), (0, .ref (q 20)), (1, vI x), (2, vI y), (3, vI w)]) (by decide) rfl d_X3_of_25 ?_
  refine g_iload F 0 rfl d_X3_of_27 ?_
  refine g_if_lt F d_X3_of_29 ⟨by omega, by omega⟩ (fun h29 => by exfalso; omega) (fun h29 => ?_)
  refine g_iload F 0 rfl d_X3_of_32 ?_
  refine g_sipush F (by decide) d_X3_of_34 ?_
  refine g_icmp_lt F d_X3_of_37 ⟨by omega, by omega⟩ ⟨by decide, by decide⟩ (fun h37 => ?_) (fun h37 => by exfalso; omega)
  refine g_aload_n F 1 rfl rfl d_X3_of_43 ?_
  refine g_getR F f_X3_11 d_X3_of_44 (hsC_20 hs) rfl ?_
  refine g_iload F 0 rfl d_X3_of_47 ?_
  refine g_iaload F d_X3_of_49 (hsC_29 hs) (by omega) (by omega) (by decide) ?_
  refine g_iconst F d_X3_of_50 ?_
  refine g_icmp_ne F d_X3_of_51 hkr ⟨by decide, by decide⟩ (fun h51 => ?_) (fun h51 => ?_)
  · refine g_aload_n F 1 rfl rfl d_X3_of_89 ?_
    refine g_getR F f_X3_11 d_X3_of_90 (hsC_20 hs) rfl ?_
    refine g_iload F 0 rfl d_X3_of_93 ?_
    refine g_iaload F d_X3_of_95 (hsC_29 hs) (by omega) (by omega) (by decide) ?_
    exact hQ d_X3_of_96 (by first | exact kept_new hin hRun hKept h15 hpm hr5 | exact ⟨by rcases hk9 with q | q; exact absurd q h51; exact q, Sm.refl _ _, hRun, hKept, hA, h15⟩)
  · refine g_aload_n F 1 rfl rfl d_X3_of_54 ?_
    refine g_getR F f_X3_15 d_X3_of_55 (hsC_20 hs) rfl ?_
    refine g_iload_n F 2 rfl rfl d_X3_of_58 ?_
    refine g_iload_n F 3 rfl rfl d_X3_of_59 ?_
    refine g_iload_n F 4 rfl rfl d_X3_of_60 ?_
    refine g_Vv F (own := RX3) (c_X2_play l E q sh σ hs x y w J hx (by omega) hww h15 hA hJ hJ0) k_X3_35 (hsC_21 hs) rfl rfl [] d_X3_of_61 ⟨rfl, rfl, by decide, by decide⟩ ⟨Nat.zero_le _, Nat.zero_le _⟩ rfl (Nat.le_of_ble_eq_true rfl) ?_
    rintro _ rfl
    show G X E _ q sh (mPlay σ x y w) 0 0 Q _ _ _
    refine g_aload_n F 1 rfl rfl d_X3_of_64 ?_
    refine g_getR F f_X3_11 d_X3_of_65 (hsC_20 hs) rfl ?_
    refine g_iload F 0 rfl d_X3_of_68 ?_
    refine g_aload_n F 1 rfl rfl d_X3_of_70 ?_
    refine g_getR F f_X3_15 d_X3_of_71 (hsC_20 hs) rfl ?_
    refine g_Vi F (own := RX3) (c_X2_taken l E q sh (mPlay σ x y w) hs  ) k_X3_41 (hsC_21 hs) rfl rfl [vI (ixR x y w), .ref (q 29)] d_X3_of_74 ⟨rfl, rfl, by decide, by decide⟩ ⟨Nat.zero_le _, Nat.zero_le _⟩ rfl (Nat.le_of_ble_eq_true rfl) ?_
    rintro _ _ ⟨rfl, rfl⟩
    refine G_top (b := rt x y w) (hr2) ?_
    refine g_bipush F (by decide) d_X3_of_77 ?_
    refine g_imul F d_X3_of_79 ?_
    refine g_aload_n F 1 rfl rfl d_X3_of_80 ?_
    refine g_getR F f_X3_15 d_X3_of_81 (hsC_20 hs) rfl ?_
    refine g_Vi F (own := RX3) (c_X2_end l E q sh (mPlay σ x y w) hs  ) k_X3_45 (hsC_21 hs) rfl rfl [vI ((rt x y w) * 10), vI (ixR x y w), .ref (q 29)] d_X3_of_84 ⟨rfl, rfl, by decide, by decide⟩ ⟨Nat.zero_le _, Nat.zero_le _⟩ rfl (Nat.le_of_ble_eq_true rfl) ?_
    rintro _ _ ⟨rfl, rfl⟩
    refine G_top (b := re x y w) (hr1) ?_
    refine g_iadd F d_X3_of_87 ?_
    refine g_iastore F d_X3_of_88 (hsC_29 hs) (by omega) (by omega) (by decide) ?_
    refine g_aload_n F 1 rfl rfl d_X3_of_89 ?_
    refine g_getR F f_X3_11 d_X3_of_90 (hsC_20 hs) rfl ?_
    refine g_iload F 0 rfl d_X3_of_93 ?_
    refine g_iaload F d_X3_of_95 (hsC_29 hs) (by omega) (by omega) (by decide) ?_
    exact hQ d_X3_of_96 (by first | exact kept_new hin hRun hKept h15 hpm hr5 | exact ⟨by rcases hk9 with q | q; exact absurd q h51; exact q, Sm.refl _ _, hRun, hKept, hA, h15⟩)
