/-! the Machine's small steps, as changes of the table of numbers -/
def mGo (σ : Sg) (p c : Int) : Sg := up (up (up σ 21 16 0) 21 14 p) 21 15 c
def mGive (σ : Sg) (v : Int) : Sg := up (up σ 21 16 1) 21 17 v
def mWait (σ : Sg) (p c h : Int) : Sg := up (up (up (up σ 25 (σ 21 9) p) 26 (σ 21 9) c) 27 (σ 21 9) h) 21 9 (σ 21 9 + 1)
def mHang (σ : Sg) (s p c : Int) : Sg := up (up (up σ 22 s (-1)) 23 s p) 24 s c
def mSlot (σ : Sg) (s : Int) : Sg := mGo σ (σ 23 s) (σ 24 s)
/-- an ACT -/
def ac (x a b : Int) : Int := if x = 43 then bAnd (a + b) 7 else if x = 45 then bAnd (a - b) 7 else if x = 42 then bAnd (a * b) 7 else if b < a then b else a
theorem bAnd7 (z : Int) : 0 ≤ bAnd z 7 ∧ bAnd z 7 < 8 := by
  have h := pk_andIn (iI z) (m := 7) 3 (by decide) (by decide)
  rw [vp_in_iff] at h
  exact h
theorem ac_in {x a b : Int} (ha : 0 ≤ a ∧ a < 8) (hb : 0 ≤ b ∧ b < 8) : 0 ≤ ac x a b ∧ ac x a b < 8 := by
  unfold ac
  split
  · exact bAnd7 _
  · split
    · exact bAnd7 _
    · split
      · exact bAnd7 _
      · split <;> assumption
/-- the next ARGUMENT, from k on, that is worked ahead; n: none -/
def nxA (ah n : Int) : Nat → Int → Int
  | 0, k => k
  | m + 1, k => if bt ah k = true then k else nxA ah n m (k + 1)
def nx (ah n k : Int) : Int := nxA ah n (n - k).toNat k
theorem nx_end {ah n k : Int} (h : n ≤ k) : nx ah n k = k := by
  unfold nx
  rw [show (n - k).toNat = 0 by omega]
  rfl
theorem nx_yes {ah n k : Int} (h : k < n) (hb : bt ah k = true) : nx ah n k = k := by
  unfold nx
  rw [show (n - k).toNat = (n - k - 1).toNat + 1 by omega, nxA, if_pos hb]
theorem nx_no {ah n k : Int} (h : k < n) (hb : ¬ bt ah k = true) : nx ah n k = nx ah n (k + 1) := by
  unfold nx
  rw [show (n - k).toNat = (n - (k + 1)).toNat + 1 by omega, nxA, if_neg hb]
def AH (σ : Sg) : Prop := ∀ f, 0 ≤ σ 28 f ∧ σ 28 f < 256
/-- a call goes on: its next text ahead, or its BODY -/
def mCalling (σ : Sg) (p c k : Int) : Sg := if nx (σ 28 (σ 9 p)) (nA (σ 9 p)) k < nA (σ 9 p) then mSlot (mWait σ p c (nx (σ 28 (σ 9 p)) (nA (σ 9 p)) k)) (c * 3 + nx (σ 28 (σ 9 p)) (nA (σ 9 p)) k) else mGo σ (σ 9 p * 30) c
def mActing (σ : Sg) (p c h : Int) : Sg := if h = -1 then mGo (mWait σ p c (σ 21 17)) (tp (σ 10) p 1) c else mGive σ (ac (σ 9 p) h (σ 21 17))
def mArg (σ : Sg) (s : Int) : Sg := if σ 22 s = 8 then up σ 21 12 8 else if σ 22 s = -1 then (if σ 21 10 = 0 then mSlot σ s else mSlot (mWait σ (σ 21 14) (σ 21 15) (-1)) s) else mGive σ (σ 22 s)
/-- the slots of a new call -/
def hangs (σ : Sg) (c p r : Int) : Nat → Sg
  | 0 => σ
  | k + 1 => mHang (hangs σ c p r k) (c * 3 + k) (tp (σ 10) p k) r
/-- a call begins: its slots, and it waits for the text ahead of its first -/
def mCall (σ : Sg) (g : Int) : Sg := mGive (mWait (hangs (up σ 21 5 (σ 21 5 + 1)) (σ 21 5) (σ 21 14) (σ 21 15) (nA g).toNat) (σ 21 14) (σ 21 5) (-1)) 8
theorem hangs_Sm (σ : Sg) (c p r : Int) : ∀ k : Nat, Sm [22, 23, 24] σ (hangs σ c p r k)
  | 0 => Sm.refl _ _
  | k + 1 => by
    have ih := hangs_Sm σ c p r k
    unfold hangs mHang
    exact ((ih.up (by decide) _ _).up (by decide) _ _).up (by decide) _ _
theorem mWait_10 (σ : Sg) (p c h : Int) : mWait σ p c h 10 = σ 10 := by
  unfold mWait
  rw [up_ne _ (by decide), up_ne _ (by decide), up_ne _ (by decide), up_ne _ (by decide)]
set_option maxHeartbeats 1000000 in
theorem c_X2_end (l : Launch) (E : Ev) (q : Nat → Nat) (sh : List Shp) (σ : Sg) (hs : HsC sh) : CI l E yX2_end cX2_end 1 .int ({ frames := 0, cells := 0, slots := 0, locals := 0 } : Room) q sh σ [.ref (q 21)] (is (σ 21 12) σ) := by
  refine CI_of (own := RX2) (by decide) rfl (Nat.le_of_ble_eq_true rfl) (fun X Q F hQ => ?_)
  show G X E 1 q sh σ 0 0 Q 0 [(0, .ref (q 21))] []
  refine g_aload_n F 0 rfl rfl d_X2_end_0 ?_
  refine g_getI F 12 f_X2_41 d_X2_end_1 (hsC_21 hs) rfl rfl ?_
  exact hQ d_X2_end_4 (⟨by first | rfl | omega | (simp only [*]; done) | (simp [*]; done) | (split <;> omega), rfl⟩)
set_option maxHeartbeats 1000000 in
theorem c_X2_taken (l : Launch) (E : Ev) (q : Nat → Nat) (sh : List Shp) (σ : Sg) (hs : HsC sh) : CI l E yX2_taken cX2_taken 1 .int ({ frames := 0, cells := 0, slots := 0, locals := 0 } : Room) q sh σ [.ref (q 21)] (is (σ 21 13) σ) := by
  refine CI_of (own := RX2) (by decide) rfl (Nat.le_of_ble_eq_true rfl) (fun X Q F hQ => ?_)
  show G X E 1 q sh σ 0 0 Q 0 [(0, .ref (q 21))] []
  refine g_aload_n F 0 rfl rfl d_X2_taken_0 ?_
  refine g_getI F 13 f_X2_45 d_X2_taken_1 (hsC_21 hs) rfl rfl ?_
  exact hQ d_X2_taken_4 (⟨by first | rfl | omega | (simp only [*]; done) | (simp [*]; done) | (split <;> omega), rfl⟩)
set_option maxHeartbeats 1000000 in
theorem c_X2_slotOf (l : Launch) (E : Ev) (q : Nat → Nat) (sh : List Shp) (σ : Sg) (x y : Int) : CI l E yX2_slotOf cX2_slotOf 2 .int ({ frames := 0, cells := 0, slots := 0, locals := 0 } : Room) q sh σ [vI x, vI y] (is (x * 3 + y) σ) := by
  refine CI_of (own := RX2) (by decide) rfl (Nat.le_of_ble_eq_true rfl) (fun X Q F hQ => ?_)
  show G X E 2 q sh σ 0 0 Q 0 [(0, vI x), (1, vI y)] []
  refine g_iload_n F 0 rfl rfl d_X2_slotOf_0 ?_
  refine g_iconst F d_X2_slotOf_1 ?_
  refine g_imul F d_X2_slotOf_2 ?_
  refine g_iload_n F 1 rfl rfl d_X2_slotOf_3 ?_
  refine g_iadd F d_X2_slotOf_4 ?_
  exact hQ d_X2_slotOf_5 (⟨by first | rfl | omega | (simp only [*]; done) | (simp [*]; done) | (split <;> omega), rfl⟩)
set_option maxHeartbeats 1000000 in
theorem c_X2_isSlot (l : Launch) (E : Ev) (q : Nat → Nat) (sh : List Shp) (σ : Sg) (x : Int) (rx : rg x) : CI l E yX2_isSlot cX2_isSlot 1 .boolean ({ frames := 0, cells := 0, slots := 0, locals := 0 } : Room) q sh σ [vI x] (is (if 0 ≤ x ∧ x < 903 then 1 else 0) σ) := by
  have rx1 := rx.1
  have rx2 := rx.2
  refine CB_of (own := RX2) (by decide) rfl (Nat.le_of_ble_eq_true rfl) (fun X Q F hQ => ?_)
  show G X E 1 q sh σ 0 0 Q 0 [(0, vI x)] []
  refine g_iload_n F 0 rfl rfl d_X2_isSlot_0 ?_
  refine g_if_lt F d_X2_isSlot_1 ⟨by omega, by omega⟩ (fun h1 => ?_) (fun h1 => ?_)
  · refine g_iconst F d_X2_isSlot_15 ?_
    exact hQ d_X2_isSlot_16 (Or.inl rfl) (⟨by split <;> omega, rfl⟩)
  · refine g_iload_n F 0 rfl rfl d_X2_isSlot_4 ?_
    refine g_sipush F (by decide) d_X2_isSlot_5 ?_
    refine g_icmp_ge F d_X2_isSlot_8 ⟨by omega, by omega⟩ ⟨by decide, by decide⟩ (fun h8 => ?_) (fun h8 => ?_)
    · refine g_iconst F d_X2_isSlot_15 ?_
      exact hQ d_X2_isSlot_16 (Or.inl rfl) (⟨by split <;> omega, rfl⟩)
    · refine g_iconst F d_X2_isSlot_11 ?_
      refine g_goto F d_X2_isSlot_12 ?_
      exact hQ d_X2_isSlot_16 (Or.inr rfl) (⟨by split <;> omega, rfl⟩)
set_option maxHeartbeats 1000000 in
theorem c_X2_heldIn (l : Launch) (E : Ev) (q : Nat → Nat) (sh : List Shp) (σ : Sg) (hs : HsC sh) (s : Int) (hs0 : 0 ≤ s ∧ s < 903) : CI l E yX2_heldIn cX2_heldIn 2 .int ({ frames := 1, cells := 0, slots := 0, locals := 20 } : Room) q sh σ [.ref (q 21), vI s] (is (σ 22 s) σ) := by
  refine CI_of (own := RX2) (by decide) rfl (Nat.le_of_ble_eq_true rfl) (fun X Q F hQ => ?_)
  show G X E 2 q sh σ 0 0 Q 0 [(0, .ref (q 21)), (1, vI s)] []
  refine g_iload_n F 1 rfl rfl d_X2_heldIn_0 ?_
  refine g_Si F (own := RX2) (c_X2_isSlot l E q sh σ s ⟨by omega, by omega⟩) k_X2_165 [] d_X2_heldIn_1 ⟨rfl, rfl, by decide, by decide⟩ ⟨Nat.zero_le _, Nat.zero_le _⟩ rfl (Nat.le_of_ble_eq_true rfl) ?_
  rintro _ _ ⟨rfl, rfl⟩
  refine g_b_eq F d_X2_heldIn_4 (fun h4 => by exfalso; omega) (fun h4 => ?_)
  refine g_aload_n F 0 rfl rfl d_X2_heldIn_7 ?_
  refine g_getR F f_X2_11 d_X2_heldIn_8 (hsC_21 hs) rfl ?_
  refine g_iload_n F 1 rfl rfl d_X2_heldIn_11 ?_
  refine g_iaload F d_X2_heldIn_12 (hsC_22 hs) (by omega) (by omega) (by decide) ?_
  refine g_goto F d_X2_heldIn_13 ?_
  exact hQ d_X2_heldIn_18 (⟨by first | rfl | omega | (simp only [*]; done) | (simp [*]; done) | (split <;> omega), rfl⟩)
set_option maxHeartbeats 1000000 in
theorem c_X2_setSlot (l : Launch) (E : Ev) (q : Nat → Nat) (sh : List Shp) (σ : Sg) (hs : HsC sh) (s v : Int) (hs0 : 0 ≤ s ∧ s < 903) : CV l E yX2_setSlot cX2_setSlot 3 ({ frames := 1, cells := 0, slots := 0, locals := 20 } : Room) q sh σ [.ref (q 21), vI s, vI v] (isS (up σ 22 s v)) := by
  refine CV_of (own := RX2) (by decide) rfl (Nat.le_of_ble_eq_true rfl) (fun X Q F hQ => ?_)
  show G X E 3 q sh σ 0 0 Q 0 [(0, .ref (q 21)), (1, vI s), (2, vI v)] []
  refine g_iload_n F 1 rfl rfl d_X2_setSlot_0 ?_
  refine g_Si F (own := RX2) (c_X2_isSlot l E q sh σ s ⟨by omega, by omega⟩) k_X2_165 [] d_X2_setSlot_1 ⟨rfl, rfl, by decide, by decide⟩ ⟨Nat.zero_le _, Nat.zero_le _⟩ rfl (Nat.le_of_ble_eq_true rfl) ?_
  rintro _ _ ⟨rfl, rfl⟩
  refine g_b_eq F d_X2_setSlot_4 (fun h4 => by exfalso; omega) (fun h4 => ?_)
  refine g_aload_n F 0 rfl rfl d_X2_setSlot_7 ?_
  refine g_getR F f_X2_11 d_X2_setSlot_8 (hsC_21 hs) rfl ?_
  refine g_iload_n F 1 rfl rfl d_X2_setSlot_11 ?_
  refine g_iload_n F 2 rfl rfl d_X2_setSlot_12 ?_
  refine g_iastore F d_X2_setSlot_13 (hsC_22 hs) (by omega) (by omega) (by decide) ?_
  exact hQ d_X2_setSlot_14 (rfl)
set_option maxHeartbeats 1000000 in
theorem c_X2_hang (l : Launch) (E : Ev) (q : Nat → Nat) (sh : List Shp) (σ : Sg) (hs : HsC sh) (s p c : Int) (hs0 : 0 ≤ s ∧ s < 903) : CV l E yX2_hang cX2_hang 4 ({ frames := 1, cells := 0, slots := 0, locals := 20 } : Room) q sh σ [.ref (q 21), vI s, vI p, vI c] (isS (mHang σ s p c)) := by
  refine CV_of (own := RX2) (by decide) rfl (Nat.le_of_ble_eq_true rfl) (fun X Q F hQ => ?_)
  show G X E 4 q sh σ 0 0 Q 0 [(0, .ref (q 21)), (1, vI s), (2, vI p), (3, vI c)] []
  refine g_iload_n F 1 rfl rfl d_X2_hang_0 ?_
  refine g_Si F (own := RX2) (c_X2_isSlot l E q sh σ s ⟨by omega, by omega⟩) k_X2_165 [] d_X2_hang_1 ⟨rfl, rfl, by decide, by decide⟩ ⟨Nat.zero_le _, Nat.zero_le _⟩ rfl (Nat.le_of_ble_eq_true rfl) ?_
  rintro _ _ ⟨rfl, rfl⟩
  refine g_b_eq F d_X2_hang_4 (fun h4 => by exfalso; omega) (fun h4 => ?_)
  refine g_aload_n F 0 rfl rfl d_X2_hang_7 ?_
  refine g_getR F f_X2_11 d_X2_hang_8 (hsC_21 hs) rfl ?_
  refine g_iload_n F 1 rfl rfl d_X2_hang_11 ?_
  refine g_iconst F d_X2_hang_12 ?_
  refine g_iastore F d_X2_hang_13 (hsC_22 hs) (by omega) (by omega) (by decide) ?_
  refine g_aload_n F 0 rfl rfl d_X2_hang_14 ?_
  refine g_getR F f_X2_15 d_X2_hang_15 (hsC_21 hs) rfl ?_
  refine g_iload_n F 1 rfl rfl d_X2_hang_18 ?_
  refine g_iload_n F 2 rfl rfl d_X2_hang_19 ?_
  refine g_iastore F d_X2_hang_20 (hsC_23 hs) (by omega) (by omega) (by decide) ?_
  refine g_aload_n F 0 rfl rfl d_X2_hang_21 ?_
  refine g_getR F f_X2_18 d_X2_hang_22 (hsC_21 hs) rfl ?_
  refine g_iload_n F 1 rfl rfl d_X2_hang_25 ?_
  refine g_iload_n F 3 rfl rfl d_X2_hang_26 ?_
  refine g_iastore F d_X2_hang_27 (hsC_24 hs) (by omega) (by omega) (by decide) ?_
  exact hQ d_X2_hang_28 (rfl)
set_option maxHeartbeats 1000000 in
theorem c_X2_goTo (l : Launch) (E : Ev) (q : Nat → Nat) (sh : List Shp) (σ : Sg) (hs : HsC sh) (p c : Int) : CV l E yX2_goTo cX2_goTo 3 ({ frames := 0, cells := 0, slots := 0, locals := 0 } : Room) q sh σ [.ref (q 21), vI p, vI c] (isS (mGo σ p c)) := by
  refine CV_of (own := RX2) (by decide) rfl (Nat.le_of_ble_eq_true rfl) (fun X Q F hQ => ?_)
  show G X E 3 q sh σ 0 0 Q 0 [(0, .ref (q 21)), (1, vI p), (2, vI c)] []
  refine g_aload_n F 0 rfl rfl d_X2_goTo_0 ?_
  refine g_iconst F d_X2_goTo_1 ?_
  refine g_putI F 16 f_X2_73 d_X2_goTo_2 (hsC_21 hs) rfl rfl rfl rfl rfl ?_
  refine g_aload_n F 0 rfl rfl d_X2_goTo_5 ?_
  refine g_iload_n F 1 rfl rfl d_X2_goTo_6 ?_
  refine g_putI F 14 f_X2_108 d_X2_goTo_7 (hsC_21 hs) rfl rfl rfl rfl rfl ?_
  refine g_aload_n F 0 rfl rfl d_X2_goTo_10 ?_
  refine g_iload_n F 2 rfl rfl d_X2_goTo_11 ?_
  refine g_putI F 15 f_X2_121 d_X2_goTo_12 (hsC_21 hs) rfl rfl rfl rfl rfl ?_
  exact hQ d_X2_goTo_15 (rfl)
set_option maxHeartbeats 1000000 in
theorem c_X2_goToSlot (l : Launch) (E : Ev) (q : Nat → Nat) (sh : List Shp) (σ : Sg) (hs : HsC sh) (s : Int) (hs0 : 0 ≤ s ∧ s < 903) : CV l E yX2_goToSlot cX2_goToSlot 2 ({ frames := 1, cells := 0, slots := 0, locals := 22 } : Room) q sh σ [.ref (q 21), vI s] (isS (mSlot σ s)) := by
  refine CV_of (own := RX2) (by decide) rfl (Nat.le_of_ble_eq_true rfl) (fun X Q F hQ => ?_)
  show G X E 2 q sh σ 0 0 Q 0 [(0, .ref (q 21)), (1, vI s)] []
  refine g_iload_n F 1 rfl rfl d_X2_goToSlot_0 ?_
  refine g_Si F (own := RX2) (c_X2_isSlot l E q sh σ s ⟨by omega, by omega⟩) k_X2_165 [] d_X2_goToSlot_1 ⟨rfl, rfl, by decide, by decide⟩ ⟨Nat.zero_le _, Nat.zero_le _⟩ rfl (Nat.le_of_ble_eq_true rfl) ?_
  rintro _ _ ⟨rfl, rfl⟩
  refine g_b_eq F d_X2_goToSlot_4 (fun h4 => by exfalso; omega) (fun h4 => ?_)
  refine g_aload_n F 0 rfl rfl d_X2_goToSlot_7 ?_
  refine g_aload_n F 0 rfl rfl d_X2_goToSlot_8 ?_
  refine g_getR F f_X2_15 d_X2_goToSlot_9 (hsC_21 hs) rfl ?_
  refine g_iload_n F 1 rfl rfl d_X2_goToSlot_12 ?_
  refine g_iaload F d_X2_goToSlot_13 (hsC_23 hs) (by omega) (by omega) (by decide) ?_
  refine g_aload_n F 0 rfl rfl d_X2_goToSlot_14 ?_
  refine g_getR F f_X2_18 d_X2_goToSlot_15 (hsC_21 hs) rfl ?_
  refine g_iload_n F 1 rfl rfl d_X2_goToSlot_18 ?_
  refine g_iaload F d_X2_goToSlot_19 (hsC_24 hs) (by omega) (by omega) (by decide) ?_
  refine g_Vv F (own := RX2) (c_X2_goTo l E q sh σ hs (σ 23 s) (σ 24 s) ) k_X2_70 (hsC_21 hs) rfl rfl [] d_X2_goToSlot_20 ⟨rfl, rfl, by decide, by decide⟩ ⟨Nat.zero_le _, Nat.zero_le _⟩ rfl (Nat.le_of_ble_eq_true rfl) ?_
  rintro _ rfl
  exact hQ d_X2_goToSlot_23 (rfl)
set_option maxHeartbeats 1000000 in
theorem c_X2_give (l : Launch) (E : Ev) (q : Nat → Nat) (sh : List Shp) (σ : Sg) (hs : HsC sh) (v : Int) : CV l E yX2_give cX2_give 2 ({ frames := 0, cells := 0, slots := 0, locals := 0 } : Room) q sh σ [.ref (q 21), vI v] (isS (mGive σ v)) := by
  refine CV_of (own := RX2) (by decide) rfl (Nat.le_of_ble_eq_true rfl) (fun X Q F hQ => ?_)
  show G X E 2 q sh σ 0 0 Q 0 [(0, .ref (q 21)), (1, vI v)] []
  refine g_aload_n F 0 rfl rfl d_X2_give_0 ?_
  refine g_iconst F d_X2_give_1 ?_
  refine g_putI F 16 f_X2_73 d_X2_give_2 (hsC_21 hs) rfl rfl rfl rfl rfl ?_
  refine g_aload_n F 0 rfl rfl d_X2_give_5 ?_
  refine g_iload_n F 1 rfl rfl d_X2_give_6 ?_
  refine g_putI F 17 f_X2_147 d_X2_give_7 (hsC_21 hs) rfl rfl rfl rfl rfl ?_
  exact hQ d_X2_give_10 (rfl)
set_option maxHeartbeats 1000000 in
theorem c_X2_await (l : Launch) (E : Ev) (q : Nat → Nat) (sh : List Shp) (σ : Sg) (hs : HsC sh) (p c h : Int) (hw : 0 ≤ σ 21 9 ∧ σ 21 9 < 300) : CV l E yX2_await cX2_await 4 ({ frames := 0, cells := 0, slots := 0, locals := 0 } : Room) q sh σ [.ref (q 21), vI p, vI c, vI h] (isS (mWait σ p c h)) := by
  refine CV_of (own := RX2) (by decide) rfl (Nat.le_of_ble_eq_true rfl) (fun X Q F hQ => ?_)
  show G X E 4 q sh σ 0 0 Q 0 [(0, .ref (q 21)), (1, vI p), (2, vI c), (3, vI h)] []
  refine g_aload_n F 0 rfl rfl d_X2_await_0 ?_
  refine g_getI F 9 f_X2_51 d_X2_await_1 (hsC_21 hs) rfl rfl ?_
  refine g_if_lt F d_X2_await_4 ⟨by omega, by omega⟩ (fun h4 => by exfalso; omega) (fun h4 => ?_)
  refine g_aload_n F 0 rfl rfl d_X2_await_7 ?_
  refine g_getI F 9 f_X2_51 d_X2_await_8 (hsC_21 hs) rfl rfl ?_
  refine g_sipush F (by decide) d_X2_await_11 ?_
  refine g_icmp_lt F d_X2_await_14 ⟨by omega, by omega⟩ ⟨by decide, by decide⟩ (fun h14 => ?_) (fun h14 => by exfalso; omega)
  refine g_aload_n F 0 rfl rfl d_X2_await_24 ?_
  refine g_getR F f_X2_21 d_X2_await_25 (hsC_21 hs) rfl ?_
  refine g_aload_n F 0 rfl rfl d_X2_await_28 ?_
  refine g_getI F 9 f_X2_51 d_X2_await_29 (hsC_21 hs) rfl rfl ?_
  refine g_iload_n F 1 rfl rfl d_X2_await_32 ?_
  refine g_iastore F d_X2_await_33 (hsC_25 hs) (by omega) (by omega) (by decide) ?_
  refine g_aload_n F 0 rfl rfl d_X2_await_34 ?_
  refine g_getR F f_X2_24 d_X2_await_35 (hsC_21 hs) rfl ?_
  refine g_aload_n F 0 rfl rfl d_X2_await_38 ?_
  refine g_getI F 9 f_X2_51 d_X2_await_39 (hsC_21 hs) rfl rfl ?_
  refine G_top (b := σ 21 9) (by rw [up_ne _ (by decide)]) ?_
  refine g_iload_n F 2 rfl rfl d_X2_await_42 ?_
  refine g_iastore F d_X2_await_43 (hsC_26 hs) (by omega) (by omega) (by decide) ?_
  refine g_aload_n F 0 rfl rfl d_X2_await_44 ?_
  refine g_getR F f_X2_27 d_X2_await_45 (hsC_21 hs) rfl ?_
  refine g_aload_n F 0 rfl rfl d_X2_await_48 ?_
  refine g_getI F 9 f_X2_51 d_X2_await_49 (hsC_21 hs) rfl rfl ?_
  refine G_top (b := σ 21 9) (by rw [up_ne _ (by decide), up_ne _ (by decide)]) ?_
  refine g_iload_n F 3 rfl rfl d_X2_await_52 ?_
  refine g_iastore F d_X2_await_53 (hsC_27 hs) (by omega) (by omega) (by decide) ?_
  refine g_aload_n F 0 rfl rfl d_X2_await_54 ?_
  refine g_dup F rfl d_X2_await_55 ?_
  refine g_getI F 9 f_X2_51 d_X2_await_56 (hsC_21 hs) rfl rfl ?_
  refine G_top (b := σ 21 9) (by rw [up_ne _ (by decide), up_ne _ (by decide), up_ne _ (by decide)]) ?_
  refine g_iconst F d_X2_await_59 ?_
  refine g_iadd F d_X2_await_60 ?_
  refine g_putI F 9 f_X2_51 d_X2_await_61 (hsC_21 hs) rfl rfl rfl rfl rfl ?_
  exact hQ d_X2_await_64 (rfl)
set_option maxHeartbeats 1000000 in
theorem c_X2_acted (l : Launch) (E : Ev) (q : Nat → Nat) (sh : List Shp) (σ : Sg) (x a b : Int) (hx : x = 42 ∨ x = 43 ∨ x = 45 ∨ x = 109) (ha : 0 ≤ a ∧ a < 8) (hb : 0 ≤ b ∧ b < 8) : CI l E yX2_acted cX2_acted 3 .int ({ frames := 1, cells := 0, slots := 0, locals := 21 } : Room) q sh σ [vI x, vI a, vI b] (is (ac x a b) σ) := by
  refine CI_of (own := RX2) (by decide) rfl (Nat.le_of_ble_eq_true rfl) (fun X Q F hQ => ?_)
  show G X E 3 q sh σ 0 0 Q 0 [(0, vI x), (1, vI a), (2, vI b)] []
  refine g_iload_n F 0 rfl rfl d_X2_acted_0 ?_
  rcases hx with hx | hx | hx | hx
  · refine g_tabIn F d_X2_acted_1 ⟨by omega, by omega⟩ 0 (tgt := 46) (by omega) (by decide) rfl rfl ?_
    refine g_iload_n F 1 rfl rfl d_X2_acted_46 ?_
    refine g_iload_n F 2 rfl rfl d_X2_acted_47 ?_
    refine g_imul F d_X2_acted_48 ?_
    refine g_bipush F (by decide) d_X2_acted_49 ?_
    refine g_iand F d_X2_acted_51 ?_
    exact hQ d_X2_acted_52 (⟨by simp [ac, hx], rfl⟩)
  · refine g_tabIn F d_X2_acted_1 ⟨by omega, by omega⟩ 1 (tgt := 32) (by omega) (by decide) rfl rfl ?_
    refine g_iload_n F 1 rfl rfl d_X2_acted_32 ?_
    refine g_iload_n F 2 rfl rfl d_X2_acted_33 ?_
    refine g_iadd F d_X2_acted_34 ?_
    refine g_bipush F (by decide) d_X2_acted_35 ?_
    refine g_iand F d_X2_acted_37 ?_
    exact hQ d_X2_acted_38 (⟨by simp [ac, hx], rfl⟩)
  · refine g_tabIn F d_X2_acted_1 ⟨by omega, by omega⟩ 3 (tgt := 39) (by omega) (by decide) rfl rfl ?_
    refine g_iload_n F 1 rfl rfl d_X2_acted_39 ?_
    refine g_iload_n F 2 rfl rfl d_X2_acted_40 ?_
    refine g_isub F d_X2_acted_41 ?_
    refine g_bipush F (by decide) d_X2_acted_42 ?_
    refine g_iand F d_X2_acted_44 ?_
    exact hQ d_X2_acted_45 (⟨by simp [ac, hx], rfl⟩)
  · refine g_tabOut F d_X2_acted_1 ⟨by omega, by omega⟩ (tgt := 53) (by omega) rfl ?_
    refine g_iload_n F 1 rfl rfl d_X2_acted_53 ?_
    refine g_iload_n F 2 rfl rfl d_X2_acted_54 ?_
    refine g_mmin F (own := RX2) (mg 591 (by decide +kernel) rfl) (by decide) (Nat.le_of_ble_eq_true rfl) ⟨Nat.zero_le _, Nat.zero_le _⟩ d_X2_acted_55 ⟨by omega, by omega⟩ ⟨by omega, by omega⟩ ?_
    exact hQ d_X2_acted_58 (⟨by simp [ac, hx], rfl⟩)
set_option maxHeartbeats 1000000 in
theorem c_X2_isAhead (l : Launch) (E : Ev) (q : Nat → Nat) (sh : List Shp) (σ : Sg) (hs : HsC sh) (x y : Int) (hx : 0 ≤ x ∧ x < 4) (hy : 0 ≤ y ∧ y < 8) (hT : 0 ≤ σ 28 x ∧ σ 28 x < 256) : CI l E yX2_isAhead cX2_isAhead 3 .boolean ({ frames := 1, cells := 0, slots := 0, locals := 20 } : Room) q sh σ [.ref (q 21), vI x, vI y] (is (if bt (σ 28 x) y = true then 1 else 0) σ) := by
  refine CB_of (own := RX2) (by decide) rfl (Nat.le_of_ble_eq_true rfl) (fun X Q F hQ => ?_)
  show G X E 3 q sh σ 0 0 Q 0 [(0, .ref (q 21)), (1, vI x), (2, vI y)] []
  refine g_iload_n F 1 rfl rfl d_X2_isAhead_0 ?_
  refine g_Ni F (own := RX2) (c_X8_isFunction l E q sh σ x ⟨by omega, by omega⟩) k_X2_104 [] d_X2_isAhead_1 ⟨rfl, rfl, by decide, by decide⟩ ⟨Nat.zero_le _, Nat.zero_le _⟩ rfl (Nat.le_of_ble_eq_true rfl) ?_
  rintro _ _ ⟨rfl, rfl⟩
  refine g_b_eq F d_X2_isAhead_4 (fun h4 => by exfalso; omega) (fun h4 => ?_)
  refine g_aload_n F 0 rfl rfl d_X2_isAhead_7 ?_
  refine g_getR F f_X2_30 d_X2_isAhead_8 (hsC_21 hs) rfl ?_
  refine g_iload_n F 1 rfl rfl d_X2_isAhead_11 ?_
  refine g_iaload F d_X2_isAhead_12 (hsC_28 hs) (by omega) (by omega) (by decide) ?_
  refine g_iload_n F 2 rfl rfl d_X2_isAhead_13 ?_
  refine g_ishr F d_X2_isAhead_14 ?_
  refine g_iconst F d_X2_isAhead_15 ?_
  refine g_iand F d_X2_isAhead_16 ?_
  refine G_top (b := b2 (bt (σ 28 x) y)) (bit_eq hT hy) ?_
  refine g_iconst F d_X2_isAhead_17 ?_
  have hb := b2_in (bt (σ 28 x) y)
  refine g_icmp_ne F d_X2_isAhead_18 ⟨by omega, by omega⟩ ⟨by decide, by decide⟩ (fun h18 => ?_) (fun h18 => ?_)
  · refine g_iconst F d_X2_isAhead_25 ?_
    exact hQ d_X2_isAhead_26 (Or.inl rfl) (⟨by first | (rw [if_pos (b2_t.mp h18)]; done) | (rw [if_neg (fun h => h18 (b2_t.mpr h))]; done), rfl⟩)
  · refine g_iconst F d_X2_isAhead_21 ?_
    refine g_goto F d_X2_isAhead_22 ?_
    exact hQ d_X2_isAhead_26 (Or.inr rfl) (⟨by first | (rw [if_pos (b2_t.mp h18)]; done) | (rw [if_neg (fun h => h18 (b2_t.mpr h))]; done), rfl⟩)
set_option maxHeartbeats 1000000 in
theorem c_X2_goOnCalling (l : Launch) (E : Ev) (q : Nat → Nat) (sh : List Shp) (σ : Sg) (hs : HsC sh) (p c k : Int) (hp : 0 ≤ p ∧ p < 120) (hg : 0 ≤ σ 9 p ∧ σ 9 p < 4) (hc : 0 ≤ c ∧ c ≤ 300) (hk : 0 ≤ k ∧ k ≤ nA (σ 9 p)) (hw : 0 ≤ σ 21 9 ∧ σ 21 9 < 300) (hA : AH σ) : CV l E yX2_goOnCalling cX2_goOnCalling 6 ({ frames := 2, cells := 0, slots := 0, locals := 43 } : Room) q sh σ [.ref (q 21), vI p, vI c, vI k] (isS (mCalling σ p c k)) := by
  have hn := nA_in (σ 9 p)
  refine CV_of (own := RX2) (by decide) rfl (Nat.le_of_ble_eq_true rfl) (fun X Q F hQ => ?_)
  show G X E 6 q sh σ 0 0 Q 0 [(0, .ref (q 21)), (1, vI p), (2, vI c), (3, vI k)] []
  refine g_aload_n F 0 rfl rfl d_X2_goOnCalling_0 ?_
  refine g_getR F f_X2_33 d_X2_goOnCalling_1 (hsC_21 hs) rfl ?_
  refine g_iload_n F 1 rfl rfl d_X2_goOnCalling_4 ?_
  refine g_Vi F (own := RX2) (c_X0_worthAt l E q sh σ hs.B p (by omega)) k_X2_114 (hsC_5 hs) rfl rfl [] d_X2_goOnCalling_5 ⟨rfl, rfl, by decide, by decide⟩ ⟨Nat.zero_le _, Nat.zero_le _⟩ rfl (Nat.le_of_ble_eq_true rfl) ?_
  rintro _ _ ⟨rfl, rfl⟩
  refine g_istore F (lv' := [(4, vI (σ 9 p)), (0, .ref (q 21)), (1, vI p), (2, vI c), (3, vI k)]) (by decide) rfl d_X2_goOnCalling_8 ?_
  refine g_iload_n F 4 rfl rfl d_X2_goOnCalling_10 ?_
  refine g_istore F (lv' := [(5, vI k), (4, vI (σ 9 p)), (0, .ref (q 21)), (1, vI p), (2, vI c), (3, vI k)]) (by decide) rfl d_X2_goOnCalling_11 ?_
  have loop13 : ∀ (nn : Nat) (t : Int), (0 ≤ t ∧ t ≤ nA (σ 9 p)) → (nx (σ 28 (σ 9 p)) (nA (σ 9 p)) t = nx (σ 28 (σ 9 p)) (nA (σ 9 p)) k) → (nA (σ 9 p) - t).toNat < nn → G X E 6 q sh σ 0 0 Q 13 [(0, .ref (q 21)), (1, vI p), (2, vI c), (3, vI k), (4, vI (σ 9 p)), (5, vI t)] [] := by
    intro n13
    induction n13 with
    | zero => intro t ht hx hm13; exact absurd hm13 (Nat.not_lt_zero _)
    | succ n13 ih13 =>
      intro t ht hx hm13
      refine g_iload F 5 rfl d_X2_goOnCalling_13 ?_
      refine g_iload F 4 rfl d_X2_goOnCalling_15 ?_
      refine g_Ni F (own := RX2) (c_X8_argumentsOf l E q sh σ (σ 9 p) ⟨by omega, by omega⟩) k_X2_91 [vI t] d_X2_goOnCalling_17 ⟨rfl, rfl, by decide, by decide⟩ ⟨Nat.zero_le _, Nat.zero_le _⟩ rfl (Nat.le_of_ble_eq_true rfl) ?_
      rintro _ _ ⟨rfl, rfl⟩
      refine g_icmp_ge F d_X2_goOnCalling_20 ⟨by omega, by omega⟩ ⟨by omega, by omega⟩ (fun h20 => ?_) (fun h20 => ?_)
      · refine g_aload_n F 0 rfl rfl d_X2_goOnCalling_59 ?_
        refine g_aload_n F 0 rfl rfl d_X2_goOnCalling_60 ?_
        refine g_getR F f_X2_33 d_X2_goOnCalling_61 (hsC_21 hs) rfl ?_
        refine g_iload F 4 rfl d_X2_goOnCalling_64 ?_
        refine g_Vi F (own := RX2) (c_X0_root l E q sh σ hs.B (σ 9 p) (by omega)) k_X2_64 (hsC_5 hs) rfl rfl [.ref (q 21)] d_X2_goOnCalling_66 ⟨rfl, rfl, by decide, by decide⟩ ⟨Nat.zero_le _, Nat.zero_le _⟩ rfl (Nat.le_of_ble_eq_true rfl) ?_
        rintro _ _ ⟨rfl, rfl⟩
        refine g_iload_n F 2 rfl rfl d_X2_goOnCalling_69 ?_
        refine g_Vv F (own := RX2) (c_X2_goTo l E q sh σ hs ((σ 9 p) * 30) c ) k_X2_70 (hsC_21 hs) rfl rfl [] d_X2_goOnCalling_70 ⟨rfl, rfl, by decide, by decide⟩ ⟨Nat.zero_le _, Nat.zero_le _⟩ rfl (Nat.le_of_ble_eq_true rfl) ?_
        rintro _ rfl
        exact hQ d_X2_goOnCalling_73 (by unfold mCalling; rw [← hx, nx_end (by omega), if_neg (by omega)])
      · refine g_aload_n F 0 rfl rfl d_X2_goOnCalling_23 ?_
        refine g_iload F 4 rfl d_X2_goOnCalling_24 ?_
        refine g_iload F 5 rfl d_X2_goOnCalling_26 ?_
        refine g_Vi F (own := RX2) (c_X2_isAhead l E q sh σ hs (σ 9 p) t hg (by omega) (hA _)) k_X2_100 (hsC_21 hs) rfl rfl [] d_X2_goOnCalling_28 ⟨rfl, rfl, by decide, by decide⟩ ⟨Nat.zero_le _, Nat.zero_le _⟩ rfl (Nat.le_of_ble_eq_true rfl) ?_
        rintro _ _ ⟨rfl, rfl⟩
        refine g_b_eq F d_X2_goOnCalling_31 (fun h31 => ?_) (fun h31 => ?_)
        · refine g_iinc F (lv' := [(5, vI (t + 1)), (0, .ref (q 21)), (1, vI p), (2, vI c), (3, vI k), (4, vI (σ 9 p))]) 5 rfl rfl (by decide) rfl d_X2_goOnCalling_53 ?_
          refine g_goto F d_X2_goOnCalling_56 ?_
          refine G_sub (ks := [1, 2, 3, 4, 5, 0]) rfl ?_
          exact ih13 (t + 1) (by omega) (by rw [← hx]; exact (nx_no (by omega) h31).symm) (by omega)
        · refine g_aload_n F 0 rfl rfl d_X2_goOnCalling_34 ?_
          refine g_iload_n F 1 rfl rfl d_X2_goOnCalling_35 ?_
          refine g_iload_n F 2 rfl rfl d_X2_goOnCalling_36 ?_
          refine g_iload F 5 rfl d_X2_goOnCalling_37 ?_
          refine g_Vv F (own := RX2) (c_X2_await l E q sh σ hs p c t hw) k_X2_131 (hsC_21 hs) rfl rfl [] d_X2_goOnCalling_39 ⟨rfl, rfl, by decide, by decide⟩ ⟨Nat.zero_le _, Nat.zero_le _⟩ rfl (Nat.le_of_ble_eq_true rfl) ?_
          rintro _ rfl
          refine g_aload_n F 0 rfl rfl d_X2_goOnCalling_42 ?_
          refine g_iload_n F 2 rfl rfl d_X2_goOnCalling_43 ?_
          refine g_iload F 5 rfl d_X2_goOnCalling_44 ?_
          refine g_Si F (own := RX2) (c_X2_slotOf l E q sh (mWait σ p c t) c t ) k_X2_124 [.ref (q 21)] d_X2_goOnCalling_46 ⟨rfl, rfl, by decide, by decide⟩ ⟨Nat.zero_le _, Nat.zero_le _⟩ rfl (Nat.le_of_ble_eq_true rfl) ?_
          rintro _ _ ⟨rfl, rfl⟩
          refine g_Vv F (own := RX2) (c_X2_goToSlot l E q sh (mWait σ p c t) hs (c * 3 + t) (by omega)) k_X2_138 (hsC_21 hs) rfl rfl [] d_X2_goOnCalling_49 ⟨rfl, rfl, by decide, by decide⟩ ⟨Nat.zero_le _, Nat.zero_le _⟩ rfl (Nat.le_of_ble_eq_true rfl) ?_
          rintro _ rfl
          exact hQ d_X2_goOnCalling_52 (by unfold mCalling; rw [← hx, nx_yes (by omega) h31, if_pos (by omega)])
  refine G_sub (ks := [2, 3, 4, 5, 1, 0]) rfl ?_
  exact loop13 _ k (by omega) rfl (Nat.lt_succ_self _)
set_option maxHeartbeats 1000000 in
theorem c_X2_goOnActing (l : Launch) (E : Ev) (q : Nat → Nat) (sh : List Shp) (σ : Sg) (hs : HsC sh) (p c h : Int) (hp : 0 ≤ p ∧ p < 119) (hh : h = -1 ∨ (0 ≤ h ∧ h < 8)) (hv : 0 ≤ σ 21 17 ∧ σ 21 17 < 8) (hw : 0 ≤ σ 21 9 ∧ σ 21 9 < 300) (hx : σ 9 p = 42 ∨ σ 9 p = 43 ∨ σ 9 p = 45 ∨ σ 9 p = 109) : CV l E yX2_goOnActing cX2_goOnActing 4 ({ frames := 2, cells := 0, slots := 0, locals := 43 } : Room) q sh σ [.ref (q 21), vI p, vI c, vI h] (isS (mActing σ p c h)) := by
  refine CV_of (own := RX2) (by decide) rfl (Nat.le_of_ble_eq_true rfl) (fun X Q F hQ => ?_)
  show G X E 4 q sh σ 0 0 Q 0 [(0, .ref (q 21)), (1, vI p), (2, vI c), (3, vI h)] []
  refine g_iload_n F 3 rfl rfl d_X2_goOnActing_0 ?_
  refine g_iconst F d_X2_goOnActing_1 ?_
  refine g_icmp_ne F d_X2_goOnActing_2 ⟨by omega, by omega⟩ ⟨by decide, by decide⟩ (fun h2 => ?_) (fun h2 => ?_)
  · refine g_aload_n F 0 rfl rfl d_X2_goOnActing_32 ?_
    refine g_aload_n F 0 rfl rfl d_X2_goOnActing_33 ?_
    refine g_getR F f_X2_33 d_X2_goOnActing_34 (hsC_21 hs) rfl ?_
    refine g_iload_n F 1 rfl rfl d_X2_goOnActing_37 ?_
    refine g_Vi F (own := RX2) (c_X0_worthAt l E q sh σ hs.B p (by omega)) k_X2_114 (hsC_5 hs) rfl rfl [.ref (q 21)] d_X2_goOnActing_38 ⟨rfl, rfl, by decide, by decide⟩ ⟨Nat.zero_le _, Nat.zero_le _⟩ rfl (Nat.le_of_ble_eq_true rfl) ?_
    rintro _ _ ⟨rfl, rfl⟩
    refine g_iload_n F 3 rfl rfl d_X2_goOnActing_41 ?_
    refine g_aload_n F 0 rfl rfl d_X2_goOnActing_42 ?_
    refine g_getI F 17 f_X2_147 d_X2_goOnActing_43 (hsC_21 hs) rfl rfl ?_
    refine g_Si F (own := RX2) (c_X2_acted l E q sh σ (σ 9 p) h (σ 21 17) hx (by omega) hv) k_X2_156 [.ref (q 21)] d_X2_goOnActing_46 ⟨rfl, rfl, by decide, by decide⟩ ⟨Nat.zero_le _, Nat.zero_le _⟩ rfl (Nat.le_of_ble_eq_true rfl) ?_
    rintro _ _ ⟨rfl, rfl⟩
    refine g_Vv F (own := RX2) (c_X2_give l E q sh σ hs (ac (σ 9 p) h (σ 21 17)) ) k_X2_117 (hsC_21 hs) rfl rfl [] d_X2_goOnActing_49 ⟨rfl, rfl, by decide, by decide⟩ ⟨Nat.zero_le _, Nat.zero_le _⟩ rfl (Nat.le_of_ble_eq_true rfl) ?_
    rintro _ rfl
    exact hQ d_X2_goOnActing_52 (by unfold mActing; first | (rw [if_pos (by omega)]; done) | (rw [if_neg (by omega)]; done))
  · refine g_aload_n F 0 rfl rfl d_X2_goOnActing_5 ?_
    refine g_iload_n F 1 rfl rfl d_X2_goOnActing_6 ?_
    refine g_iload_n F 2 rfl rfl d_X2_goOnActing_7 ?_
    refine g_aload_n F 0 rfl rfl d_X2_goOnActing_8 ?_
    refine g_getI F 17 f_X2_147 d_X2_goOnActing_9 (hsC_21 hs) rfl rfl ?_
    refine g_Vv F (own := RX2) (c_X2_await l E q sh σ hs p c (σ 21 17) hw) k_X2_131 (hsC_21 hs) rfl rfl [] d_X2_goOnActing_12 ⟨rfl, rfl, by decide, by decide⟩ ⟨Nat.zero_le _, Nat.zero_le _⟩ rfl (Nat.le_of_ble_eq_true rfl) ?_
    rintro _ rfl
    refine g_aload_n F 0 rfl rfl d_X2_goOnActing_15 ?_
    refine g_aload_n F 0 rfl rfl d_X2_goOnActing_16 ?_
    refine g_getR F f_X2_33 d_X2_goOnActing_17 (hsC_21 hs) rfl ?_
    refine g_iload_n F 1 rfl rfl d_X2_goOnActing_20 ?_
    refine g_iconst F d_X2_goOnActing_21 ?_
    refine g_Vi F (own := RX2) (c_X0_textPlace l E q sh (mWait σ p c (σ 21 17)) hs.B p 1 (by omega) (by decide) (fun j h0 h1 => by rw [show j = 0 by omega, tp_0]; omega)) k_X2_141 (hsC_5 hs) rfl rfl [.ref (q 21)] d_X2_goOnActing_22 ⟨rfl, rfl, by decide, by decide⟩ ⟨Nat.zero_le _, Nat.zero_le _⟩ rfl (Nat.le_of_ble_eq_true rfl) ?_
    rintro _ _ ⟨rfl, rfl⟩
    refine G_top (b := tp (σ 10) p 1) (by rw [mWait_10]) ?_
    refine g_iload_n F 2 rfl rfl d_X2_goOnActing_25 ?_
    refine g_Vv F (own := RX2) (c_X2_goTo l E q sh (mWait σ p c (σ 21 17)) hs (tp (σ 10) p 1) c ) k_X2_70 (hsC_21 hs) rfl rfl [] d_X2_goOnActing_26 ⟨rfl, rfl, by decide, by decide⟩ ⟨Nat.zero_le _, Nat.zero_le _⟩ rfl (Nat.le_of_ble_eq_true rfl) ?_
    rintro _ rfl
    refine g_goto F d_X2_goOnActing_29 ?_
    exact hQ d_X2_goOnActing_52 (by unfold mActing; first | (rw [if_pos (by omega)]; done) | (rw [if_neg (by omega)]; done))
set_option maxHeartbeats 1000000 in
theorem c_X2_beginArgument (l : Launch) (E : Ev) (q : Nat → Nat) (sh : List Shp) (σ : Sg) (hs : HsC sh) (s : Int) (hs0 : 0 ≤ s ∧ s < 903) (hh : -1 ≤ σ 22 s ∧ σ 22 s ≤ 8) (hw : 0 ≤ σ 21 9 ∧ σ 21 9 < 300) (hy : 0 ≤ σ 21 10 ∧ σ 21 10 < 4) : CV l E yX2_beginArgument cX2_beginArgument 3 ({ frames := 2, cells := 0, slots := 0, locals := 43 } : Room) q sh σ [.ref (q 21), vI s] (isS (mArg σ s)) := by
  refine CV_of (own := RX2) (by decide) rfl (Nat.le_of_ble_eq_true rfl) (fun X Q F hQ => ?_)
  show G X E 3 q sh σ 0 0 Q 0 [(0, .ref (q 21)), (1, vI s)] []
  refine g_aload_n F 0 rfl rfl d_X2_beginArgument_0 ?_
  refine g_iload_n F 1 rfl rfl d_X2_beginArgument_1 ?_
  refine g_Vi F (own := RX2) (c_X2_heldIn l E q sh σ hs s (by omega)) k_X2_97 (hsC_21 hs) rfl rfl [] d_X2_beginArgument_2 ⟨rfl, rfl, by decide, by decide⟩ ⟨Nat.zero_le _, Nat.zero_le _⟩ rfl (Nat.le_of_ble_eq_true rfl) ?_
  rintro _ _ ⟨rfl, rfl⟩
  refine g_istore_n F (lv' := [(2, vI (σ 22 s)), (0, .ref (q 21)), (1, vI s)]) rfl (by decide) rfl d_X2_beginArgument_5 ?_
  refine g_iload_n F 0 rfl rfl d_X2_beginArgument_6 ?_
  refine g_bipush F (by decide) d_X2_beginArgument_7 ?_
  refine g_icmp_ne F d_X2_beginArgument_9 ⟨by omega, by omega⟩ ⟨by decide, by decide⟩ (fun h9 => ?_) (fun h9 => ?_)
  · refine g_iload_n F 0 rfl rfl d_X2_beginArgument_21 ?_
    refine g_iconst F d_X2_beginArgument_22 ?_
    refine g_icmp_eq F d_X2_beginArgument_23 ⟨by omega, by omega⟩ ⟨by decide, by decide⟩ (fun h23 => ?_) (fun h23 => ?_)
    · refine g_aload_n F 1 rfl rfl d_X2_beginArgument_34 ?_
      refine g_getI F 10 f_X2_48 d_X2_beginArgument_35 (hsC_21 hs) rfl rfl ?_
      refine g_if_eq F d_X2_beginArgument_38 ⟨by omega, by omega⟩ (fun h38 => ?_) (fun h38 => ?_)
      · refine g_aload_n F 1 rfl rfl d_X2_beginArgument_54 ?_
        refine g_iload_n F 2 rfl rfl d_X2_beginArgument_55 ?_
        refine g_Vv F (own := RX2) (c_X2_goToSlot l E q sh σ hs s (by omega)) k_X2_138 (hsC_21 hs) rfl rfl [] d_X2_beginArgument_56 ⟨rfl, rfl, by decide, by decide⟩ ⟨Nat.zero_le _, Nat.zero_le _⟩ rfl (Nat.le_of_ble_eq_true rfl) ?_
        rintro _ rfl
        exact hQ d_X2_beginArgument_59 (by unfold mArg; first | (rw [if_pos (by omega)]; done) | (rw [if_neg (by omega), if_neg (by omega)]; done) | (rw [if_neg (by omega), if_pos (by omega), if_pos (by omega)]; done) | (rw [if_neg (by omega), if_pos (by omega), if_neg (by omega)]; done))
      · refine g_aload_n F 1 rfl rfl d_X2_beginArgument_41 ?_
        refine g_aload_n F 1 rfl rfl d_X2_beginArgument_42 ?_
        refine g_getI F 14 f_X2_108 d_X2_beginArgument_43 (hsC_21 hs) rfl rfl ?_
        refine g_aload_n F 1 rfl rfl d_X2_beginArgument_46 ?_
        refine g_getI F 15 f_X2_121 d_X2_beginArgument_47 (hsC_21 hs) rfl rfl ?_
        refine g_iconst F d_X2_beginArgument_50 ?_
        refine g_Vv F (own := RX2) (c_X2_await l E q sh σ hs (σ 21 14) (σ 21 15) (-1) hw) k_X2_131 (hsC_21 hs) rfl rfl [] d_X2_beginArgument_51 ⟨rfl, rfl, by decide, by decide⟩ ⟨Nat.zero_le _, Nat.zero_le _⟩ rfl (Nat.le_of_ble_eq_true rfl) ?_
        rintro _ rfl
        refine g_aload_n F 1 rfl rfl d_X2_beginArgument_54 ?_
        refine g_iload_n F 2 rfl rfl d_X2_beginArgument_55 ?_
        refine g_Vv F (own := RX2) (c_X2_goToSlot l E q sh (mWait σ (σ 21 14) (σ 21 15) (-1)) hs s (by omega)) k_X2_138 (hsC_21 hs) rfl rfl [] d_X2_beginArgument_56 ⟨rfl, rfl, by decide, by decide⟩ ⟨Nat.zero_le _, Nat.zero_le _⟩ rfl (Nat.le_of_ble_eq_true rfl) ?_
        rintro _ rfl
        exact hQ d_X2_beginArgument_59 (by unfold mArg; first | (rw [if_pos (by omega)]; done) | (rw [if_neg (by omega), if_neg (by omega)]; done) | (rw [if_neg (by omega), if_pos (by omega), if_pos (by omega)]; done) | (rw [if_neg (by omega), if_pos (by omega), if_neg (by omega)]; done))
    · refine g_aload_n F 1 rfl rfl d_X2_beginArgument_26 ?_
      refine g_iload_n F 0 rfl rfl d_X2_beginArgument_27 ?_
      refine g_Vv F (own := RX2) (c_X2_give l E q sh σ hs (σ 22 s) ) k_X2_117 (hsC_21 hs) rfl rfl [] d_X2_beginArgument_28 ⟨rfl, rfl, by decide, by decide⟩ ⟨Nat.zero_le _, Nat.zero_le _⟩ rfl (Nat.le_of_ble_eq_true rfl) ?_
      rintro _ rfl
      refine g_goto F d_X2_beginArgument_31 ?_
      exact hQ d_X2_beginArgument_59 (by unfold mArg; first | (rw [if_pos (by omega)]; done) | (rw [if_neg (by omega), if_neg (by omega)]; done) | (rw [if_neg (by omega), if_pos (by omega), if_pos (by omega)]; done) | (rw [if_neg (by omega), if_pos (by omega), if_neg (by omega)]; done))
  · refine g_aload_n F 1 rfl rfl d_X2_beginArgument_12 ?_
    refine g_bipush F (by decide) d_X2_beginArgument_13 ?_
    refine g_putI F 12 f_X2_41 d_X2_beginArgument_15 (hsC_21 hs) rfl rfl rfl rfl rfl ?_
    refine g_goto F d_X2_beginArgument_18 ?_
    exact hQ d_X2_beginArgument_59 (by unfold mArg; first | (rw [if_pos (by omega)]; done) | (rw [if_neg (by omega), if_neg (by omega)]; done) | (rw [if_neg (by omega), if_pos (by omega), if_pos (by omega)]; done) | (rw [if_neg (by omega), if_pos (by omega), if_neg (by omega)]; done))
set_option maxHeartbeats 1000000 in
theorem c_X2_beginCall (l : Launch) (E : Ev) (q : Nat → Nat) (sh : List Shp) (σ : Sg) (hs : HsC sh) (g : Int) (hg : 0 ≤ g ∧ g < 4) (hsc : 1 ≤ σ 21 5 ∧ σ 21 5 < 301) (hp : 0 ≤ σ 21 14 ∧ σ 21 14 < 120) (hh : ∀ j : Int, 0 ≤ j → j < nA g → 0 ≤ tp (σ 10) (σ 21 14) j ∧ tp (σ 10) (σ 21 14) j < 120) (hw : 0 ≤ σ 21 9 ∧ σ 21 9 < 300) : CV l E yX2_beginCall cX2_beginCall 4 ({ frames := 2, cells := 0, slots := 0, locals := 43 } : Room) q sh σ [.ref (q 21), vI g] (isS (mCall σ g)) := by
  have hn := nA_in g
  obtain ⟨σ1, e1⟩ : ∃ s, s = up σ 21 5 (σ 21 5 + 1) := ⟨_, rfl⟩
  have f10 : σ1 10 = σ 10 := by rw [e1]; exact up_ne _ (by decide) _ _
  have f9 : σ1 9 = σ 9 := by rw [e1]; exact up_ne _ (by decide) _ _
  have f28 : σ1 28 = σ 28 := by rw [e1]; exact up_ne _ (by decide) _ _
  have f21 : ∀ j, j ≠ 5 → σ1 21 j = σ 21 j := fun j hj => by rw [e1]; exact up_other _ _ hj _
  refine CV_of (own := RX2) (by decide) rfl (Nat.le_of_ble_eq_true rfl) (fun X Q F hQ => ?_)
  show G X E 4 q sh σ 0 0 Q 0 [(0, .ref (q 21)), (1, vI g)] []
  refine g_aload_n F 0 rfl rfl d_X2_beginCall_0 ?_
  refine g_getI F 5 f_X2_54 d_X2_beginCall_1 (hsC_21 hs) rfl rfl ?_
  refine g_sipush F (by decide) d_X2_beginCall_4 ?_
  refine g_icmp_lt F d_X2_beginCall_7 ⟨by omega, by omega⟩ ⟨by decide, by decide⟩ (fun h7 => ?_) (fun h7 => by exfalso; omega)
  refine g_aload_n F 0 rfl rfl d_X2_beginCall_17 ?_
  refine g_getI F 5 f_X2_54 d_X2_beginCall_18 (hsC_21 hs) rfl rfl ?_
  refine g_istore_n F (lv' := [(2, vI (σ 21 5)), (0, .ref (q 21)), (1, vI g)]) rfl (by decide) rfl d_X2_beginCall_21 ?_
  refine g_aload_n F 1 rfl rfl d_X2_beginCall_22 ?_
  refine g_dup F rfl d_X2_beginCall_23 ?_
  refine g_getI F 5 f_X2_54 d_X2_beginCall_24 (hsC_21 hs) rfl rfl ?_
  refine g_iconst F d_X2_beginCall_27 ?_
  refine g_iadd F d_X2_beginCall_28 ?_
  refine g_putI F 5 f_X2_54 d_X2_beginCall_29 (hsC_21 hs) rfl rfl rfl rfl rfl ?_
  refine g_iconst F d_X2_beginCall_32 ?_
  refine g_istore_n F (lv' := [(3, vI 0), (2, vI (σ 21 5)), (0, .ref (q 21)), (1, vI g)]) rfl (by decide) rfl d_X2_beginCall_33 ?_
  have loop34 : ∀ (nn : Nat) (t : Int) (τ : Sg), (0 ≤ t ∧ t ≤ nA g) → (τ = hangs σ1 (σ 21 5) (σ 21 14) (σ 21 15) t.toNat) → (nA g - t).toNat < nn → G X E 4 q sh τ 0 0 Q 34 [(0, .ref (q 21)), (1, vI g), (2, vI (σ 21 5)), (3, vI t)] [] := by
    intro n34
    induction n34 with
    | zero => intro t τ ht hτ hm34; exact absurd hm34 (Nat.not_lt_zero _)
    | succ n34 ih34 =>
      intro t τ ht hτ hm34
      have hm : Sm [22, 23, 24] σ1 τ := by rw [hτ]; exact hangs_Sm _ _ _ _ _
      have g10 : τ 10 = σ 10 := (hm 10 (by decide)).trans f10
      have g9 : τ 9 = σ 9 := (hm 9 (by decide)).trans f9
      have g28 : τ 28 = σ 28 := (hm 28 (by decide)).trans f28
      have g14 : τ 21 14 = σ 21 14 := by rw [hm 21 (by decide)]; exact f21 14 (by decide)
      have g15 : τ 21 15 = σ 21 15 := by rw [hm 21 (by decide)]; exact f21 15 (by decide)
      have gw : τ 21 9 = σ 21 9 := by rw [hm 21 (by decide)]; exact f21 9 (by decide)
      refine g_iload_n F 3 rfl rfl d_X2_beginCall_34 ?_
      refine g_iload_n F 1 rfl rfl d_X2_beginCall_35 ?_
      refine g_Ni F (own := RX2) (c_X8_argumentsOf l E q sh τ g ⟨by omega, by omega⟩) k_X2_91 [vI t] d_X2_beginCall_36 ⟨rfl, rfl, by decide, by decide⟩ ⟨Nat.zero_le _, Nat.zero_le _⟩ rfl (Nat.le_of_ble_eq_true rfl) ?_
      rintro _ _ ⟨rfl, rfl⟩
      refine g_icmp_ge F d_X2_beginCall_39 ⟨by omega, by omega⟩ ⟨by omega, by omega⟩ (fun h39 => ?_) (fun h39 => ?_)
      · refine g_aload_n F 0 rfl rfl d_X2_beginCall_73 ?_
        refine g_aload_n F 0 rfl rfl d_X2_beginCall_74 ?_
        refine g_getI F 14 f_X2_108 d_X2_beginCall_75 (hsC_21 hs) rfl rfl ?_
        refine G_top (b := σ 21 14) (g14) ?_
        refine g_iload_n F 2 rfl rfl d_X2_beginCall_78 ?_
        refine g_iconst F d_X2_beginCall_79 ?_
        refine g_Vv F (own := RX2) (c_X2_await l E q sh τ hs (σ 21 14) (σ 21 5) (-1) (by omega)) k_X2_131 (hsC_21 hs) rfl rfl [] d_X2_beginCall_80 ⟨rfl, rfl, by decide, by decide⟩ ⟨Nat.zero_le _, Nat.zero_le _⟩ rfl (Nat.le_of_ble_eq_true rfl) ?_
        rintro _ rfl
        refine g_aload_n F 0 rfl rfl d_X2_beginCall_83 ?_
        refine g_bipush F (by decide) d_X2_beginCall_84 ?_
        refine g_Vv F (own := RX2) (c_X2_give l E q sh (mWait τ (σ 21 14) (σ 21 5) (-1)) hs 8 ) k_X2_117 (hsC_21 hs) rfl rfl [] d_X2_beginCall_86 ⟨rfl, rfl, by decide, by decide⟩ ⟨Nat.zero_le _, Nat.zero_le _⟩ rfl (Nat.le_of_ble_eq_true rfl) ?_
        rintro _ rfl
        exact hQ d_X2_beginCall_89 (by unfold mCall; rw [← e1, hτ, show t = nA g by omega])
      · refine g_aload_n F 0 rfl rfl d_X2_beginCall_42 ?_
        refine g_iload_n F 2 rfl rfl d_X2_beginCall_43 ?_
        refine g_iload_n F 3 rfl rfl d_X2_beginCall_44 ?_
        refine g_Si F (own := RX2) (c_X2_slotOf l E q sh τ (σ 21 5) t ) k_X2_124 [.ref (q 21)] d_X2_beginCall_45 ⟨rfl, rfl, by decide, by decide⟩ ⟨Nat.zero_le _, Nat.zero_le _⟩ rfl (Nat.le_of_ble_eq_true rfl) ?_
        rintro _ _ ⟨rfl, rfl⟩
        refine g_aload_n F 0 rfl rfl d_X2_beginCall_48 ?_
        refine g_getR F f_X2_33 d_X2_beginCall_49 (hsC_21 hs) rfl ?_
        refine g_aload_n F 0 rfl rfl d_X2_beginCall_52 ?_
        refine g_getI F 14 f_X2_108 d_X2_beginCall_53 (hsC_21 hs) rfl rfl ?_
        refine G_top (b := σ 21 14) (g14) ?_
        refine g_iload_n F 3 rfl rfl d_X2_beginCall_56 ?_
        refine g_Vi F (own := RX2) (c_X0_textPlace l E q sh τ hs.B (σ 21 14) t hp (by omega) (fun j h0 h1 => by rw [g10]; exact hh j h0 (by omega))) k_X2_141 (hsC_5 hs) rfl rfl [vI ((σ 21 5) * 3 + t), .ref (q 21)] d_X2_beginCall_57 ⟨rfl, rfl, by decide, by decide⟩ ⟨Nat.zero_le _, Nat.zero_le _⟩ rfl (Nat.le_of_ble_eq_true rfl) ?_
        rintro _ _ ⟨rfl, rfl⟩
        refine G_top (b := tp (σ 10) (σ 21 14) t) (by rw [g10]) ?_
        refine g_aload_n F 0 rfl rfl d_X2_beginCall_60 ?_
        refine g_getI F 15 f_X2_121 d_X2_beginCall_61 (hsC_21 hs) rfl rfl ?_
        refine G_top (b := σ 21 15) (g15) ?_
        refine g_Vv F (own := RX2) (c_X2_hang l E q sh τ hs ((σ 21 5) * 3 + t) (tp (σ 10) (σ 21 14) t) (σ 21 15) (by omega)) k_X2_144 (hsC_21 hs) rfl rfl [] d_X2_beginCall_64 ⟨rfl, rfl, by decide, by decide⟩ ⟨Nat.zero_le _, Nat.zero_le _⟩ rfl (Nat.le_of_ble_eq_true rfl) ?_
        rintro _ rfl
        refine g_iinc F (lv' := [(3, vI (t + 1)), (0, .ref (q 21)), (1, vI g), (2, vI (σ 21 5))]) 3 rfl rfl (by decide) rfl d_X2_beginCall_67 ?_
        refine g_goto F d_X2_beginCall_70 ?_
        refine G_sub (ks := [1, 2, 3, 0]) rfl ?_
        exact ih34 (t + 1) (mHang τ ((σ 21 5) * 3 + t) (tp (σ 10) (σ 21 14) t) (σ 21 15)) (by omega) (by rw [show (t + 1).toNat = t.toNat + 1 by omega, hangs, ← hτ, f10, show ((t.toNat : Nat) : Int) = t by omega]) (by omega)
  refine G_sub (ks := [2, 3, 1, 0]) rfl ?_
  exact loop34 _ 0 (up σ 21 5 ((σ 21 5) + 1)) (by omega) e1.symm (Nat.lt_succ_self _)
