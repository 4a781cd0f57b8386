/-! the TABLES -/
def BOK (σ : Sg) : Prop := ∀ f, 0 ≤ f → f < 4 → Wf (σ 7) (σ 10) (σ 11) (f * 30) (σ 6 f) ∧ ∀ p, f * 30 ≤ p → p < f * 30 + σ 6 f → σ 8 p = kd (σ 7 p) ∧ σ 9 p = wo (σ 7 p) ∧ (kd (σ 7 p) = 3 → wo (σ 7 p) < nA f)
def RW (σ : Sg) : Prop := ∀ p, 0 ≤ σ 13 p ∧ σ 13 p < 256
def TR (σ : Sg) : Prop := ∀ f, 0 ≤ σ 14 f ∧ σ 14 f < 256
/-- the tables as they stand -/
def tbl (σ : Sg) : TB := fun g r => bt (σ 14 g) r
theorem mvl_congr {S Z : Int → Int} {T : TB} {V V' : Int → Bool} {s p : Int} (hc : ∀ j, 0 ≤ j → j < tx (S p) → V (tp Z p j) = V' (tp Z p j)) : mvl S Z T V s p = mvl S Z T V' s p := by
  unfold mvl
  by_cases k1 : kd (S p) = 1
  · rw [if_pos k1, if_pos k1]
  rw [if_neg k1, if_neg k1]
  by_cases k3 : kd (S p) = 3
  · rw [if_pos k3, if_pos k3]
  rw [if_neg k3, if_neg k3]
  by_cases k4 : kd (S p) = 4
  · have h5 := tx_4 k4
    rw [if_pos k4, if_pos k4, hc 0 (by omega) (by omega), hc 1 (by omega) (by omega)]
  rw [if_neg k4, if_neg k4]
  by_cases k5 : kd (S p) = 5
  · have h5 := tx_5 k5
    rw [if_pos k5, if_pos k5, hc 0 (by omega) (by omega), hc 1 (by omega) (by omega), hc 2 (by omega) (by omega)]
  rw [if_neg k5, if_neg k5]
  by_cases k6 : kd (S p) = 6
  · rw [if_pos k6, if_pos k6]
    have h5 := tx_6 k6
    have h7 := nA_in (wo (S p))
    have h8 : nA (wo (S p)) = 0 ∨ nA (wo (S p)) = 1 ∨ nA (wo (S p)) = 2 ∨ nA (wo (S p)) = 3 := by omega
    rcases h8 with h8 | h8 | h8 | h8
    · rw [h8]; simp [c3]
    · rw [hc 0 (by omega) (by omega), h8]; simp [c3]
    · rw [hc 0 (by omega) (by omega), hc 1 (by omega) (by omega), h8]; simp [c3]
    · rw [hc 0 (by omega) (by omega), hc 1 (by omega) (by omega), hc 2 (by omega) (by omega)]
  · rw [if_neg k6, if_neg k6]
theorem c3_skip {n : Int} (hn : 0 ≤ n ∧ n < 3) {v0 v1 v2 : Bool} (h : (if n = 0 then v0 else if n = 1 then v1 else v2) = false) : c3 n v0 v1 v2 = c3 (n + 1) v0 v1 v2 := by
  have h1 : n = 0 ∨ n = 1 ∨ n = 2 := by omega
  rcases h1 with rfl | rfl | rfl <;> cases v0 <;> cases v1 <;> cases v2 <;> first | rfl | (simp at h)
theorem c3_with {n : Int} (hn : 0 ≤ n ∧ n < 3) {v0 v1 v2 : Bool} (h : (if n = 0 then v0 else if n = 1 then v1 else v2) = true) : bOr (c3 n v0 v1 v2) (bShl 1 n) = c3 (n + 1) v0 v1 v2 := by
  have h1 : n = 0 ∨ n = 1 ∨ n = 2 := by omega
  rcases h1 with rfl | rfl | rfl <;> cases v0 <;> cases v1 <;> cases v2 <;> first | decide | (simp at h)
/-- the ARGUMENTS without which nothing may come -/
def need3 (h : Int → Bool) (f : Int) : Int := c3 (nA f) (!h (cutA f 1)) (!h (cutA f 2)) (!h (cutA f 4))
theorem sel3 {a : Int} (ha : 0 ≤ a ∧ a < 3) (h : Int → Bool) (f : Int) : (if a = 0 then !h (cutA f 1) else if a = 1 then !h (cutA f 2) else !h (cutA f 4)) = !h (cutA f (bShl 1 a)) := by
  have h1 : a = 0 ∨ a = 1 ∨ a = 2 := by omega
  rcases h1 with rfl | rfl | rfl <;> rfl
def isJ (T : TB) (f s : Int) : Prop := T f (cutA f s) = false ∧ ∀ r, 0 ≤ r → r < s → bAnd r (bXor s (-1)) = 0 → T f (cutA f r) = true
theorem shl3 {a : Int} (ha : 0 ≤ a ∧ a < 3) : 0 ≤ bShl 1 a ∧ bShl 1 a < 8 := by
  have h1 : a = 0 ∨ a = 1 ∨ a = 2 := by omega
  rcases h1 with rfl | rfl | rfl <;> decide
set_option maxHeartbeats 1000000 in
theorem c_X7_rowAt (l : Launch) (E : Ev) (q : Nat → Nat) (sh : List Shp) (σ : Sg) (hs : HsC sh) (p : Int) (hp : 0 ≤ p ∧ p < 120) : CI l E yX7_rowAt cX7_rowAt 2 .int ({ frames := 1, cells := 0, slots := 0, locals := 20 } : Room) q sh σ [.ref (q 12), vI p] (is (σ 13 p) σ) := by
  refine CI_of (own := RX7) (by decide) rfl (Nat.le_of_ble_eq_true rfl) (fun X Q F hQ => ?_)
  show G X E 2 q sh σ 0 0 Q 0 [(0, .ref (q 12)), (1, vI p)] []
  refine g_iload_n F 1 rfl rfl d_X7_rowAt_0 ?_
  refine g_Ni F (own := RX7) (c_X8_isPlace l E q sh σ p ⟨by omega, by omega⟩) k_X7_86 [] d_X7_rowAt_1 ⟨rfl, rfl, by decide, by decide⟩ ⟨Nat.zero_le _, Nat.zero_le _⟩ rfl (Nat.le_of_ble_eq_true rfl) ?_
  rintro _ _ ⟨rfl, rfl⟩
  refine g_b_eq F d_X7_rowAt_4 (fun h4 => by exfalso; omega) (fun h4 => ?_)
  refine g_aload_n F 0 rfl rfl d_X7_rowAt_7 ?_
  refine g_getR F f_X7_11 d_X7_rowAt_8 (hsC_12 hs) rfl ?_
  refine g_iload_n F 1 rfl rfl d_X7_rowAt_11 ?_
  refine g_iaload F d_X7_rowAt_12 (hsC_13 hs) (by omega) (by omega) (by decide) ?_
  refine g_goto F d_X7_rowAt_13 ?_
  exact hQ d_X7_rowAt_17 (⟨by first | rfl | omega | (simp only [*]; done) | (simp [*]; done) | (split <;> omega), rfl⟩)
set_option maxHeartbeats 1000000 in
theorem c_X7_setRow (l : Launch) (E : Ev) (q : Nat → Nat) (sh : List Shp) (σ : Sg) (hs : HsC sh) (p v : Int) (hp : 0 ≤ p ∧ p < 120) : CV l E yX7_setRow cX7_setRow 3 ({ frames := 1, cells := 0, slots := 0, locals := 20 } : Room) q sh σ [.ref (q 12), vI p, vI v] (isS (up σ 13 p v)) := by
  refine CV_of (own := RX7) (by decide) rfl (Nat.le_of_ble_eq_true rfl) (fun X Q F hQ => ?_)
  show G X E 3 q sh σ 0 0 Q 0 [(0, .ref (q 12)), (1, vI p), (2, vI v)] []
  refine g_iload_n F 1 rfl rfl d_X7_setRow_0 ?_
  refine g_Ni F (own := RX7) (c_X8_isPlace l E q sh σ p ⟨by omega, by omega⟩) k_X7_86 [] d_X7_setRow_1 ⟨rfl, rfl, by decide, by decide⟩ ⟨Nat.zero_le _, Nat.zero_le _⟩ rfl (Nat.le_of_ble_eq_true rfl) ?_
  rintro _ _ ⟨rfl, rfl⟩
  refine g_b_eq F d_X7_setRow_4 (fun h4 => by exfalso; omega) (fun h4 => ?_)
  refine g_aload_n F 0 rfl rfl d_X7_setRow_7 ?_
  refine g_getR F f_X7_11 d_X7_setRow_8 (hsC_12 hs) rfl ?_
  refine g_iload_n F 1 rfl rfl d_X7_setRow_11 ?_
  refine g_iload_n F 2 rfl rfl d_X7_setRow_12 ?_
  refine g_iastore F d_X7_setRow_13 (hsC_13 hs) (by omega) (by omega) (by decide) ?_
  exact hQ d_X7_setRow_14 (rfl)
set_option maxHeartbeats 1000000 in
theorem c_X7_textRow (l : Launch) (E : Ev) (q : Nat → Nat) (sh : List Shp) (σ : Sg) (hs : HsC sh) (p t : Int) (hp : 0 ≤ p ∧ p < 120) (ht : 0 ≤ t ∧ t ≤ 3) (hh : ∀ j : Int, 0 ≤ j → j ≤ t → 0 ≤ tp (σ 10) p j ∧ tp (σ 10) p j < 120) : CI l E yX7_textRow cX7_textRow 4 .int ({ frames := 1, cells := 0, slots := 0, locals := 24 } : Room) q sh σ [.ref (q 12), vI p, vI t] (is (σ 13 (tp (σ 10) p t)) σ) := by
  have hh9 := hh t ht.1 (Int.le_refl _)
  refine CI_of (own := RX7) (by decide) rfl (Nat.le_of_ble_eq_true rfl) (fun X Q F hQ => ?_)
  show G X E 4 q sh σ 0 0 Q 0 [(0, .ref (q 12)), (1, vI p), (2, vI t)] []
  refine g_aload_n F 0 rfl rfl d_X7_textRow_0 ?_
  refine g_getR F f_X7_21 d_X7_textRow_1 (hsC_12 hs) rfl ?_
  refine g_iload_n F 1 rfl rfl d_X7_textRow_4 ?_
  refine g_iload_n F 2 rfl rfl d_X7_textRow_5 ?_
  refine g_Vi F (own := RX7) (c_X0_textPlace l E q sh σ hs.B p t hp ht (fun j h0 h1 => hh j h0 (by omega))) k_X7_83 (hsC_5 hs) rfl rfl [] d_X7_textRow_6 ⟨rfl, rfl, by decide, by decide⟩ ⟨Nat.zero_le _, Nat.zero_le _⟩ rfl (Nat.le_of_ble_eq_true rfl) ?_
  rintro _ _ ⟨rfl, rfl⟩
  refine g_istore_n F (lv' := [(3, vI (tp (σ 10) p t)), (0, .ref (q 12)), (1, vI p), (2, vI t)]) rfl (by decide) rfl d_X7_textRow_9 ?_
  refine g_iload_n F 0 rfl rfl d_X7_textRow_10 ?_
  refine g_Ni F (own := RX7) (c_X8_isPlace l E q sh σ (tp (σ 10) p t) ⟨by omega, by omega⟩) k_X7_86 [] d_X7_textRow_11 ⟨rfl, rfl, by decide, by decide⟩ ⟨Nat.zero_le _, Nat.zero_le _⟩ rfl (Nat.le_of_ble_eq_true rfl) ?_
  rintro _ _ ⟨rfl, rfl⟩
  refine g_b_eq F d_X7_textRow_14 (fun h14 => by exfalso; omega) (fun h14 => ?_)
  refine g_aload_n F 1 rfl rfl d_X7_textRow_17 ?_
  refine g_getR F f_X7_11 d_X7_textRow_18 (hsC_12 hs) rfl ?_
  refine g_iload_n F 0 rfl rfl d_X7_textRow_21 ?_
  refine g_iaload F d_X7_textRow_22 (hsC_13 hs) (by omega) (by omega) (by decide) ?_
  refine g_goto F d_X7_textRow_23 ?_
  exact hQ d_X7_textRow_27 (⟨by first | rfl | omega | (simp only [*]; done) | (simp [*]; done) | (split <;> omega), rfl⟩)
set_option maxHeartbeats 1000000 in
theorem c_X7_setsWith (l : Launch) (E : Ev) (q : Nat → Nat) (sh : List Shp) (σ : Sg) (x : Int) (hx : 0 ≤ x ∧ x < 3) : CI l E yX7_setsWith cX7_setsWith 1 .int ({ frames := 0, cells := 0, slots := 0, locals := 0 } : Room) q sh σ [vI x] (is (stV 3 x) σ) := by
  refine CI_of (own := RX7) (by decide) rfl (Nat.le_of_ble_eq_true rfl) (fun X Q F hQ => ?_)
  show G X E 1 q sh σ 0 0 Q 0 [(0, vI x)] []
  refine g_iload_n F 0 rfl rfl d_X7_setsWith_0 ?_
  refine g_if_lt F d_X7_setsWith_1 ⟨by omega, by omega⟩ (fun h1 => by exfalso; omega) (fun h1 => ?_)
  refine g_iload_n F 0 rfl rfl d_X7_setsWith_4 ?_
  refine g_iconst F d_X7_setsWith_5 ?_
  refine g_icmp_ge F d_X7_setsWith_6 ⟨by omega, by omega⟩ ⟨by decide, by decide⟩ (fun h6 => by exfalso; omega) (fun h6 => ?_)
  refine g_gets F 3 (by decide) rfl (mg 328 (by decide +kernel) rfl) d_X7_setsWith_9 ?_
  refine g_iload_n F 0 rfl rfl d_X7_setsWith_12 ?_
  refine g_sald F 3 (by decide) (by omega) (by show _ < (3 : Int); omega) d_X7_setsWith_13 ?_
  refine g_goto F d_X7_setsWith_14 ?_
  exact hQ d_X7_setsWith_18 (⟨by first | rfl | omega | (simp only [*]; done) | (simp [*]; done) | (split <;> omega), rfl⟩)
set_option maxHeartbeats 1000000 in
theorem c_X7_has (l : Launch) (E : Ev) (q : Nat → Nat) (sh : List Shp) (σ : Sg) (hs : HsC sh) (x y : Int) (hx : 0 ≤ x ∧ x < 4) (hy : 0 ≤ y ∧ y < 8) (hT : 0 ≤ σ 14 x ∧ σ 14 x < 256) : CI l E yX7_has cX7_has 3 .boolean ({ frames := 1, cells := 0, slots := 0, locals := 20 } : Room) q sh σ [.ref (q 12), vI x, vI y] (is (if bt (σ 14 x) y = true then 1 else 0) σ) := by
  refine CB_of (own := RX7) (by decide) rfl (Nat.le_of_ble_eq_true rfl) (fun X Q F hQ => ?_)
  show G X E 3 q sh σ 0 0 Q 0 [(0, .ref (q 12)), (1, vI x), (2, vI y)] []
  refine g_iload_n F 1 rfl rfl d_X7_has_0 ?_
  refine g_Ni F (own := RX7) (c_X8_isFunction l E q sh σ x ⟨by omega, by omega⟩) k_X7_93 [] d_X7_has_1 ⟨rfl, rfl, by decide, by decide⟩ ⟨Nat.zero_le _, Nat.zero_le _⟩ rfl (Nat.le_of_ble_eq_true rfl) ?_
  rintro _ _ ⟨rfl, rfl⟩
  refine g_b_eq F d_X7_has_4 (fun h4 => by exfalso; omega) (fun h4 => ?_)
  refine g_aload_n F 0 rfl rfl d_X7_has_7 ?_
  refine g_getR F f_X7_15 d_X7_has_8 (hsC_12 hs) rfl ?_
  refine g_iload_n F 1 rfl rfl d_X7_has_11 ?_
  refine g_iaload F d_X7_has_12 (hsC_14 hs) (by omega) (by omega) (by decide) ?_
  refine g_iload_n F 2 rfl rfl d_X7_has_13 ?_
  refine g_ishr F d_X7_has_14 ?_
  refine g_iconst F d_X7_has_15 ?_
  refine g_iand F d_X7_has_16 ?_
  refine G_top (b := b2 (bt (σ 14 x) y)) (bit_eq hT hy) ?_
  refine g_iconst F d_X7_has_17 ?_
  have hb := b2_in (bt (σ 14 x) y)
  refine g_icmp_ne F d_X7_has_18 ⟨by omega, by omega⟩ ⟨by decide, by decide⟩ (fun h18 => ?_) (fun h18 => ?_)
  · refine g_iconst F d_X7_has_25 ?_
    exact hQ d_X7_has_26 (Or.inl rfl) (⟨by first | (rw [if_pos (b2_t.mp h18)]; done) | (rw [if_neg (fun h => h18 (b2_t.mpr h))]; done), rfl⟩)
  · refine g_iconst F d_X7_has_21 ?_
    refine g_goto F d_X7_has_22 ?_
    exact hQ d_X7_has_26 (Or.inr rfl) (⟨by first | (rw [if_pos (b2_t.mp h18)]; done) | (rw [if_neg (fun h => h18 (b2_t.mpr h))]; done), rfl⟩)
set_option maxHeartbeats 1000000 in
theorem c_X7_hasAt (l : Launch) (E : Ev) (q : Nat → Nat) (sh : List Shp) (σ : Sg) (hs : HsC sh) (p y : Int) (hp : 0 ≤ p ∧ p < 120) (hy : 0 ≤ y ∧ y < 8) (hT : 0 ≤ σ 13 p ∧ σ 13 p < 256) : CI l E yX7_hasAt cX7_hasAt 3 .boolean ({ frames := 2, cells := 0, slots := 0, locals := 41 } : Room) q sh σ [.ref (q 12), vI p, vI y] (is (if bt (σ 13 p) y = true then 1 else 0) σ) := by
  refine CB_of (own := RX7) (by decide) rfl (Nat.le_of_ble_eq_true rfl) (fun X Q F hQ => ?_)
  show G X E 3 q sh σ 0 0 Q 0 [(0, .ref (q 12)), (1, vI p), (2, vI y)] []
  refine g_aload_n F 0 rfl rfl d_X7_hasAt_0 ?_
  refine g_iload_n F 1 rfl rfl d_X7_hasAt_1 ?_
  refine g_Vi F (own := RX7) (c_X7_rowAt l E q sh σ hs p (by omega)) k_X7_58 (hsC_12 hs) rfl rfl [] d_X7_hasAt_2 ⟨rfl, rfl, by decide, by decide⟩ ⟨Nat.zero_le _, Nat.zero_le _⟩ rfl (Nat.le_of_ble_eq_true rfl) ?_
  rintro _ _ ⟨rfl, rfl⟩
  refine g_iload_n F 2 rfl rfl d_X7_hasAt_5 ?_
  refine g_ishr F d_X7_hasAt_6 ?_
  refine g_iconst F d_X7_hasAt_7 ?_
  refine g_iand F d_X7_hasAt_8 ?_
  refine G_top (b := b2 (bt (σ 13 p) y)) (bit_eq hT hy) ?_
  refine g_iconst F d_X7_hasAt_9 ?_
  have hb := b2_in (bt (σ 13 p) y)
  refine g_icmp_ne F d_X7_hasAt_10 ⟨by omega, by omega⟩ ⟨by decide, by decide⟩ (fun h10 => ?_) (fun h10 => ?_)
  · refine g_iconst F d_X7_hasAt_17 ?_
    exact hQ d_X7_hasAt_18 (Or.inl rfl) (⟨by first | (rw [if_pos (b2_t.mp h10)]; done) | (rw [if_neg (fun h => h10 (b2_t.mpr h))]; done), rfl⟩)
  · refine g_iconst F d_X7_hasAt_13 ?_
    refine g_goto F d_X7_hasAt_14 ?_
    exact hQ d_X7_hasAt_18 (Or.inr rfl) (⟨by first | (rw [if_pos (b2_t.mp h10)]; done) | (rw [if_neg (fun h => h10 (b2_t.mpr h))]; done), rfl⟩)
set_option maxHeartbeats 1000000 in
theorem c_X7_neededOf (l : Launch) (E : Ev) (q : Nat → Nat) (sh : List Shp) (σ : Sg) (hs : HsC sh) (x : Int) (hx : 0 ≤ x ∧ x < 4) : CI l E yX7_neededOf cX7_neededOf 2 .int ({ frames := 1, cells := 0, slots := 0, locals := 20 } : Room) q sh σ [.ref (q 12), vI x] (is (σ 15 x) σ) := by
  refine CI_of (own := RX7) (by decide) rfl (Nat.le_of_ble_eq_true rfl) (fun X Q F hQ => ?_)
  show G X E 2 q sh σ 0 0 Q 0 [(0, .ref (q 12)), (1, vI x)] []
  refine g_iload_n F 1 rfl rfl d_X7_neededOf_0 ?_
  refine g_Ni F (own := RX7) (c_X8_isFunction l E q sh σ x ⟨by omega, by omega⟩) k_X7_93 [] d_X7_neededOf_1 ⟨rfl, rfl, by decide, by decide⟩ ⟨Nat.zero_le _, Nat.zero_le _⟩ rfl (Nat.le_of_ble_eq_true rfl) ?_
  rintro _ _ ⟨rfl, rfl⟩
  refine g_b_eq F d_X7_neededOf_4 (fun h4 => by exfalso; omega) (fun h4 => ?_)
  refine g_aload_n F 0 rfl rfl d_X7_neededOf_7 ?_
  refine g_getR F f_X7_18 d_X7_neededOf_8 (hsC_12 hs) rfl ?_
  refine g_iload_n F 1 rfl rfl d_X7_neededOf_11 ?_
  refine g_iaload F d_X7_neededOf_12 (hsC_15 hs) (by omega) (by omega) (by decide) ?_
  refine g_goto F d_X7_neededOf_13 ?_
  exact hQ d_X7_neededOf_17 (⟨by first | rfl | omega | (simp only [*]; done) | (simp [*]; done) | (split <;> omega), rfl⟩)
set_option maxHeartbeats 1000000 in
theorem c_X7_neededAt (l : Launch) (E : Ev) (q : Nat → Nat) (sh : List Shp) (σ : Sg) (hs : HsC sh) (p y : Int) (hp : 0 ≤ p ∧ p < 120) (hy : 0 ≤ y ∧ y < 4) (hT : 0 ≤ σ 13 p ∧ σ 13 p < 256) : CI l E yX7_neededAt cX7_neededAt 5 .int ({ frames := 3, cells := 0, slots := 0, locals := 63 } : Room) q sh σ [.ref (q 12), vI p, vI y] (is (need3 (fun s => bt (σ 13 p) s) y) σ) := by
  have hn := nA_in y
  have haa := aA_in y
  refine CI_of (own := RX7) (by decide) rfl (Nat.le_of_ble_eq_true rfl) (fun X Q F hQ => ?_)
  show G X E 5 q sh σ 0 0 Q 0 [(0, .ref (q 12)), (1, vI p), (2, vI y)] []
  refine g_iconst F d_X7_neededAt_0 ?_
  refine g_istore_n F (lv' := [(3, vI 0), (0, .ref (q 12)), (1, vI p), (2, vI y)]) rfl (by decide) rfl d_X7_neededAt_1 ?_
  refine g_iconst F d_X7_neededAt_2 ?_
  refine g_istore F (lv' := [(4, vI 0), (3, vI 0), (0, .ref (q 12)), (1, vI p), (2, vI y)]) (by decide) rfl d_X7_neededAt_3 ?_
  have loop5 : ∀ (nn : Nat) (w : Int) (a : Int), (0 ≤ a ∧ a ≤ nA y) → (w = c3 a (!bt (σ 13 p) (cutA y 1)) (!bt (σ 13 p) (cutA y 2)) (!bt (σ 13 p) (cutA y 4))) → (nA y - a).toNat < nn → G X E 5 q sh σ 0 0 Q 5 [(0, .ref (q 12)), (1, vI p), (2, vI y), (3, vI w), (4, vI a)] [] := by
    intro n5
    induction n5 with
    | zero => intro w a ha hw hm5; exact absurd hm5 (Nat.not_lt_zero _)
    | succ n5 ih5 =>
      intro w a ha hw hm5
      refine g_iload F 4 rfl d_X7_neededAt_5 ?_
      refine g_iload_n F 2 rfl rfl d_X7_neededAt_7 ?_
      refine g_Ni F (own := RX7) (c_X8_argumentsOf l E q sh σ y ⟨by omega, by omega⟩) k_X7_76 [vI a] d_X7_neededAt_8 ⟨rfl, rfl, by decide, by decide⟩ ⟨Nat.zero_le _, Nat.zero_le _⟩ rfl (Nat.le_of_ble_eq_true rfl) ?_
      rintro _ _ ⟨rfl, rfl⟩
      refine g_icmp_ge F d_X7_neededAt_11 ⟨by omega, by omega⟩ ⟨by omega, by omega⟩ (fun h11 => ?_) (fun h11 => ?_)
      · refine g_iload_n F 3 rfl rfl d_X7_neededAt_46 ?_
        exact hQ d_X7_neededAt_47 (⟨by rw [hw, show a = nA y by omega]; rfl, rfl⟩)
      · have hs3 := shl3 (a := a) (by omega)
        have hc3 := cutA_in hy hs3
        refine g_aload_n F 0 rfl rfl d_X7_neededAt_14 ?_
        refine g_iload_n F 1 rfl rfl d_X7_neededAt_15 ?_
        refine g_iload_n F 2 rfl rfl d_X7_neededAt_16 ?_
        refine g_Ni F (own := RX7) (c_X8_allArguments l E q sh σ y ⟨by omega, by omega⟩) k_X7_96 [vI p, .ref (q 12)] d_X7_neededAt_17 ⟨rfl, rfl, by decide, by decide⟩ ⟨Nat.zero_le _, Nat.zero_le _⟩ rfl (Nat.le_of_ble_eq_true rfl) ?_
        rintro _ _ ⟨rfl, rfl⟩
        refine g_iconst F d_X7_neededAt_20 ?_
        refine g_iload F 4 rfl d_X7_neededAt_21 ?_
        refine g_ishl F d_X7_neededAt_23 ?_
        refine g_iconst F d_X7_neededAt_24 ?_
        refine g_ixor F d_X7_neededAt_25 ?_
        refine g_iand F d_X7_neededAt_26 ?_
        refine G_top (b := cutA y (bShl 1 a)) (rfl) ?_
        refine g_Vi F (own := RX7) (c_X7_hasAt l E q sh σ hs p (cutA y (bShl 1 a)) hp (by omega) hT) k_X7_99 (hsC_12 hs) rfl rfl [] d_X7_neededAt_27 ⟨rfl, rfl, by decide, by decide⟩ ⟨Nat.zero_le _, Nat.zero_le _⟩ rfl (Nat.le_of_ble_eq_true rfl) ?_
        rintro _ _ ⟨rfl, rfl⟩
        refine g_b_ne F d_X7_neededAt_30 (fun h30 => ?_) (fun h30 => ?_)
        · refine g_iinc F (lv' := [(4, vI (a + 1)), (0, .ref (q 12)), (1, vI p), (2, vI y), (3, vI w)]) 4 rfl rfl (by decide) rfl d_X7_neededAt_40 ?_
          refine g_goto F d_X7_neededAt_43 ?_
          have hw2 : w = c3 (a + 1) (!bt (σ 13 p) (cutA y 1)) (!bt (σ 13 p) (cutA y 2)) (!bt (σ 13 p) (cutA y 4)) := by
            rw [hw]
            first
              | (apply c3_skip (by omega); rw [sel3 (by omega) (fun s => bt (σ 13 p) s) y]; simp; exact h30)
              | (apply c3_with (by omega); rw [sel3 (by omega) (fun s => bt (σ 13 p) s) y]; simp; simpa using h30)
          refine G_sub (ks := [1, 2, 3, 4, 0]) rfl ?_
          exact ih5 w (a + 1) (by omega) hw2 (by omega)
        · refine g_iload_n F 3 rfl rfl d_X7_neededAt_33 ?_
          refine g_iconst F d_X7_neededAt_34 ?_
          refine g_iload F 4 rfl d_X7_neededAt_35 ?_
          refine g_ishl F d_X7_neededAt_37 ?_
          refine g_ior F d_X7_neededAt_38 ?_
          refine g_istore_n F (lv' := [(3, vI (bOr w (bShl 1 a))), (0, .ref (q 12)), (1, vI p), (2, vI y), (4, vI a)]) rfl (by decide) rfl d_X7_neededAt_39 ?_
          refine g_iinc F (lv' := [(4, vI (a + 1)), (3, vI (bOr w (bShl 1 a))), (0, .ref (q 12)), (1, vI p), (2, vI y)]) 4 rfl rfl (by decide) rfl d_X7_neededAt_40 ?_
          refine g_goto F d_X7_neededAt_43 ?_
          have hw2 : (bOr w (bShl 1 a)) = c3 (a + 1) (!bt (σ 13 p) (cutA y 1)) (!bt (σ 13 p) (cutA y 2)) (!bt (σ 13 p) (cutA y 4)) := by
            rw [hw]
            first
              | (apply c3_skip (by omega); rw [sel3 (by omega) (fun s => bt (σ 13 p) s) y]; simp; exact h30)
              | (apply c3_with (by omega); rw [sel3 (by omega) (fun s => bt (σ 13 p) s) y]; simp; simpa using h30)
          refine G_sub (ks := [2, 3, 4, 1, 0]) rfl ?_
          exact ih5 (bOr w (bShl 1 a)) (a + 1) (by omega) hw2 (by omega)
  refine G_sub (ks := [2, 3, 4, 1, 0]) rfl ?_
  exact loop5 _ 0 0 (by omega) (c3_0 _ _ _).symm (Nat.lt_succ_self _)
set_option maxHeartbeats 1000000 in
theorem c_X7_stops (l : Launch) (E : Ev) (q : Nat → Nat) (sh : List Shp) (σ : Sg) (hs : HsC sh) (x y : Int) (hx : 0 ≤ x ∧ x < 4) (hy : 0 ≤ y ∧ y < 8) (hT : 0 ≤ σ 14 x ∧ σ 14 x < 256) : CI l E yX7_stops cX7_stops 3 .boolean ({ frames := 3, cells := 0, slots := 0, locals := 60 } : Room) q sh σ [.ref (q 12), vI x, vI y] (is (if bt (σ 14 x) (cutA x y) = false then 1 else 0) σ) := by
  have hc := cutA_in hx hy
  have haa := aA_in x
  refine CB_of (own := RX7) (by decide) rfl (Nat.le_of_ble_eq_true rfl) (fun X Q F hQ => ?_)
  show G X E 3 q sh σ 0 0 Q 0 [(0, .ref (q 12)), (1, vI x), (2, vI y)] []
  refine g_aload_n F 0 rfl rfl d_X7_stops_0 ?_
  refine g_iload_n F 1 rfl rfl d_X7_stops_1 ?_
  refine g_iload_n F 1 rfl rfl d_X7_stops_2 ?_
  refine g_Ni F (own := RX7) (c_X8_allArguments l E q sh σ x ⟨by omega, by omega⟩) k_X7_96 [vI x, .ref (q 12)] d_X7_stops_3 ⟨rfl, rfl, by decide, by decide⟩ ⟨Nat.zero_le _, Nat.zero_le _⟩ rfl (Nat.le_of_ble_eq_true rfl) ?_
  rintro _ _ ⟨rfl, rfl⟩
  refine g_iload_n F 2 rfl rfl d_X7_stops_6 ?_
  refine g_iconst F d_X7_stops_7 ?_
  refine g_ixor F d_X7_stops_8 ?_
  refine g_iand F d_X7_stops_9 ?_
  refine G_top (b := cutA x y) (rfl) ?_
  refine g_Vi F (own := RX7) (c_X7_has l E q sh σ hs x (cutA x y) hx (by omega) hT) k_X7_79 (hsC_12 hs) rfl rfl [] d_X7_stops_10 ⟨rfl, rfl, by decide, by decide⟩ ⟨Nat.zero_le _, Nat.zero_le _⟩ rfl (Nat.le_of_ble_eq_true rfl) ?_
  rintro _ _ ⟨rfl, rfl⟩
  refine g_b_ne F d_X7_stops_13 (fun h13 => ?_) (fun h13 => ?_)
  · refine g_iconst F d_X7_stops_20 ?_
    exact hQ d_X7_stops_21 (Or.inl rfl) (⟨by first | (rw [if_pos (by simpa using h13)]; done) | (rw [if_neg (by simp [h13])]; done), rfl⟩)
  · refine g_iconst F d_X7_stops_16 ?_
    refine g_goto F d_X7_stops_17 ?_
    exact hQ d_X7_stops_21 (Or.inr rfl) (⟨by first | (rw [if_pos (by simpa using h13)]; done) | (rw [if_neg (by simp [h13])]; done), rfl⟩)
set_option maxHeartbeats 1000000 in
theorem c_X7_isJoint (l : Launch) (E : Ev) (q : Nat → Nat) (sh : List Shp) (σ : Sg) (hs : HsC sh) (x y : Int) (hx : 0 ≤ x ∧ x < 4) (hy : 0 ≤ y ∧ y < 8) (hT : 0 ≤ σ 14 x ∧ σ 14 x < 256) : CI l E yX7_isJoint cX7_isJoint 4 .boolean ({ frames := 4, cells := 0, slots := 0, locals := 82 } : Room) q sh σ [.ref (q 12), vI x, vI y] (fun z τ => σ = τ ∧ ((z = 1 ∧ isJ (tbl σ) x y) ∨ (z = 0 ∧ ¬ isJ (tbl σ) x y))) := by
  refine CB_of (own := RX7) (by decide) rfl (Nat.le_of_ble_eq_true rfl) (fun X Q F hQ => ?_)
  show G X E 4 q sh σ 0 0 Q 0 [(0, .ref (q 12)), (1, vI x), (2, vI y)] []
  refine g_aload_n F 0 rfl rfl d_X7_isJoint_0 ?_
  refine g_iload_n F 1 rfl rfl d_X7_isJoint_1 ?_
  refine g_iload_n F 2 rfl rfl d_X7_isJoint_2 ?_
  refine g_Vi F (own := RX7) (c_X7_stops l E q sh σ hs x y (by omega) (by omega) (by omega)) k_X7_102 (hsC_12 hs) rfl rfl [] d_X7_isJoint_3 ⟨rfl, rfl, by decide, by decide⟩ ⟨Nat.zero_le _, Nat.zero_le _⟩ rfl (Nat.le_of_ble_eq_true rfl) ?_
  rintro _ _ ⟨rfl, rfl⟩
  refine g_b_ne F d_X7_isJoint_6 (fun h6 => ?_) (fun h6 => ?_)
  · refine g_iconst F d_X7_isJoint_11 ?_
    refine g_istore_n F (lv' := [(3, vI 0), (0, .ref (q 12)), (1, vI x), (2, vI y)]) rfl (by decide) rfl d_X7_isJoint_12 ?_
    have loop13 : ∀ (nn : Nat) (r : Int), (0 ≤ r ∧ r ≤ y) → (∀ k, 0 ≤ k → k < r → bAnd k (bXor y (-1)) = 0 → tbl σ x (cutA x k) = true) → (y - r).toNat < nn → G X E 4 q sh σ 0 0 Q 13 [(0, .ref (q 12)), (1, vI x), (2, vI y), (3, vI r)] [] := by
      intro n13
      induction n13 with
      | zero => intro r hr hj hm13; exact absurd hm13 (Nat.not_lt_zero _)
      | succ n13 ih13 =>
        intro r hr hj hm13
        refine g_iload_n F 3 rfl rfl d_X7_isJoint_13 ?_
        refine g_iload_n F 2 rfl rfl d_X7_isJoint_14 ?_
        refine g_icmp_ge F d_X7_isJoint_15 ⟨by omega, by omega⟩ ⟨by omega, by omega⟩ (fun h15 => ?_) (fun h15 => ?_)
        · refine g_iconst F d_X7_isJoint_43 ?_
          exact hQ d_X7_isJoint_44 (Or.inr rfl) (⟨rfl, Or.inl ⟨rfl, h6, fun k h0 h1 h2 => hj k h0 (by omega) h2⟩⟩)
        · refine g_iload_n F 3 rfl rfl d_X7_isJoint_18 ?_
          refine g_iload_n F 2 rfl rfl d_X7_isJoint_19 ?_
          refine g_iconst F d_X7_isJoint_20 ?_
          refine g_ixor F d_X7_isJoint_21 ?_
          refine g_iand F d_X7_isJoint_22 ?_
          refine g_if_ne F d_X7_isJoint_23 (rg_of _) (fun h23 => ?_) (fun h23 => ?_)
          · refine g_iinc F (lv' := [(3, vI (r + 1)), (0, .ref (q 12)), (1, vI x), (2, vI y)]) 3 rfl rfl (by decide) rfl d_X7_isJoint_37 ?_
            refine g_goto F d_X7_isJoint_40 ?_
            refine G_sub (ks := [1, 2, 3, 0]) rfl ?_
            exact ih13 (r + 1) (by omega) (fun k h0 h1 h2 => by by_cases hk : k = r; (subst hk; first | (exfalso; exact h23 h2) | (show bt (σ 14 x) (cutA x k) = true; simpa using h32)); exact hj k h0 (by omega) h2) (by omega)
          · refine g_aload_n F 0 rfl rfl d_X7_isJoint_26 ?_
            refine g_iload_n F 1 rfl rfl d_X7_isJoint_27 ?_
            refine g_iload_n F 3 rfl rfl d_X7_isJoint_28 ?_
            refine g_Vi F (own := RX7) (c_X7_stops l E q sh σ hs x r hx (by omega) hT) k_X7_102 (hsC_12 hs) rfl rfl [] d_X7_isJoint_29 ⟨rfl, rfl, by decide, by decide⟩ ⟨Nat.zero_le _, Nat.zero_le _⟩ rfl (Nat.le_of_ble_eq_true rfl) ?_
            rintro _ _ ⟨rfl, rfl⟩
            refine g_b_eq F d_X7_isJoint_32 (fun h32 => ?_) (fun h32 => ?_)
            · refine g_iinc F (lv' := [(3, vI (r + 1)), (0, .ref (q 12)), (1, vI x), (2, vI y)]) 3 rfl rfl (by decide) rfl d_X7_isJoint_37 ?_
              refine g_goto F d_X7_isJoint_40 ?_
              refine G_sub (ks := [1, 2, 3, 0]) rfl ?_
              exact ih13 (r + 1) (by omega) (fun k h0 h1 h2 => by by_cases hk : k = r; (subst hk; first | (exfalso; exact h23 h2) | (show bt (σ 14 x) (cutA x k) = true; simpa using h32)); exact hj k h0 (by omega) h2) (by omega)
            · refine g_iconst F d_X7_isJoint_35 ?_
              exact hQ d_X7_isJoint_36 (Or.inl rfl) (⟨rfl, Or.inr ⟨rfl, fun h => by have h9 := h.2 r hr.1 (by omega) h23; (change bt (σ 14 x) (cutA x r) = true at h9); rw [h9] at h32; cases h32⟩⟩)
    refine G_sub (ks := [1, 2, 3, 0]) rfl ?_
    exact loop13 _ 0 (by omega) (fun k h0 h1 => by exfalso; omega) (Nat.lt_succ_self _)
  · refine g_iconst F d_X7_isJoint_9 ?_
    exact hQ d_X7_isJoint_10 (Or.inl rfl) (⟨rfl, Or.inr ⟨rfl, fun h => h6 h.1⟩⟩)
