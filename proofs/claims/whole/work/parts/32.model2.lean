/-! the reference: nodes, texts, what may come -/
def MOK (σ : Sg) : Prop := (∀ f, 0 ≤ f → f < 4 → Wf (σ 31) (σ 32) (σ 33) (f * 30) (σ 34 f) ∧ ∀ p, f * 30 ≤ p → p < f * 30 + σ 34 f → kd (σ 31 p) ≠ 0 ∧ (kd (σ 31 p) = 3 → wo (σ 31 p) < nA f)) ∧ ∀ j, rg (σ 31 j)
def C2 (σ : Sg) : Prop := ∀ j, 0 ≤ σ 39 j ∧ σ 39 j ≤ 2
def Vb (σ : Sg) (x : Int) : Int → Bool := fun p => decide (σ 39 (p - x * 30) = 1)
theorem Vb_b2 {σ : Sg} {x j : Int} (h : σ 39 j = 0 ∨ σ 39 j = 1) : σ 39 j = b2 (Vb σ x (x * 30 + j)) := by
  unfold Vb
  rw [show x * 30 + j - x * 30 = j by omega]
  rcases h with h | h <;> rw [h] <;> decide
theorem Vb_tp {σ : Sg} {x q : Int} (h : σ 39 (q - x * 30) = 0 ∨ σ 39 (q - x * 30) = 1) : σ 39 (q - x * 30) = b2 (Vb σ x q) := by
  have := Vb_b2 (x := x) h
  rw [show x * 30 + (q - x * 30) = q by omega] at this
  exact this
theorem and_b2 (a b : Bool) : bAnd (b2 a) (b2 b) = b2 (a && b) := by cases a <;> cases b <;> decide
theorem or_b2 (a b : Bool) : bOr (b2 a) (b2 b) = b2 (a || b) := by cases a <;> cases b <;> decide
theorem b2_01 (a : Bool) : b2 a = 0 ∨ b2 a = 1 := by cases a <;> decide
theorem mvl_1 {S Z : Int → Int} {T : TB} {V : Int → Bool} {s p : Int} (h : kd (S p) = 1) : mvl S Z T V s p = true := by simp [mvl, h]
theorem mvl_2 {S Z : Int → Int} {T : TB} {V : Int → Bool} {s p : Int} (h : kd (S p) = 2) : mvl S Z T V s p = false := by simp [mvl, h]
theorem mvl_3 {S Z : Int → Int} {T : TB} {V : Int → Bool} {s p : Int} (h : kd (S p) = 3) : mvl S Z T V s p = bt s (wo (S p)) := by simp [mvl, h]
theorem mvl_4 {S Z : Int → Int} {T : TB} {V : Int → Bool} {s p : Int} (h : kd (S p) = 4) : mvl S Z T V s p = (V (tp Z p 0) && V (tp Z p 1)) := by simp [mvl, h]
theorem mvl_5 {S Z : Int → Int} {T : TB} {V : Int → Bool} {s p : Int} (h : kd (S p) = 5) : mvl S Z T V s p = (V (tp Z p 0) && (V (tp Z p 1) || V (tp Z p 2))) := by simp [mvl, h]
theorem mvl_6 {S Z : Int → Int} {T : TB} {V : Int → Bool} {s p : Int} (h : kd (S p) = 6) : mvl S Z T V s p = T (wo (S p)) (c3 (nA (wo (S p))) (V (tp Z p 0)) (V (tp Z p 1)) (V (tp Z p 2))) := by simp [mvl, h]
theorem sel_tp (V : Int → Bool) (Z : Int → Int) (p : Int) {t : Int} (ht : 0 ≤ t ∧ t < 3) : (if t = 0 then V (tp Z p 0) else if t = 1 then V (tp Z p 1) else V (tp Z p 2)) = V (tp Z p t) := by
  have h1 : t = 0 ∨ t = 1 ∨ t = 2 := by omega
  rcases h1 with rfl | rfl | rfl <;> rfl
theorem c3_next (V : Int → Bool) (Z : Int → Int) (p : Int) {t d : Int} (ht : 0 ≤ t ∧ t < 3) (hd : d = c3 t (V (tp Z p 0)) (V (tp Z p 1)) (V (tp Z p 2))) : bOr d (bShl (b2 (V (tp Z p t))) t) = c3 (t + 1) (V (tp Z p 0)) (V (tp Z p 1)) (V (tp Z p 2)) := by
  rw [← sel_tp V Z p ht, hd]
  exact c3_step ht _ _ _
def vSayM (σ : Sg) (x : Int) : Int := if 33 ≤ x ∧ x ≤ 126 then (if σ 34 4 = 30 then -4 else σ 34 4 + 1) else -2
def sSayM (σ : Sg) (x : Int) : Sg := if (33 ≤ x ∧ x ≤ 126) ∧ σ 34 4 ≠ 30 then up (up σ 31 (120 + σ 34 4) x) 34 4 (σ 34 4 + 1) else σ
def vNodeM (σ : Sg) (x y k : Int) : Int := if (0 ≤ x ∧ x < 4) ∧ 0 ≤ y ∧ y < σ 34 x then (if k = 0 then σ 31 (x * 30 + y) else if k = 1 then σ 32 (x * 30 + y) else if k = 2 then σ 33 (x * 30 + y) else -2) else -1
set_option maxHeartbeats 1000000 in
theorem c_X9_say (l : Launch) (E : Ev) (q : Nat → Nat) (sh : List Shp) (σ : Sg) (hs : HsM sh) (x : Int) (rx : rg x) (hn : 0 ≤ σ 34 4 ∧ σ 34 4 ≤ 30) : CI l E yX9_say cX9_say 2 .int ({ frames := 1, cells := 0, slots := 0, locals := 25 } : Room) q sh σ [.ref (q 30), vI x] (fun z τ => z = vSayM σ x ∧ τ = sSayM σ x) := by
  have rx1 := rx.1
  have rx2 := rx.2
  refine CI_of (own := RX9) (by decide) rfl (Nat.le_of_ble_eq_true rfl) (fun X Q F hQ => ?_)
  show G X E 2 q sh σ 0 0 Q 0 [(0, .ref (q 30)), (1, vI x)] []
  refine g_iload_n F 1 rfl rfl d_X9_say_0 ?_
  refine g_i2l F ⟨by omega, by omega⟩ d_X9_say_1 ?_
  refine g_ldc2 F (z := 33) (mg 831 (by decide +kernel) rfl) d_X9_say_2 ?_
  refine g_ldc2 F (z := 126) (mg 832 (by decide +kernel) rfl) d_X9_say_5 ?_
  refine g_Si F (own := RX9) (c_X9_in l E q sh σ x 33 126 rx ⟨by decide, by decide⟩ ⟨by decide, by decide⟩) k_X9_69 [] d_X9_say_8 ⟨rfl, rfl, by decide, by decide⟩ ⟨Nat.zero_le _, Nat.zero_le _⟩ rfl (Nat.le_of_ble_eq_true rfl) ?_
  rintro _ _ ⟨rfl, rfl⟩
  refine g_b_ne F d_X9_say_11 (fun h11 => ?_) (fun h11 => ?_)
  · refine g_aload_n F 0 rfl rfl d_X9_say_17 ?_
    refine g_getR F f_X9_19 d_X9_say_18 (hsM_30 hs) rfl ?_
    refine g_iconst F d_X9_say_21 ?_
    refine g_iaload F d_X9_say_22 (hsM_34 hs) (by omega) (by omega) (by decide) ?_
    refine g_bipush F (by decide) d_X9_say_23 ?_
    refine g_icmp_ne F d_X9_say_25 ⟨by omega, by omega⟩ ⟨by decide, by decide⟩ (fun h25 => ?_) (fun h25 => ?_)
    · refine g_aload_n F 0 rfl rfl d_X9_say_31 ?_
      refine g_getR F f_X9_7 d_X9_say_32 (hsM_30 hs) rfl ?_
      refine g_bipush F (by decide) d_X9_say_35 ?_
      refine g_aload_n F 0 rfl rfl d_X9_say_37 ?_
      refine g_getR F f_X9_19 d_X9_say_38 (hsM_30 hs) rfl ?_
      refine g_iconst F d_X9_say_41 ?_
      refine g_iaload F d_X9_say_42 (hsM_34 hs) (by omega) (by omega) (by decide) ?_
      refine g_iadd F d_X9_say_43 ?_
      refine g_iload_n F 1 rfl rfl d_X9_say_44 ?_
      refine g_iastore F d_X9_say_45 (hsM_31 hs) (by omega) (by omega) (by decide) ?_
      refine g_aload_n F 0 rfl rfl d_X9_say_46 ?_
      refine g_getR F f_X9_19 d_X9_say_47 (hsM_30 hs) rfl ?_
      refine g_iconst F d_X9_say_50 ?_
      refine g_dup2 F rfl rfl d_X9_say_51 ?_
      refine g_iaload F d_X9_say_52 (hsM_34 hs) (by omega) (by omega) (by decide) ?_
      refine G_top (b := σ 34 4) (by rw [up_ne _ (by decide)]) ?_
      refine g_iconst F d_X9_say_53 ?_
      refine g_iadd F d_X9_say_54 ?_
      refine g_iastore F d_X9_say_55 (hsM_34 hs) (by omega) (by omega) (by decide) ?_
      refine g_aload_n F 0 rfl rfl d_X9_say_56 ?_
      refine g_getR F f_X9_19 d_X9_say_57 (hsM_30 hs) rfl ?_
      refine g_iconst F d_X9_say_60 ?_
      refine g_iaload F d_X9_say_61 (hsM_34 hs) (by omega) (by omega) (by decide) ?_
      exact hQ d_X9_say_62 (⟨by unfold vSayM; rw [if_pos h11, if_neg h25]; exact up_same _ _ _ _, by unfold sSayM; rw [if_pos ⟨h11, h25⟩]⟩)
    · refine g_bipush F (by decide) d_X9_say_28 ?_
      exact hQ d_X9_say_30 (⟨by unfold vSayM; rw [if_pos h11, if_pos h25], by unfold sSayM; rw [if_neg (fun z => z.2 h25)]⟩)
  · refine g_bipush F (by decide) d_X9_say_14 ?_
    exact hQ d_X9_say_16 (⟨by unfold vSayM; rw [if_neg h11], by unfold sSayM; rw [if_neg (fun z => h11 z.1)]⟩)
set_option maxHeartbeats 1000000 in
theorem c_X9_isNode (l : Launch) (E : Ev) (q : Nat → Nat) (sh : List Shp) (σ : Sg) (hs : HsM sh) (x y : Int) (rx : rg x) (ry : rg y) (hN : ∀ f, 0 ≤ f → f < 4 → 0 ≤ σ 34 f ∧ σ 34 f ≤ 30) : CI l E yX9_isNode cX9_isNode 3 .boolean ({ frames := 2, cells := 0, slots := 0, locals := 45 } : Room) q sh σ [.ref (q 30), vI x, vI y] (is (if (0 ≤ x ∧ x < 4) ∧ 0 ≤ y ∧ y < σ 34 x then 1 else 0) σ) := by
  have rx1 := rx.1
  have rx2 := rx.2
  have ry1 := ry.1
  have ry2 := ry.2
  refine CB_of (own := RX9) (by decide) rfl (Nat.le_of_ble_eq_true rfl) (fun X Q F hQ => ?_)
  show G X E 3 q sh σ 0 0 Q 0 [(0, .ref (q 30)), (1, vI x), (2, vI y)] []
  refine g_iload_n F 1 rfl rfl d_X9_isNode_0 ?_
  refine g_Si F (own := RX9) (c_X9_isFunction l E q sh σ x ⟨by omega, by omega⟩) k_X9_99 [] d_X9_isNode_1 ⟨rfl, rfl, by decide, by decide⟩ ⟨Nat.zero_le _, Nat.zero_le _⟩ rfl (Nat.le_of_ble_eq_true rfl) ?_
  rintro _ _ ⟨rfl, rfl⟩
  refine g_b_eq F d_X9_isNode_4 (fun h4 => ?_) (fun h4 => ?_)
  · refine g_iconst F d_X9_isNode_29 ?_
    exact hQ d_X9_isNode_30 (Or.inl rfl) (⟨by first | (rw [if_neg (by omega)]; done) | (rw [if_pos (by omega)]; done), rfl⟩)
  · have h6 := hN x h4.1 h4.2
    refine g_iload_n F 2 rfl rfl d_X9_isNode_7 ?_
    refine g_i2l F ⟨by omega, by omega⟩ d_X9_isNode_8 ?_
    refine g_lconst F (z := 0) rfl d_X9_isNode_9 ?_
    refine g_aload_n F 0 rfl rfl d_X9_isNode_10 ?_
    refine g_getR F f_X9_19 d_X9_isNode_11 (hsM_30 hs) rfl ?_
    refine g_iload_n F 1 rfl rfl d_X9_isNode_14 ?_
    refine g_iaload F d_X9_isNode_15 (hsM_34 hs) (by omega) (by omega) (by decide) ?_
    refine g_iconst F d_X9_isNode_16 ?_
    refine g_isub F d_X9_isNode_17 ?_
    refine g_i2l F ⟨by omega, by omega⟩ d_X9_isNode_18 ?_
    refine g_Si F (own := RX9) (c_X9_in l E q sh σ y 0 ((σ 34 x) - 1) ry ⟨by decide, by decide⟩ ⟨by omega, by omega⟩) k_X9_69 [] d_X9_isNode_19 ⟨rfl, rfl, by decide, by decide⟩ ⟨Nat.zero_le _, Nat.zero_le _⟩ rfl (Nat.le_of_ble_eq_true rfl) ?_
    rintro _ _ ⟨rfl, rfl⟩
    refine g_b_eq F d_X9_isNode_22 (fun h22 => ?_) (fun h22 => ?_)
    · refine g_iconst F d_X9_isNode_29 ?_
      exact hQ d_X9_isNode_30 (Or.inl rfl) (⟨by first | (rw [if_neg (by omega)]; done) | (rw [if_pos (by omega)]; done), rfl⟩)
    · refine g_iconst F d_X9_isNode_25 ?_
      refine g_goto F d_X9_isNode_26 ?_
      exact hQ d_X9_isNode_30 (Or.inr rfl) (⟨by first | (rw [if_neg (by omega)]; done) | (rw [if_pos (by omega)]; done), rfl⟩)
set_option maxHeartbeats 1000000 in
theorem c_X9_node (l : Launch) (E : Ev) (q : Nat → Nat) (sh : List Shp) (σ : Sg) (hs : HsM sh) (x y k : Int) (rx : rg x) (ry : rg y) (rk : rg k) (hN : ∀ f, 0 ≤ f → f < 4 → 0 ≤ σ 34 f ∧ σ 34 f ≤ 30) : CI l E yX9_node cX9_node 5 .int ({ frames := 3, cells := 0, slots := 0, locals := 67 } : Room) q sh σ [.ref (q 30), vI x, vI y, vI k] (is (vNodeM σ x y k) σ) := by
  have rx1 := rx.1
  have rx2 := rx.2
  have ry1 := ry.1
  have ry2 := ry.2
  have rk1 := rk.1
  have rk2 := rk.2
  refine CI_of (own := RX9) (by decide) rfl (Nat.le_of_ble_eq_true rfl) (fun X Q F hQ => ?_)
  show G X E 5 q sh σ 0 0 Q 0 [(0, .ref (q 30)), (1, vI x), (2, vI y), (3, vI k)] []
  refine g_aload_n F 0 rfl rfl d_X9_node_0 ?_
  refine g_iload_n F 1 rfl rfl d_X9_node_1 ?_
  refine g_iload_n F 2 rfl rfl d_X9_node_2 ?_
  refine g_Vi F (own := RX9) (c_X9_isNode l E q sh σ hs x y rx ry hN) k_X9_109 (hsM_30 hs) rfl rfl [] d_X9_node_3 ⟨rfl, rfl, by decide, by decide⟩ ⟨Nat.zero_le _, Nat.zero_le _⟩ rfl (Nat.le_of_ble_eq_true rfl) ?_
  rintro _ _ ⟨rfl, rfl⟩
  refine g_b_ne F d_X9_node_6 (fun h6 => ?_) (fun h6 => ?_)
  · have h69 := hN x h6.1.1 h6.1.2
    refine g_bipush F (by decide) d_X9_node_11 ?_
    refine g_iload_n F 1 rfl rfl d_X9_node_13 ?_
    refine g_imul F d_X9_node_14 ?_
    refine g_iload_n F 2 rfl rfl d_X9_node_15 ?_
    refine g_iadd F d_X9_node_16 ?_
    refine G_top (b := x * 30 + y) (by omega) ?_
    refine g_istore F (lv' := [(4, vI (x * 30 + y)), (0, .ref (q 30)), (1, vI x), (2, vI y), (3, vI k)]) (by decide) rfl d_X9_node_17 ?_
    refine g_iload_n F 4 rfl rfl d_X9_node_19 ?_
    refine g_if_ne F d_X9_node_20 ⟨by omega, by omega⟩ (fun h20 => ?_) (fun h20 => ?_)
    · refine g_iload_n F 4 rfl rfl d_X9_node_33 ?_
      refine g_iconst F d_X9_node_34 ?_
      refine g_icmp_ne F d_X9_node_35 ⟨by omega, by omega⟩ ⟨by decide, by decide⟩ (fun h35 => ?_) (fun h35 => ?_)
      · refine g_iload_n F 4 rfl rfl d_X9_node_48 ?_
        refine g_iconst F d_X9_node_49 ?_
        refine g_icmp_ne F d_X9_node_50 ⟨by omega, by omega⟩ ⟨by decide, by decide⟩ (fun h50 => ?_) (fun h50 => ?_)
        · refine g_bipush F (by decide) d_X9_node_63 ?_
          exact hQ d_X9_node_65 (⟨by unfold vNodeM; first | (rw [if_neg h6]; done) | (rw [if_pos h6, if_pos h20]; done) | (rw [if_pos h6, if_neg h20, if_pos h35]; done) | (rw [if_pos h6, if_neg h20, if_neg h35, if_pos h50]; done) | (rw [if_pos h6, if_neg h20, if_neg h35, if_neg h50]; done), rfl⟩)
        · refine g_aload_n F 1 rfl rfl d_X9_node_53 ?_
          refine g_getR F f_X9_16 d_X9_node_54 (hsM_30 hs) rfl ?_
          refine g_iload F 0 rfl d_X9_node_57 ?_
          refine g_iaload F d_X9_node_59 (hsM_33 hs) (by omega) (by omega) (by decide) ?_
          refine g_goto F d_X9_node_60 ?_
          exact hQ d_X9_node_65 (⟨by unfold vNodeM; first | (rw [if_neg h6]; done) | (rw [if_pos h6, if_pos h20]; done) | (rw [if_pos h6, if_neg h20, if_pos h35]; done) | (rw [if_pos h6, if_neg h20, if_neg h35, if_pos h50]; done) | (rw [if_pos h6, if_neg h20, if_neg h35, if_neg h50]; done), rfl⟩)
      · refine g_aload_n F 1 rfl rfl d_X9_node_38 ?_
        refine g_getR F f_X9_13 d_X9_node_39 (hsM_30 hs) rfl ?_
        refine g_iload F 0 rfl d_X9_node_42 ?_
        refine g_iaload F d_X9_node_44 (hsM_32 hs) (by omega) (by omega) (by decide) ?_
        refine g_goto F d_X9_node_45 ?_
        exact hQ d_X9_node_65 (⟨by unfold vNodeM; first | (rw [if_neg h6]; done) | (rw [if_pos h6, if_pos h20]; done) | (rw [if_pos h6, if_neg h20, if_pos h35]; done) | (rw [if_pos h6, if_neg h20, if_neg h35, if_pos h50]; done) | (rw [if_pos h6, if_neg h20, if_neg h35, if_neg h50]; done), rfl⟩)
    · refine g_aload_n F 1 rfl rfl d_X9_node_23 ?_
      refine g_getR F f_X9_7 d_X9_node_24 (hsM_30 hs) rfl ?_
      refine g_iload F 0 rfl d_X9_node_27 ?_
      refine g_iaload F d_X9_node_29 (hsM_31 hs) (by omega) (by omega) (by decide) ?_
      refine g_goto F d_X9_node_30 ?_
      exact hQ d_X9_node_65 (⟨by unfold vNodeM; first | (rw [if_neg h6]; done) | (rw [if_pos h6, if_pos h20]; done) | (rw [if_pos h6, if_neg h20, if_pos h35]; done) | (rw [if_pos h6, if_neg h20, if_neg h35, if_pos h50]; done) | (rw [if_pos h6, if_neg h20, if_neg h35, if_neg h50]; done), rfl⟩)
  · refine g_iconst F d_X9_node_9 ?_
    exact hQ d_X9_node_10 (⟨by unfold vNodeM; first | (rw [if_neg h6]; done) | (rw [if_pos h6, if_pos h20]; done) | (rw [if_pos h6, if_neg h20, if_pos h35]; done) | (rw [if_pos h6, if_neg h20, if_neg h35, if_pos h50]; done) | (rw [if_pos h6, if_neg h20, if_neg h35, if_neg h50]; done), rfl⟩)
set_option maxHeartbeats 1000000 in
theorem c_X9_textOf (l : Launch) (E : Ev) (q : Nat → Nat) (sh : List Shp) (σ : Sg) (hs : HsM sh) (x y t : Int) (hx : 0 ≤ x ∧ x < 4) (ht : 0 ≤ t ∧ t ≤ 3) (hh : ∀ j : Int, 0 ≤ j → j < t → 0 ≤ tp (σ 32) (x * 30 + y) j ∧ tp (σ 32) (x * 30 + y) j < 150) : CI l E yX9_textOf cX9_textOf 6 .int ({ frames := 0, cells := 0, slots := 0, locals := 0 } : Room) q sh σ [.ref (q 30), vI x, vI y, vI t] (is (tp (σ 32) (x * 30 + y) t - x * 30) σ) := by
  refine CI_of (own := RX9) (by decide) rfl (Nat.le_of_ble_eq_true rfl) (fun X Q F hQ => ?_)
  show G X E 6 q sh σ 0 0 Q 0 [(0, .ref (q 30)), (1, vI x), (2, vI y), (3, vI t)] []
  refine g_iload_n F 2 rfl rfl d_X9_textOf_0 ?_
  refine g_iconst F d_X9_textOf_1 ?_
  refine g_iadd F d_X9_textOf_2 ?_
  refine g_istore F (lv' := [(4, vI (y + 1)), (0, .ref (q 30)), (1, vI x), (2, vI y), (3, vI t)]) (by decide) rfl d_X9_textOf_3 ?_
  refine g_iconst F d_X9_textOf_5 ?_
  refine g_istore F (lv' := [(5, vI 0), (4, vI (y + 1)), (0, .ref (q 30)), (1, vI x), (2, vI y), (3, vI t)]) (by decide) rfl d_X9_textOf_6 ?_
  have loop8 : ∀ (nn : Nat) (a : Int) (i : Int), (0 ≤ i ∧ i ≤ t) → (a = tp (σ 32) (x * 30 + y) i - x * 30) → (t - i).toNat < nn → G X E 6 q sh σ 0 0 Q 8 [(0, .ref (q 30)), (1, vI x), (2, vI y), (3, vI t), (4, vI a), (5, vI i)] [] := by
    intro n8
    induction n8 with
    | zero => intro a i hi ha hm8; exact absurd hm8 (Nat.not_lt_zero _)
    | succ n8 ih8 =>
      intro a i hi ha hm8
      refine g_iload F 5 rfl d_X9_textOf_8 ?_
      refine g_iload_n F 3 rfl rfl d_X9_textOf_10 ?_
      refine g_icmp_ge F d_X9_textOf_11 ⟨by omega, by omega⟩ ⟨by omega, by omega⟩ (fun h11 => ?_) (fun h11 => ?_)
      · refine g_iload F 4 rfl d_X9_textOf_37 ?_
        exact hQ d_X9_textOf_39 (⟨by rw [ha, show i = t by omega], rfl⟩)
      · have hb := hh i hi.1 (by omega)
        refine g_iload F 4 rfl d_X9_textOf_14 ?_
        refine g_aload_n F 0 rfl rfl d_X9_textOf_16 ?_
        refine g_getR F f_X9_13 d_X9_textOf_17 (hsM_30 hs) rfl ?_
        refine g_bipush F (by decide) d_X9_textOf_20 ?_
        refine g_iload_n F 1 rfl rfl d_X9_textOf_22 ?_
        refine g_imul F d_X9_textOf_23 ?_
        refine g_iload F 4 rfl d_X9_textOf_24 ?_
        refine g_iadd F d_X9_textOf_26 ?_
        refine G_top (b := tp (σ 32) (x * 30 + y) i) (by rw [ha]; omega) ?_
        refine g_iaload F d_X9_textOf_27 (hsM_32 hs) (by omega) (by omega) (by decide) ?_
        refine g_iadd F d_X9_textOf_28 ?_
        refine g_istore F (lv' := [(4, vI (a + (σ 32 (tp (σ 32) (x * 30 + y) i)))), (0, .ref (q 30)), (1, vI x), (2, vI y), (3, vI t), (5, vI i)]) (by decide) rfl d_X9_textOf_29 ?_
        refine g_iinc F (lv' := [(5, vI (i + 1)), (4, vI (a + (σ 32 (tp (σ 32) (x * 30 + y) i)))), (0, .ref (q 30)), (1, vI x), (2, vI y), (3, vI t)]) 5 rfl rfl (by decide) rfl d_X9_textOf_31 ?_
        refine g_goto F d_X9_textOf_34 ?_
        refine G_sub (ks := [2, 3, 4, 5, 1, 0]) rfl ?_
        exact ih8 (a + (σ 32 (tp (σ 32) (x * 30 + y) i))) (i + 1) (by omega) (by rw [tp_succ _ _ _ hi.1, ha]; omega) (by omega)
  refine G_sub (ks := [2, 3, 4, 5, 1, 0]) rfl ?_
  exact loop8 _ (y + 1) 0 (by omega) (by rw [tp_0]; omega) (Nat.lt_succ_self _)
set_option maxHeartbeats 1000000 in
theorem c_X9_findMay (l : Launch) (E : Ev) (q : Nat → Nat) (sh : List Shp) (σ : Sg) (hs : HsM sh) (x y : Int) (hx : 0 ≤ x ∧ x < 4) (hy : 0 ≤ y ∧ y < 8) (hM : MOK σ) (hT : MTR σ) (hC : C2 σ) : CV l E yX9_findMay cX9_findMay 8 ({ frames := 2, cells := 0, slots := 0, locals := 45 } : Room) q sh σ [.ref (q 30), vI x, vI y] (fun τ => Sm [39] σ τ ∧ C2 τ ∧ (∀ j, 0 ≤ j → j < σ 34 x → τ 39 j = 0 ∨ τ 39 j = 1) ∧ Sol (σ 31) (σ 32) (mtb σ) (Vb τ x) y (x * 30) (σ 34 x)) := by
  have hB := (hM.1 x hx.1 hx.2).1
  have hn1 := hB.1
  have hn2 := hB.2.1
  refine CV_of (own := RX9) (by decide) rfl (Nat.le_of_ble_eq_true rfl) (fun X Q F hQ => ?_)
  show G X E 8 q sh σ 0 0 Q 0 [(0, .ref (q 30)), (1, vI x), (2, vI y)] []
  refine g_aload_n F 0 rfl rfl d_X9_findMay_0 ?_
  refine g_getR F f_X9_19 d_X9_findMay_1 (hsM_30 hs) rfl ?_
  refine g_iload_n F 1 rfl rfl d_X9_findMay_4 ?_
  refine g_iaload F d_X9_findMay_5 (hsM_34 hs) (by omega) (by omega) (by decide) ?_
  refine g_iconst F d_X9_findMay_6 ?_
  refine g_isub F d_X9_findMay_7 ?_
  refine g_istore_n F (lv' := [(3, vI ((σ 34 x) - 1)), (0, .ref (q 30)), (1, vI x), (2, vI y)]) rfl (by decide) rfl d_X9_findMay_8 ?_
  have loop9 : ∀ (nn : Nat) (i : Int) (τ : Sg), (-1 ≤ i ∧ i ≤ σ 34 x - 1) → (Sm [39] σ τ) → (C2 τ) → (∀ j, i < j → j < σ 34 x → τ 39 j = 0 ∨ τ 39 j = 1) → (∀ j, i < j → j < σ 34 x → Vb τ x (x * 30 + j) = mvl (σ 31) (σ 32) (mtb σ) (Vb τ x) y (x * 30 + j)) → (i + 1).toNat < nn → G X E 8 q sh τ 0 0 Q 9 [(0, .ref (q 30)), (1, vI x), (2, vI y), (3, vI i)] [] := by
    intro n9
    induction n9 with
    | zero => intro i τ hi hm hC1 hin hso hm9; exact absurd hm9 (Nat.not_lt_zero _)
    | succ n9 ih9 =>
      intro i τ hi hm hC1 hin hso hm9
      have g31 : τ 31 = σ 31 := hm 31 (by decide)
      have g32 : τ 32 = σ 32 := hm 32 (by decide)
      have g37 : τ 37 = σ 37 := hm 37 (by decide)
      refine g_iload_n F 3 rfl rfl d_X9_findMay_9 ?_
      refine g_if_lt F d_X9_findMay_10 ⟨by omega, by omega⟩ (fun h10 => ?_) (fun h10 => ?_)
      · exact hQ d_X9_findMay_234 (⟨hm, hC1, fun j a b => hin j (by omega) b, fun p a b => by have h9 := hso (p - x * 30) (by omega) (by omega); rw [show x * 30 + (p - x * 30) = p by omega] at h9; exact h9⟩)
      · have hch := (hB.2.2.2.2 (x * 30 + i) (by omega) (by omega)).2.1
        have hvd := (hM.1 x hx.1 hx.2).2 (x * 30 + i) (by omega) (by omega)
        have hkd := kd_in (σ 31 (x * 30 + i))
        have hrg := hM.2 (x * 30 + i)
        have hrg1 := hrg.1
        have hrg2 := hrg.2
        have hcb := cb_in (σ 31 (x * 30 + i))
        refine g_aload_n F 0 rfl rfl d_X9_findMay_13 ?_
        refine g_getR F f_X9_7 d_X9_findMay_14 (hsM_30 hs) rfl ?_
        refine g_bipush F (by decide) d_X9_findMay_17 ?_
        refine g_iload_n F 1 rfl rfl d_X9_findMay_19 ?_
        refine g_imul F d_X9_findMay_20 ?_
        refine g_iload_n F 3 rfl rfl d_X9_findMay_21 ?_
        refine g_iadd F d_X9_findMay_22 ?_
        refine G_top (b := x * 30 + i) (by omega) ?_
        refine g_iaload F d_X9_findMay_23 (hsM_31 hs) (by omega) (by omega) (by decide) ?_
        refine G_top (b := σ 31 (x * 30 + i)) (by rw [g31]) ?_
        refine g_istore F (lv' := [(4, vI (σ 31 (x * 30 + i))), (0, .ref (q 30)), (1, vI x), (2, vI y), (3, vI i)]) (by decide) rfl d_X9_findMay_24 ?_
        refine g_iload F 0 rfl d_X9_findMay_26 ?_
        refine g_Si F (own := RX9) (c_X9_calledBy l E q sh τ (σ 31 (x * 30 + i)) hrg) k_X9_81 [] d_X9_findMay_28 ⟨rfl, rfl, by decide, by decide⟩ ⟨Nat.zero_le _, Nat.zero_le _⟩ rfl (Nat.le_of_ble_eq_true rfl) ?_
        rintro _ _ ⟨rfl, rfl⟩
        refine G_top (b := cb (σ 31 (x * 30 + i))) (rfl) ?_
        refine g_istore F (lv' := [(5, vI (cb (σ 31 (x * 30 + i)))), (4, vI (σ 31 (x * 30 + i))), (0, .ref (q 30)), (1, vI x), (2, vI y), (3, vI i)]) (by decide) rfl d_X9_findMay_31 ?_
        refine g_iload F 0 rfl d_X9_findMay_33 ?_
        refine g_if_lt F d_X9_findMay_35 ⟨by omega, by omega⟩ (fun h35 => ?_) (fun h35 => ?_)
        · have n6 : kd (σ 31 (x * 30 + i)) ≠ 6 := fun z => by have := cb_iff.mpr z; omega
          have k5 : kd (σ 31 (x * 30 + i)) = 5 ↔ σ 31 (x * 30 + i) = 63 := kd_5
          have k2 : kd (σ 31 (x * 30 + i)) = 2 ↔ σ 31 (x * 30 + i) = 33 := kd_2
          refine g_iload F 1 rfl d_X9_findMay_102 ?_
          refine g_Si F (own := RX9) (c_X9_isAct l E q sh τ (σ 31 (x * 30 + i)) hrg) k_X9_88 [] d_X9_findMay_104 ⟨rfl, rfl, by decide, by decide⟩ ⟨Nat.zero_le _, Nat.zero_le _⟩ rfl (Nat.le_of_ble_eq_true rfl) ?_
          rintro _ _ ⟨rfl, rfl⟩
          refine g_b_eq F d_X9_findMay_107 (fun h107 => ?_) (fun h107 => ?_)
          · refine g_iload F 1 rfl d_X9_findMay_140 ?_
            refine g_bipush F (by decide) d_X9_findMay_142 ?_
            refine g_icmp_ne F d_X9_findMay_144 ⟨by omega, by omega⟩ ⟨by decide, by decide⟩ (fun h144 => ?_) (fun h144 => ?_)
            · refine g_aload_n F 2 rfl rfl d_X9_findMay_190 ?_
              refine g_getR F f_X9_34 d_X9_findMay_191 (hsM_30 hs) rfl ?_
              refine g_iload_n F 5 rfl rfl d_X9_findMay_194 ?_
              refine g_iload F 1 rfl d_X9_findMay_195 ?_
              refine g_Si F (own := RX9) (c_X9_isArgument l E q sh τ (σ 31 (x * 30 + i)) hrg) k_X9_92 [vI i, .ref (q 39)] d_X9_findMay_197 ⟨rfl, rfl, by decide, by decide⟩ ⟨Nat.zero_le _, Nat.zero_le _⟩ rfl (Nat.le_of_ble_eq_true rfl) ?_
              rintro _ _ ⟨rfl, rfl⟩
              refine g_b_eq F d_X9_findMay_200 (fun h200 => ?_) (fun h200 => ?_)
              · refine g_iload F 1 rfl d_X9_findMay_215 ?_
                refine g_bipush F (by decide) d_X9_findMay_217 ?_
                refine g_icmp_ne F d_X9_findMay_219 ⟨by omega, by omega⟩ ⟨by decide, by decide⟩ (fun h219 => ?_) (fun h219 => ?_)
                · refine g_iconst F d_X9_findMay_226 ?_
                  refine G_top (b := b2 (mvl (σ 31) (σ 32) (mtb σ) (Vb τ x) y (x * 30 + i))) (by rw [mvl_1 (by omega)]; rfl) ?_
                  refine g_iastore F d_X9_findMay_227 (hsM_39 hs) (by omega) (by omega) (by decide) ?_
                  refine g_iinc F (lv' := [(3, vI (i + (-1))), (5, vI (cb (σ 31 (x * 30 + i)))), (4, vI (σ 31 (x * 30 + i))), (0, .ref (q 30)), (1, vI x), (2, vI y)]) 5 rfl rfl (by decide) rfl d_X9_findMay_228 ?_
                  refine g_goto F d_X9_findMay_231 ?_
                  have w1 := b2_01 (mvl (σ 31) (σ 32) (mtb σ) (Vb τ x) y (x * 30 + i))
                  have q1 : C2 (up τ 39 i (b2 (mvl (σ 31) (σ 32) (mtb σ) (Vb τ x) y (x * 30 + i)))) := by
                    intro j
                    rw [up_at]
                    split
                    · omega
                    · exact hC1 j
                  have q2 : ∀ j, i + (-1) < j → j < σ 34 x → (up τ 39 i (b2 (mvl (σ 31) (σ 32) (mtb σ) (Vb τ x) y (x * 30 + i)))) 39 j = 0 ∨ (up τ 39 i (b2 (mvl (σ 31) (σ 32) (mtb σ) (Vb τ x) y (x * 30 + i)))) 39 j = 1 := by
                    intro j a b
                    rw [up_at]
                    split
                    · exact w1
                    · exact hin j (by omega) b
                  have q3 : ∀ j, i + (-1) < j → j < σ 34 x → Vb (up τ 39 i (b2 (mvl (σ 31) (σ 32) (mtb σ) (Vb τ x) y (x * 30 + i)))) x (x * 30 + j) = mvl (σ 31) (σ 32) (mtb σ) (Vb (up τ 39 i (b2 (mvl (σ 31) (σ 32) (mtb σ) (Vb τ x) y (x * 30 + i)))) x) y (x * 30 + j) := by
                    intro j a b
                    have key : mvl (σ 31) (σ 32) (mtb σ) (Vb τ x) y (x * 30 + j) = mvl (σ 31) (σ 32) (mtb σ) (Vb (up τ 39 i (b2 (mvl (σ 31) (σ 32) (mtb σ) (Vb τ x) y (x * 30 + i)))) x) y (x * 30 + j) := by
                      apply mvl_congr
                      intro t h0 h1
                      have h7 := (hB.2.2.2.2 (x * 30 + j) (by omega) (by omega)).2.1 t h0 h1
                      unfold Vb
                      rw [up_other _ _ (show tp (σ 32) (x * 30 + j) t - x * 30 ≠ i by omega)]
                    rw [← key]
                    by_cases e : j = i
                    · rw [e]
                      apply b2_inj
                      have h8 := Vb_b2 (σ := (up τ 39 i (b2 (mvl (σ 31) (σ 32) (mtb σ) (Vb τ x) y (x * 30 + i))))) (x := x) (q2 i (by omega) (by omega))
                      rw [← h8, up_same]
                    · rw [← hso j (by omega) b]
                      unfold Vb
                      rw [up_other _ _ (show x * 30 + j - x * 30 ≠ i by omega)]
                  refine G_sub (ks := [3, 4, 5, 0]) rfl ?_
                  exact ih9 (i + (-1)) (up τ 39 i (b2 (mvl (σ 31) (σ 32) (mtb σ) (Vb τ x) y (x * 30 + i)))) (by omega) (hm.up (by decide) _ _) q1 q2 q3 (by omega)
                · refine g_iconst F d_X9_findMay_222 ?_
                  refine G_top (b := b2 (mvl (σ 31) (σ 32) (mtb σ) (Vb τ x) y (x * 30 + i))) (by rw [mvl_2 (k2.mpr h219)]; rfl) ?_
                  refine g_goto F d_X9_findMay_223 ?_
                  refine g_iastore F d_X9_findMay_227 (hsM_39 hs) (by omega) (by omega) (by decide) ?_
                  refine g_iinc F (lv' := [(3, vI (i + (-1))), (5, vI (cb (σ 31 (x * 30 + i)))), (4, vI (σ 31 (x * 30 + i))), (0, .ref (q 30)), (1, vI x), (2, vI y)]) 5 rfl rfl (by decide) rfl d_X9_findMay_228 ?_
                  refine g_goto F d_X9_findMay_231 ?_
                  have w1 := b2_01 (mvl (σ 31) (σ 32) (mtb σ) (Vb τ x) y (x * 30 + i))
                  have q1 : C2 (up τ 39 i (b2 (mvl (σ 31) (σ 32) (mtb σ) (Vb τ x) y (x * 30 + i)))) := by
                    intro j
                    rw [up_at]
                    split
                    · omega
                    · exact hC1 j
                  have q2 : ∀ j, i + (-1) < j → j < σ 34 x → (up τ 39 i (b2 (mvl (σ 31) (σ 32) (mtb σ) (Vb τ x) y (x * 30 + i)))) 39 j = 0 ∨ (up τ 39 i (b2 (mvl (σ 31) (σ 32) (mtb σ) (Vb τ x) y (x * 30 + i)))) 39 j = 1 := by
                    intro j a b
                    rw [up_at]
                    split
                    · exact w1
                    · exact hin j (by omega) b
                  have q3 : ∀ j, i + (-1) < j → j < σ 34 x → Vb (up τ 39 i (b2 (mvl (σ 31) (σ 32) (mtb σ) (Vb τ x) y (x * 30 + i)))) x (x * 30 + j) = mvl (σ 31) (σ 32) (mtb σ) (Vb (up τ 39 i (b2 (mvl (σ 31) (σ 32) (mtb σ) (Vb τ x) y (x * 30 + i)))) x) y (x * 30 + j) := by
                    intro j a b
                    have key : mvl (σ 31) (σ 32) (mtb σ) (Vb τ x) y (x * 30 + j) = mvl (σ 31) (σ 32) (mtb σ) (Vb (up τ 39 i (b2 (mvl (σ 31) (σ 32) (mtb σ) (Vb τ x) y (x * 30 + i)))) x) y (x * 30 + j) := by
                      apply mvl_congr
                      intro t h0 h1
                      have h7 := (hB.2.2.2.2 (x * 30 + j) (by omega) (by omega)).2.1 t h0 h1
                      unfold Vb
                      rw [up_other _ _ (show tp (σ 32) (x * 30 + j) t - x * 30 ≠ i by omega)]
                    rw [← key]
                    by_cases e : j = i
                    · rw [e]
                      apply b2_inj
                      have h8 := Vb_b2 (σ := (up τ 39 i (b2 (mvl (σ 31) (σ 32) (mtb σ) (Vb τ x) y (x * 30 + i))))) (x := x) (q2 i (by omega) (by omega))
                      rw [← h8, up_same]
                    · rw [← hso j (by omega) b]
                      unfold Vb
                      rw [up_other _ _ (show x * 30 + j - x * 30 ≠ i by omega)]
                  refine G_sub (ks := [3, 4, 5, 0]) rfl ?_
                  exact ih9 (i + (-1)) (up τ 39 i (b2 (mvl (σ 31) (σ 32) (mtb σ) (Vb τ x) y (x * 30 + i)))) (by omega) (hm.up (by decide) _ _) q1 q2 q3 (by omega)
              · have w3 := wo_3 h200
                have b3 := kd_3.mp h200
                refine g_iload_n F 4 rfl rfl d_X9_findMay_203 ?_
                refine g_iload F 1 rfl d_X9_findMay_204 ?_
                refine g_bipush F (by decide) d_X9_findMay_206 ?_
                refine g_isub F d_X9_findMay_208 ?_
                refine g_ishr F d_X9_findMay_209 ?_
                refine g_iconst F d_X9_findMay_210 ?_
                refine g_iand F d_X9_findMay_211 ?_
                refine G_top (b := b2 (mvl (σ 31) (σ 32) (mtb σ) (Vb τ x) y (x * 30 + i))) (by rw [mvl_3 h200, w3]; exact bit_eq (by omega) (by omega)) ?_
                refine g_goto F d_X9_findMay_212 ?_
                refine g_iastore F d_X9_findMay_227 (hsM_39 hs) (by omega) (by omega) (by decide) ?_
                refine g_iinc F (lv' := [(3, vI (i + (-1))), (5, vI (cb (σ 31 (x * 30 + i)))), (4, vI (σ 31 (x * 30 + i))), (0, .ref (q 30)), (1, vI x), (2, vI y)]) 5 rfl rfl (by decide) rfl d_X9_findMay_228 ?_
                refine g_goto F d_X9_findMay_231 ?_
                have w1 := b2_01 (mvl (σ 31) (σ 32) (mtb σ) (Vb τ x) y (x * 30 + i))
                have q1 : C2 (up τ 39 i (b2 (mvl (σ 31) (σ 32) (mtb σ) (Vb τ x) y (x * 30 + i)))) := by
                  intro j
                  rw [up_at]
                  split
                  · omega
                  · exact hC1 j
                have q2 : ∀ j, i + (-1) < j → j < σ 34 x → (up τ 39 i (b2 (mvl (σ 31) (σ 32) (mtb σ) (Vb τ x) y (x * 30 + i)))) 39 j = 0 ∨ (up τ 39 i (b2 (mvl (σ 31) (σ 32) (mtb σ) (Vb τ x) y (x * 30 + i)))) 39 j = 1 := by
                  intro j a b
                  rw [up_at]
                  split
                  · exact w1
                  · exact hin j (by omega) b
                have q3 : ∀ j, i + (-1) < j → j < σ 34 x → Vb (up τ 39 i (b2 (mvl (σ 31) (σ 32) (mtb σ) (Vb τ x) y (x * 30 + i)))) x (x * 30 + j) = mvl (σ 31) (σ 32) (mtb σ) (Vb (up τ 39 i (b2 (mvl (σ 31) (σ 32) (mtb σ) (Vb τ x) y (x * 30 + i)))) x) y (x * 30 + j) := by
                  intro j a b
                  have key : mvl (σ 31) (σ 32) (mtb σ) (Vb τ x) y (x * 30 + j) = mvl (σ 31) (σ 32) (mtb σ) (Vb (up τ 39 i (b2 (mvl (σ 31) (σ 32) (mtb σ) (Vb τ x) y (x * 30 + i)))) x) y (x * 30 + j) := by
                    apply mvl_congr
                    intro t h0 h1
                    have h7 := (hB.2.2.2.2 (x * 30 + j) (by omega) (by omega)).2.1 t h0 h1
                    unfold Vb
                    rw [up_other _ _ (show tp (σ 32) (x * 30 + j) t - x * 30 ≠ i by omega)]
                  rw [← key]
                  by_cases e : j = i
                  · rw [e]
                    apply b2_inj
                    have h8 := Vb_b2 (σ := (up τ 39 i (b2 (mvl (σ 31) (σ 32) (mtb σ) (Vb τ x) y (x * 30 + i))))) (x := x) (q2 i (by omega) (by omega))
                    rw [← h8, up_same]
                  · rw [← hso j (by omega) b]
                    unfold Vb
                    rw [up_other _ _ (show x * 30 + j - x * 30 ≠ i by omega)]
                refine G_sub (ks := [3, 4, 5, 0]) rfl ?_
                exact ih9 (i + (-1)) (up τ 39 i (b2 (mvl (σ 31) (σ 32) (mtb σ) (Vb τ x) y (x * 30 + i)))) (by omega) (hm.up (by decide) _ _) q1 q2 q3 (by omega)
            · have hk5 := k5.mpr h144
              have ht9 := tx_5 hk5
              have c0 := hch 0 (by omega) (by omega)
              have c1 := hch 1 (by omega) (by omega)
              have c2 := hch 2 (by omega) (by omega)
              have e0 := tp_0 (σ 32) (x * 30 + i)
              refine g_aload_n F 2 rfl rfl d_X9_findMay_147 ?_
              refine g_getR F f_X9_34 d_X9_findMay_148 (hsM_30 hs) rfl ?_
              refine g_iload_n F 5 rfl rfl d_X9_findMay_151 ?_
              refine g_aload_n F 2 rfl rfl d_X9_findMay_152 ?_
              refine g_getR F f_X9_34 d_X9_findMay_153 (hsM_30 hs) rfl ?_
              refine g_iload_n F 5 rfl rfl d_X9_findMay_156 ?_
              refine g_iconst F d_X9_findMay_157 ?_
              refine g_iadd F d_X9_findMay_158 ?_
              refine G_top (b := tp (σ 32) (x * 30 + i) 0 - x * 30) (by rw [e0]; omega) ?_
              refine g_iaload F d_X9_findMay_159 (hsM_39 hs) (by omega) (by omega) (by decide) ?_
              refine G_top (b := b2 (Vb τ x (tp (σ 32) (x * 30 + i) 0))) (Vb_tp (hin (tp (σ 32) (x * 30 + i) 0 - x * 30) (by omega) (by omega))) ?_
              refine g_aload_n F 2 rfl rfl d_X9_findMay_160 ?_
              refine g_getR F f_X9_34 d_X9_findMay_161 (hsM_30 hs) rfl ?_
              refine g_aload_n F 2 rfl rfl d_X9_findMay_164 ?_
              refine g_iload_n F 3 rfl rfl d_X9_findMay_165 ?_
              refine g_iload_n F 5 rfl rfl d_X9_findMay_166 ?_
              refine g_iconst F d_X9_findMay_167 ?_
              refine g_Vi F (own := RX9) (c_X9_textOf l E q sh τ hs x i 1 hx (by omega) (fun j h0 h1 => by rw [g32]; have h9 := hch j h0 (by omega); omega)) k_X9_113 (hsM_30 hs) rfl rfl [.ref (q 39), vI (b2 (Vb τ x (tp (σ 32) (x * 30 + i) 0))), vI i, .ref (q 39)] d_X9_findMay_168 ⟨rfl, rfl, by decide, by decide⟩ ⟨Nat.zero_le _, Nat.zero_le _⟩ rfl (Nat.le_of_ble_eq_true rfl) ?_
              rintro _ _ ⟨rfl, rfl⟩
              refine G_top (b := tp (σ 32) (x * 30 + i) 1 - x * 30) (by rw [g32]) ?_
              refine g_iaload F d_X9_findMay_171 (hsM_39 hs) (by omega) (by omega) (by decide) ?_
              refine G_top (b := b2 (Vb τ x (tp (σ 32) (x * 30 + i) 1))) (Vb_tp (hin (tp (σ 32) (x * 30 + i) 1 - x * 30) (by omega) (by omega))) ?_
              refine g_aload_n F 2 rfl rfl d_X9_findMay_172 ?_
              refine g_getR F f_X9_34 d_X9_findMay_173 (hsM_30 hs) rfl ?_
              refine g_aload_n F 2 rfl rfl d_X9_findMay_176 ?_
              refine g_iload_n F 3 rfl rfl d_X9_findMay_177 ?_
              refine g_iload_n F 5 rfl rfl d_X9_findMay_178 ?_
              refine g_iconst F d_X9_findMay_179 ?_
              refine g_Vi F (own := RX9) (c_X9_textOf l E q sh τ hs x i 2 hx (by omega) (fun j h0 h1 => by rw [g32]; have h9 := hch j h0 (by omega); omega)) k_X9_113 (hsM_30 hs) rfl rfl [.ref (q 39), vI (b2 (Vb τ x (tp (σ 32) (x * 30 + i) 1))), vI (b2 (Vb τ x (tp (σ 32) (x * 30 + i) 0))), vI i, .ref (q 39)] d_X9_findMay_180 ⟨rfl, rfl, by decide, by decide⟩ ⟨Nat.zero_le _, Nat.zero_le _⟩ rfl (Nat.le_of_ble_eq_true rfl) ?_
              rintro _ _ ⟨rfl, rfl⟩
              refine G_top (b := tp (σ 32) (x * 30 + i) 2 - x * 30) (by rw [g32]) ?_
              refine g_iaload F d_X9_findMay_183 (hsM_39 hs) (by omega) (by omega) (by decide) ?_
              refine G_top (b := b2 (Vb τ x (tp (σ 32) (x * 30 + i) 2))) (Vb_tp (hin (tp (σ 32) (x * 30 + i) 2 - x * 30) (by omega) (by omega))) ?_
              refine g_ior F d_X9_findMay_184 ?_
              refine g_iand F d_X9_findMay_185 ?_
              refine G_top (b := b2 (mvl (σ 31) (σ 32) (mtb σ) (Vb τ x) y (x * 30 + i))) (by rw [or_b2, and_b2, mvl_5 hk5]) ?_
              refine g_iastore F d_X9_findMay_186 (hsM_39 hs) (by omega) (by omega) (by decide) ?_
              refine g_goto F d_X9_findMay_187 ?_
              refine g_iinc F (lv' := [(3, vI (i + (-1))), (5, vI (cb (σ 31 (x * 30 + i)))), (4, vI (σ 31 (x * 30 + i))), (0, .ref (q 30)), (1, vI x), (2, vI y)]) 5 rfl rfl (by decide) rfl d_X9_findMay_228 ?_
              refine g_goto F d_X9_findMay_231 ?_
              have w1 := b2_01 (mvl (σ 31) (σ 32) (mtb σ) (Vb τ x) y (x * 30 + i))
              have q1 : C2 (up τ 39 i (b2 (mvl (σ 31) (σ 32) (mtb σ) (Vb τ x) y (x * 30 + i)))) := by
                intro j
                rw [up_at]
                split
                · omega
                · exact hC1 j
              have q2 : ∀ j, i + (-1) < j → j < σ 34 x → (up τ 39 i (b2 (mvl (σ 31) (σ 32) (mtb σ) (Vb τ x) y (x * 30 + i)))) 39 j = 0 ∨ (up τ 39 i (b2 (mvl (σ 31) (σ 32) (mtb σ) (Vb τ x) y (x * 30 + i)))) 39 j = 1 := by
                intro j a b
                rw [up_at]
                split
                · exact w1
                · exact hin j (by omega) b
              have q3 : ∀ j, i + (-1) < j → j < σ 34 x → Vb (up τ 39 i (b2 (mvl (σ 31) (σ 32) (mtb σ) (Vb τ x) y (x * 30 + i)))) x (x * 30 + j) = mvl (σ 31) (σ 32) (mtb σ) (Vb (up τ 39 i (b2 (mvl (σ 31) (σ 32) (mtb σ) (Vb τ x) y (x * 30 + i)))) x) y (x * 30 + j) := by
                intro j a b
                have key : mvl (σ 31) (σ 32) (mtb σ) (Vb τ x) y (x * 30 + j) = mvl (σ 31) (σ 32) (mtb σ) (Vb (up τ 39 i (b2 (mvl (σ 31) (σ 32) (mtb σ) (Vb τ x) y (x * 30 + i)))) x) y (x * 30 + j) := by
                  apply mvl_congr
                  intro t h0 h1
                  have h7 := (hB.2.2.2.2 (x * 30 + j) (by omega) (by omega)).2.1 t h0 h1
                  unfold Vb
                  rw [up_other _ _ (show tp (σ 32) (x * 30 + j) t - x * 30 ≠ i by omega)]
                rw [← key]
                by_cases e : j = i
                · rw [e]
                  apply b2_inj
                  have h8 := Vb_b2 (σ := (up τ 39 i (b2 (mvl (σ 31) (σ 32) (mtb σ) (Vb τ x) y (x * 30 + i))))) (x := x) (q2 i (by omega) (by omega))
                  rw [← h8, up_same]
                · rw [← hso j (by omega) b]
                  unfold Vb
                  rw [up_other _ _ (show x * 30 + j - x * 30 ≠ i by omega)]
              refine G_sub (ks := [3, 4, 5, 0]) rfl ?_
              exact ih9 (i + (-1)) (up τ 39 i (b2 (mvl (σ 31) (σ 32) (mtb σ) (Vb τ x) y (x * 30 + i)))) (by omega) (hm.up (by decide) _ _) q1 q2 q3 (by omega)
          · have ht9 := tx_4 h107
            have c0 := hch 0 (by omega) (by omega)
            have c1 := hch 1 (by omega) (by omega)
            have e0 := tp_0 (σ 32) (x * 30 + i)
            refine g_aload_n F 2 rfl rfl d_X9_findMay_110 ?_
            refine g_getR F f_X9_34 d_X9_findMay_111 (hsM_30 hs) rfl ?_
            refine g_iload_n F 5 rfl rfl d_X9_findMay_114 ?_
            refine g_aload_n F 2 rfl rfl d_X9_findMay_115 ?_
            refine g_getR F f_X9_34 d_X9_findMay_116 (hsM_30 hs) rfl ?_
            refine g_iload_n F 5 rfl rfl d_X9_findMay_119 ?_
            refine g_iconst F d_X9_findMay_120 ?_
            refine g_iadd F d_X9_findMay_121 ?_
            refine G_top (b := tp (σ 32) (x * 30 + i) 0 - x * 30) (by rw [e0]; omega) ?_
            refine g_iaload F d_X9_findMay_122 (hsM_39 hs) (by omega) (by omega) (by decide) ?_
            refine G_top (b := b2 (Vb τ x (tp (σ 32) (x * 30 + i) 0))) (Vb_tp (hin (tp (σ 32) (x * 30 + i) 0 - x * 30) (by omega) (by omega))) ?_
            refine g_aload_n F 2 rfl rfl d_X9_findMay_123 ?_
            refine g_getR F f_X9_34 d_X9_findMay_124 (hsM_30 hs) rfl ?_
            refine g_aload_n F 2 rfl rfl d_X9_findMay_127 ?_
            refine g_iload_n F 3 rfl rfl d_X9_findMay_128 ?_
            refine g_iload_n F 5 rfl rfl d_X9_findMay_129 ?_
            refine g_iconst F d_X9_findMay_130 ?_
            refine g_Vi F (own := RX9) (c_X9_textOf l E q sh τ hs x i 1 hx (by omega) (fun j h0 h1 => by rw [g32]; have h9 := hch j h0 (by omega); omega)) k_X9_113 (hsM_30 hs) rfl rfl [.ref (q 39), vI (b2 (Vb τ x (tp (σ 32) (x * 30 + i) 0))), vI i, .ref (q 39)] d_X9_findMay_131 ⟨rfl, rfl, by decide, by decide⟩ ⟨Nat.zero_le _, Nat.zero_le _⟩ rfl (Nat.le_of_ble_eq_true rfl) ?_
            rintro _ _ ⟨rfl, rfl⟩
            refine G_top (b := tp (σ 32) (x * 30 + i) 1 - x * 30) (by rw [g32]) ?_
            refine g_iaload F d_X9_findMay_134 (hsM_39 hs) (by omega) (by omega) (by decide) ?_
            refine G_top (b := b2 (Vb τ x (tp (σ 32) (x * 30 + i) 1))) (Vb_tp (hin (tp (σ 32) (x * 30 + i) 1 - x * 30) (by omega) (by omega))) ?_
            refine g_iand F d_X9_findMay_135 ?_
            refine G_top (b := b2 (mvl (σ 31) (σ 32) (mtb σ) (Vb τ x) y (x * 30 + i))) (by rw [and_b2, mvl_4 h107]) ?_
            refine g_iastore F d_X9_findMay_136 (hsM_39 hs) (by omega) (by omega) (by decide) ?_
            refine g_goto F d_X9_findMay_137 ?_
            refine g_iinc F (lv' := [(3, vI (i + (-1))), (5, vI (cb (σ 31 (x * 30 + i)))), (4, vI (σ 31 (x * 30 + i))), (0, .ref (q 30)), (1, vI x), (2, vI y)]) 5 rfl rfl (by decide) rfl d_X9_findMay_228 ?_
            refine g_goto F d_X9_findMay_231 ?_
            have w1 := b2_01 (mvl (σ 31) (σ 32) (mtb σ) (Vb τ x) y (x * 30 + i))
            have q1 : C2 (up τ 39 i (b2 (mvl (σ 31) (σ 32) (mtb σ) (Vb τ x) y (x * 30 + i)))) := by
              intro j
              rw [up_at]
              split
              · omega
              · exact hC1 j
            have q2 : ∀ j, i + (-1) < j → j < σ 34 x → (up τ 39 i (b2 (mvl (σ 31) (σ 32) (mtb σ) (Vb τ x) y (x * 30 + i)))) 39 j = 0 ∨ (up τ 39 i (b2 (mvl (σ 31) (σ 32) (mtb σ) (Vb τ x) y (x * 30 + i)))) 39 j = 1 := by
              intro j a b
              rw [up_at]
              split
              · exact w1
              · exact hin j (by omega) b
            have q3 : ∀ j, i + (-1) < j → j < σ 34 x → Vb (up τ 39 i (b2 (mvl (σ 31) (σ 32) (mtb σ) (Vb τ x) y (x * 30 + i)))) x (x * 30 + j) = mvl (σ 31) (σ 32) (mtb σ) (Vb (up τ 39 i (b2 (mvl (σ 31) (σ 32) (mtb σ) (Vb τ x) y (x * 30 + i)))) x) y (x * 30 + j) := by
              intro j a b
              have key : mvl (σ 31) (σ 32) (mtb σ) (Vb τ x) y (x * 30 + j) = mvl (σ 31) (σ 32) (mtb σ) (Vb (up τ 39 i (b2 (mvl (σ 31) (σ 32) (mtb σ) (Vb τ x) y (x * 30 + i)))) x) y (x * 30 + j) := by
                apply mvl_congr
                intro t h0 h1
                have h7 := (hB.2.2.2.2 (x * 30 + j) (by omega) (by omega)).2.1 t h0 h1
                unfold Vb
                rw [up_other _ _ (show tp (σ 32) (x * 30 + j) t - x * 30 ≠ i by omega)]
              rw [← key]
              by_cases e : j = i
              · rw [e]
                apply b2_inj
                have h8 := Vb_b2 (σ := (up τ 39 i (b2 (mvl (σ 31) (σ 32) (mtb σ) (Vb τ x) y (x * 30 + i))))) (x := x) (q2 i (by omega) (by omega))
                rw [← h8, up_same]
              · rw [← hso j (by omega) b]
                unfold Vb
                rw [up_other _ _ (show x * 30 + j - x * 30 ≠ i by omega)]
            refine G_sub (ks := [3, 4, 5, 0]) rfl ?_
            exact ih9 (i + (-1)) (up τ 39 i (b2 (mvl (σ 31) (σ 32) (mtb σ) (Vb τ x) y (x * 30 + i)))) (by omega) (hm.up (by decide) _ _) q1 q2 q3 (by omega)
        · have hk := cb_iff.mp (by omega : 0 ≤ cb (σ 31 (x * 30 + i)))
          have ht9 := tx_6 hk
          have hw6 := wo_6 hk
          have e6 := cb_6 hk
          have hna := nA_in (wo (σ 31 (x * 30 + i)))
          refine g_iconst F d_X9_findMay_38 ?_
          refine g_istore F (lv' := [(6, vI 0), (5, vI (cb (σ 31 (x * 30 + i)))), (4, vI (σ 31 (x * 30 + i))), (0, .ref (q 30)), (1, vI x), (2, vI y), (3, vI i)]) (by decide) rfl d_X9_findMay_39 ?_
          refine g_iconst F d_X9_findMay_41 ?_
          refine g_istore F (lv' := [(7, vI 0), (6, vI 0), (5, vI (cb (σ 31 (x * 30 + i)))), (4, vI (σ 31 (x * 30 + i))), (0, .ref (q 30)), (1, vI x), (2, vI y), (3, vI i)]) (by decide) rfl d_X9_findMay_42 ?_
          have loop44 : ∀ (nn : Nat) (d : Int) (t : Int), (0 ≤ t ∧ t ≤ nA (wo (σ 31 (x * 30 + i)))) → (d = c3 t (Vb τ x (tp (σ 32) (x * 30 + i) 0)) (Vb τ x (tp (σ 32) (x * 30 + i) 1)) (Vb τ x (tp (σ 32) (x * 30 + i) 2))) → (nA (wo (σ 31 (x * 30 + i))) - t).toNat < nn → G X E 8 q sh τ 0 0 Q 44 [(0, .ref (q 30)), (1, vI x), (2, vI y), (3, vI i), (4, vI (σ 31 (x * 30 + i))), (5, vI (cb (σ 31 (x * 30 + i)))), (6, vI d), (7, vI t)] [] := by
            intro n44
            induction n44 with
            | zero => intro d t ht hd hm44; exact absurd hm44 (Nat.not_lt_zero _)
            | succ n44 ih44 =>
              intro d t ht hd hm44
              refine g_iload F 7 rfl d_X9_findMay_44 ?_
              refine g_iload F 5 rfl d_X9_findMay_46 ?_
              refine g_Si F (own := RX9) (c_X9_argumentsOf l E q sh τ (cb (σ 31 (x * 30 + i))) (by omega)) k_X9_85 [vI t] d_X9_findMay_48 ⟨rfl, rfl, by decide, by decide⟩ ⟨Nat.zero_le _, Nat.zero_le _⟩ rfl (Nat.le_of_ble_eq_true rfl) ?_
              rintro _ _ ⟨rfl, rfl⟩
              refine G_top (b := nA (wo (σ 31 (x * 30 + i)))) (by rw [e6]) ?_
              refine g_icmp_ge F d_X9_findMay_51 ⟨by omega, by omega⟩ ⟨by omega, by omega⟩ (fun h51 => ?_) (fun h51 => ?_)
              · have hcc := c3_in (f := wo (σ 31 (x * 30 + i))) (Vb τ x (tp (σ 32) (x * 30 + i) 0)) (Vb τ x (tp (σ 32) (x * 30 + i) 1)) (Vb τ x (tp (σ 32) (x * 30 + i) 2))
                have haa := aA_in (wo (σ 31 (x * 30 + i)))
                refine g_aload_n F 0 rfl rfl d_X9_findMay_81 ?_
                refine g_getR F f_X9_34 d_X9_findMay_82 (hsM_30 hs) rfl ?_
                refine g_iload_n F 3 rfl rfl d_X9_findMay_85 ?_
                refine g_aload_n F 0 rfl rfl d_X9_findMay_86 ?_
                refine g_getR F f_X9_28 d_X9_findMay_87 (hsM_30 hs) rfl ?_
                refine g_iload F 5 rfl d_X9_findMay_90 ?_
                refine g_iaload F d_X9_findMay_92 (hsM_37 hs) (by omega) (by omega) (by decide) ?_
                refine G_top (b := σ 37 (wo (σ 31 (x * 30 + i)))) (by rw [g37, e6]) ?_
                refine g_iload F 6 rfl d_X9_findMay_93 ?_
                refine G_top (b := c3 (nA (wo (σ 31 (x * 30 + i)))) (Vb τ x (tp (σ 32) (x * 30 + i) 0)) (Vb τ x (tp (σ 32) (x * 30 + i) 1)) (Vb τ x (tp (σ 32) (x * 30 + i) 2))) (by rw [hd, show t = nA (wo (σ 31 (x * 30 + i))) by omega]) ?_
                refine g_ishr F d_X9_findMay_95 ?_
                refine g_iconst F d_X9_findMay_96 ?_
                refine g_iand F d_X9_findMay_97 ?_
                refine G_top (b := b2 (mvl (σ 31) (σ 32) (mtb σ) (Vb τ x) y (x * 30 + i))) (by rw [bit_eq (hT _) (by omega), mvl_6 hk]; rfl) ?_
                refine g_iastore F d_X9_findMay_98 (hsM_39 hs) (by omega) (by omega) (by decide) ?_
                refine g_goto F d_X9_findMay_99 ?_
                refine g_iinc F (lv' := [(3, vI (i + (-1))), (0, .ref (q 30)), (1, vI x), (2, vI y), (4, vI (σ 31 (x * 30 + i))), (5, vI (cb (σ 31 (x * 30 + i)))), (6, vI d), (7, vI t)]) 3 rfl rfl (by decide) rfl d_X9_findMay_228 ?_
                refine g_goto F d_X9_findMay_231 ?_
                have w1 := b2_01 (mvl (σ 31) (σ 32) (mtb σ) (Vb τ x) y (x * 30 + i))
                have q1 : C2 (up τ 39 i (b2 (mvl (σ 31) (σ 32) (mtb σ) (Vb τ x) y (x * 30 + i)))) := by
                  intro j
                  rw [up_at]
                  split
                  · omega
                  · exact hC1 j
                have q2 : ∀ j, i + (-1) < j → j < σ 34 x → (up τ 39 i (b2 (mvl (σ 31) (σ 32) (mtb σ) (Vb τ x) y (x * 30 + i)))) 39 j = 0 ∨ (up τ 39 i (b2 (mvl (σ 31) (σ 32) (mtb σ) (Vb τ x) y (x * 30 + i)))) 39 j = 1 := by
                  intro j a b
                  rw [up_at]
                  split
                  · exact w1
                  · exact hin j (by omega) b
                have q3 : ∀ j, i + (-1) < j → j < σ 34 x → Vb (up τ 39 i (b2 (mvl (σ 31) (σ 32) (mtb σ) (Vb τ x) y (x * 30 + i)))) x (x * 30 + j) = mvl (σ 31) (σ 32) (mtb σ) (Vb (up τ 39 i (b2 (mvl (σ 31) (σ 32) (mtb σ) (Vb τ x) y (x * 30 + i)))) x) y (x * 30 + j) := by
                  intro j a b
                  have key : mvl (σ 31) (σ 32) (mtb σ) (Vb τ x) y (x * 30 + j) = mvl (σ 31) (σ 32) (mtb σ) (Vb (up τ 39 i (b2 (mvl (σ 31) (σ 32) (mtb σ) (Vb τ x) y (x * 30 + i)))) x) y (x * 30 + j) := by
                    apply mvl_congr
                    intro t h0 h1
                    have h7 := (hB.2.2.2.2 (x * 30 + j) (by omega) (by omega)).2.1 t h0 h1
                    unfold Vb
                    rw [up_other _ _ (show tp (σ 32) (x * 30 + j) t - x * 30 ≠ i by omega)]
                  rw [← key]
                  by_cases e : j = i
                  · rw [e]
                    apply b2_inj
                    have h8 := Vb_b2 (σ := (up τ 39 i (b2 (mvl (σ 31) (σ 32) (mtb σ) (Vb τ x) y (x * 30 + i))))) (x := x) (q2 i (by omega) (by omega))
                    rw [← h8, up_same]
                  · rw [← hso j (by omega) b]
                    unfold Vb
                    rw [up_other _ _ (show x * 30 + j - x * 30 ≠ i by omega)]
                refine G_sub (ks := [1, 2, 3, 0]) rfl ?_
                exact ih9 (i + (-1)) (up τ 39 i (b2 (mvl (σ 31) (σ 32) (mtb σ) (Vb τ x) y (x * 30 + i)))) (by omega) (hm.up (by decide) _ _) q1 q2 q3 (by omega)
              · have hc9 := hch t (by omega) (by omega)
                refine g_iload F 6 rfl d_X9_findMay_54 ?_
                refine g_aload_n F 0 rfl rfl d_X9_findMay_56 ?_
                refine g_getR F f_X9_34 d_X9_findMay_57 (hsM_30 hs) rfl ?_
                refine g_aload_n F 0 rfl rfl d_X9_findMay_60 ?_
                refine g_iload_n F 1 rfl rfl d_X9_findMay_61 ?_
                refine g_iload_n F 3 rfl rfl d_X9_findMay_62 ?_
                refine g_iload F 7 rfl d_X9_findMay_63 ?_
                refine g_Vi F (own := RX9) (c_X9_textOf l E q sh τ hs x i t hx (by omega) (fun j h0 h1 => by rw [g32]; have h9 := hch j h0 (by omega); omega)) k_X9_113 (hsM_30 hs) rfl rfl [.ref (q 39), vI d] d_X9_findMay_65 ⟨rfl, rfl, by decide, by decide⟩ ⟨Nat.zero_le _, Nat.zero_le _⟩ rfl (Nat.le_of_ble_eq_true rfl) ?_
                rintro _ _ ⟨rfl, rfl⟩
                refine G_top (b := tp (σ 32) (x * 30 + i) t - x * 30) (by rw [g32]) ?_
                refine g_iaload F d_X9_findMay_68 (hsM_39 hs) (by omega) (by omega) (by decide) ?_
                refine G_top (b := b2 (Vb τ x (tp (σ 32) (x * 30 + i) t))) (Vb_tp (hin (tp (σ 32) (x * 30 + i) t - x * 30) (by omega) (by omega))) ?_
                refine g_iload F 7 rfl d_X9_findMay_69 ?_
                refine g_ishl F d_X9_findMay_71 ?_
                refine g_ior F d_X9_findMay_72 ?_
                refine g_istore F (lv' := [(6, vI (bOr d (bShl (b2 (Vb τ x (tp (σ 32) (x * 30 + i) t))) t))), (0, .ref (q 30)), (1, vI x), (2, vI y), (3, vI i), (4, vI (σ 31 (x * 30 + i))), (5, vI (cb (σ 31 (x * 30 + i)))), (7, vI t)]) (by decide) rfl d_X9_findMay_73 ?_
                refine g_iinc F (lv' := [(7, vI (t + 1)), (6, vI (bOr d (bShl (b2 (Vb τ x (tp (σ 32) (x * 30 + i) t))) t))), (0, .ref (q 30)), (1, vI x), (2, vI y), (3, vI i), (4, vI (σ 31 (x * 30 + i))), (5, vI (cb (σ 31 (x * 30 + i))))]) 7 rfl rfl (by decide) rfl d_X9_findMay_75 ?_
                refine g_goto F d_X9_findMay_78 ?_
                refine G_sub (ks := [2, 3, 4, 5, 6, 7, 1, 0]) rfl ?_
                exact ih44 (bOr d (bShl (b2 (Vb τ x (tp (σ 32) (x * 30 + i) t))) t)) (t + 1) (by omega) (c3_next _ _ _ (by omega) hd) (by omega)
          refine G_sub (ks := [4, 5, 6, 7, 3, 2, 1, 0]) rfl ?_
          exact loop44 _ 0 0 (by omega) (c3_0 _ _ _).symm (Nat.lt_succ_self _)
  refine G_sub (ks := [1, 2, 3, 0]) rfl ?_
  exact loop9 _ ((σ 34 x) - 1) σ (by omega) (Sm.refl _ _) hC (fun j a b => by exfalso; omega) (fun j a b => by exfalso; omega) (Nat.lt_succ_self _)
