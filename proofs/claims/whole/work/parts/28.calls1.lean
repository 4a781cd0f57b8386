/-! the class's calls: what they answer -/
def isF (x : Int) : Prop := 0 ≤ x ∧ x < 4
def vSay (σ : Sg) (x : Int) : Int := if 33 ≤ x ∧ x ≤ 126 then (if σ 1 1 < 30 then σ 1 1 + 1 else -4) else -2
def sSay (σ : Sg) (x : Int) : Sg := if (33 ≤ x ∧ x ≤ 126) ∧ σ 1 1 < 30 then up (up σ 2 (σ 1 1) x) 1 1 (σ 1 1 + 1) else σ
/-- THE FAULT of the PAD -/
def ffP (σ : Sg) (f : Int) : Int := ffun (σ 2) (σ 1 1) f (σ 1 1).toNat 0 0 (fun j => if j = 0 then 1 else σ 4 j)
def vNode (σ : Sg) (x y k : Int) : Int := if (0 ≤ x ∧ x < 4) ∧ 0 ≤ y ∧ y < σ 6 x then (if k = 0 then σ 7 (x * 30 + y) else if k = 1 then σ 10 (x * 30 + y) else if k = 2 then σ 11 (x * 30 + y) else -2) else -1
def vMay (σ : Sg) (x y : Int) : Int := if 0 ≤ x ∧ x < 4 then (if 0 ≤ y ∧ y ≤ aA x then b2 (tbl σ x y) else -2) else -1
def vPart (σ : Sg) (x y k : Int) : Int := if (0 ≤ x ∧ x < 4) ∧ 0 ≤ y ∧ y < σ 6 x then (if k = 0 then b2 (bt (σ 13 (x * 30 + y)) (aA x)) else if k = 1 then need3 (fun s => bt (σ 13 (x * 30 + y)) s) x else -2) else -1
def vTold (σ : Sg) (x : Int) : Int := if 0 ≤ x ∧ x ≤ 4 then (if x = 0 then σ 1 1 else σ 6 (x - 1)) else -2
def vRun (re rt : RF) (x y w k : Int) : Int := if 0 ≤ x ∧ x < 4 then (if (0 ≤ y ∧ y < stV 1 x) ∧ (0 ≤ w ∧ w < 4) then (if k = 0 then re x y w else if k = 1 then rt x y w else -2) else -2) else -1
noncomputable def jB (T : TB) (f s : Int) : Bool := @decide (isJ T f s) (Classical.propDecidable _)
theorem jB_t {T : TB} {f s : Int} (h : isJ T f s) : jB T f s = true := by unfold jB; exact @decide_eq_true _ (Classical.propDecidable _) h
theorem jB_f {T : TB} {f s : Int} (h : ¬ isJ T f s) : jB T f s = false := by unfold jB; exact @decide_eq_false _ (Classical.propDecidable _) h
/-- JOINTS: from a set on, with so many found -/
noncomputable def jl (T : TB) (f i : Int) : Nat → Int → Int → Int
  | 0, _, n => if i = -1 then n else -6
  | k + 1, s, n => if jB T f s = true then (if n = i then s else jl T f i k (s + 1) (n + 1)) else jl T f i k (s + 1) n
theorem b2_ite (b : Bool) : (if b = true then (1 : Int) else 0) = b2 b := by cases b <;> rfl
theorem run_e {e t : Int} (h1 : 0 ≤ e ∧ e ≤ 9) (h2 : 0 ≤ t ∧ t ≤ 300) : (t * 10 + e) % 10 = e := by omega
theorem run_t {e t : Int} (h1 : 0 ≤ e ∧ e ≤ 9) (h2 : 0 ≤ t ∧ t ≤ 300) : (t * 10 + e) / 10 = t := by omega
set_option maxHeartbeats 1000000 in
theorem c_X8_say (l : Launch) (E : Ev) (q : Nat → Nat) (sh : List Shp) (σ : Sg) (hs : HsC sh) (x : Int) (rx : rg x) (hn : 0 ≤ σ 1 1 ∧ σ 1 1 ≤ 30) : CI l E yX8_say cX8_say 2 .int ({ frames := 1, cells := 0, slots := 0, locals := 21 } : Room) q sh σ [.ref (q 0), vI x] (fun z τ => z = vSay σ x ∧ τ = sSay σ x) := by
  have rx1 := rx.1
  have rx2 := rx.2
  refine CI_of (own := RX8) (by decide) rfl (Nat.le_of_ble_eq_true rfl) (fun X Q F hQ => ?_)
  show G X E 2 q sh σ 0 0 Q 0 [(0, .ref (q 0)), (1, vI x)] []
  refine g_iload_n F 1 rfl rfl d_X8_say_0 ?_
  refine g_bipush F (by decide) d_X8_say_1 ?_
  refine g_icmp_lt F d_X8_say_3 ⟨by omega, by omega⟩ ⟨by decide, by decide⟩ (fun h3 => ?_) (fun h3 => ?_)
  · refine g_bipush F (by decide) d_X8_say_12 ?_
    exact hQ d_X8_say_14 (⟨by unfold vSay; rw [if_neg (by omega)], by unfold sSay; rw [if_neg (by omega)]⟩)
  · refine g_iload_n F 1 rfl rfl d_X8_say_6 ?_
    refine g_bipush F (by decide) d_X8_say_7 ?_
    refine g_icmp_le F d_X8_say_9 ⟨by omega, by omega⟩ ⟨by decide, by decide⟩ (fun h9 => ?_) (fun h9 => ?_)
    · refine g_aload_n F 0 rfl rfl d_X8_say_15 ?_
      refine g_getR F f_X8_12 d_X8_say_16 (hsC_0 hs) rfl ?_
      refine g_iload_n F 1 rfl rfl d_X8_say_19 ?_
      refine g_Vi F (own := RX8) (c_X4_add l E q sh σ hs x hn) k_X8_64 (hsC_1 hs) rfl rfl [] d_X8_say_20 ⟨rfl, rfl, by decide, by decide⟩ ⟨Nat.zero_le _, Nat.zero_le _⟩ rfl (Nat.le_of_ble_eq_true rfl) ?_
      intro z τ hz
      refine g_if_eq F d_X8_say_23 ⟨by rcases Int.lt_or_le (σ 1 1) 30 with q | q; (rw [(hz.1 q).1]; decide); (rw [(hz.2 (by omega)).1]; decide), by rcases Int.lt_or_le (σ 1 1) 30 with q | q; (rw [(hz.1 q).1]; decide); (rw [(hz.2 (by omega)).1]; decide)⟩ (fun h23 => ?_) (fun h23 => ?_)
      · have hge : σ 1 1 = 30 := by
          rcases Int.lt_or_le (σ 1 1) 30 with q | q
          · exfalso; have := (hz.1 q).1; omega
          · omega
        obtain ⟨z1, z2⟩ := hz.2 hge
        refine g_bipush F (by decide) d_X8_say_36 ?_
        exact hQ d_X8_say_38 (by first | exact ⟨by unfold vSay; rw [if_pos (by omega), if_pos hlt, z2]; exact up_same _ _ _ _, by unfold sSay; rw [if_pos ⟨by omega, hlt⟩]; exact z2⟩ | exact ⟨by unfold vSay; rw [if_pos (by omega), if_neg (by omega)], by unfold sSay; rw [if_neg (by omega)]; exact z2⟩)
      · have hlt : σ 1 1 < 30 := by
          rcases Int.lt_or_le (σ 1 1) 30 with q | q
          · exact q
          · exfalso; have := (hz.2 (by omega)).1; omega
        obtain ⟨z1, z2⟩ := hz.1 hlt
        refine g_aload_n F 0 rfl rfl d_X8_say_26 ?_
        refine g_getR F f_X8_12 d_X8_say_27 (hsC_0 hs) rfl ?_
        refine g_Vi F (own := RX8) (c_X4_count l E q sh τ hs  ) k_X8_68 (hsC_1 hs) rfl rfl [] d_X8_say_30 ⟨rfl, rfl, by decide, by decide⟩ ⟨Nat.zero_le _, Nat.zero_le _⟩ rfl (Nat.le_of_ble_eq_true rfl) ?_
        rintro _ _ ⟨rfl, rfl⟩
        refine g_goto F d_X8_say_33 ?_
        exact hQ d_X8_say_38 (by first | exact ⟨by unfold vSay; rw [if_pos (by omega), if_pos hlt, z2]; exact up_same _ _ _ _, by unfold sSay; rw [if_pos ⟨by omega, hlt⟩]; exact z2⟩ | exact ⟨by unfold vSay; rw [if_pos (by omega), if_neg (by omega)], by unfold sSay; rw [if_neg (by omega)]; exact z2⟩)
    · refine g_bipush F (by decide) d_X8_say_12 ?_
      exact hQ d_X8_say_14 (⟨by unfold vSay; rw [if_neg (by omega)], by unfold sSay; rw [if_neg (by omega)]⟩)
set_option maxHeartbeats 1000000 in
theorem c_X8_wipe (l : Launch) (E : Ev) (q : Nat → Nat) (sh : List Shp) (σ : Sg) (hs : HsC sh) : CI l E yX8_wipe cX8_wipe 2 .int ({ frames := 1, cells := 0, slots := 0, locals := 20 } : Room) q sh σ [.ref (q 0)] (is (σ 1 1) (up σ 1 1 0)) := by
  refine CI_of (own := RX8) (by decide) rfl (Nat.le_of_ble_eq_true rfl) (fun X Q F hQ => ?_)
  show G X E 2 q sh σ 0 0 Q 0 [(0, .ref (q 0))] []
  refine g_aload_n F 0 rfl rfl d_X8_wipe_0 ?_
  refine g_getR F f_X8_12 d_X8_wipe_1 (hsC_0 hs) rfl ?_
  refine g_Vi F (own := RX8) (c_X4_count l E q sh σ hs  ) k_X8_68 (hsC_1 hs) rfl rfl [] d_X8_wipe_4 ⟨rfl, rfl, by decide, by decide⟩ ⟨Nat.zero_le _, Nat.zero_le _⟩ rfl (Nat.le_of_ble_eq_true rfl) ?_
  rintro _ _ ⟨rfl, rfl⟩
  refine g_istore_n F (lv' := [(1, vI (σ 1 1)), (0, .ref (q 0))]) rfl (by decide) rfl d_X8_wipe_7 ?_
  refine g_aload_n F 1 rfl rfl d_X8_wipe_8 ?_
  refine g_getR F f_X8_12 d_X8_wipe_9 (hsC_0 hs) rfl ?_
  refine g_Vv F (own := RX8) (c_X4_clear l E q sh σ hs  ) k_X8_72 (hsC_1 hs) rfl rfl [] d_X8_wipe_12 ⟨rfl, rfl, by decide, by decide⟩ ⟨Nat.zero_le _, Nat.zero_le _⟩ rfl (Nat.le_of_ble_eq_true rfl) ?_
  rintro _ rfl
  refine g_iload_n F 0 rfl rfl d_X8_wipe_15 ?_
  exact hQ d_X8_wipe_16 (⟨by first | rfl | omega | (simp only [*]; done) | (simp [*]; done) | (split <;> omega), rfl⟩)
set_option maxHeartbeats 1000000 in
theorem c_X8_fault (l : Launch) (E : Ev) (q : Nat → Nat) (sh : List Shp) (σ : Sg) (hs : HsC sh) (x : Int) (rx : rg x) (hn : 0 ≤ σ 1 1 ∧ σ 1 1 ≤ 30) (hsg : ∀ j, rg (σ 2 j)) (hB : ∀ j, 0 ≤ σ 4 j ∧ σ 4 j ≤ 3) : CI l E yX8_fault cX8_fault 2 .int ({ frames := 5, cells := 0, slots := 0, locals := 106 } : Room) q sh σ [.ref (q 0), vI x] (fun z τ => (z = if 0 ≤ x ∧ x < 4 then ffP σ x else -1) ∧ Sm [3, 4] σ τ ∧ ∀ j, 0 ≤ τ 4 j ∧ τ 4 j ≤ 3) := by
  have rx1 := rx.1
  have rx2 := rx.2
  refine CI_of (own := RX8) (by decide) rfl (Nat.le_of_ble_eq_true rfl) (fun X Q F hQ => ?_)
  show G X E 2 q sh σ 0 0 Q 0 [(0, .ref (q 0)), (1, vI x)] []
  refine g_iload_n F 1 rfl rfl d_X8_fault_0 ?_
  refine g_Si F (own := RX8) (c_X8_isFunction l E q sh σ x ⟨by omega, by omega⟩) k_X8_75 [] d_X8_fault_1 ⟨rfl, rfl, by decide, by decide⟩ ⟨Nat.zero_le _, Nat.zero_le _⟩ rfl (Nat.le_of_ble_eq_true rfl) ?_
  rintro _ _ ⟨rfl, rfl⟩
  refine g_b_eq F d_X8_fault_4 (fun h4 => ?_) (fun h4 => ?_)
  · refine g_iconst F d_X8_fault_22 ?_
    exact hQ d_X8_fault_23 (by first | exact ⟨by rw [if_pos h4]; exact hz.1, hz.2⟩ | exact ⟨by rw [if_neg h4], Sm.refl _ _, hB⟩)
  · refine g_aload_n F 0 rfl rfl d_X8_fault_7 ?_
    refine g_getR F f_X8_19 d_X8_fault_8 (hsC_0 hs) rfl ?_
    refine g_aload_n F 0 rfl rfl d_X8_fault_11 ?_
    refine g_getR F f_X8_12 d_X8_fault_12 (hsC_0 hs) rfl ?_
    refine g_iload_n F 1 rfl rfl d_X8_fault_15 ?_
    refine g_Vi F (own := RX8) (c_X5_firstFault l E q sh σ hs x h4 hn hsg hB) k_X8_78 (hsC_3 hs) rfl rfl [] d_X8_fault_16 ⟨rfl, rfl, by decide, by decide⟩ ⟨Nat.zero_le _, Nat.zero_le _⟩ rfl (Nat.le_of_ble_eq_true rfl) ?_
    intro z τ hz
    refine g_goto F d_X8_fault_19 ?_
    exact hQ d_X8_fault_23 (by first | exact ⟨by rw [if_pos h4]; exact hz.1, hz.2⟩ | exact ⟨by rw [if_neg h4], Sm.refl _ _, hB⟩)
set_option maxHeartbeats 1000000 in
theorem c_X8_hasNode (l : Launch) (E : Ev) (q : Nat → Nat) (sh : List Shp) (σ : Sg) (hs : HsC sh) (x y : Int) (rx : rg x) (ry : rg y) (hN : ∀ f, 0 ≤ f → f < 4 → 0 ≤ σ 6 f ∧ σ 6 f ≤ 30) : CI l E yX8_hasNode cX8_hasNode 3 .boolean ({ frames := 2, cells := 0, slots := 0, locals := 41 } : Room) q sh σ [.ref (q 0), vI x, vI y] (is (if (0 ≤ x ∧ x < 4) ∧ 0 ≤ y ∧ y < σ 6 x then 1 else 0) σ) := by
  have rx1 := rx.1
  have rx2 := rx.2
  have ry1 := ry.1
  have ry2 := ry.2
  refine CB_of (own := RX8) (by decide) rfl (Nat.le_of_ble_eq_true rfl) (fun X Q F hQ => ?_)
  show G X E 3 q sh σ 0 0 Q 0 [(0, .ref (q 0)), (1, vI x), (2, vI y)] []
  refine g_iload_n F 1 rfl rfl d_X8_hasNode_0 ?_
  refine g_Si F (own := RX8) (c_X8_isFunction l E q sh σ x ⟨by omega, by omega⟩) k_X8_75 [] d_X8_hasNode_1 ⟨rfl, rfl, by decide, by decide⟩ ⟨Nat.zero_le _, Nat.zero_le _⟩ rfl (Nat.le_of_ble_eq_true rfl) ?_
  rintro _ _ ⟨rfl, rfl⟩
  refine g_b_eq F d_X8_hasNode_4 (fun h4 => ?_) (fun h4 => ?_)
  · refine g_iconst F d_X8_hasNode_27 ?_
    exact hQ d_X8_hasNode_28 (Or.inl rfl) (⟨by first | (rw [if_neg (by omega)]; done) | (rw [if_pos (by omega)]; done), rfl⟩)
  · refine g_iload_n F 2 rfl rfl d_X8_hasNode_7 ?_
    refine g_if_lt F d_X8_hasNode_8 ⟨by omega, by omega⟩ (fun h8 => ?_) (fun h8 => ?_)
    · refine g_iconst F d_X8_hasNode_27 ?_
      exact hQ d_X8_hasNode_28 (Or.inl rfl) (⟨by first | (rw [if_neg (by omega)]; done) | (rw [if_pos (by omega)]; done), rfl⟩)
    · refine g_iload_n F 2 rfl rfl d_X8_hasNode_11 ?_
      refine g_aload_n F 0 rfl rfl d_X8_hasNode_12 ?_
      refine g_getR F f_X8_26 d_X8_hasNode_13 (hsC_0 hs) rfl ?_
      refine g_iload_n F 1 rfl rfl d_X8_hasNode_16 ?_
      refine g_Vi F (own := RX8) (c_X0_count l E q sh σ hs.B x h4) k_X8_89 (hsC_5 hs) rfl rfl [vI y] d_X8_hasNode_17 ⟨rfl, rfl, by decide, by decide⟩ ⟨Nat.zero_le _, Nat.zero_le _⟩ rfl (Nat.le_of_ble_eq_true rfl) ?_
      rintro _ _ ⟨rfl, rfl⟩
      have h6 := hN x h4.1 h4.2
      refine g_icmp_ge F d_X8_hasNode_20 ⟨by omega, by omega⟩ ⟨by omega, by omega⟩ (fun h20 => ?_) (fun h20 => ?_)
      · refine g_iconst F d_X8_hasNode_27 ?_
        exact hQ d_X8_hasNode_28 (Or.inl rfl) (⟨by first | (rw [if_neg (by omega)]; done) | (rw [if_pos (by omega)]; done), rfl⟩)
      · refine g_iconst F d_X8_hasNode_23 ?_
        refine g_goto F d_X8_hasNode_24 ?_
        exact hQ d_X8_hasNode_28 (Or.inr rfl) (⟨by first | (rw [if_neg (by omega)]; done) | (rw [if_pos (by omega)]; done), rfl⟩)
set_option maxHeartbeats 1000000 in
theorem c_X8_node (l : Launch) (E : Ev) (q : Nat → Nat) (sh : List Shp) (σ : Sg) (hs : HsC sh) (x y k : Int) (rx : rg x) (ry : rg y) (rk : rg k) (hN : ∀ f, 0 ≤ f → f < 4 → 0 ≤ σ 6 f ∧ σ 6 f ≤ 30) : CI l E yX8_node cX8_node 5 .int ({ frames := 3, cells := 0, slots := 0, locals := 63 } : Room) q sh σ [.ref (q 0), vI x, vI y, vI k] (is (vNode σ x y k) σ) := by
  have rx1 := rx.1
  have rx2 := rx.2
  have ry1 := ry.1
  have ry2 := ry.2
  have rk1 := rk.1
  have rk2 := rk.2
  refine CI_of (own := RX8) (by decide) rfl (Nat.le_of_ble_eq_true rfl) (fun X Q F hQ => ?_)
  show G X E 5 q sh σ 0 0 Q 0 [(0, .ref (q 0)), (1, vI x), (2, vI y), (3, vI k)] []
  refine g_aload_n F 0 rfl rfl d_X8_node_0 ?_
  refine g_iload_n F 1 rfl rfl d_X8_node_1 ?_
  refine g_iload_n F 2 rfl rfl d_X8_node_2 ?_
  refine g_Vi F (own := RX8) (c_X8_hasNode l E q sh σ hs x y rx ry hN) k_X8_92 (hsC_0 hs) rfl rfl [] d_X8_node_3 ⟨rfl, rfl, by decide, by decide⟩ ⟨Nat.zero_le _, Nat.zero_le _⟩ rfl (Nat.le_of_ble_eq_true rfl) ?_
  rintro _ _ ⟨rfl, rfl⟩
  refine g_b_ne F d_X8_node_6 (fun h6 => ?_) (fun h6 => ?_)
  · have h69 := hN x h6.1.1 h6.1.2
    refine g_aload_n F 0 rfl rfl d_X8_node_11 ?_
    refine g_getR F f_X8_26 d_X8_node_12 (hsC_0 hs) rfl ?_
    refine g_iload_n F 1 rfl rfl d_X8_node_15 ?_
    refine g_Vi F (own := RX8) (c_X0_root l E q sh σ hs.B x h6.1) k_X8_96 (hsC_5 hs) rfl rfl [] d_X8_node_16 ⟨rfl, rfl, by decide, by decide⟩ ⟨Nat.zero_le _, Nat.zero_le _⟩ rfl (Nat.le_of_ble_eq_true rfl) ?_
    rintro _ _ ⟨rfl, rfl⟩
    refine g_iload_n F 2 rfl rfl d_X8_node_19 ?_
    refine g_iadd F d_X8_node_20 ?_
    refine g_istore F (lv' := [(4, vI ((x * 30) + y)), (0, .ref (q 0)), (1, vI x), (2, vI y), (3, vI k)]) (by decide) rfl d_X8_node_21 ?_
    refine g_iload_n F 4 rfl rfl d_X8_node_23 ?_
    have hcs : k = 0 ∨ k = 1 ∨ k = 2 ∨ (k < 0 ∨ 2 < k) := by omega
    rcases hcs with hk | hk | hk | hk
    · refine g_tabIn F d_X8_node_24 ⟨by omega, by omega⟩ 0 (tgt := 52) (by omega) (by decide) rfl rfl ?_
      refine g_aload_n F 1 rfl rfl d_X8_node_52 ?_
      refine g_getR F f_X8_26 d_X8_node_53 (hsC_0 hs) rfl ?_
      refine g_iload F 0 rfl d_X8_node_56 ?_
      refine g_Vi F (own := RX8) (c_X0_signAt l E q sh σ hs.B ((x * 30) + y) (by omega)) k_X8_99 (hsC_5 hs) rfl rfl [] d_X8_node_58 ⟨rfl, rfl, by decide, by decide⟩ ⟨Nat.zero_le _, Nat.zero_le _⟩ rfl (Nat.le_of_ble_eq_true rfl) ?_
      rintro _ _ ⟨rfl, rfl⟩
      exact hQ d_X8_node_61 (⟨by unfold vNode; first | (rw [if_neg h6]; done) | (rw [if_pos h6, if_pos hk]; done) | (rw [if_pos h6, if_neg (by omega), if_pos hk]; done) | (rw [if_pos h6, if_neg (by omega), if_neg (by omega), if_pos hk]; done) | (rw [if_pos h6, if_neg (by omega), if_neg (by omega), if_neg (by omega)]; done), rfl⟩)
    · refine g_tabIn F d_X8_node_24 ⟨by omega, by omega⟩ 1 (tgt := 62) (by omega) (by decide) rfl rfl ?_
      refine g_aload_n F 1 rfl rfl d_X8_node_62 ?_
      refine g_getR F f_X8_26 d_X8_node_63 (hsC_0 hs) rfl ?_
      refine g_iload F 0 rfl d_X8_node_66 ?_
      refine g_Vi F (own := RX8) (c_X0_spanAt l E q sh σ hs.B ((x * 30) + y) (by omega)) k_X8_102 (hsC_5 hs) rfl rfl [] d_X8_node_68 ⟨rfl, rfl, by decide, by decide⟩ ⟨Nat.zero_le _, Nat.zero_le _⟩ rfl (Nat.le_of_ble_eq_true rfl) ?_
      rintro _ _ ⟨rfl, rfl⟩
      exact hQ d_X8_node_71 (⟨by unfold vNode; first | (rw [if_neg h6]; done) | (rw [if_pos h6, if_pos hk]; done) | (rw [if_pos h6, if_neg (by omega), if_pos hk]; done) | (rw [if_pos h6, if_neg (by omega), if_neg (by omega), if_pos hk]; done) | (rw [if_pos h6, if_neg (by omega), if_neg (by omega), if_neg (by omega)]; done), rfl⟩)
    · refine g_tabIn F d_X8_node_24 ⟨by omega, by omega⟩ 2 (tgt := 72) (by omega) (by decide) rfl rfl ?_
      refine g_aload_n F 1 rfl rfl d_X8_node_72 ?_
      refine g_getR F f_X8_26 d_X8_node_73 (hsC_0 hs) rfl ?_
      refine g_iload F 0 rfl d_X8_node_76 ?_
      refine g_Vi F (own := RX8) (c_X0_depthAt l E q sh σ hs.B ((x * 30) + y) (by omega)) k_X8_105 (hsC_5 hs) rfl rfl [] d_X8_node_78 ⟨rfl, rfl, by decide, by decide⟩ ⟨Nat.zero_le _, Nat.zero_le _⟩ rfl (Nat.le_of_ble_eq_true rfl) ?_
      rintro _ _ ⟨rfl, rfl⟩
      exact hQ d_X8_node_81 (⟨by unfold vNode; first | (rw [if_neg h6]; done) | (rw [if_pos h6, if_pos hk]; done) | (rw [if_pos h6, if_neg (by omega), if_pos hk]; done) | (rw [if_pos h6, if_neg (by omega), if_neg (by omega), if_pos hk]; done) | (rw [if_pos h6, if_neg (by omega), if_neg (by omega), if_neg (by omega)]; done), rfl⟩)
    · refine g_tabOut F d_X8_node_24 ⟨by omega, by omega⟩ (tgt := 82) (by omega) rfl ?_
      refine g_bipush F (by decide) d_X8_node_82 ?_
      exact hQ d_X8_node_84 (⟨by unfold vNode; first | (rw [if_neg h6]; done) | (rw [if_pos h6, if_pos hk]; done) | (rw [if_pos h6, if_neg (by omega), if_pos hk]; done) | (rw [if_pos h6, if_neg (by omega), if_neg (by omega), if_pos hk]; done) | (rw [if_pos h6, if_neg (by omega), if_neg (by omega), if_neg (by omega)]; done), rfl⟩)
  · refine g_iconst F d_X8_node_9 ?_
    exact hQ d_X8_node_10 (⟨by unfold vNode; first | (rw [if_neg h6]; done) | (rw [if_pos h6, if_pos hk]; done) | (rw [if_pos h6, if_neg (by omega), if_pos hk]; done) | (rw [if_pos h6, if_neg (by omega), if_neg (by omega), if_pos hk]; done) | (rw [if_pos h6, if_neg (by omega), if_neg (by omega), if_neg (by omega)]; done), rfl⟩)
set_option maxHeartbeats 1000000 in
theorem c_X8_may (l : Launch) (E : Ev) (q : Nat → Nat) (sh : List Shp) (σ : Sg) (hs : HsC sh) (x y : Int) (rx : rg x) (ry : rg y) (hT : TR σ) : CI l E yX8_may cX8_may 3 .int ({ frames := 3, cells := 0, slots := 0, locals := 60 } : Room) q sh σ [.ref (q 0), vI x, vI y] (is (vMay σ x y) σ) := by
  have rx1 := rx.1
  have rx2 := rx.2
  have ry1 := ry.1
  have ry2 := ry.2
  have ha := aA_in x
  refine CI_of (own := RX8) (by decide) rfl (Nat.le_of_ble_eq_true rfl) (fun X Q F hQ => ?_)
  show G X E 3 q sh σ 0 0 Q 0 [(0, .ref (q 0)), (1, vI x), (2, vI y)] []
  refine g_iload_n F 1 rfl rfl d_X8_may_0 ?_
  refine g_Si F (own := RX8) (c_X8_isFunction l E q sh σ x ⟨by omega, by omega⟩) k_X8_75 [] d_X8_may_1 ⟨rfl, rfl, by decide, by decide⟩ ⟨Nat.zero_le _, Nat.zero_le _⟩ rfl (Nat.le_of_ble_eq_true rfl) ?_
  rintro _ _ ⟨rfl, rfl⟩
  refine g_b_ne F d_X8_may_4 (fun h4 => ?_) (fun h4 => ?_)
  · refine g_iload_n F 2 rfl rfl d_X8_may_9 ?_
    refine g_if_lt F d_X8_may_10 ⟨by omega, by omega⟩ (fun h10 => ?_) (fun h10 => ?_)
    · refine g_bipush F (by decide) d_X8_may_21 ?_
      exact hQ d_X8_may_23 (⟨by unfold vMay; first | (rw [if_neg h4]; done) | (rw [if_pos h4, if_neg (by omega)]; done) | (rw [if_pos h4, if_pos (by omega)]; done), rfl⟩)
    · refine g_iload_n F 2 rfl rfl d_X8_may_13 ?_
      refine g_iload_n F 1 rfl rfl d_X8_may_14 ?_
      refine g_Si F (own := RX8) (c_X8_allArguments l E q sh σ x ⟨by omega, by omega⟩) k_X8_125 [vI y] d_X8_may_15 ⟨rfl, rfl, by decide, by decide⟩ ⟨Nat.zero_le _, Nat.zero_le _⟩ rfl (Nat.le_of_ble_eq_true rfl) ?_
      rintro _ _ ⟨rfl, rfl⟩
      refine g_icmp_le F d_X8_may_18 ⟨by omega, by omega⟩ ⟨by omega, by omega⟩ (fun h18 => ?_) (fun h18 => ?_)
      · refine g_aload_n F 0 rfl rfl d_X8_may_24 ?_
        refine g_getR F f_X8_35 d_X8_may_25 (hsC_0 hs) rfl ?_
        refine g_iload_n F 1 rfl rfl d_X8_may_28 ?_
        refine g_iload_n F 2 rfl rfl d_X8_may_29 ?_
        refine g_Vi F (own := RX8) (c_X7_has l E q sh σ hs x y h4 (by omega) (hT x)) k_X8_128 (hsC_12 hs) rfl rfl [] d_X8_may_30 ⟨rfl, rfl, by decide, by decide⟩ ⟨Nat.zero_le _, Nat.zero_le _⟩ rfl (Nat.le_of_ble_eq_true rfl) ?_
        rintro _ _ ⟨rfl, rfl⟩
        refine G_top (b := b2 (tbl σ x y)) (b2_ite _) ?_
        refine g_Si F (own := RX8) (c_X8_asAnswer l E q sh σ (b2 (tbl σ x y)) (by have := b2_in (tbl σ x y); omega)) k_X8_131 [] d_X8_may_33 ⟨rfl, rfl, by decide, by decide⟩ ⟨Nat.zero_le _, Nat.zero_le _⟩ rfl (Nat.le_of_ble_eq_true rfl) ?_
        rintro _ _ ⟨rfl, rfl⟩
        exact hQ d_X8_may_36 (⟨by unfold vMay; first | (rw [if_neg h4]; done) | (rw [if_pos h4, if_neg (by omega)]; done) | (rw [if_pos h4, if_pos (by omega)]; done), rfl⟩)
      · refine g_bipush F (by decide) d_X8_may_21 ?_
        exact hQ d_X8_may_23 (⟨by unfold vMay; first | (rw [if_neg h4]; done) | (rw [if_pos h4, if_neg (by omega)]; done) | (rw [if_pos h4, if_pos (by omega)]; done), rfl⟩)
  · refine g_iconst F d_X8_may_7 ?_
    exact hQ d_X8_may_8 (⟨by unfold vMay; first | (rw [if_neg h4]; done) | (rw [if_pos h4, if_neg (by omega)]; done) | (rw [if_pos h4, if_pos (by omega)]; done), rfl⟩)
set_option maxHeartbeats 1000000 in
theorem c_X8_must (l : Launch) (E : Ev) (q : Nat → Nat) (sh : List Shp) (σ : Sg) (hs : HsC sh) (x : Int) (rx : rg x) : CI l E yX8_must cX8_must 2 .int ({ frames := 2, cells := 0, slots := 0, locals := 41 } : Room) q sh σ [.ref (q 0), vI x] (is (if 0 ≤ x ∧ x < 4 then σ 15 x else -1) σ) := by
  have rx1 := rx.1
  have rx2 := rx.2
  refine CI_of (own := RX8) (by decide) rfl (Nat.le_of_ble_eq_true rfl) (fun X Q F hQ => ?_)
  show G X E 2 q sh σ 0 0 Q 0 [(0, .ref (q 0)), (1, vI x)] []
  refine g_iload_n F 1 rfl rfl d_X8_must_0 ?_
  refine g_Si F (own := RX8) (c_X8_isFunction l E q sh σ x ⟨by omega, by omega⟩) k_X8_75 [] d_X8_must_1 ⟨rfl, rfl, by decide, by decide⟩ ⟨Nat.zero_le _, Nat.zero_le _⟩ rfl (Nat.le_of_ble_eq_true rfl) ?_
  rintro _ _ ⟨rfl, rfl⟩
  refine g_b_eq F d_X8_must_4 (fun h4 => ?_) (fun h4 => ?_)
  · refine g_iconst F d_X8_must_18 ?_
    exact hQ d_X8_must_19 (⟨by first | (rw [if_neg h4]; done) | (rw [if_pos h4]; done), rfl⟩)
  · refine g_aload_n F 0 rfl rfl d_X8_must_7 ?_
    refine g_getR F f_X8_35 d_X8_must_8 (hsC_0 hs) rfl ?_
    refine g_iload_n F 1 rfl rfl d_X8_must_11 ?_
    refine g_Vi F (own := RX8) (c_X7_neededOf l E q sh σ hs x h4) k_X8_135 (hsC_12 hs) rfl rfl [] d_X8_must_12 ⟨rfl, rfl, by decide, by decide⟩ ⟨Nat.zero_le _, Nat.zero_le _⟩ rfl (Nat.le_of_ble_eq_true rfl) ?_
    rintro _ _ ⟨rfl, rfl⟩
    refine g_goto F d_X8_must_15 ?_
    exact hQ d_X8_must_19 (⟨by first | (rw [if_neg h4]; done) | (rw [if_pos h4]; done), rfl⟩)
set_option maxHeartbeats 1000000 in
theorem c_X8_uses (l : Launch) (E : Ev) (q : Nat → Nat) (sh : List Shp) (σ : Sg) (hs : HsC sh) (x y : Int) (rx : rg x) (ry : rg y) : CI l E yX8_uses cX8_uses 3 .int ({ frames := 2, cells := 0, slots := 0, locals := 42 } : Room) q sh σ [.ref (q 0), vI x, vI y] (is (if (0 ≤ x ∧ x < 4) ∧ 0 ≤ y ∧ y < nA x then σ 18 (x * 3 + y) else -1) σ) := by
  have rx1 := rx.1
  have rx2 := rx.2
  have ry1 := ry.1
  have ry2 := ry.2
  refine CI_of (own := RX8) (by decide) rfl (Nat.le_of_ble_eq_true rfl) (fun X Q F hQ => ?_)
  show G X E 3 q sh σ 0 0 Q 0 [(0, .ref (q 0)), (1, vI x), (2, vI y)] []
  refine g_iload_n F 1 rfl rfl d_X8_uses_0 ?_
  refine g_iload_n F 2 rfl rfl d_X8_uses_1 ?_
  refine g_Si F (own := RX8) (c_X8_hasArgument l E q sh σ x y ⟨by omega, by omega⟩ ⟨by omega, by omega⟩) k_X8_141 [] d_X8_uses_2 ⟨rfl, rfl, by decide, by decide⟩ ⟨Nat.zero_le _, Nat.zero_le _⟩ rfl (Nat.le_of_ble_eq_true rfl) ?_
  rintro _ _ ⟨rfl, rfl⟩
  refine g_b_eq F d_X8_uses_5 (fun h5 => ?_) (fun h5 => ?_)
  · refine g_iconst F d_X8_uses_20 ?_
    exact hQ d_X8_uses_21 (⟨by first | (rw [if_neg h5]; done) | (rw [if_pos h5]; done), rfl⟩)
  · refine g_aload_n F 0 rfl rfl d_X8_uses_8 ?_
    refine g_getR F f_X8_42 d_X8_uses_9 (hsC_0 hs) rfl ?_
    refine g_iload_n F 1 rfl rfl d_X8_uses_12 ?_
    refine g_iload_n F 2 rfl rfl d_X8_uses_13 ?_
    refine g_Vi F (own := RX8) (c_X1_of l E q sh σ hs x y h5.1 h5.2) k_X8_144 (hsC_16 hs) rfl rfl [] d_X8_uses_14 ⟨rfl, rfl, by decide, by decide⟩ ⟨Nat.zero_le _, Nat.zero_le _⟩ rfl (Nat.le_of_ble_eq_true rfl) ?_
    rintro _ _ ⟨rfl, rfl⟩
    refine g_goto F d_X8_uses_17 ?_
    exact hQ d_X8_uses_21 (⟨by first | (rw [if_neg h5]; done) | (rw [if_pos h5]; done), rfl⟩)
set_option maxHeartbeats 1000000 in
theorem c_X8_part (l : Launch) (E : Ev) (q : Nat → Nat) (sh : List Shp) (σ : Sg) (hs : HsC sh) (x y k : Int) (rx : rg x) (ry : rg y) (rk : rg k) (hN : ∀ f, 0 ≤ f → f < 4 → 0 ≤ σ 6 f ∧ σ 6 f ≤ 30) (hR : RW σ) : CI l E yX8_part cX8_part 5 .int ({ frames := 4, cells := 0, slots := 0, locals := 87 } : Room) q sh σ [.ref (q 0), vI x, vI y, vI k] (is (vPart σ x y k) σ) := by
  have rx1 := rx.1
  have rx2 := rx.2
  have ry1 := ry.1
  have ry2 := ry.2
  have rk1 := rk.1
  have rk2 := rk.2
  have ha := aA_in x
  refine CI_of (own := RX8) (by decide) rfl (Nat.le_of_ble_eq_true rfl) (fun X Q F hQ => ?_)
  show G X E 5 q sh σ 0 0 Q 0 [(0, .ref (q 0)), (1, vI x), (2, vI y), (3, vI k)] []
  refine g_aload_n F 0 rfl rfl d_X8_part_0 ?_
  refine g_iload_n F 1 rfl rfl d_X8_part_1 ?_
  refine g_iload_n F 2 rfl rfl d_X8_part_2 ?_
  refine g_Vi F (own := RX8) (c_X8_hasNode l E q sh σ hs x y rx ry hN) k_X8_92 (hsC_0 hs) rfl rfl [] d_X8_part_3 ⟨rfl, rfl, by decide, by decide⟩ ⟨Nat.zero_le _, Nat.zero_le _⟩ rfl (Nat.le_of_ble_eq_true rfl) ?_
  rintro _ _ ⟨rfl, rfl⟩
  refine g_b_ne F d_X8_part_6 (fun h6 => ?_) (fun h6 => ?_)
  · have h69 := hN x h6.1.1 h6.1.2
    refine g_aload_n F 0 rfl rfl d_X8_part_11 ?_
    refine g_getR F f_X8_26 d_X8_part_12 (hsC_0 hs) rfl ?_
    refine g_iload_n F 1 rfl rfl d_X8_part_15 ?_
    refine g_Vi F (own := RX8) (c_X0_root l E q sh σ hs.B x h6.1) k_X8_96 (hsC_5 hs) rfl rfl [] d_X8_part_16 ⟨rfl, rfl, by decide, by decide⟩ ⟨Nat.zero_le _, Nat.zero_le _⟩ rfl (Nat.le_of_ble_eq_true rfl) ?_
    rintro _ _ ⟨rfl, rfl⟩
    refine g_iload_n F 2 rfl rfl d_X8_part_19 ?_
    refine g_iadd F d_X8_part_20 ?_
    refine g_istore F (lv' := [(4, vI ((x * 30) + y)), (0, .ref (q 0)), (1, vI x), (2, vI y), (3, vI k)]) (by decide) rfl d_X8_part_21 ?_
    refine g_iload_n F 4 rfl rfl d_X8_part_23 ?_
    have hcs : k = 0 ∨ k = 1 ∨ (k ≠ 0 ∧ k ≠ 1) := by omega
    rcases hcs with hk | hk | hk
    · refine g_look F d_X8_part_24 ⟨by omega, by omega⟩ (off := 28) (tgt := 52) (by decide) (by rw [hk]; decide) rfl ?_
      refine g_aload_n F 1 rfl rfl d_X8_part_52 ?_
      refine g_getR F f_X8_35 d_X8_part_53 (hsC_0 hs) rfl ?_
      refine g_iload F 0 rfl d_X8_part_56 ?_
      refine g_iload_n F 2 rfl rfl d_X8_part_58 ?_
      refine g_Si F (own := RX8) (c_X8_allArguments l E q sh σ x ⟨by omega, by omega⟩) k_X8_125 [vI ((x * 30) + y), .ref (q 12)] d_X8_part_59 ⟨rfl, rfl, by decide, by decide⟩ ⟨Nat.zero_le _, Nat.zero_le _⟩ rfl (Nat.le_of_ble_eq_true rfl) ?_
      rintro _ _ ⟨rfl, rfl⟩
      refine g_Vi F (own := RX8) (c_X7_hasAt l E q sh σ hs ((x * 30) + y) (aA x) (by omega) (by omega) (hR _)) k_X8_147 (hsC_12 hs) rfl rfl [] d_X8_part_62 ⟨rfl, rfl, by decide, by decide⟩ ⟨Nat.zero_le _, Nat.zero_le _⟩ rfl (Nat.le_of_ble_eq_true rfl) ?_
      rintro _ _ ⟨rfl, rfl⟩
      refine G_top (b := b2 (bt (σ 13 (x * 30 + y)) (aA x))) (b2_ite _) ?_
      refine g_Si F (own := RX8) (c_X8_asAnswer l E q sh σ (b2 (bt (σ 13 (x * 30 + y)) (aA x))) (by have := b2_in (bt (σ 13 (x * 30 + y)) (aA x)); omega)) k_X8_131 [] d_X8_part_65 ⟨rfl, rfl, by decide, by decide⟩ ⟨Nat.zero_le _, Nat.zero_le _⟩ rfl (Nat.le_of_ble_eq_true rfl) ?_
      rintro _ _ ⟨rfl, rfl⟩
      exact hQ d_X8_part_68 (⟨by unfold vPart; first | (rw [if_neg h6]; done) | (rw [if_pos h6, if_pos hk]; done) | (rw [if_pos h6, if_neg (by omega), if_pos hk]; done) | (rw [if_pos h6, if_neg (by omega), if_neg (by omega)]; done), rfl⟩)
    · refine g_look F d_X8_part_24 ⟨by omega, by omega⟩ (off := 45) (tgt := 69) (by decide) (by rw [hk]; decide) rfl ?_
      refine g_aload_n F 1 rfl rfl d_X8_part_69 ?_
      refine g_getR F f_X8_35 d_X8_part_70 (hsC_0 hs) rfl ?_
      refine g_iload F 0 rfl d_X8_part_73 ?_
      refine g_iload_n F 2 rfl rfl d_X8_part_75 ?_
      refine g_Vi F (own := RX8) (c_X7_neededAt l E q sh σ hs ((x * 30) + y) x (by omega) h6.1 (hR _)) k_X8_150 (hsC_12 hs) rfl rfl [] d_X8_part_76 ⟨rfl, rfl, by decide, by decide⟩ ⟨Nat.zero_le _, Nat.zero_le _⟩ rfl (Nat.le_of_ble_eq_true rfl) ?_
      rintro _ _ ⟨rfl, rfl⟩
      exact hQ d_X8_part_79 (⟨by unfold vPart; first | (rw [if_neg h6]; done) | (rw [if_pos h6, if_pos hk]; done) | (rw [if_pos h6, if_neg (by omega), if_pos hk]; done) | (rw [if_pos h6, if_neg (by omega), if_neg (by omega)]; done), rfl⟩)
    · refine g_look F d_X8_part_24 ⟨by omega, by omega⟩ (off := 56) (tgt := 80) (by decide) (by show Op.lookupswitch.offset [(0, 28), (1, 45)] 56 k = 56; (repeat (rw [Op.lookupswitch.offset_cons, if_neg (by omega)])); rfl) rfl ?_
      refine g_bipush F (by decide) d_X8_part_80 ?_
      exact hQ d_X8_part_82 (⟨by unfold vPart; first | (rw [if_neg h6]; done) | (rw [if_pos h6, if_pos hk]; done) | (rw [if_pos h6, if_neg (by omega), if_pos hk]; done) | (rw [if_pos h6, if_neg (by omega), if_neg (by omega)]; done), rfl⟩)
  · refine g_iconst F d_X8_part_9 ?_
    exact hQ d_X8_part_10 (⟨by unfold vPart; first | (rw [if_neg h6]; done) | (rw [if_pos h6, if_pos hk]; done) | (rw [if_pos h6, if_neg (by omega), if_pos hk]; done) | (rw [if_pos h6, if_neg (by omega), if_neg (by omega)]; done), rfl⟩)
set_option maxHeartbeats 1000000 in
theorem c_X8_told (l : Launch) (E : Ev) (q : Nat → Nat) (sh : List Shp) (σ : Sg) (hs : HsC sh) (x : Int) (rx : rg x) : CI l E yX8_told cX8_told 2 .int ({ frames := 2, cells := 0, slots := 0, locals := 41 } : Room) q sh σ [.ref (q 0), vI x] (is (vTold σ x) σ) := by
  have rx1 := rx.1
  have rx2 := rx.2
  refine CI_of (own := RX8) (by decide) rfl (Nat.le_of_ble_eq_true rfl) (fun X Q F hQ => ?_)
  show G X E 2 q sh σ 0 0 Q 0 [(0, .ref (q 0)), (1, vI x)] []
  refine g_iload_n F 1 rfl rfl d_X8_told_0 ?_
  refine g_if_lt F d_X8_told_1 ⟨by omega, by omega⟩ (fun h1 => ?_) (fun h1 => ?_)
  · refine g_bipush F (by decide) d_X8_told_9 ?_
    exact hQ d_X8_told_11 (⟨by unfold vTold; first | (rw [if_neg (by omega)]; done) | (rw [if_pos (by omega), if_pos h13]; done) | (rw [if_pos (by omega), if_neg h13]; done), rfl⟩)
  · refine g_iload_n F 1 rfl rfl d_X8_told_4 ?_
    refine g_iconst F d_X8_told_5 ?_
    refine g_icmp_le F d_X8_told_6 ⟨by omega, by omega⟩ ⟨by decide, by decide⟩ (fun h6 => ?_) (fun h6 => ?_)
    · refine g_iload_n F 1 rfl rfl d_X8_told_12 ?_
      refine g_if_ne F d_X8_told_13 ⟨by omega, by omega⟩ (fun h13 => ?_) (fun h13 => ?_)
      · refine g_aload_n F 0 rfl rfl d_X8_told_26 ?_
        refine g_getR F f_X8_26 d_X8_told_27 (hsC_0 hs) rfl ?_
        refine g_iload_n F 1 rfl rfl d_X8_told_30 ?_
        refine g_iconst F d_X8_told_31 ?_
        refine g_isub F d_X8_told_32 ?_
        refine g_Vi F (own := RX8) (c_X0_count l E q sh σ hs.B (x - 1) (by omega)) k_X8_89 (hsC_5 hs) rfl rfl [] d_X8_told_33 ⟨rfl, rfl, by decide, by decide⟩ ⟨Nat.zero_le _, Nat.zero_le _⟩ rfl (Nat.le_of_ble_eq_true rfl) ?_
        rintro _ _ ⟨rfl, rfl⟩
        exact hQ d_X8_told_36 (⟨by unfold vTold; first | (rw [if_neg (by omega)]; done) | (rw [if_pos (by omega), if_pos h13]; done) | (rw [if_pos (by omega), if_neg h13]; done), rfl⟩)
      · refine g_aload_n F 0 rfl rfl d_X8_told_16 ?_
        refine g_getR F f_X8_12 d_X8_told_17 (hsC_0 hs) rfl ?_
        refine g_Vi F (own := RX8) (c_X4_count l E q sh σ hs  ) k_X8_68 (hsC_1 hs) rfl rfl [] d_X8_told_20 ⟨rfl, rfl, by decide, by decide⟩ ⟨Nat.zero_le _, Nat.zero_le _⟩ rfl (Nat.le_of_ble_eq_true rfl) ?_
        rintro _ _ ⟨rfl, rfl⟩
        refine g_goto F d_X8_told_23 ?_
        exact hQ d_X8_told_36 (⟨by unfold vTold; first | (rw [if_neg (by omega)]; done) | (rw [if_pos (by omega), if_pos h13]; done) | (rw [if_pos (by omega), if_neg h13]; done), rfl⟩)
    · refine g_bipush F (by decide) d_X8_told_9 ?_
      exact hQ d_X8_told_11 (⟨by unfold vTold; first | (rw [if_neg (by omega)]; done) | (rw [if_pos (by omega), if_pos h13]; done) | (rw [if_pos (by omega), if_neg h13]; done), rfl⟩)
set_option maxHeartbeats 1000000 in
theorem c_X8_run (l : Launch) (E : Ev) (q : Nat → Nat) (sh : List Shp) (σ : Sg) (hs : HsC sh) (x y w k : Int) (re rt : RF) (rx : rg x) (ry : rg y) (rw : rg w) (rk : rg k) (hR : RSt σ re rt) : CI l E yX8_run cX8_run 5 .int ({ frames := 6, cells := 0, slots := 0, locals := 139 } : Room) q sh σ [.ref (q 0), vI x, vI y, vI w, vI k] (fun z τ => z = vRun re rt x y w k ∧ Sm orows σ τ ∧ RSt τ re rt) := by
  have rx1 := rx.1
  have rx2 := rx.2
  have ry1 := ry.1
  have ry2 := ry.2
  have rw1 := rw.1
  have rw2 := rw.2
  have rk1 := rk.1
  have rk2 := rk.2
  refine CI_of (own := RX8) (by decide) rfl (Nat.le_of_ble_eq_true rfl) (fun X Q F hQ => ?_)
  show G X E 5 q sh σ 0 0 Q 0 [(0, .ref (q 0)), (1, vI x), (2, vI y), (3, vI w), (4, vI k)] []
  refine g_iload_n F 1 rfl rfl d_X8_run_0 ?_
  refine g_Si F (own := RX8) (c_X8_isFunction l E q sh σ x ⟨by omega, by omega⟩) k_X8_75 [] d_X8_run_1 ⟨rfl, rfl, by decide, by decide⟩ ⟨Nat.zero_le _, Nat.zero_le _⟩ rfl (Nat.le_of_ble_eq_true rfl) ?_
  rintro _ _ ⟨rfl, rfl⟩
  refine g_b_ne F d_X8_run_4 (fun h4 => ?_) (fun h4 => ?_)
  · refine g_iload_n F 2 rfl rfl d_X8_run_9 ?_
    refine g_if_lt F d_X8_run_10 ⟨by omega, by omega⟩ (fun h10 => ?_) (fun h10 => ?_)
    · refine g_bipush F (by decide) d_X8_run_29 ?_
      exact hQ d_X8_run_31 (⟨by unfold vRun; rw [if_pos h4, if_neg (by omega)], Sm.refl _ _, hR⟩)
    · have t1 := stV1_in h4
      refine g_iload_n F 2 rfl rfl d_X8_run_13 ?_
      refine g_gets F 1 (by decide) rfl (mg 521 (by decide +kernel) rfl) d_X8_run_14 ?_
      refine g_iload_n F 1 rfl rfl d_X8_run_17 ?_
      refine g_sald F 1 (by decide) (by omega) (by show _ < (4 : Int); omega) d_X8_run_18 ?_
      refine g_icmp_ge F d_X8_run_19 ⟨by omega, by omega⟩ ⟨by omega, by omega⟩ (fun h19 => ?_) (fun h19 => ?_)
      · refine g_bipush F (by decide) d_X8_run_29 ?_
        exact hQ d_X8_run_31 (⟨by unfold vRun; rw [if_pos h4, if_neg (by omega)], Sm.refl _ _, hR⟩)
      · refine g_iload_n F 3 rfl rfl d_X8_run_22 ?_
        refine g_Si F (own := RX8) (c_X8_isWay l E q sh σ w ⟨by omega, by omega⟩) k_X8_112 [] d_X8_run_23 ⟨rfl, rfl, by decide, by decide⟩ ⟨Nat.zero_le _, Nat.zero_le _⟩ rfl (Nat.le_of_ble_eq_true rfl) ?_
        rintro _ _ ⟨rfl, rfl⟩
        refine g_b_ne F d_X8_run_26 (fun h26 => ?_) (fun h26 => ?_)
        · have hin : inRun x y w := ⟨h4, by omega, h26⟩
          have h9 := (hR.1 σ (fun _ _ => rfl) hR.2.2.1 x y w hin).2.2.2
          have h91 := h9.1
          have h92 := h9.2.1
          refine g_iload F 4 rfl d_X8_run_32 ?_
          have hcs : k = 0 ∨ k = 1 ∨ (k ≠ 0 ∧ k ≠ 1) := by omega
          rcases hcs with hk | hk | hk
          · refine g_look F d_X8_run_34 ⟨by omega, by omega⟩ (off := 26) (tgt := 60) (by decide) (by rw [hk]; decide) rfl ?_
            refine g_aload_n F 0 rfl rfl d_X8_run_60 ?_
            refine g_getR F f_X8_56 d_X8_run_61 (hsC_0 hs) rfl ?_
            refine g_iload_n F 1 rfl rfl d_X8_run_64 ?_
            refine g_iload_n F 2 rfl rfl d_X8_run_65 ?_
            refine g_iload_n F 3 rfl rfl d_X8_run_66 ?_
            refine g_Vi F (own := RX8) (c_X3_of l E q sh σ hs x y w re rt hin hR) k_X8_115 (hsC_20 hs) rfl rfl [] d_X8_run_67 ⟨rfl, rfl, by decide, by decide⟩ ⟨Nat.zero_le _, Nat.zero_le _⟩ rfl (Nat.le_of_ble_eq_true rfl) ?_
            intro z τ hz
            obtain ⟨rfl, hm, hR2⟩ := hz
            refine g_Si F (own := RX8) (c_X3_endIn l E q sh τ (rt x y w * 10 + re x y w) (by omega)) k_X8_119 [] d_X8_run_70 ⟨rfl, rfl, by decide, by decide⟩ ⟨Nat.zero_le _, Nat.zero_le _⟩ rfl (Nat.le_of_ble_eq_true rfl) ?_
            rintro _ _ ⟨rfl, rfl⟩
            exact hQ d_X8_run_73 (⟨by unfold vRun; rw [if_pos h4, if_pos ⟨by omega, h26⟩, if_pos hk]; exact run_e h91 h92, hm, hR2⟩)
          · refine g_look F d_X8_run_34 ⟨by omega, by omega⟩ (off := 40) (tgt := 74) (by decide) (by rw [hk]; decide) rfl ?_
            refine g_aload_n F 0 rfl rfl d_X8_run_74 ?_
            refine g_getR F f_X8_56 d_X8_run_75 (hsC_0 hs) rfl ?_
            refine g_iload_n F 1 rfl rfl d_X8_run_78 ?_
            refine g_iload_n F 2 rfl rfl d_X8_run_79 ?_
            refine g_iload_n F 3 rfl rfl d_X8_run_80 ?_
            refine g_Vi F (own := RX8) (c_X3_of l E q sh σ hs x y w re rt hin hR) k_X8_115 (hsC_20 hs) rfl rfl [] d_X8_run_81 ⟨rfl, rfl, by decide, by decide⟩ ⟨Nat.zero_le _, Nat.zero_le _⟩ rfl (Nat.le_of_ble_eq_true rfl) ?_
            intro z τ hz
            obtain ⟨rfl, hm, hR2⟩ := hz
            refine g_Si F (own := RX8) (c_X3_stepsIn l E q sh τ (rt x y w * 10 + re x y w) (by omega)) k_X8_122 [] d_X8_run_84 ⟨rfl, rfl, by decide, by decide⟩ ⟨Nat.zero_le _, Nat.zero_le _⟩ rfl (Nat.le_of_ble_eq_true rfl) ?_
            rintro _ _ ⟨rfl, rfl⟩
            exact hQ d_X8_run_87 (⟨by unfold vRun; rw [if_pos h4, if_pos ⟨by omega, h26⟩, if_neg (by omega), if_pos hk]; exact run_t h91 h92, hm, hR2⟩)
          · refine g_look F d_X8_run_34 ⟨by omega, by omega⟩ (off := 54) (tgt := 88) (by decide) (by show Op.lookupswitch.offset [(0, 26), (1, 40)] 54 k = 54; (repeat (rw [Op.lookupswitch.offset_cons, if_neg (by omega)])); rfl) rfl ?_
            refine g_bipush F (by decide) d_X8_run_88 ?_
            exact hQ d_X8_run_90 (⟨by unfold vRun; rw [if_pos h4, if_pos ⟨by omega, h26⟩, if_neg (by omega), if_neg (by omega)], Sm.refl _ _, hR⟩)
        · refine g_bipush F (by decide) d_X8_run_29 ?_
          exact hQ d_X8_run_31 (⟨by unfold vRun; rw [if_pos h4, if_neg (by omega)], Sm.refl _ _, hR⟩)
  · refine g_iconst F d_X8_run_7 ?_
    exact hQ d_X8_run_8 (⟨by unfold vRun; rw [if_neg h4], Sm.refl _ _, hR⟩)
set_option maxHeartbeats 1000000 in
theorem c_X8_joint (l : Launch) (E : Ev) (q : Nat → Nat) (sh : List Shp) (σ : Sg) (hs : HsC sh) (x y : Int) (rx : rg x) (ry : rg y) (hT : TR σ) : CI l E yX8_joint cX8_joint 5 .int ({ frames := 5, cells := 0, slots := 0, locals := 105 } : Room) q sh σ [.ref (q 0), vI x, vI y] (is (if 0 ≤ x ∧ x < 4 then jl (tbl σ) x y (aA x + 1).toNat 0 0 else -1) σ) := by
  have rx1 := rx.1
  have rx2 := rx.2
  have ry1 := ry.1
  have ry2 := ry.2
  have ha := aA_in x
  refine CI_of (own := RX8) (by decide) rfl (Nat.le_of_ble_eq_true rfl) (fun X Q F hQ => ?_)
  show G X E 5 q sh σ 0 0 Q 0 [(0, .ref (q 0)), (1, vI x), (2, vI y)] []
  refine g_iload_n F 1 rfl rfl d_X8_joint_0 ?_
  refine g_Si F (own := RX8) (c_X8_isFunction l E q sh σ x ⟨by omega, by omega⟩) k_X8_75 [] d_X8_joint_1 ⟨rfl, rfl, by decide, by decide⟩ ⟨Nat.zero_le _, Nat.zero_le _⟩ rfl (Nat.le_of_ble_eq_true rfl) ?_
  rintro _ _ ⟨rfl, rfl⟩
  refine g_b_ne F d_X8_joint_4 (fun h4 => ?_) (fun h4 => ?_)
  · refine g_iconst F d_X8_joint_9 ?_
    refine g_istore_n F (lv' := [(3, vI 0), (0, .ref (q 0)), (1, vI x), (2, vI y)]) rfl (by decide) rfl d_X8_joint_10 ?_
    refine g_iconst F d_X8_joint_11 ?_
    refine g_istore F (lv' := [(4, vI 0), (3, vI 0), (0, .ref (q 0)), (1, vI x), (2, vI y)]) (by decide) rfl d_X8_joint_12 ?_
    have loop14 : ∀ (nn : Nat) (n : Int) (s : Int), (0 ≤ s ∧ s ≤ aA x + 1) → (0 ≤ n ∧ n ≤ s) → (jl (tbl σ) x y (aA x + 1 - s).toNat s n = jl (tbl σ) x y (aA x + 1).toNat 0 0) → (aA x + 1 - s).toNat < nn → G X E 5 q sh σ 0 0 Q 14 [(0, .ref (q 0)), (1, vI x), (2, vI y), (3, vI n), (4, vI s)] [] := by
      intro n14
      induction n14 with
      | zero => intro n s hs0 hn hj hm14; exact absurd hm14 (Nat.not_lt_zero _)
      | succ n14 ih14 =>
        intro n s hs0 hn hj hm14
        refine g_iload F 4 rfl d_X8_joint_14 ?_
        refine g_iload_n F 1 rfl rfl d_X8_joint_16 ?_
        refine g_Si F (own := RX8) (c_X8_allArguments l E q sh σ x ⟨by omega, by omega⟩) k_X8_125 [vI s] d_X8_joint_17 ⟨rfl, rfl, by decide, by decide⟩ ⟨Nat.zero_le _, Nat.zero_le _⟩ rfl (Nat.le_of_ble_eq_true rfl) ?_
        rintro _ _ ⟨rfl, rfl⟩
        refine g_icmp_gt F d_X8_joint_20 ⟨by omega, by omega⟩ ⟨by omega, by omega⟩ (fun h20 => ?_) (fun h20 => ?_)
        · refine g_iload_n F 2 rfl rfl d_X8_joint_53 ?_
          refine g_iconst F d_X8_joint_54 ?_
          refine g_icmp_ne F d_X8_joint_55 ⟨by omega, by omega⟩ ⟨by decide, by decide⟩ (fun h55 => ?_) (fun h55 => ?_)
          · refine g_bipush F (by decide) d_X8_joint_62 ?_
            exact hQ d_X8_joint_64 (⟨by rw [if_pos h4, ← hj, show (aA x + 1 - s).toNat = 0 by omega, jl]; first | (rw [if_pos h55]; done) | (rw [if_neg h55]; done), rfl⟩)
          · refine g_iload_n F 3 rfl rfl d_X8_joint_58 ?_
            refine g_goto F d_X8_joint_59 ?_
            exact hQ d_X8_joint_64 (⟨by rw [if_pos h4, ← hj, show (aA x + 1 - s).toNat = 0 by omega, jl]; first | (rw [if_pos h55]; done) | (rw [if_neg h55]; done), rfl⟩)
        · refine g_aload_n F 0 rfl rfl d_X8_joint_23 ?_
          refine g_getR F f_X8_35 d_X8_joint_24 (hsC_0 hs) rfl ?_
          refine g_iload_n F 1 rfl rfl d_X8_joint_27 ?_
          refine g_iload F 4 rfl d_X8_joint_28 ?_
          refine g_Vi F (own := RX8) (c_X7_isJoint l E q sh σ hs x s h4 (by omega) (hT x)) k_X8_138 (hsC_12 hs) rfl rfl [] d_X8_joint_30 ⟨rfl, rfl, by decide, by decide⟩ ⟨Nat.zero_le _, Nat.zero_le _⟩ rfl (Nat.le_of_ble_eq_true rfl) ?_
          intro z τ hz
          obtain ⟨rfl, hz⟩ := hz
          have hz01 : z = 0 ∨ z = 1 := hz.elim (fun h => Or.inr h.1) (fun h => Or.inl h.1)
          refine g_if_eq F d_X8_joint_33 ⟨by omega, by omega⟩ (fun h33 => ?_) (fun h33 => ?_)
          · refine g_iinc F (lv' := [(4, vI (s + 1)), (0, .ref (q 0)), (1, vI x), (2, vI y), (3, vI n)]) 4 rfl rfl (by decide) rfl d_X8_joint_47 ?_
            refine g_goto F d_X8_joint_50 ?_
            have hj2 : jl (tbl σ) x y (aA x + 1 - (s + 1)).toNat (s + 1) n = jl (tbl σ) x y (aA x + 1).toNat 0 0 := by
              rw [← hj, show (aA x + 1 - s).toNat = (aA x + 1 - (s + 1)).toNat + 1 by omega, jl]
              rcases hz with ⟨z1, z2⟩ | ⟨z1, z2⟩
              · first
                  | (rw [if_pos (jB_t z2), if_neg h38]; done)
                  | (exfalso; omega)
              · first
                  | (rw [if_neg (by rw [jB_f z2]; simp)]; done)
                  | (exfalso; omega)
            refine G_sub (ks := [1, 2, 3, 4, 0]) rfl ?_
            exact ih14 n (s + 1) (by omega) (by omega) hj2 (by omega)
          · refine g_iload_n F 3 rfl rfl d_X8_joint_36 ?_
            refine g_iload_n F 2 rfl rfl d_X8_joint_37 ?_
            refine g_icmp_ne F d_X8_joint_38 ⟨by omega, by omega⟩ ⟨by omega, by omega⟩ (fun h38 => ?_) (fun h38 => ?_)
            · refine g_iinc F (lv' := [(3, vI (n + 1)), (0, .ref (q 0)), (1, vI x), (2, vI y), (4, vI s)]) 3 rfl rfl (by decide) rfl d_X8_joint_44 ?_
              refine g_iinc F (lv' := [(4, vI (s + 1)), (3, vI (n + 1)), (0, .ref (q 0)), (1, vI x), (2, vI y)]) 4 rfl rfl (by decide) rfl d_X8_joint_47 ?_
              refine g_goto F d_X8_joint_50 ?_
              have hj2 : jl (tbl σ) x y (aA x + 1 - (s + 1)).toNat (s + 1) (n + 1) = jl (tbl σ) x y (aA x + 1).toNat 0 0 := by
                rw [← hj, show (aA x + 1 - s).toNat = (aA x + 1 - (s + 1)).toNat + 1 by omega, jl]
                rcases hz with ⟨z1, z2⟩ | ⟨z1, z2⟩
                · first
                    | (rw [if_pos (jB_t z2), if_neg h38]; done)
                    | (exfalso; omega)
                · first
                    | (rw [if_neg (by rw [jB_f z2]; simp)]; done)
                    | (exfalso; omega)
              refine G_sub (ks := [2, 3, 4, 1, 0]) rfl ?_
              exact ih14 (n + 1) (s + 1) (by omega) (by omega) hj2 (by omega)
            · refine g_iload F 4 rfl d_X8_joint_41 ?_
              exact hQ d_X8_joint_43 (⟨by rw [if_pos h4, ← hj, show (aA x + 1 - s).toNat = (aA x - s).toNat + 1 by omega, jl, if_pos (jB_t (hz.elim (fun h => h.2) (fun h => absurd h.1 h33))), if_pos h38], rfl⟩)
    refine G_sub (ks := [2, 3, 4, 1, 0]) rfl ?_
    exact loop14 _ 0 0 (by omega) (by omega) (by rw [Int.sub_zero]) (Nat.lt_succ_self _)
  · refine g_iconst F d_X8_joint_7 ?_
    exact hQ d_X8_joint_8 (⟨by rw [if_neg h4], rfl⟩)
