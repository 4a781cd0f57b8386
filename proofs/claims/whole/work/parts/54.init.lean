set_option maxHeartbeats 1000000 in
theorem c_X4_init (l : Launch) (E : Ev) (q : Nat → Nat) (σ : Sg) (hz : ∀ (k : Nat) (j : Int), 2 ≤ k → σ k j = 0) : CN l E yX4_init cX4_init 1 ({ frames := 1, cells := 1, slots := 30, locals := 12 } : Room) q sz0 σ [.ref (q 1)] 1 30 sz2 (isS σ) := by
  refine CN_of (own := RX4) (by decide) rfl rfl (Nat.le_of_ble_eq_true rfl) (fun X Q F hin hQ => ?_)
  show G X E 1 q sz0 σ 0 0 Q 0 [(0, .ref (q 1))] []
  refine g_aload_n F 0 rfl rfl d_X4_init_0 ?_
  refine g_obj F (mg 81 (by decide +kernel) rfl) oi_1 oi_2 (by decide) (by decide) d_X4_init_1 ?_
  refine g_aload_n F 0 rfl rfl d_X4_init_4 ?_
  refine g_bipush F (by decide) d_X4_init_5 ?_
  refine g_newa F (n := 30) ai_0 (by decide) rfl (fun j => hz _ j (Nat.le_of_ble_eq_true rfl)) (by decide) (by decide) d_X4_init_7 (fun q1 e1 => ?_)
  rw [← e1 1 (Nat.le_of_ble_eq_true rfl)]
  have a1 := e1
  show G X E 1 q1 sz1 σ 1 30 Q 9 [(0, .ref (q1 1))] [.ref (q1 2), .ref (q1 1)]
  refine g_putR F hin (c' := 2) f_X4_9 d_X4_init_9 rfl (by decide) rfl rfl rfl rfl ?_
  show G X E 1 q1 sz2 σ 1 30 Q 12 [(0, .ref (q1 1))] []
  exact hQ d_X4_init_12 a1 (rfl)
set_option maxHeartbeats 1000000 in
theorem c_X5_init (l : Launch) (E : Ev) (q : Nat → Nat) (σ : Sg) (hz : ∀ (k : Nat) (j : Int), 4 ≤ k → σ k j = 0) : CN l E yX5_init cX5_init 1 ({ frames := 1, cells := 1, slots := 10, locals := 12 } : Room) q sz3 σ [.ref (q 3)] 1 10 sz5 (isS σ) := by
  refine CN_of (own := RX5) (by decide) rfl rfl (Nat.le_of_ble_eq_true rfl) (fun X Q F hin hQ => ?_)
  show G X E 1 q sz3 σ 0 0 Q 0 [(0, .ref (q 3))] []
  refine g_aload_n F 0 rfl rfl d_X5_init_0 ?_
  refine g_obj F (mg 95 (by decide +kernel) rfl) oi_1 oi_2 (by decide) (by decide) d_X5_init_1 ?_
  refine g_aload_n F 0 rfl rfl d_X5_init_4 ?_
  refine g_bipush F (by decide) d_X5_init_5 ?_
  refine g_newa F (n := 10) ai_0 (by decide) rfl (fun j => hz _ j (Nat.le_of_ble_eq_true rfl)) (by decide) (by decide) d_X5_init_7 (fun q1 e1 => ?_)
  rw [← e1 3 (Nat.le_of_ble_eq_true rfl)]
  have a1 := e1
  show G X E 1 q1 sz4 σ 1 10 Q 9 [(0, .ref (q1 3))] [.ref (q1 4), .ref (q1 3)]
  refine g_putR F hin (c' := 4) f_X5_9 d_X5_init_9 rfl (by decide) rfl rfl rfl rfl ?_
  show G X E 1 q1 sz5 σ 1 10 Q 12 [(0, .ref (q1 3))] []
  exact hQ d_X5_init_12 a1 (rfl)
set_option maxHeartbeats 1000000 in
theorem c_X0_init (l : Launch) (E : Ev) (q : Nat → Nat) (σ : Sg) (hz : ∀ (k : Nat) (j : Int), 6 ≤ k → σ k j = 0) : CN l E yX0_init cX0_init 2 ({ frames := 4, cells := 6, slots := 604, locals := 85 } : Room) q sz6 σ [.ref (q 5)] 6 604 sz18 (fun τ => Sm [6, 7, 8, 9, 10, 11] σ τ ∧ BI τ 4) := by
  refine CN_of (own := RX0) (by decide) rfl rfl (Nat.le_of_ble_eq_true rfl) (fun X Q F hin hQ => ?_)
  show G X E 2 q sz6 σ 0 0 Q 0 [(0, .ref (q 5))] []
  refine g_aload_n F 0 rfl rfl d_X0_init_0 ?_
  refine g_obj F (mg 108 (by decide +kernel) rfl) oi_1 oi_2 (by decide) (by decide) d_X0_init_1 ?_
  refine g_aload_n F 0 rfl rfl d_X0_init_4 ?_
  refine g_iconst F d_X0_init_5 ?_
  refine g_newa F (n := 4) ai_0 (by decide) rfl (fun j => hz _ j (Nat.le_of_ble_eq_true rfl)) (by decide) (by decide) d_X0_init_6 (fun q1 e1 => ?_)
  rw [← e1 5 (Nat.le_of_ble_eq_true rfl)]
  have a1 := e1
  show G X E 2 q1 sz7 σ 1 4 Q 8 [(0, .ref (q1 5))] [.ref (q1 6), .ref (q1 5)]
  refine g_putR F hin (c' := 6) f_X0_9 d_X0_init_8 rfl (by decide) rfl rfl rfl rfl ?_
  show G X E 2 q1 sz8 σ 1 4 Q 11 [(0, .ref (q1 5))] []
  refine g_aload_n F 0 rfl rfl d_X0_init_11 ?_
  refine g_bipush F (by decide) d_X0_init_12 ?_
  refine g_newa F (n := 120) ai_0 (by decide) rfl (fun j => hz _ j (Nat.le_of_ble_eq_true rfl)) (by decide) (by decide) d_X0_init_14 (fun q2 e2 => ?_)
  rw [← e2 5 (Nat.le_of_ble_eq_true rfl)]
  have a2 := ag.trans a1 e2 (Nat.le_of_ble_eq_true rfl)
  show G X E 2 q2 sz9 σ 2 124 Q 16 [(0, .ref (q2 5))] [.ref (q2 7), .ref (q2 5)]
  refine g_putR F hin (c' := 7) f_X0_15 d_X0_init_16 rfl (by decide) rfl rfl rfl rfl ?_
  show G X E 2 q2 sz10 σ 2 124 Q 19 [(0, .ref (q2 5))] []
  refine g_aload_n F 0 rfl rfl d_X0_init_19 ?_
  refine g_bipush F (by decide) d_X0_init_20 ?_
  refine g_newa F (n := 120) ai_0 (by decide) rfl (fun j => hz _ j (Nat.le_of_ble_eq_true rfl)) (by decide) (by decide) d_X0_init_22 (fun q3 e3 => ?_)
  rw [← e3 5 (Nat.le_of_ble_eq_true rfl)]
  have a3 := ag.trans a2 e3 (Nat.le_of_ble_eq_true rfl)
  show G X E 2 q3 sz11 σ 3 244 Q 24 [(0, .ref (q3 5))] [.ref (q3 8), .ref (q3 5)]
  refine g_putR F hin (c' := 8) f_X0_18 d_X0_init_24 rfl (by decide) rfl rfl rfl rfl ?_
  show G X E 2 q3 sz12 σ 3 244 Q 27 [(0, .ref (q3 5))] []
  refine g_aload_n F 0 rfl rfl d_X0_init_27 ?_
  refine g_bipush F (by decide) d_X0_init_28 ?_
  refine g_newa F (n := 120) ai_0 (by decide) rfl (fun j => hz _ j (Nat.le_of_ble_eq_true rfl)) (by decide) (by decide) d_X0_init_30 (fun q4 e4 => ?_)
  rw [← e4 5 (Nat.le_of_ble_eq_true rfl)]
  have a4 := ag.trans a3 e4 (Nat.le_of_ble_eq_true rfl)
  show G X E 2 q4 sz13 σ 4 364 Q 32 [(0, .ref (q4 5))] [.ref (q4 9), .ref (q4 5)]
  refine g_putR F hin (c' := 9) f_X0_21 d_X0_init_32 rfl (by decide) rfl rfl rfl rfl ?_
  show G X E 2 q4 sz14 σ 4 364 Q 35 [(0, .ref (q4 5))] []
  refine g_aload_n F 0 rfl rfl d_X0_init_35 ?_
  refine g_bipush F (by decide) d_X0_init_36 ?_
  refine g_newa F (n := 120) ai_0 (by decide) rfl (fun j => hz _ j (Nat.le_of_ble_eq_true rfl)) (by decide) (by decide) d_X0_init_38 (fun q5 e5 => ?_)
  rw [← e5 5 (Nat.le_of_ble_eq_true rfl)]
  have a5 := ag.trans a4 e5 (Nat.le_of_ble_eq_true rfl)
  show G X E 2 q5 sz15 σ 5 484 Q 40 [(0, .ref (q5 5))] [.ref (q5 10), .ref (q5 5)]
  refine g_putR F hin (c' := 10) f_X0_24 d_X0_init_40 rfl (by decide) rfl rfl rfl rfl ?_
  show G X E 2 q5 sz16 σ 5 484 Q 43 [(0, .ref (q5 5))] []
  refine g_aload_n F 0 rfl rfl d_X0_init_43 ?_
  refine g_bipush F (by decide) d_X0_init_44 ?_
  refine g_newa F (n := 120) ai_0 (by decide) rfl (fun j => hz _ j (Nat.le_of_ble_eq_true rfl)) (by decide) (by decide) d_X0_init_46 (fun q6 e6 => ?_)
  rw [← e6 5 (Nat.le_of_ble_eq_true rfl)]
  have a6 := ag.trans a5 e6 (Nat.le_of_ble_eq_true rfl)
  show G X E 2 q6 sz17 σ 6 604 Q 48 [(0, .ref (q6 5))] [.ref (q6 11), .ref (q6 5)]
  refine g_putR F hin (c' := 11) f_X0_27 d_X0_init_48 rfl (by decide) rfl rfl rfl rfl ?_
  show G X E 2 q6 sz18 σ 6 604 Q 51 [(0, .ref (q6 5))] []
  refine g_iconst F d_X0_init_51 ?_
  refine g_istore_n F (lv' := [(1, vI 0), (0, .ref (q6 5))]) rfl (by decide) rfl d_X0_init_52 ?_
  have loop53 : ∀ (nn : Nat) (f : Int) (τ : Sg), (0 ≤ f ∧ f ≤ 4) → (Sm [6, 7, 8, 9, 10, 11] σ τ) → (BI τ f) → (4 - f).toNat < nn → G X E 2 q6 sz18 τ 6 604 Q 53 [(0, .ref (q6 5)), (1, vI f)] [] := by
    intro n53
    induction n53 with
    | zero => intro f τ hf hm hb hm53; exact absurd hm53 (Nat.not_lt_zero _)
    | succ n53 ih53 =>
      intro f τ hf hm hb hm53
      refine g_iload_n F 1 rfl rfl d_X0_init_53 ?_
      refine g_iconst F d_X0_init_54 ?_
      refine g_icmp_ge F d_X0_init_55 ⟨by omega, by omega⟩ ⟨by decide, by decide⟩ (fun h55 => ?_) (fun h55 => ?_)
      · exact hQ d_X0_init_87 a6 (⟨hm, by rw [show f = 4 by omega] at hb; exact hb⟩)
      · refine g_aload_n F 0 rfl rfl d_X0_init_58 ?_
        refine g_getR F f_X0_9 d_X0_init_59 rfl rfl ?_
        refine g_iload_n F 1 rfl rfl d_X0_init_62 ?_
        refine g_iconst F d_X0_init_63 ?_
        refine g_iastore F d_X0_init_64 rfl (by omega) (by omega) (by decide) ?_
        refine g_aload_n F 0 rfl rfl d_X0_init_65 ?_
        refine g_aload_n F 0 rfl rfl d_X0_init_66 ?_
        refine g_iload_n F 1 rfl rfl d_X0_init_67 ?_
        refine g_Vi F (own := RX0) (c_X0_root l E q6 sz18 (up τ 6 f 1) hb_12 f (by omega)) k_X0_30 rfl rfl rfl [.ref (q6 5)] d_X0_init_68 ⟨rfl, rfl, by decide, by decide⟩ ⟨by decide, by decide⟩ rfl (Nat.le_of_ble_eq_true rfl) ?_
        rintro _ _ ⟨rfl, rfl⟩
        refine g_bipush F (by decide) d_X0_init_71 ?_
        refine g_Vv F (own := RX0) (c_X0_setSign l E q6 sz18 (up τ 6 f 1) hb_12 (f * 30) 33 (by omega) ⟨by decide, by decide⟩) k_X0_34 rfl rfl rfl [] d_X0_init_73 ⟨rfl, rfl, by decide, by decide⟩ ⟨by decide, by decide⟩ rfl (Nat.le_of_ble_eq_true rfl) ?_
        rintro _ rfl
        have h61 : (up (up (up (up τ 6 f 1) 7 (f * 30) 33) 8 (f * 30) (kd 33)) 9 (f * 30) (wo 33)) 6 f = 1 := by rw [up_ne _ (by decide), up_ne _ (by decide), up_ne _ (by decide), up_same]
        have h71 : (up (up (up (up τ 6 f 1) 7 (f * 30) 33) 8 (f * 30) (kd 33)) 9 (f * 30) (wo 33)) 7 (f * 30) = 33 := by rw [up_ne _ (by decide), up_ne _ (by decide), up_same]
        have hsg : ∀ j, rg ((up (up (up (up τ 6 f 1) 7 (f * 30) 33) 8 (f * 30) (kd 33)) 9 (f * 30) (wo 33)) 7 j) := by
          intro j
          rw [up_ne _ (by decide), up_ne _ (by decide), up_at, up_ne _ (by decide)]
          split
          · exact ⟨by decide, by decide⟩
          · exact hb.2 j
        refine g_aload_n F 0 rfl rfl d_X0_init_76 ?_
        refine g_iload_n F 1 rfl rfl d_X0_init_77 ?_
        refine g_Vv F (own := RX0) (c_X0_measure l E q6 sz18 (up (up (up (up τ 6 f 1) 7 (f * 30) 33) 8 (f * 30) (kd 33)) 9 (f * 30) (wo 33)) hb_12 f (fun _ => 1) (fun _ => 0) (by omega) (by rw [h61]; exact Wf_one h71 rfl rfl) hsg) k_X0_38 rfl rfl rfl [] d_X0_init_78 ⟨rfl, rfl, by decide, by decide⟩ ⟨by decide, by decide⟩ rfl (Nat.le_of_ble_eq_true rfl) ?_
        intro τ3 h3
        refine g_iinc F (lv' := [(1, vI (f + 1)), (0, .ref (q6 5))]) 1 rfl rfl (by decide) rfl d_X0_init_81 ?_
        refine g_goto F d_X0_init_84 ?_
        have hm9 : Sm [6, 7, 8, 9, 10, 11] σ τ3 := (((((hm.up (by decide) _ _).up (by decide) _ _).up (by decide) _ _).up (by decide) _ _)).trans (h3.1.wide (by decide))
        have hb9 : BI τ3 (f + 1) := by
          refine ⟨fun g a b => ?_, fun j => ?_⟩
          · have q6 : τ3 6 g = if g = f then 1 else τ 6 g := by rw [h3.1 6 (by decide), up_ne _ (by decide), up_ne _ (by decide), up_ne _ (by decide), up_at]
            have q7 : τ3 7 (g * 30) = if g * 30 = f * 30 then 33 else τ 7 (g * 30) := by rw [h3.1 7 (by decide), up_ne _ (by decide), up_ne _ (by decide), up_at, up_ne _ (by decide)]
            have q8 : τ3 8 (g * 30) = if g * 30 = f * 30 then kd 33 else τ 8 (g * 30) := by rw [h3.1 8 (by decide), up_ne _ (by decide), up_at, up_ne _ (by decide), up_ne _ (by decide)]
            have q9 : τ3 9 (g * 30) = if g * 30 = f * 30 then wo 33 else τ 9 (g * 30) := by rw [h3.1 9 (by decide), up_at, up_ne _ (by decide), up_ne _ (by decide), up_ne _ (by decide)]
            by_cases e : g = f
            · rw [q6, q7, q8, q9, if_pos e, if_pos (by omega), if_pos (by omega), if_pos (by omega), e]
              have h4 := h3.2.1 (f * 30) (by omega) (by rw [h61]; omega)
              exact ⟨rfl, rfl, by decide, by decide, h4.1, h4.2⟩
            · rw [q6, q7, q8, q9, if_neg e, if_neg (by omega), if_neg (by omega), if_neg (by omega)]
              have h4 := h3.2.2 (g * 30) (by rw [h61]; omega)
              rw [h4.1, h4.2, up_ne _ (by decide), up_ne _ (by decide), up_ne _ (by decide), up_ne _ (by decide), up_ne _ (by decide), up_ne _ (by decide), up_ne _ (by decide), up_ne _ (by decide)]
              exact hb.1 g a (by omega)
          · rw [h3.1 7 (by decide), up_ne _ (by decide), up_ne _ (by decide), up_at, up_ne _ (by decide)]
            split
            · exact ⟨by decide, by decide⟩
            · exact hb.2 j
        refine G_sub (ks := [1, 0]) rfl ?_
        exact ih53 (f + 1) τ3 (by omega) hm9 hb9 (by omega)
  refine G_sub (ks := [1, 0]) rfl ?_
  exact loop53 _ 0 σ (by omega) (Sm.refl _ _) ⟨fun g a b => by exfalso; omega, fun j => by rw [hz 7 j (by decide)]; exact ⟨by decide, by decide⟩⟩ (Nat.lt_succ_self _)
set_option maxHeartbeats 1000000 in
theorem c_X7_init (l : Launch) (E : Ev) (q : Nat → Nat) (σ : Sg) (hz : ∀ (k : Nat) (j : Int), 13 ≤ k → σ k j = 0) : CN l E yX7_init cX7_init 2 ({ frames := 1, cells := 3, slots := 128, locals := 12 } : Room) q sz19 σ [.ref (q 12), .ref (q 5)] 3 128 sz26 (isS σ) := by
  refine CN_of (own := RX7) (by decide) rfl rfl (Nat.le_of_ble_eq_true rfl) (fun X Q F hin hQ => ?_)
  show G X E 2 q sz19 σ 0 0 Q 0 [(0, .ref (q 12)), (1, .ref (q 5))] []
  refine g_aload_n F 0 rfl rfl d_X7_init_0 ?_
  refine g_obj F (mg 192 (by decide +kernel) rfl) oi_1 oi_2 (by decide) (by decide) d_X7_init_1 ?_
  refine g_aload_n F 0 rfl rfl d_X7_init_4 ?_
  refine g_bipush F (by decide) d_X7_init_5 ?_
  refine g_newa F (n := 120) ai_0 (by decide) rfl (fun j => hz _ j (Nat.le_of_ble_eq_true rfl)) (by decide) (by decide) d_X7_init_7 (fun q1 e1 => ?_)
  rw [← e1 5 (Nat.le_of_ble_eq_true rfl)]
  rw [← e1 12 (Nat.le_of_ble_eq_true rfl)]
  have a1 := e1
  show G X E 2 q1 sz20 σ 1 120 Q 9 [(0, .ref (q1 12)), (1, .ref (q1 5))] [.ref (q1 13), .ref (q1 12)]
  refine g_putR F hin (c' := 13) f_X7_11 d_X7_init_9 rfl (by decide) rfl rfl rfl rfl ?_
  show G X E 2 q1 sz21 σ 1 120 Q 12 [(0, .ref (q1 12)), (1, .ref (q1 5))] []
  refine g_aload_n F 0 rfl rfl d_X7_init_12 ?_
  refine g_iconst F d_X7_init_13 ?_
  refine g_newa F (n := 4) ai_0 (by decide) rfl (fun j => hz _ j (Nat.le_of_ble_eq_true rfl)) (by decide) (by decide) d_X7_init_14 (fun q2 e2 => ?_)
  rw [← e2 5 (Nat.le_of_ble_eq_true rfl)]
  rw [← e2 12 (Nat.le_of_ble_eq_true rfl)]
  have a2 := ag.trans a1 e2 (Nat.le_of_ble_eq_true rfl)
  show G X E 2 q2 sz22 σ 2 124 Q 16 [(0, .ref (q2 12)), (1, .ref (q2 5))] [.ref (q2 14), .ref (q2 12)]
  refine g_putR F hin (c' := 14) f_X7_15 d_X7_init_16 rfl (by decide) rfl rfl rfl rfl ?_
  show G X E 2 q2 sz23 σ 2 124 Q 19 [(0, .ref (q2 12)), (1, .ref (q2 5))] []
  refine g_aload_n F 0 rfl rfl d_X7_init_19 ?_
  refine g_iconst F d_X7_init_20 ?_
  refine g_newa F (n := 4) ai_0 (by decide) rfl (fun j => hz _ j (Nat.le_of_ble_eq_true rfl)) (by decide) (by decide) d_X7_init_21 (fun q3 e3 => ?_)
  rw [← e3 5 (Nat.le_of_ble_eq_true rfl)]
  rw [← e3 12 (Nat.le_of_ble_eq_true rfl)]
  have a3 := ag.trans a2 e3 (Nat.le_of_ble_eq_true rfl)
  show G X E 2 q3 sz24 σ 3 128 Q 23 [(0, .ref (q3 12)), (1, .ref (q3 5))] [.ref (q3 15), .ref (q3 12)]
  refine g_putR F hin (c' := 15) f_X7_18 d_X7_init_23 rfl (by decide) rfl rfl rfl rfl ?_
  show G X E 2 q3 sz25 σ 3 128 Q 26 [(0, .ref (q3 12)), (1, .ref (q3 5))] []
  refine g_aload_n F 0 rfl rfl d_X7_init_26 ?_
  refine g_aload_n F 1 rfl rfl d_X7_init_27 ?_
  refine g_putR F hin (c' := 5) f_X7_21 d_X7_init_28 rfl (by decide) rfl rfl rfl rfl ?_
  show G X E 2 q3 sz26 σ 3 128 Q 31 [(0, .ref (q3 12)), (1, .ref (q3 5))] []
  exact hQ d_X7_init_31 a3 (rfl)
set_option maxHeartbeats 1000000 in
theorem c_X1_init (l : Launch) (E : Ev) (q : Nat → Nat) (σ : Sg) (hz : ∀ (k : Nat) (j : Int), 17 ≤ k → σ k j = 0) : CN l E yX1_init cX1_init 2 ({ frames := 1, cells := 3, slots := 144, locals := 12 } : Room) q sz27 σ [.ref (q 16), .ref (q 5)] 3 144 sz34 (isS σ) := by
  refine CN_of (own := RX1) (by decide) rfl rfl (Nat.le_of_ble_eq_true rfl) (fun X Q F hin hQ => ?_)
  show G X E 2 q sz27 σ 0 0 Q 0 [(0, .ref (q 16)), (1, .ref (q 5))] []
  refine g_aload_n F 0 rfl rfl d_X1_init_0 ?_
  refine g_obj F (mg 211 (by decide +kernel) rfl) oi_1 oi_2 (by decide) (by decide) d_X1_init_1 ?_
  refine g_aload_n F 0 rfl rfl d_X1_init_4 ?_
  refine g_bipush F (by decide) d_X1_init_5 ?_
  refine g_newa F (n := 120) ai_0 (by decide) rfl (fun j => hz _ j (Nat.le_of_ble_eq_true rfl)) (by decide) (by decide) d_X1_init_7 (fun q1 e1 => ?_)
  rw [← e1 5 (Nat.le_of_ble_eq_true rfl)]
  rw [← e1 16 (Nat.le_of_ble_eq_true rfl)]
  have a1 := e1
  show G X E 2 q1 sz28 σ 1 120 Q 9 [(0, .ref (q1 16)), (1, .ref (q1 5))] [.ref (q1 17), .ref (q1 16)]
  refine g_putR F hin (c' := 17) f_X1_11 d_X1_init_9 rfl (by decide) rfl rfl rfl rfl ?_
  show G X E 2 q1 sz29 σ 1 120 Q 12 [(0, .ref (q1 16)), (1, .ref (q1 5))] []
  refine g_aload_n F 0 rfl rfl d_X1_init_12 ?_
  refine g_bipush F (by decide) d_X1_init_13 ?_
  refine g_newa F (n := 12) ai_0 (by decide) rfl (fun j => hz _ j (Nat.le_of_ble_eq_true rfl)) (by decide) (by decide) d_X1_init_15 (fun q2 e2 => ?_)
  rw [← e2 5 (Nat.le_of_ble_eq_true rfl)]
  rw [← e2 16 (Nat.le_of_ble_eq_true rfl)]
  have a2 := ag.trans a1 e2 (Nat.le_of_ble_eq_true rfl)
  show G X E 2 q2 sz30 σ 2 132 Q 17 [(0, .ref (q2 16)), (1, .ref (q2 5))] [.ref (q2 18), .ref (q2 16)]
  refine g_putR F hin (c' := 18) f_X1_15 d_X1_init_17 rfl (by decide) rfl rfl rfl rfl ?_
  show G X E 2 q2 sz31 σ 2 132 Q 20 [(0, .ref (q2 16)), (1, .ref (q2 5))] []
  refine g_aload_n F 0 rfl rfl d_X1_init_20 ?_
  refine g_bipush F (by decide) d_X1_init_21 ?_
  refine g_newa F (n := 12) ai_0 (by decide) rfl (fun j => hz _ j (Nat.le_of_ble_eq_true rfl)) (by decide) (by decide) d_X1_init_23 (fun q3 e3 => ?_)
  rw [← e3 5 (Nat.le_of_ble_eq_true rfl)]
  rw [← e3 16 (Nat.le_of_ble_eq_true rfl)]
  have a3 := ag.trans a2 e3 (Nat.le_of_ble_eq_true rfl)
  show G X E 2 q3 sz32 σ 3 144 Q 25 [(0, .ref (q3 16)), (1, .ref (q3 5))] [.ref (q3 19), .ref (q3 16)]
  refine g_putR F hin (c' := 19) f_X1_18 d_X1_init_25 rfl (by decide) rfl rfl rfl rfl ?_
  show G X E 2 q3 sz33 σ 3 144 Q 28 [(0, .ref (q3 16)), (1, .ref (q3 5))] []
  refine g_aload_n F 0 rfl rfl d_X1_init_28 ?_
  refine g_aload_n F 1 rfl rfl d_X1_init_29 ?_
  refine g_putR F hin (c' := 5) f_X1_21 d_X1_init_30 rfl (by decide) rfl rfl rfl rfl ?_
  show G X E 2 q3 sz34 σ 3 144 Q 33 [(0, .ref (q3 16)), (1, .ref (q3 5))] []
  exact hQ d_X1_init_33 a3 (rfl)
set_option maxHeartbeats 1000000 in
theorem c_X2_init (l : Launch) (E : Ev) (q : Nat → Nat) (σ : Sg) (hz : ∀ (k : Nat) (j : Int), 22 ≤ k → σ k j = 0) : CN l E yX2_init cX2_init 3 ({ frames := 1, cells := 7, slots := 3613, locals := 12 } : Room) q sz35 σ [.ref (q 21), .ref (q 5), .ref (q 12)] 7 3613 sz51 (isS σ) := by
  refine CN_of (own := RX2) (by decide) rfl rfl (Nat.le_of_ble_eq_true rfl) (fun X Q F hin hQ => ?_)
  show G X E 3 q sz35 σ 0 0 Q 0 [(0, .ref (q 21)), (1, .ref (q 5)), (2, .ref (q 12))] []
  refine g_aload_n F 0 rfl rfl d_X2_init_0 ?_
  refine g_obj F (mg 232 (by decide +kernel) rfl) oi_1 oi_2 (by decide) (by decide) d_X2_init_1 ?_
  refine g_aload_n F 0 rfl rfl d_X2_init_4 ?_
  refine g_sipush F (by decide) d_X2_init_5 ?_
  refine g_newa F (n := 903) ai_0 (by decide) rfl (fun j => hz _ j (Nat.le_of_ble_eq_true rfl)) (by decide) (by decide) d_X2_init_8 (fun q1 e1 => ?_)
  rw [← e1 5 (Nat.le_of_ble_eq_true rfl)]
  rw [← e1 12 (Nat.le_of_ble_eq_true rfl)]
  rw [← e1 21 (Nat.le_of_ble_eq_true rfl)]
  have a1 := e1
  show G X E 3 q1 sz36 σ 1 903 Q 10 [(0, .ref (q1 21)), (1, .ref (q1 5)), (2, .ref (q1 12))] [.ref (q1 22), .ref (q1 21)]
  refine g_putR F hin (c' := 22) f_X2_11 d_X2_init_10 rfl (by decide) rfl rfl rfl rfl ?_
  show G X E 3 q1 sz37 σ 1 903 Q 13 [(0, .ref (q1 21)), (1, .ref (q1 5)), (2, .ref (q1 12))] []
  refine g_aload_n F 0 rfl rfl d_X2_init_13 ?_
  refine g_sipush F (by decide) d_X2_init_14 ?_
  refine g_newa F (n := 903) ai_0 (by decide) rfl (fun j => hz _ j (Nat.le_of_ble_eq_true rfl)) (by decide) (by decide) d_X2_init_17 (fun q2 e2 => ?_)
  rw [← e2 5 (Nat.le_of_ble_eq_true rfl)]
  rw [← e2 12 (Nat.le_of_ble_eq_true rfl)]
  rw [← e2 21 (Nat.le_of_ble_eq_true rfl)]
  have a2 := ag.trans a1 e2 (Nat.le_of_ble_eq_true rfl)
  show G X E 3 q2 sz38 σ 2 1806 Q 19 [(0, .ref (q2 21)), (1, .ref (q2 5)), (2, .ref (q2 12))] [.ref (q2 23), .ref (q2 21)]
  refine g_putR F hin (c' := 23) f_X2_15 d_X2_init_19 rfl (by decide) rfl rfl rfl rfl ?_
  show G X E 3 q2 sz39 σ 2 1806 Q 22 [(0, .ref (q2 21)), (1, .ref (q2 5)), (2, .ref (q2 12))] []
  refine g_aload_n F 0 rfl rfl d_X2_init_22 ?_
  refine g_sipush F (by decide) d_X2_init_23 ?_
  refine g_newa F (n := 903) ai_0 (by decide) rfl (fun j => hz _ j (Nat.le_of_ble_eq_true rfl)) (by decide) (by decide) d_X2_init_26 (fun q3 e3 => ?_)
  rw [← e3 5 (Nat.le_of_ble_eq_true rfl)]
  rw [← e3 12 (Nat.le_of_ble_eq_true rfl)]
  rw [← e3 21 (Nat.le_of_ble_eq_true rfl)]
  have a3 := ag.trans a2 e3 (Nat.le_of_ble_eq_true rfl)
  show G X E 3 q3 sz40 σ 3 2709 Q 28 [(0, .ref (q3 21)), (1, .ref (q3 5)), (2, .ref (q3 12))] [.ref (q3 24), .ref (q3 21)]
  refine g_putR F hin (c' := 24) f_X2_18 d_X2_init_28 rfl (by decide) rfl rfl rfl rfl ?_
  show G X E 3 q3 sz41 σ 3 2709 Q 31 [(0, .ref (q3 21)), (1, .ref (q3 5)), (2, .ref (q3 12))] []
  refine g_aload_n F 0 rfl rfl d_X2_init_31 ?_
  refine g_sipush F (by decide) d_X2_init_32 ?_
  refine g_newa F (n := 300) ai_0 (by decide) rfl (fun j => hz _ j (Nat.le_of_ble_eq_true rfl)) (by decide) (by decide) d_X2_init_35 (fun q4 e4 => ?_)
  rw [← e4 5 (Nat.le_of_ble_eq_true rfl)]
  rw [← e4 12 (Nat.le_of_ble_eq_true rfl)]
  rw [← e4 21 (Nat.le_of_ble_eq_true rfl)]
  have a4 := ag.trans a3 e4 (Nat.le_of_ble_eq_true rfl)
  show G X E 3 q4 sz42 σ 4 3009 Q 37 [(0, .ref (q4 21)), (1, .ref (q4 5)), (2, .ref (q4 12))] [.ref (q4 25), .ref (q4 21)]
  refine g_putR F hin (c' := 25) f_X2_21 d_X2_init_37 rfl (by decide) rfl rfl rfl rfl ?_
  show G X E 3 q4 sz43 σ 4 3009 Q 40 [(0, .ref (q4 21)), (1, .ref (q4 5)), (2, .ref (q4 12))] []
  refine g_aload_n F 0 rfl rfl d_X2_init_40 ?_
  refine g_sipush F (by decide) d_X2_init_41 ?_
  refine g_newa F (n := 300) ai_0 (by decide) rfl (fun j => hz _ j (Nat.le_of_ble_eq_true rfl)) (by decide) (by decide) d_X2_init_44 (fun q5 e5 => ?_)
  rw [← e5 5 (Nat.le_of_ble_eq_true rfl)]
  rw [← e5 12 (Nat.le_of_ble_eq_true rfl)]
  rw [← e5 21 (Nat.le_of_ble_eq_true rfl)]
  have a5 := ag.trans a4 e5 (Nat.le_of_ble_eq_true rfl)
  show G X E 3 q5 sz44 σ 5 3309 Q 46 [(0, .ref (q5 21)), (1, .ref (q5 5)), (2, .ref (q5 12))] [.ref (q5 26), .ref (q5 21)]
  refine g_putR F hin (c' := 26) f_X2_24 d_X2_init_46 rfl (by decide) rfl rfl rfl rfl ?_
  show G X E 3 q5 sz45 σ 5 3309 Q 49 [(0, .ref (q5 21)), (1, .ref (q5 5)), (2, .ref (q5 12))] []
  refine g_aload_n F 0 rfl rfl d_X2_init_49 ?_
  refine g_sipush F (by decide) d_X2_init_50 ?_
  refine g_newa F (n := 300) ai_0 (by decide) rfl (fun j => hz _ j (Nat.le_of_ble_eq_true rfl)) (by decide) (by decide) d_X2_init_53 (fun q6 e6 => ?_)
  rw [← e6 5 (Nat.le_of_ble_eq_true rfl)]
  rw [← e6 12 (Nat.le_of_ble_eq_true rfl)]
  rw [← e6 21 (Nat.le_of_ble_eq_true rfl)]
  have a6 := ag.trans a5 e6 (Nat.le_of_ble_eq_true rfl)
  show G X E 3 q6 sz46 σ 6 3609 Q 55 [(0, .ref (q6 21)), (1, .ref (q6 5)), (2, .ref (q6 12))] [.ref (q6 27), .ref (q6 21)]
  refine g_putR F hin (c' := 27) f_X2_27 d_X2_init_55 rfl (by decide) rfl rfl rfl rfl ?_
  show G X E 3 q6 sz47 σ 6 3609 Q 58 [(0, .ref (q6 21)), (1, .ref (q6 5)), (2, .ref (q6 12))] []
  refine g_aload_n F 0 rfl rfl d_X2_init_58 ?_
  refine g_iconst F d_X2_init_59 ?_
  refine g_newa F (n := 4) ai_0 (by decide) rfl (fun j => hz _ j (Nat.le_of_ble_eq_true rfl)) (by decide) (by decide) d_X2_init_60 (fun q7 e7 => ?_)
  rw [← e7 5 (Nat.le_of_ble_eq_true rfl)]
  rw [← e7 12 (Nat.le_of_ble_eq_true rfl)]
  rw [← e7 21 (Nat.le_of_ble_eq_true rfl)]
  have a7 := ag.trans a6 e7 (Nat.le_of_ble_eq_true rfl)
  show G X E 3 q7 sz48 σ 7 3613 Q 62 [(0, .ref (q7 21)), (1, .ref (q7 5)), (2, .ref (q7 12))] [.ref (q7 28), .ref (q7 21)]
  refine g_putR F hin (c' := 28) f_X2_30 d_X2_init_62 rfl (by decide) rfl rfl rfl rfl ?_
  show G X E 3 q7 sz49 σ 7 3613 Q 65 [(0, .ref (q7 21)), (1, .ref (q7 5)), (2, .ref (q7 12))] []
  refine g_aload_n F 0 rfl rfl d_X2_init_65 ?_
  refine g_aload_n F 1 rfl rfl d_X2_init_66 ?_
  refine g_putR F hin (c' := 5) f_X2_33 d_X2_init_67 rfl (by decide) rfl rfl rfl rfl ?_
  show G X E 3 q7 sz50 σ 7 3613 Q 70 [(0, .ref (q7 21)), (1, .ref (q7 5)), (2, .ref (q7 12))] []
  refine g_aload_n F 0 rfl rfl d_X2_init_70 ?_
  refine g_aload_n F 2 rfl rfl d_X2_init_71 ?_
  refine g_putR F hin (c' := 12) f_X2_37 d_X2_init_72 rfl (by decide) rfl rfl rfl rfl ?_
  show G X E 3 q7 sz51 σ 7 3613 Q 75 [(0, .ref (q7 21)), (1, .ref (q7 5)), (2, .ref (q7 12))] []
  exact hQ d_X2_init_75 a7 (rfl)
set_option maxHeartbeats 1000000 in
theorem c_X3_init (l : Launch) (E : Ev) (q : Nat → Nat) (σ : Sg) (hz : ∀ (k : Nat) (j : Int), 29 ≤ k → σ k j = 0) : CN l E yX3_init cX3_init 2 ({ frames := 1, cells := 1, slots := 3600, locals := 23 } : Room) q sz51 σ [.ref (q 20), .ref (q 21)] 1 3600 sz54 (fun τ => Sm [29] σ τ ∧ ∀ j, 0 ≤ j → j < 3600 → τ 29 j = -1) := by
  refine CN_of (own := RX3) (by decide) rfl rfl (Nat.le_of_ble_eq_true rfl) (fun X Q F hin hQ => ?_)
  show G X E 2 q sz51 σ 0 0 Q 0 [(0, .ref (q 20)), (1, .ref (q 21))] []
  refine g_aload_n F 0 rfl rfl d_X3_init_0 ?_
  refine g_obj F (mg 291 (by decide +kernel) rfl) oi_1 oi_2 (by decide) (by decide) d_X3_init_1 ?_
  refine g_aload_n F 0 rfl rfl d_X3_init_4 ?_
  refine g_sipush F (by decide) d_X3_init_5 ?_
  refine g_newa F (n := 3600) ai_0 (by decide) rfl (fun j => hz _ j (Nat.le_of_ble_eq_true rfl)) (by decide) (by decide) d_X3_init_8 (fun q1 e1 => ?_)
  rw [← e1 20 (Nat.le_of_ble_eq_true rfl)]
  rw [← e1 21 (Nat.le_of_ble_eq_true rfl)]
  have a1 := e1
  show G X E 2 q1 sz52 σ 1 3600 Q 10 [(0, .ref (q1 20)), (1, .ref (q1 21))] [.ref (q1 29), .ref (q1 20)]
  refine g_putR F hin (c' := 29) f_X3_11 d_X3_init_10 rfl (by decide) rfl rfl rfl rfl ?_
  show G X E 2 q1 sz53 σ 1 3600 Q 13 [(0, .ref (q1 20)), (1, .ref (q1 21))] []
  refine g_aload_n F 0 rfl rfl d_X3_init_13 ?_
  refine g_aload_n F 1 rfl rfl d_X3_init_14 ?_
  refine g_putR F hin (c' := 21) f_X3_15 d_X3_init_15 rfl (by decide) rfl rfl rfl rfl ?_
  show G X E 2 q1 sz54 σ 1 3600 Q 18 [(0, .ref (q1 20)), (1, .ref (q1 21))] []
  refine g_aload_n F 0 rfl rfl d_X3_init_18 ?_
  refine g_getR F f_X3_11 d_X3_init_19 rfl rfl ?_
  refine g_iconst F d_X3_init_22 ?_
  refine g_Sv F (own := RX3) (c_J7_fill_53178 l E q1 sz54 σ 29 3600 (-1) rfl (by decide)) k_X3_19 [] d_X3_init_23 ⟨rfl, rfl, by decide, by decide⟩ ⟨by decide, by decide⟩ rfl (Nat.le_of_ble_eq_true rfl) ?_
  intro τ1 hp
  exact hQ d_X3_init_26 a1 (⟨hp.2.2, fun j a b => hp.1 j a (by omega)⟩)
set_option maxHeartbeats 1000000 in
theorem c_X8_init (l : Launch) (E : Ev) (q : Nat → Nat) (σ : Sg) (hz : ∀ (k : Nat) (j : Int), 1 ≤ k → σ k j = 0) : CN l E yX8_init cX8_init 1 ({ frames := 6, cells := 29, slots := 8167, locals := 141 } : Room) q sz55 σ [.ref (q 0)] 29 8167 sz62 (fun τ => newC τ ∧ Sm ncrows σ τ) := by
  refine CN_of (own := RX8) (by decide) rfl rfl (Nat.le_of_ble_eq_true rfl) (fun X Q F hin hQ => ?_)
  show G X E 1 q sz55 σ 0 0 Q 0 [(0, .ref (q 0))] []
  refine g_aload_n F 0 rfl rfl d_X8_init_0 ?_
  refine g_obj F (mg 73 (by decide +kernel) rfl) oi_1 oi_2 (by decide) (by decide) d_X8_init_1 ?_
  refine g_aload_n F 0 rfl rfl d_X8_init_4 ?_
  refine g_new F (fs := [some none, none]) kl_4 (mg 76 (by decide +kernel) rfl) (mg 77 (by decide +kernel) rfl) (mg 57 (by decide +kernel) rfl) rfl (fun j => hz _ j (Nat.le_of_ble_eq_true rfl)) rfl df_4 (by decide) (by decide) d_X8_init_5 (fun q1 e1 => ?_)
  rw [← e1 0 (Nat.le_of_ble_eq_true rfl)]
  have a1 := e1
  show G X E 1 q1 sz0 σ 1 2 Q 8 [(0, .ref (q1 0))] [.ref (q1 1), .ref (q1 0)]
  refine g_dup F rfl d_X8_init_8 ?_
  refine g_IN F (own := RX8) (c_X4_init l E q1 σ (fun k j hk => hz k j (by omega))) ki_X8_11 [.ref (q1 1), .ref (q1 0)] d_X8_init_9 ⟨rfl, rfl, by decide, by decide⟩ ⟨by decide, by decide⟩ rfl (Nat.le_of_ble_eq_true rfl) ?_
  rintro q2 _ e2 rfl
  rw [← e2 0 (Nat.le_of_ble_eq_true rfl)]
  rw [← e2 1 (Nat.le_of_ble_eq_true rfl)]
  have a2 := ag.trans a1 e2 (Nat.le_of_ble_eq_true rfl)
  show G X E 1 q2 sz2 σ 2 32 Q 12 [(0, .ref (q2 0))] [.ref (q2 1), .ref (q2 0)]
  refine g_putR F hin (c' := 1) f_X8_12 d_X8_init_12 rfl (by decide) rfl rfl rfl rfl ?_
  show G X E 1 q2 sz56 σ 2 32 Q 15 [(0, .ref (q2 0))] []
  refine g_aload_n F 0 rfl rfl d_X8_init_15 ?_
  refine g_new F (fs := [some none, none]) kl_5 (mg 90 (by decide +kernel) rfl) (mg 91 (by decide +kernel) rfl) (mg 58 (by decide +kernel) rfl) rfl (fun j => hz _ j (Nat.le_of_ble_eq_true rfl)) rfl df_5 (by decide) (by decide) d_X8_init_16 (fun q3 e3 => ?_)
  rw [← e3 0 (Nat.le_of_ble_eq_true rfl)]
  have a3 := ag.trans a2 e3 (Nat.le_of_ble_eq_true rfl)
  show G X E 1 q3 sz3 σ 3 34 Q 19 [(0, .ref (q3 0))] [.ref (q3 3), .ref (q3 0)]
  refine g_dup F rfl d_X8_init_19 ?_
  refine g_IN F (own := RX8) (c_X5_init l E q3 σ (fun k j hk => hz k j (by omega))) ki_X8_18 [.ref (q3 3), .ref (q3 0)] d_X8_init_20 ⟨rfl, rfl, by decide, by decide⟩ ⟨by decide, by decide⟩ rfl (Nat.le_of_ble_eq_true rfl) ?_
  rintro q4 _ e4 rfl
  rw [← e4 0 (Nat.le_of_ble_eq_true rfl)]
  rw [← e4 3 (Nat.le_of_ble_eq_true rfl)]
  have a4 := ag.trans a3 e4 (Nat.le_of_ble_eq_true rfl)
  show G X E 1 q4 sz5 σ 4 44 Q 23 [(0, .ref (q4 0))] [.ref (q4 3), .ref (q4 0)]
  refine g_putR F hin (c' := 3) f_X8_19 d_X8_init_23 rfl (by decide) rfl rfl rfl rfl ?_
  show G X E 1 q4 sz57 σ 4 44 Q 26 [(0, .ref (q4 0))] []
  refine g_aload_n F 0 rfl rfl d_X8_init_26 ?_
  refine g_new F (fs := [some none, some none, some none, some none, some none, some none]) kl_0 (mg 103 (by decide +kernel) rfl) (mg 104 (by decide +kernel) rfl) (mg 59 (by decide +kernel) rfl) rfl (fun j => hz _ j (Nat.le_of_ble_eq_true rfl)) rfl df_0 (by decide) (by decide) d_X8_init_27 (fun q5 e5 => ?_)
  rw [← e5 0 (Nat.le_of_ble_eq_true rfl)]
  have a5 := ag.trans a4 e5 (Nat.le_of_ble_eq_true rfl)
  show G X E 1 q5 sz6 σ 5 50 Q 30 [(0, .ref (q5 0))] [.ref (q5 5), .ref (q5 0)]
  refine g_dup F rfl d_X8_init_30 ?_
  refine g_I F (own := RX8) (c_X0_init l E q5 σ (fun k j hk => hz k j (by omega))) ki_X8_25 [.ref (q5 5), .ref (q5 0)] d_X8_init_31 ⟨rfl, rfl, by decide, by decide⟩ ⟨by decide, by decide⟩ rfl (Nat.le_of_ble_eq_true rfl) ?_
  intro q6 τ1 e6 hb
  obtain ⟨m1, b1⟩ := hb
  have hz1 : ∀ (k : Nat) (j : Int), 12 ≤ k → τ1 k j = 0 := m1.zero hz (by decide) (by decide)
  rw [← e6 0 (Nat.le_of_ble_eq_true rfl)]
  rw [← e6 5 (Nat.le_of_ble_eq_true rfl)]
  have a6 := ag.trans a5 e6 (Nat.le_of_ble_eq_true rfl)
  show G X E 1 q6 sz18 τ1 11 654 Q 34 [(0, .ref (q6 0))] [.ref (q6 5), .ref (q6 0)]
  refine g_putR F hin (c' := 5) f_X8_26 d_X8_init_34 rfl (by decide) rfl rfl rfl rfl ?_
  show G X E 1 q6 sz58 τ1 11 654 Q 37 [(0, .ref (q6 0))] []
  refine g_aload_n F 0 rfl rfl d_X8_init_37 ?_
  refine g_new F (fs := [some none, some none, some none, some none]) kl_6 (mg 187 (by decide +kernel) rfl) (mg 188 (by decide +kernel) rfl) (mg 61 (by decide +kernel) rfl) rfl (fun j => hz1 _ j (Nat.le_of_ble_eq_true rfl)) rfl df_6 (by decide) (by decide) d_X8_init_38 (fun q7 e7 => ?_)
  rw [← e7 0 (Nat.le_of_ble_eq_true rfl)]
  have a7 := ag.trans a6 e7 (Nat.le_of_ble_eq_true rfl)
  show G X E 1 q7 sz19 τ1 12 658 Q 41 [(0, .ref (q7 0))] [.ref (q7 12), .ref (q7 0)]
  refine g_dup F rfl d_X8_init_41 ?_
  refine g_aload_n F 0 rfl rfl d_X8_init_42 ?_
  refine g_getR F f_X8_26 d_X8_init_43 rfl rfl ?_
  refine g_I F (own := RX8) (c_X7_init l E q7 τ1 (fun k j hk => hz1 k j (by omega))) ki_X8_32 [.ref (q7 12), .ref (q7 0)] d_X8_init_46 ⟨rfl, rfl, by decide, by decide⟩ ⟨by decide, by decide⟩ rfl (Nat.le_of_ble_eq_true rfl) ?_
  rintro q8 _ e8 rfl
  rw [← e8 0 (Nat.le_of_ble_eq_true rfl)]
  rw [← e8 12 (Nat.le_of_ble_eq_true rfl)]
  have a8 := ag.trans a7 e8 (Nat.le_of_ble_eq_true rfl)
  show G X E 1 q8 sz26 τ1 15 786 Q 49 [(0, .ref (q8 0))] [.ref (q8 12), .ref (q8 0)]
  refine g_putR F hin (c' := 12) f_X8_35 d_X8_init_49 rfl (by decide) rfl rfl rfl rfl ?_
  show G X E 1 q8 sz59 τ1 15 786 Q 52 [(0, .ref (q8 0))] []
  refine g_aload_n F 0 rfl rfl d_X8_init_52 ?_
  refine g_new F (fs := [some none, some none, some none, some none]) kl_1 (mg 206 (by decide +kernel) rfl) (mg 207 (by decide +kernel) rfl) (mg 62 (by decide +kernel) rfl) rfl (fun j => hz1 _ j (Nat.le_of_ble_eq_true rfl)) rfl df_1 (by decide) (by decide) d_X8_init_53 (fun q9 e9 => ?_)
  rw [← e9 0 (Nat.le_of_ble_eq_true rfl)]
  have a9 := ag.trans a8 e9 (Nat.le_of_ble_eq_true rfl)
  show G X E 1 q9 sz27 τ1 16 790 Q 56 [(0, .ref (q9 0))] [.ref (q9 16), .ref (q9 0)]
  refine g_dup F rfl d_X8_init_56 ?_
  refine g_aload_n F 0 rfl rfl d_X8_init_57 ?_
  refine g_getR F f_X8_26 d_X8_init_58 rfl rfl ?_
  refine g_I F (own := RX8) (c_X1_init l E q9 τ1 (fun k j hk => hz1 k j (by omega))) ki_X8_41 [.ref (q9 16), .ref (q9 0)] d_X8_init_61 ⟨rfl, rfl, by decide, by decide⟩ ⟨by decide, by decide⟩ rfl (Nat.le_of_ble_eq_true rfl) ?_
  rintro q10 _ e10 rfl
  rw [← e10 0 (Nat.le_of_ble_eq_true rfl)]
  rw [← e10 16 (Nat.le_of_ble_eq_true rfl)]
  have a10 := ag.trans a9 e10 (Nat.le_of_ble_eq_true rfl)
  show G X E 1 q10 sz34 τ1 19 934 Q 64 [(0, .ref (q10 0))] [.ref (q10 16), .ref (q10 0)]
  refine g_putR F hin (c' := 16) f_X8_42 d_X8_init_64 rfl (by decide) rfl rfl rfl rfl ?_
  show G X E 1 q10 sz60 τ1 19 934 Q 67 [(0, .ref (q10 0))] []
  refine g_aload_n F 0 rfl rfl d_X8_init_67 ?_
  refine g_new F (fs := [some none, some none]) kl_3 (mg 225 (by decide +kernel) rfl) (mg 226 (by decide +kernel) rfl) (mg 63 (by decide +kernel) rfl) rfl (fun j => hz1 _ j (Nat.le_of_ble_eq_true rfl)) rfl df_3 (by decide) (by decide) d_X8_init_68 (fun q11 e11 => ?_)
  rw [← e11 0 (Nat.le_of_ble_eq_true rfl)]
  have a11 := ag.trans a10 e11 (Nat.le_of_ble_eq_true rfl)
  show G X E 1 q11 sz61 τ1 20 936 Q 71 [(0, .ref (q11 0))] [.ref (q11 20), .ref (q11 0)]
  refine g_dup F rfl d_X8_init_71 ?_
  refine g_new F (fs := [some none, some none, some none, some none, some none, none, some none, some none, some none, none, none, some none, none, none, none, none, none, none]) kl_2 (mg 227 (by decide +kernel) rfl) (mg 228 (by decide +kernel) rfl) (mg 64 (by decide +kernel) rfl) rfl (fun j => hz1 _ j (Nat.le_of_ble_eq_true rfl)) rfl df_2 (by decide) (by decide) d_X8_init_72 (fun q12 e12 => ?_)
  rw [← e12 0 (Nat.le_of_ble_eq_true rfl)]
  rw [← e12 20 (Nat.le_of_ble_eq_true rfl)]
  have a12 := ag.trans a11 e12 (Nat.le_of_ble_eq_true rfl)
  show G X E 1 q12 sz35 τ1 21 954 Q 75 [(0, .ref (q12 0))] [.ref (q12 21), .ref (q12 20), .ref (q12 20), .ref (q12 0)]
  refine g_dup F rfl d_X8_init_75 ?_
  refine g_aload_n F 0 rfl rfl d_X8_init_76 ?_
  refine g_getR F f_X8_26 d_X8_init_77 rfl rfl ?_
  refine g_aload_n F 0 rfl rfl d_X8_init_80 ?_
  refine g_getR F f_X8_35 d_X8_init_81 rfl rfl ?_
  refine g_I F (own := RX8) (c_X2_init l E q12 τ1 (fun k j hk => hz1 k j (by omega))) ki_X8_50 [.ref (q12 21), .ref (q12 20), .ref (q12 20), .ref (q12 0)] d_X8_init_84 ⟨rfl, rfl, by decide, by decide⟩ ⟨by decide, by decide⟩ rfl (Nat.le_of_ble_eq_true rfl) ?_
  rintro q13 _ e13 rfl
  rw [← e13 0 (Nat.le_of_ble_eq_true rfl)]
  rw [← e13 20 (Nat.le_of_ble_eq_true rfl)]
  rw [← e13 21 (Nat.le_of_ble_eq_true rfl)]
  have a13 := ag.trans a12 e13 (Nat.le_of_ble_eq_true rfl)
  show G X E 1 q13 sz51 τ1 28 4567 Q 87 [(0, .ref (q13 0))] [.ref (q13 21), .ref (q13 20), .ref (q13 20), .ref (q13 0)]
  refine g_I F (own := RX8) (c_X3_init l E q13 τ1 (fun k j hk => hz1 k j (by omega))) ki_X8_53 [.ref (q13 20), .ref (q13 0)] d_X8_init_87 ⟨rfl, rfl, by decide, by decide⟩ ⟨by decide, by decide⟩ rfl (Nat.le_of_ble_eq_true rfl) ?_
  intro q14 τ2 e14 hb2
  obtain ⟨m2, hk⟩ := hb2
  have z2 : ∀ (k : Nat) (j : Int), 12 ≤ k → k < 29 → τ2 k j = 0 := fun k j h1 h2 => by rw [m2 k (by simp; omega)]; exact hz1 k j h1
  have b2 : BI τ2 4 := BI_rows b1 (fun k h => m2 k (by simp at h; simp; omega))
  rw [← e14 0 (Nat.le_of_ble_eq_true rfl)]
  rw [← e14 20 (Nat.le_of_ble_eq_true rfl)]
  have a14 := ag.trans a13 e14 (Nat.le_of_ble_eq_true rfl)
  show G X E 1 q14 sz54 τ2 29 8167 Q 90 [(0, .ref (q14 0))] [.ref (q14 20), .ref (q14 0)]
  refine g_putR F hin (c' := 20) f_X8_56 d_X8_init_90 rfl (by decide) rfl rfl rfl rfl ?_
  show G X E 1 q14 sz62 τ2 29 8167 Q 93 [(0, .ref (q14 0))] []
  refine g_aload_n F 0 rfl rfl d_X8_init_93 ?_
  refine g_getR F f_X8_35 d_X8_init_94 rfl rfl ?_
  refine g_Vv F (own := RX8) (c_X7_renew l E q14 sz62 τ2 hc_30  (BOK_BI b2) (fun p => by rw [z2 13 p (by decide) (by decide)]; decide) (fun p => by rw [z2 14 p (by decide) (by decide)]; decide)) k_X8_60 rfl rfl rfl [] d_X8_init_97 ⟨rfl, rfl, by decide, by decide⟩ ⟨by decide, by decide⟩ rfl (Nat.le_of_ble_eq_true rfl) ?_
  intro τ4 hT4
  have b4 : BI τ4 4 := BI_rows b2 (fun k h => hT4.1 k (by simp at h; simp; omega))
  have z4 : ∀ (k : Nat) (j : Int), 16 ≤ k → k < 29 → τ4 k j = 0 := fun k j h1 h2 => by rw [hT4.1 k (by simp; omega)]; exact z2 k j (by omega) h2
  refine g_aload_n F 0 rfl rfl d_X8_init_100 ?_
  refine g_getR F f_X8_42 d_X8_init_101 rfl rfl ?_
  refine g_Vv F (own := RX8) (c_X1_renew l E q14 sz62 τ4 hc_30  (BOK_BI b4) (fun p => by rw [z4 17 p (by decide) (by decide)]; decide) (fun p => by rw [z4 18 p (by decide) (by decide)]; decide) (fun p => by rw [z4 19 p (by decide) (by decide)]; decide)) k_X8_63 rfl rfl rfl [] d_X8_init_104 ⟨rfl, rfl, by decide, by decide⟩ ⟨by decide, by decide⟩ rfl (Nat.le_of_ble_eq_true rfl) ?_
  intro τ5 hU5
  exact hQ d_X8_init_107 a14 (newC_of hz m1 b1 m2 hk hT4.1 hT4.2.1 hT4.2.2 hU5.1 hU5.2.1 hU5.2.2.1 hU5.2.2.2)
set_option maxHeartbeats 1000000 in
theorem c_X9_init (l : Launch) (E : Ev) (q : Nat → Nat) (σ : Sg) (L : TB) (U : Int → Int → Int) (hz : ∀ (k : Nat) (j : Int), 31 ≤ k → σ k j = 0) (hLU : ∀ τ : Sg, MIf τ 4 → LfpT (τ 34) (τ 31) (τ 32) L ∧ LfpU (τ 34) (τ 31) (τ 32) U) : CN l E yX9_init cX9_init 2 ({ frames := 4, cells := 18, slots := 8314, locals := 96 } : Room) q sz63 σ [.ref (q 30)] 18 8314 sz99 (fun τ => Sm [31, 32, 34, 37, 38, 39] σ τ ∧ MIf τ 4 ∧ MTR τ ∧ UR τ ∧ C2 τ ∧ LyD τ L U) := by
  refine CN_of (own := RX9) (by decide) rfl rfl (Nat.le_of_ble_eq_true rfl) (fun X Q F hin hQ => ?_)
  show G X E 2 q sz63 σ 0 0 Q 0 [(0, .ref (q 30))] []
  refine g_aload_n F 0 rfl rfl d_X9_init_0 ?_
  refine g_obj F (mg 711 (by decide +kernel) rfl) oi_1 oi_2 (by decide) (by decide) d_X9_init_1 ?_
  refine g_aload_n F 0 rfl rfl d_X9_init_4 ?_
  refine g_sipush F (by decide) d_X9_init_5 ?_
  refine g_newa F (n := 150) ai_0 (by decide) rfl (fun j => hz _ j (Nat.le_of_ble_eq_true rfl)) (by decide) (by decide) d_X9_init_8 (fun q1 e1 => ?_)
  rw [← e1 30 (Nat.le_of_ble_eq_true rfl)]
  have a1 := e1
  show G X E 2 q1 sz64 σ 1 150 Q 10 [(0, .ref (q1 30))] [.ref (q1 31), .ref (q1 30)]
  refine g_putR F hin (c' := 31) f_X9_7 d_X9_init_10 rfl (by decide) rfl rfl rfl rfl ?_
  show G X E 2 q1 sz65 σ 1 150 Q 13 [(0, .ref (q1 30))] []
  refine g_aload_n F 0 rfl rfl d_X9_init_13 ?_
  refine g_sipush F (by decide) d_X9_init_14 ?_
  refine g_newa F (n := 150) ai_0 (by decide) rfl (fun j => hz _ j (Nat.le_of_ble_eq_true rfl)) (by decide) (by decide) d_X9_init_17 (fun q2 e2 => ?_)
  rw [← e2 30 (Nat.le_of_ble_eq_true rfl)]
  have a2 := ag.trans a1 e2 (Nat.le_of_ble_eq_true rfl)
  show G X E 2 q2 sz66 σ 2 300 Q 19 [(0, .ref (q2 30))] [.ref (q2 32), .ref (q2 30)]
  refine g_putR F hin (c' := 32) f_X9_13 d_X9_init_19 rfl (by decide) rfl rfl rfl rfl ?_
  show G X E 2 q2 sz67 σ 2 300 Q 22 [(0, .ref (q2 30))] []
  refine g_aload_n F 0 rfl rfl d_X9_init_22 ?_
  refine g_sipush F (by decide) d_X9_init_23 ?_
  refine g_newa F (n := 150) ai_0 (by decide) rfl (fun j => hz _ j (Nat.le_of_ble_eq_true rfl)) (by decide) (by decide) d_X9_init_26 (fun q3 e3 => ?_)
  rw [← e3 30 (Nat.le_of_ble_eq_true rfl)]
  have a3 := ag.trans a2 e3 (Nat.le_of_ble_eq_true rfl)
  show G X E 2 q3 sz68 σ 3 450 Q 28 [(0, .ref (q3 30))] [.ref (q3 33), .ref (q3 30)]
  refine g_putR F hin (c' := 33) f_X9_16 d_X9_init_28 rfl (by decide) rfl rfl rfl rfl ?_
  show G X E 2 q3 sz69 σ 3 450 Q 31 [(0, .ref (q3 30))] []
  refine g_aload_n F 0 rfl rfl d_X9_init_31 ?_
  refine g_iconst F d_X9_init_32 ?_
  refine g_newa F (n := 5) ai_0 (by decide) rfl (fun j => hz _ j (Nat.le_of_ble_eq_true rfl)) (by decide) (by decide) d_X9_init_33 (fun q4 e4 => ?_)
  rw [← e4 30 (Nat.le_of_ble_eq_true rfl)]
  have a4 := ag.trans a3 e4 (Nat.le_of_ble_eq_true rfl)
  show G X E 2 q4 sz70 σ 4 455 Q 35 [(0, .ref (q4 30))] [.ref (q4 34), .ref (q4 30)]
  refine g_putR F hin (c' := 34) f_X9_19 d_X9_init_35 rfl (by decide) rfl rfl rfl rfl ?_
  show G X E 2 q4 sz71 σ 4 455 Q 38 [(0, .ref (q4 30))] []
  refine g_aload_n F 0 rfl rfl d_X9_init_38 ?_
  refine g_bipush F (by decide) d_X9_init_39 ?_
  refine g_newa F (n := 32) ai_0 (by decide) rfl (fun j => hz _ j (Nat.le_of_ble_eq_true rfl)) (by decide) (by decide) d_X9_init_41 (fun q5 e5 => ?_)
  rw [← e5 30 (Nat.le_of_ble_eq_true rfl)]
  have a5 := ag.trans a4 e5 (Nat.le_of_ble_eq_true rfl)
  show G X E 2 q5 sz72 σ 5 487 Q 43 [(0, .ref (q5 30))] [.ref (q5 35), .ref (q5 30)]
  refine g_putR F hin (c' := 35) f_X9_22 d_X9_init_43 rfl (by decide) rfl rfl rfl rfl ?_
  show G X E 2 q5 sz73 σ 5 487 Q 46 [(0, .ref (q5 30))] []
  refine g_aload_n F 0 rfl rfl d_X9_init_46 ?_
  refine g_bipush F (by decide) d_X9_init_47 ?_
  refine g_newa F (n := 32) ai_0 (by decide) rfl (fun j => hz _ j (Nat.le_of_ble_eq_true rfl)) (by decide) (by decide) d_X9_init_49 (fun q6 e6 => ?_)
  rw [← e6 30 (Nat.le_of_ble_eq_true rfl)]
  have a6 := ag.trans a5 e6 (Nat.le_of_ble_eq_true rfl)
  show G X E 2 q6 sz74 σ 6 519 Q 51 [(0, .ref (q6 30))] [.ref (q6 36), .ref (q6 30)]
  refine g_putR F hin (c' := 36) f_X9_25 d_X9_init_51 rfl (by decide) rfl rfl rfl rfl ?_
  show G X E 2 q6 sz75 σ 6 519 Q 54 [(0, .ref (q6 30))] []
  refine g_aload_n F 0 rfl rfl d_X9_init_54 ?_
  refine g_iconst F d_X9_init_55 ?_
  refine g_newa F (n := 4) ai_0 (by decide) rfl (fun j => hz _ j (Nat.le_of_ble_eq_true rfl)) (by decide) (by decide) d_X9_init_56 (fun q7 e7 => ?_)
  rw [← e7 30 (Nat.le_of_ble_eq_true rfl)]
  have a7 := ag.trans a6 e7 (Nat.le_of_ble_eq_true rfl)
  show G X E 2 q7 sz76 σ 7 523 Q 58 [(0, .ref (q7 30))] [.ref (q7 37), .ref (q7 30)]
  refine g_putR F hin (c' := 37) f_X9_28 d_X9_init_58 rfl (by decide) rfl rfl rfl rfl ?_
  show G X E 2 q7 sz77 σ 7 523 Q 61 [(0, .ref (q7 30))] []
  refine g_aload_n F 0 rfl rfl d_X9_init_61 ?_
  refine g_bipush F (by decide) d_X9_init_62 ?_
  refine g_newa F (n := 12) ai_0 (by decide) rfl (fun j => hz _ j (Nat.le_of_ble_eq_true rfl)) (by decide) (by decide) d_X9_init_64 (fun q8 e8 => ?_)
  rw [← e8 30 (Nat.le_of_ble_eq_true rfl)]
  have a8 := ag.trans a7 e8 (Nat.le_of_ble_eq_true rfl)
  show G X E 2 q8 sz78 σ 8 535 Q 66 [(0, .ref (q8 30))] [.ref (q8 38), .ref (q8 30)]
  refine g_putR F hin (c' := 38) f_X9_31 d_X9_init_66 rfl (by decide) rfl rfl rfl rfl ?_
  show G X E 2 q8 sz79 σ 8 535 Q 69 [(0, .ref (q8 30))] []
  refine g_aload_n F 0 rfl rfl d_X9_init_69 ?_
  refine g_bipush F (by decide) d_X9_init_70 ?_
  refine g_newa F (n := 30) ai_0 (by decide) rfl (fun j => hz _ j (Nat.le_of_ble_eq_true rfl)) (by decide) (by decide) d_X9_init_72 (fun q9 e9 => ?_)
  rw [← e9 30 (Nat.le_of_ble_eq_true rfl)]
  have a9 := ag.trans a8 e9 (Nat.le_of_ble_eq_true rfl)
  show G X E 2 q9 sz80 σ 9 565 Q 74 [(0, .ref (q9 30))] [.ref (q9 39), .ref (q9 30)]
  refine g_putR F hin (c' := 39) f_X9_34 d_X9_init_74 rfl (by decide) rfl rfl rfl rfl ?_
  show G X E 2 q9 sz81 σ 9 565 Q 77 [(0, .ref (q9 30))] []
  refine g_aload_n F 0 rfl rfl d_X9_init_77 ?_
  refine g_sipush F (by decide) d_X9_init_78 ?_
  refine g_newa F (n := 302) ai_0 (by decide) rfl (fun j => hz _ j (Nat.le_of_ble_eq_true rfl)) (by decide) (by decide) d_X9_init_81 (fun q10 e10 => ?_)
  rw [← e10 30 (Nat.le_of_ble_eq_true rfl)]
  have a10 := ag.trans a9 e10 (Nat.le_of_ble_eq_true rfl)
  show G X E 2 q10 sz82 σ 10 867 Q 83 [(0, .ref (q10 30))] [.ref (q10 40), .ref (q10 30)]
  refine g_putR F hin (c' := 40) f_X9_37 d_X9_init_83 rfl (by decide) rfl rfl rfl rfl ?_
  show G X E 2 q10 sz83 σ 10 867 Q 86 [(0, .ref (q10 30))] []
  refine g_aload_n F 0 rfl rfl d_X9_init_86 ?_
  refine g_sipush F (by decide) d_X9_init_87 ?_
  refine g_newa F (n := 906) ai_0 (by decide) rfl (fun j => hz _ j (Nat.le_of_ble_eq_true rfl)) (by decide) (by decide) d_X9_init_90 (fun q11 e11 => ?_)
  rw [← e11 30 (Nat.le_of_ble_eq_true rfl)]
  have a11 := ag.trans a10 e11 (Nat.le_of_ble_eq_true rfl)
  show G X E 2 q11 sz84 σ 11 1773 Q 92 [(0, .ref (q11 30))] [.ref (q11 41), .ref (q11 30)]
  refine g_putR F hin (c' := 41) f_X9_40 d_X9_init_92 rfl (by decide) rfl rfl rfl rfl ?_
  show G X E 2 q11 sz85 σ 11 1773 Q 95 [(0, .ref (q11 30))] []
  refine g_aload_n F 0 rfl rfl d_X9_init_95 ?_
  refine g_sipush F (by decide) d_X9_init_96 ?_
  refine g_newa F (n := 906) ai_0 (by decide) rfl (fun j => hz _ j (Nat.le_of_ble_eq_true rfl)) (by decide) (by decide) d_X9_init_99 (fun q12 e12 => ?_)
  rw [← e12 30 (Nat.le_of_ble_eq_true rfl)]
  have a12 := ag.trans a11 e12 (Nat.le_of_ble_eq_true rfl)
  show G X E 2 q12 sz86 σ 12 2679 Q 101 [(0, .ref (q12 30))] [.ref (q12 42), .ref (q12 30)]
  refine g_putR F hin (c' := 42) f_X9_43 d_X9_init_101 rfl (by decide) rfl rfl rfl rfl ?_
  show G X E 2 q12 sz87 σ 12 2679 Q 104 [(0, .ref (q12 30))] []
  refine g_aload_n F 0 rfl rfl d_X9_init_104 ?_
  refine g_sipush F (by decide) d_X9_init_105 ?_
  refine g_newa F (n := 906) ai_0 (by decide) rfl (fun j => hz _ j (Nat.le_of_ble_eq_true rfl)) (by decide) (by decide) d_X9_init_108 (fun q13 e13 => ?_)
  rw [← e13 30 (Nat.le_of_ble_eq_true rfl)]
  have a13 := ag.trans a12 e13 (Nat.le_of_ble_eq_true rfl)
  show G X E 2 q13 sz88 σ 13 3585 Q 110 [(0, .ref (q13 30))] [.ref (q13 43), .ref (q13 30)]
  refine g_putR F hin (c' := 43) f_X9_46 d_X9_init_110 rfl (by decide) rfl rfl rfl rfl ?_
  show G X E 2 q13 sz89 σ 13 3585 Q 113 [(0, .ref (q13 30))] []
  refine g_aload_n F 0 rfl rfl d_X9_init_113 ?_
  refine g_sipush F (by decide) d_X9_init_114 ?_
  refine g_newa F (n := 1000) ai_0 (by decide) rfl (fun j => hz _ j (Nat.le_of_ble_eq_true rfl)) (by decide) (by decide) d_X9_init_117 (fun q14 e14 => ?_)
  rw [← e14 30 (Nat.le_of_ble_eq_true rfl)]
  have a14 := ag.trans a13 e14 (Nat.le_of_ble_eq_true rfl)
  show G X E 2 q14 sz90 σ 14 4585 Q 119 [(0, .ref (q14 30))] [.ref (q14 44), .ref (q14 30)]
  refine g_putR F hin (c' := 44) f_X9_49 d_X9_init_119 rfl (by decide) rfl rfl rfl rfl ?_
  show G X E 2 q14 sz91 σ 14 4585 Q 122 [(0, .ref (q14 30))] []
  refine g_aload_n F 0 rfl rfl d_X9_init_122 ?_
  refine g_sipush F (by decide) d_X9_init_123 ?_
  refine g_newa F (n := 1000) ai_0 (by decide) rfl (fun j => hz _ j (Nat.le_of_ble_eq_true rfl)) (by decide) (by decide) d_X9_init_126 (fun q15 e15 => ?_)
  rw [← e15 30 (Nat.le_of_ble_eq_true rfl)]
  have a15 := ag.trans a14 e15 (Nat.le_of_ble_eq_true rfl)
  show G X E 2 q15 sz92 σ 15 5585 Q 128 [(0, .ref (q15 30))] [.ref (q15 45), .ref (q15 30)]
  refine g_putR F hin (c' := 45) f_X9_52 d_X9_init_128 rfl (by decide) rfl rfl rfl rfl ?_
  show G X E 2 q15 sz93 σ 15 5585 Q 131 [(0, .ref (q15 30))] []
  refine g_aload_n F 0 rfl rfl d_X9_init_131 ?_
  refine g_sipush F (by decide) d_X9_init_132 ?_
  refine g_newa F (n := 1000) ai_0 (by decide) rfl (fun j => hz _ j (Nat.le_of_ble_eq_true rfl)) (by decide) (by decide) d_X9_init_135 (fun q16 e16 => ?_)
  rw [← e16 30 (Nat.le_of_ble_eq_true rfl)]
  have a16 := ag.trans a15 e16 (Nat.le_of_ble_eq_true rfl)
  show G X E 2 q16 sz94 σ 16 6585 Q 137 [(0, .ref (q16 30))] [.ref (q16 46), .ref (q16 30)]
  refine g_putR F hin (c' := 46) f_X9_55 d_X9_init_137 rfl (by decide) rfl rfl rfl rfl ?_
  show G X E 2 q16 sz95 σ 16 6585 Q 140 [(0, .ref (q16 30))] []
  refine g_aload_n F 0 rfl rfl d_X9_init_140 ?_
  refine g_sipush F (by decide) d_X9_init_141 ?_
  refine g_newa F (n := 1000) ai_0 (by decide) rfl (fun j => hz _ j (Nat.le_of_ble_eq_true rfl)) (by decide) (by decide) d_X9_init_144 (fun q17 e17 => ?_)
  rw [← e17 30 (Nat.le_of_ble_eq_true rfl)]
  have a17 := ag.trans a16 e17 (Nat.le_of_ble_eq_true rfl)
  show G X E 2 q17 sz96 σ 17 7585 Q 146 [(0, .ref (q17 30))] [.ref (q17 47), .ref (q17 30)]
  refine g_putR F hin (c' := 47) f_X9_58 d_X9_init_146 rfl (by decide) rfl rfl rfl rfl ?_
  show G X E 2 q17 sz97 σ 17 7585 Q 149 [(0, .ref (q17 30))] []
  refine g_aload_n F 0 rfl rfl d_X9_init_149 ?_
  refine g_sipush F (by decide) d_X9_init_150 ?_
  refine g_newa F (n := 729) ai_0 (by decide) rfl (fun j => hz _ j (Nat.le_of_ble_eq_true rfl)) (by decide) (by decide) d_X9_init_153 (fun q18 e18 => ?_)
  rw [← e18 30 (Nat.le_of_ble_eq_true rfl)]
  have a18 := ag.trans a17 e18 (Nat.le_of_ble_eq_true rfl)
  show G X E 2 q18 sz98 σ 18 8314 Q 155 [(0, .ref (q18 30))] [.ref (q18 48), .ref (q18 30)]
  refine g_putR F hin (c' := 48) f_X9_61 d_X9_init_155 rfl (by decide) rfl rfl rfl rfl ?_
  show G X E 2 q18 sz99 σ 18 8314 Q 158 [(0, .ref (q18 30))] []
  refine g_iconst F d_X9_init_158 ?_
  refine g_istore_n F (lv' := [(1, vI 0), (0, .ref (q18 30))]) rfl (by decide) rfl d_X9_init_159 ?_
  have loop160 : ∀ (nn : Nat) (f : Int) (τ : Sg), (0 ≤ f ∧ f ≤ 4) → (Sm [31, 32, 34] σ τ) → (MIf τ f) → (4 - f).toNat < nn → G X E 2 q18 sz99 τ 18 8314 Q 160 [(0, .ref (q18 30)), (1, vI f)] [] := by
    intro n160
    induction n160 with
    | zero => intro f τ hf hm hb hm160; exact absurd hm160 (Nat.not_lt_zero _)
    | succ n160 ih160 =>
      intro f τ hf hm hb hm160
      refine g_iload_n F 1 rfl rfl d_X9_init_160 ?_
      refine g_iconst F d_X9_init_161 ?_
      refine g_icmp_ge F d_X9_init_162 ⟨by omega, by omega⟩ ⟨by decide, by decide⟩ (fun h162 => ?_) (fun h162 => ?_)
      · have hb4 : MIf τ 4 := by rw [show f = 4 by omega] at hb; exact hb
        have z9 : ∀ k : Nat, 37 ≤ k → ∀ j, τ k j = 0 := fun k h j => by rw [hm k (by simp; omega)]; exact hz k j (by omega)
        refine g_aload_n F 0 rfl rfl d_X9_init_199 ?_
        refine g_Vv F (own := RX9) (c_X9_layTables l E q18 sz99 τ hm_49 L U (MOK_MI hb4) (fun f => by rw [z9 37 (by decide)]; decide) (fun f => by rw [z9 38 (by decide)]; decide) (fun f => by rw [z9 39 (by decide)]; decide) (hLU _ hb4).1 (hLU _ hb4).2) k_X9_64 rfl rfl rfl [] d_X9_init_200 ⟨rfl, rfl, by decide, by decide⟩ ⟨by decide, by decide⟩ rfl (Nat.le_of_ble_eq_true rfl) ?_
        intro τ9 h9
        exact hQ d_X9_init_203 a18 (⟨(hm.wide (by decide)).trans (h9.1.wide (by decide)), by unfold MIf at hb4 ⊢; rw [h9.1 34 (by decide), h9.1 31 (by decide), h9.1 32 (by decide), h9.1 33 (by decide)]; exact hb4, h9.2.1, h9.2.2.1, h9.2.2.2.1, h9.2.2.2.2⟩)
      · refine g_aload_n F 0 rfl rfl d_X9_init_165 ?_
        refine g_getR F f_X9_7 d_X9_init_166 rfl rfl ?_
        refine g_bipush F (by decide) d_X9_init_169 ?_
        refine g_iload_n F 1 rfl rfl d_X9_init_171 ?_
        refine g_imul F d_X9_init_172 ?_
        refine G_top (b := f * 30) (by omega) ?_
        refine g_bipush F (by decide) d_X9_init_173 ?_
        refine g_iastore F d_X9_init_175 rfl (by omega) (by omega) (by decide) ?_
        refine g_aload_n F 0 rfl rfl d_X9_init_176 ?_
        refine g_getR F f_X9_13 d_X9_init_177 rfl rfl ?_
        refine g_bipush F (by decide) d_X9_init_180 ?_
        refine g_iload_n F 1 rfl rfl d_X9_init_182 ?_
        refine g_imul F d_X9_init_183 ?_
        refine G_top (b := f * 30) (by omega) ?_
        refine g_iconst F d_X9_init_184 ?_
        refine g_iastore F d_X9_init_185 rfl (by omega) (by omega) (by decide) ?_
        refine g_aload_n F 0 rfl rfl d_X9_init_186 ?_
        refine g_getR F f_X9_19 d_X9_init_187 rfl rfl ?_
        refine g_iload_n F 1 rfl rfl d_X9_init_190 ?_
        refine g_iconst F d_X9_init_191 ?_
        refine g_iastore F d_X9_init_192 rfl (by omega) (by omega) (by decide) ?_
        refine g_iinc F (lv' := [(1, vI (f + 1)), (0, .ref (q18 30))]) 1 rfl rfl (by decide) rfl d_X9_init_193 ?_
        refine g_goto F d_X9_init_196 ?_
        have hb9 : MIf (up (up (up τ 31 (f * 30) 33) 32 (f * 30) 1) 34 f 1) (f + 1) := by
          refine ⟨fun g a b => ?_, fun j => ?_, ?_⟩
          · have q34 : (up (up (up τ 31 (f * 30) 33) 32 (f * 30) 1) 34 f 1) 34 g = if g = f then 1 else τ 34 g := by rw [up_at, up_ne _ (by decide), up_ne _ (by decide)]
            have q31 : (up (up (up τ 31 (f * 30) 33) 32 (f * 30) 1) 34 f 1) 31 (g * 30) = if g * 30 = f * 30 then 33 else τ 31 (g * 30) := by rw [up_ne _ (by decide), up_ne _ (by decide), up_at]
            have q32 : (up (up (up τ 31 (f * 30) 33) 32 (f * 30) 1) 34 f 1) 32 (g * 30) = if g * 30 = f * 30 then 1 else τ 32 (g * 30) := by rw [up_ne _ (by decide), up_at, up_ne _ (by decide)]
            have q33 : (up (up (up τ 31 (f * 30) 33) 32 (f * 30) 1) 34 f 1) 33 (g * 30) = 0 := by rw [up_ne _ (by decide), up_ne _ (by decide), up_ne _ (by decide), hm 33 (by decide)]; exact hz 33 _ (by decide)
            rw [q34, q31, q32, q33]
            by_cases e : g = f
            · rw [if_pos e, if_pos (by omega), if_pos (by omega)]
              exact ⟨rfl, rfl, rfl, rfl⟩
            · rw [if_neg e, if_neg (by omega), if_neg (by omega)]
              have h4 := hb.1 g a (by omega)
              exact ⟨h4.1, h4.2.1, h4.2.2.1, rfl⟩
          · rw [up_ne _ (by decide), up_ne _ (by decide), up_at]
            split
            · exact ⟨by decide, by decide⟩
            · exact hb.2.1 j
          · rw [up_other _ _ (by omega), up_ne _ (by decide), up_ne _ (by decide)]
            exact hb.2.2
        refine G_sub (ks := [1, 0]) rfl ?_
        exact ih160 (f + 1) (up (up (up τ 31 (f * 30) 33) 32 (f * 30) 1) 34 f 1) (by omega) (((hm.up (by decide) _ _).up (by decide) _ _).up (by decide) _ _) hb9 (by omega)
  refine G_sub (ks := [1, 0]) rfl ?_
  exact loop160 _ 0 σ (by omega) (Sm.refl _ _) ⟨fun g a b => by exfalso; omega, fun j => by rw [hz 31 j (by decide)]; exact ⟨by decide, by decide⟩, hz 34 4 (by decide)⟩ (Nat.lt_succ_self _)
