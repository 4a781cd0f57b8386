/-! the reference: fault -/
theorem FRel.m0 {d o L : Int} {M D : Int → Int} (h : FRel d o L M D) (hd : d = 0) (ho : o = 0) : M 0 = 1 := by
  rcases h with h | h
  · exact h.2.2.2.2.1 ho
  · exfalso; omega
theorem FRel.m1 {d o L : Int} {M D : Int → Int} (h : FRel d o L M D) (hd : d = 0) (ho : 1 ≤ o) : M 0 = 0 := by
  rcases h with h | h
  · exact (h.2.2.2.2.2.1 ho).1
  · exfalso; omega
theorem pts_in (c f : Int) : -1 ≤ pts c f ∧ pts c f ≤ 3 := by
  have := tx_in c
  unfold pts
  split <;> omega
theorem M2_rg {L : Int} {M : Int → Int} {t j : Int} (hM : ∀ j, 0 ≤ M j ∧ M j ≤ 3) (h1 : 0 ≤ L → 1 ≤ M L) (h0 : 0 ≤ L) (ht : 0 ≤ t ∧ t ≤ 3) : rg (M2 L M t j) := by
  have a := hM j
  unfold M2
  split
  · exact ⟨by omega, by omega⟩
  · split
    · exact ⟨by omega, by omega⟩
    · exact ⟨by omega, by omega⟩
set_option maxHeartbeats 1000000 in
theorem c_X9_fault (l : Launch) (E : Ev) (q : Nat → Nat) (sh : List Shp) (σ : Sg) (hs : HsM sh) (x : Int) (rx : rg x) (hn : 0 ≤ σ 34 4 ∧ σ 34 4 ≤ 30) (hsg : ∀ j, rg (σ 31 j)) : CI l E yX9_fault cX9_fault 6 .int ({ frames := 3, cells := 0, slots := 0, locals := 66 } : Room) q sh σ [.ref (q 30), vI x] (fun z τ => (z = if 0 ≤ x ∧ x < 4 then ffM σ x else -1) ∧ Sm [35] σ τ) := by
  have rx1 := rx.1
  have rx2 := rx.2
  refine CI_of (own := RX9) (by decide) rfl (Nat.le_of_ble_eq_true rfl) (fun X Q F hQ => ?_)
  show G X E 6 q sh σ 0 0 Q 0 [(0, .ref (q 30)), (1, vI x)] []
  refine g_iload_n F 1 rfl rfl d_X9_fault_0 ?_
  refine g_Si F (own := RX9) (c_X9_isFunction l E q sh σ x ⟨by omega, by omega⟩) k_X9_99 [] d_X9_fault_1 ⟨rfl, rfl, by decide, by decide⟩ ⟨Nat.zero_le _, Nat.zero_le _⟩ rfl (Nat.le_of_ble_eq_true rfl) ?_
  rintro _ _ ⟨rfl, rfl⟩
  refine g_b_ne F d_X9_fault_4 (fun h4 => ?_) (fun h4 => ?_)
  · refine g_iconst F d_X9_fault_9 ?_
    refine g_istore_n F (lv' := [(2, vI 0), (0, .ref (q 30)), (1, vI x)]) rfl (by decide) rfl d_X9_fault_10 ?_
    refine g_iconst F d_X9_fault_11 ?_
    refine g_istore_n F (lv' := [(3, vI 0), (2, vI 0), (0, .ref (q 30)), (1, vI x)]) rfl (by decide) rfl d_X9_fault_12 ?_
    refine g_iconst F d_X9_fault_13 ?_
    refine g_istore F (lv' := [(4, vI 0), (3, vI 0), (2, vI 0), (0, .ref (q 30)), (1, vI x)]) (by decide) rfl d_X9_fault_14 ?_
    have loop16 : ∀ (nn : Nat) (o : Int) (d : Int) (i : Int) (L : Int) (M : Int → Int) (τ : Sg), (0 ≤ i ∧ i ≤ σ 34 4) → (∀ j, 0 ≤ M j ∧ M j ≤ 3) → (0 ≤ L → 1 ≤ M L) → (FRel d o L M (τ 35)) → (ffun (fun i => σ 31 (120 + i)) (σ 34 4) x (σ 34 4 - i).toNat i L M = ffM σ x) → (Sm [35] σ τ) → (σ 34 4 - i).toNat < nn → G X E 6 q sh τ 0 0 Q 16 [(0, .ref (q 30)), (1, vI x), (2, vI o), (3, vI d), (4, vI i)] [] := by
      intro n16
      induction n16 with
      | zero => intro o d i L M τ hi hM hL1 hF hr hm hm16; exact absurd hm16 (Nat.not_lt_zero _)
      | succ n16 ih16 =>
        intro o d i L M τ hi hM hL1 hF hr hm hm16
        have e31 : τ 31 = σ 31 := hm 31 (by decide)
        have e34 : τ 34 = σ 34 := hm 34 (by decide)
        have hFd := hF.d
        refine g_iload F 4 rfl d_X9_fault_16 ?_
        refine g_aload_n F 0 rfl rfl d_X9_fault_18 ?_
        refine g_getR F f_X9_19 d_X9_fault_19 (hsM_30 hs) rfl ?_
        refine g_iconst F d_X9_fault_22 ?_
        refine g_iaload F d_X9_fault_23 (hsM_34 hs) (by omega) (by omega) (by decide) ?_
        refine G_top (b := σ 34 4) (by rw [e34]) ?_
        refine g_icmp_ge F d_X9_fault_24 ⟨by omega, by omega⟩ ⟨by omega, by omega⟩ (fun h24 => ?_) (fun h24 => ?_)
        · refine g_iload_n F 3 rfl rfl d_X9_fault_122 ?_
          refine g_if_eq F d_X9_fault_123 ⟨by omega, by omega⟩ (fun h123 => ?_) (fun h123 => ?_)
          · refine g_aload_n F 0 rfl rfl d_X9_fault_131 ?_
            refine g_getR F f_X9_19 d_X9_fault_132 (hsM_30 hs) rfl ?_
            refine g_iconst F d_X9_fault_135 ?_
            refine g_iaload F d_X9_fault_136 (hsM_34 hs) (by omega) (by omega) (by decide) ?_
            refine G_top (b := σ 34 4) (by rw [e34]) ?_
            exact hQ d_X9_fault_137 (⟨by rw [if_pos h4, ← hr, show (σ 34 4 - i).toNat = 0 by omega, ffun]; first | (rw [if_pos (by omega)]; done) | (rw [if_neg (by omega)]; done), hm⟩)
          · refine g_bipush F (by decide) d_X9_fault_126 ?_
            refine g_goto F d_X9_fault_128 ?_
            exact hQ d_X9_fault_137 (⟨by rw [if_pos h4, ← hr, show (σ 34 4 - i).toNat = 0 by omega, ffun]; first | (rw [if_pos (by omega)]; done) | (rw [if_neg (by omega)]; done), hm⟩)
        · refine g_aload_n F 0 rfl rfl d_X9_fault_27 ?_
          refine g_getR F f_X9_7 d_X9_fault_28 (hsM_30 hs) rfl ?_
          refine g_bipush F (by decide) d_X9_fault_31 ?_
          refine g_iload F 4 rfl d_X9_fault_33 ?_
          refine g_iadd F d_X9_fault_35 ?_
          refine g_iaload F d_X9_fault_36 (hsM_31 hs) (by omega) (by omega) (by decide) ?_
          refine G_top (b := σ 31 (120 + i)) (by rw [e31]) ?_
          refine g_iload_n F 1 rfl rfl d_X9_fault_37 ?_
          refine g_Si F (own := RX9) (c_X9_partsOf l E q sh τ (σ 31 (120 + i)) x (hsg _) h4) k_X9_102 [] d_X9_fault_38 ⟨rfl, rfl, by decide, by decide⟩ ⟨Nat.zero_le _, Nat.zero_le _⟩ rfl (Nat.le_of_ble_eq_true rfl) ?_
          rintro _ _ ⟨rfl, rfl⟩
          refine g_istore F (lv' := [(5, vI (pts (σ 31 (120 + i)) x)), (0, .ref (q 30)), (1, vI x), (2, vI o), (3, vI d), (4, vI i)]) (by decide) rfl d_X9_fault_41 ?_
          have hpi := pts_in (σ 31 (120 + i)) x
          refine g_iload_n F 4 rfl rfl d_X9_fault_43 ?_
          refine g_if_ne F d_X9_fault_44 ⟨by omega, by omega⟩ (fun h44 => ?_) (fun h44 => ?_)
          · refine g_iload F 5 rfl d_X9_fault_63 ?_
            exact hQ d_X9_fault_65 (⟨by rw [if_pos h4, ← hr, show (σ 34 4 - i).toNat = (σ 34 4 - i - 1).toNat + 1 by omega, ffun]; first | (rw [if_neg (fun z => by have := (canSt_iff.mp z).1; omega)]; done) | (rw [if_neg (pts_neg h49)]; done) | (rw [if_neg (pts_full h49 h54 (by omega))]; done), hm⟩)
          · refine g_iload F 0 rfl d_X9_fault_47 ?_
            refine g_if_lt F d_X9_fault_49 ⟨by omega, by omega⟩ (fun h49 => ?_) (fun h49 => ?_)
            · refine g_iload F 5 rfl d_X9_fault_63 ?_
              exact hQ d_X9_fault_65 (⟨by rw [if_pos h4, ← hr, show (σ 34 4 - i).toNat = (σ 34 4 - i - 1).toNat + 1 by omega, ffun]; first | (rw [if_neg (fun z => by have := (canSt_iff.mp z).1; omega)]; done) | (rw [if_neg (pts_neg h49)]; done) | (rw [if_neg (pts_full h49 h54 (by omega))]; done), hm⟩)
            · refine g_iload F 0 rfl d_X9_fault_52 ?_
              refine g_if_le F d_X9_fault_54 ⟨by omega, by omega⟩ (fun h54 => ?_) (fun h54 => ?_)
              · have hcan := pts_can (L := L) h49 (by omega) (by omega)
                have hpe := (pts_pos h49).1
                have htx := tx_in (σ 31 (120 + i))
                refine g_iinc F (lv' := [(2, vI (o + 1)), (5, vI (pts (σ 31 (120 + i)) x)), (0, .ref (q 30)), (1, vI x), (3, vI d), (4, vI i)]) 3 rfl rfl (by decide) rfl d_X9_fault_66 ?_
                refine g_aload_n F 2 rfl rfl d_X9_fault_69 ?_
                refine g_getR F f_X9_22 d_X9_fault_70 (hsM_30 hs) rfl ?_
                refine g_iload_n F 0 rfl rfl d_X9_fault_73 ?_
                refine g_iload F 1 rfl d_X9_fault_74 ?_
                refine g_iastore F d_X9_fault_76 (hsM_35 hs) (by omega) (by omega) (by decide) ?_
                have loop77 : ∀ (nn : Nat) (o2 : Int) (τ2 : Sg), (FIn o2 L M (tx (σ 31 (120 + i))) (τ2 35)) → (Sm [35] σ τ2) → (o2).toNat < nn → G X E 6 q sh τ2 0 0 Q 77 [(0, .ref (q 30)), (1, vI x), (2, vI o2), (3, vI d), (4, vI i)] [] := by
                  intro n77
                  induction n77 with
                  | zero => intro o2 τ2 hI hm2 hm77; exact absurd hm77 (Nat.not_lt_zero _)
                  | succ n77 ih77 =>
                    intro o2 τ2 hI hm2 hm77
                    have hId := hI.1
                    have f34 : τ2 34 = σ 34 := hm2 34 (by decide)
                    have hDr : 1 ≤ o2 → rg (τ2 35 o2) := fun z => by rw [hI.2.2.1 z]; exact M2_rg hM hL1 (by omega) (tx_in _)
                    refine g_iload_n F 2 rfl rfl d_X9_fault_77 ?_
                    refine g_if_le F d_X9_fault_78 ⟨by omega, by omega⟩ (fun h78 => ?_) (fun h78 => ?_)
                    · refine g_iload_n F 2 rfl rfl d_X9_fault_106 ?_
                      refine g_if_ne F d_X9_fault_107 ⟨by omega, by omega⟩ (fun h107 => ?_) (fun h107 => ?_)
                      · refine g_iconst F d_X9_fault_114 ?_
                        refine g_istore_n F (lv' := [(3, vI 0), (0, .ref (q 30)), (1, vI x), (2, vI o2), (4, vI i)]) rfl (by decide) rfl d_X9_fault_115 ?_
                        refine g_iinc F (lv' := [(4, vI (i + 1)), (3, vI 0), (0, .ref (q 30)), (1, vI x), (2, vI o2)]) 4 rfl rfl (by decide) rfl d_X9_fault_116 ?_
                        refine g_goto F d_X9_fault_119 ?_
                        have hF9 : FRel 0 o2 (passL L M (tx (σ 31 (120 + i)))) (passM L M (tx (σ 31 (120 + i)))) (τ2 35) := by
                          refine FIn.fin (by omega) (by omega) (fun z => by omega) ⟨fun z => ?_, fun z => ?_⟩ hI (by first | exact Or.inl (by omega) | exact Or.inr h87 | (exfalso; omega)) (by first | (rw [if_pos (by omega)]; done) | (rw [if_neg (by omega)]; done) | (exfalso; omega))
                          · exact hF.m0 (by omega) (by omega)
                          · exact hF.m1 (by omega) (by omega)
                        have hMp := passM_in hM (hL1 (by omega)) (tx_in (σ 31 (120 + i)))
                        refine G_sub (ks := [2, 3, 4, 1, 0]) rfl ?_
                        exact ih16 o2 0 (i + 1) (passL L M (tx (σ 31 (120 + i)))) (passM L M (tx (σ 31 (120 + i)))) τ2 (by omega) hMp (fun z => passL_1 hMp z) hF9 (by rw [← hr, show (σ 34 4 - i).toNat = (σ 34 4 - (i + 1)).toNat + 1 by omega, ffun, if_pos hcan]) hm2 (by omega)
                      · refine g_iconst F d_X9_fault_110 ?_
                        refine g_goto F d_X9_fault_111 ?_
                        refine g_istore_n F (lv' := [(3, vI 1), (0, .ref (q 30)), (1, vI x), (2, vI o2), (4, vI i)]) rfl (by decide) rfl d_X9_fault_115 ?_
                        refine g_iinc F (lv' := [(4, vI (i + 1)), (3, vI 1), (0, .ref (q 30)), (1, vI x), (2, vI o2)]) 4 rfl rfl (by decide) rfl d_X9_fault_116 ?_
                        refine g_goto F d_X9_fault_119 ?_
                        have hF9 : FRel 1 o2 (passL L M (tx (σ 31 (120 + i)))) (passM L M (tx (σ 31 (120 + i)))) (τ2 35) := by
                          refine FIn.fin (by omega) (by omega) (fun z => by omega) ⟨fun z => ?_, fun z => ?_⟩ hI (by first | exact Or.inl (by omega) | exact Or.inr h87 | (exfalso; omega)) (by first | (rw [if_pos (by omega)]; done) | (rw [if_neg (by omega)]; done) | (exfalso; omega))
                          · exact hF.m0 (by omega) (by omega)
                          · exact hF.m1 (by omega) (by omega)
                        have hMp := passM_in hM (hL1 (by omega)) (tx_in (σ 31 (120 + i)))
                        refine G_sub (ks := [2, 3, 4, 1, 0]) rfl ?_
                        exact ih16 o2 1 (i + 1) (passL L M (tx (σ 31 (120 + i)))) (passM L M (tx (σ 31 (120 + i)))) τ2 (by omega) hMp (fun z => passL_1 hMp z) hF9 (by rw [← hr, show (σ 34 4 - i).toNat = (σ 34 4 - (i + 1)).toNat + 1 by omega, ffun, if_pos hcan]) hm2 (by omega)
                    · have hDo := hDr (by omega)
                      refine g_aload_n F 0 rfl rfl d_X9_fault_81 ?_
                      refine g_getR F f_X9_22 d_X9_fault_82 (hsM_30 hs) rfl ?_
                      refine g_iload_n F 2 rfl rfl d_X9_fault_85 ?_
                      refine g_iaload F d_X9_fault_86 (hsM_35 hs) (by omega) (by omega) (by decide) ?_
                      refine g_if_ne F d_X9_fault_87 hDo (fun h87 => ?_) (fun h87 => ?_)
                      · refine g_iload_n F 2 rfl rfl d_X9_fault_106 ?_
                        refine g_if_ne F d_X9_fault_107 ⟨by omega, by omega⟩ (fun h107 => ?_) (fun h107 => ?_)
                        · refine g_iconst F d_X9_fault_114 ?_
                          refine g_istore_n F (lv' := [(3, vI 0), (0, .ref (q 30)), (1, vI x), (2, vI o2), (4, vI i)]) rfl (by decide) rfl d_X9_fault_115 ?_
                          refine g_iinc F (lv' := [(4, vI (i + 1)), (3, vI 0), (0, .ref (q 30)), (1, vI x), (2, vI o2)]) 4 rfl rfl (by decide) rfl d_X9_fault_116 ?_
                          refine g_goto F d_X9_fault_119 ?_
                          have hF9 : FRel 0 o2 (passL L M (tx (σ 31 (120 + i)))) (passM L M (tx (σ 31 (120 + i)))) (τ2 35) := by
                            refine FIn.fin (by omega) (by omega) (fun z => by omega) ⟨fun z => ?_, fun z => ?_⟩ hI (by first | exact Or.inl (by omega) | exact Or.inr h87 | (exfalso; omega)) (by first | (rw [if_pos (by omega)]; done) | (rw [if_neg (by omega)]; done) | (exfalso; omega))
                            · exact hF.m0 (by omega) (by omega)
                            · exact hF.m1 (by omega) (by omega)
                          have hMp := passM_in hM (hL1 (by omega)) (tx_in (σ 31 (120 + i)))
                          refine G_sub (ks := [2, 3, 4, 1, 0]) rfl ?_
                          exact ih16 o2 0 (i + 1) (passL L M (tx (σ 31 (120 + i)))) (passM L M (tx (σ 31 (120 + i)))) τ2 (by omega) hMp (fun z => passL_1 hMp z) hF9 (by rw [← hr, show (σ 34 4 - i).toNat = (σ 34 4 - (i + 1)).toNat + 1 by omega, ffun, if_pos hcan]) hm2 (by omega)
                        · refine g_iconst F d_X9_fault_110 ?_
                          refine g_goto F d_X9_fault_111 ?_
                          refine g_istore_n F (lv' := [(3, vI 1), (0, .ref (q 30)), (1, vI x), (2, vI o2), (4, vI i)]) rfl (by decide) rfl d_X9_fault_115 ?_
                          refine g_iinc F (lv' := [(4, vI (i + 1)), (3, vI 1), (0, .ref (q 30)), (1, vI x), (2, vI o2)]) 4 rfl rfl (by decide) rfl d_X9_fault_116 ?_
                          refine g_goto F d_X9_fault_119 ?_
                          have hF9 : FRel 1 o2 (passL L M (tx (σ 31 (120 + i)))) (passM L M (tx (σ 31 (120 + i)))) (τ2 35) := by
                            refine FIn.fin (by omega) (by omega) (fun z => by omega) ⟨fun z => ?_, fun z => ?_⟩ hI (by first | exact Or.inl (by omega) | exact Or.inr h87 | (exfalso; omega)) (by first | (rw [if_pos (by omega)]; done) | (rw [if_neg (by omega)]; done) | (exfalso; omega))
                            · exact hF.m0 (by omega) (by omega)
                            · exact hF.m1 (by omega) (by omega)
                          have hMp := passM_in hM (hL1 (by omega)) (tx_in (σ 31 (120 + i)))
                          refine G_sub (ks := [2, 3, 4, 1, 0]) rfl ?_
                          exact ih16 o2 1 (i + 1) (passL L M (tx (σ 31 (120 + i)))) (passM L M (tx (σ 31 (120 + i)))) τ2 (by omega) hMp (fun z => passL_1 hMp z) hF9 (by rw [← hr, show (σ 34 4 - i).toNat = (σ 34 4 - (i + 1)).toNat + 1 by omega, ffun, if_pos hcan]) hm2 (by omega)
                      · refine g_iinc F (lv' := [(2, vI (o2 + (-1))), (0, .ref (q 30)), (1, vI x), (3, vI d), (4, vI i)]) 2 rfl rfl (by decide) rfl d_X9_fault_90 ?_
                        refine g_aload_n F 1 rfl rfl d_X9_fault_93 ?_
                        refine g_getR F f_X9_22 d_X9_fault_94 (hsM_30 hs) rfl ?_
                        refine g_iload_n F 0 rfl rfl d_X9_fault_97 ?_
                        refine g_dup2 F rfl rfl d_X9_fault_98 ?_
                        refine g_iaload F d_X9_fault_99 (hsM_35 hs) (by omega) (by omega) (by decide) ?_
                        refine g_iconst F d_X9_fault_100 ?_
                        refine g_isub F d_X9_fault_101 ?_
                        refine g_iastore F d_X9_fault_102 (hsM_35 hs) (by omega) (by omega) (by decide) ?_
                        refine g_goto F d_X9_fault_103 ?_
                        have hI2 : FIn (o2 - 1) L M (tx (σ 31 (120 + i))) ((up τ2 35 (o2 + (-1)) ((τ2 35 (o2 + (-1))) - 1)) 35) := hI.step (by omega) h87 (fun j hj => up_other _ _ (by omega) _) (by show up _ _ _ _ 35 (o2 - 1) = _; rw [show o2 - 1 = o2 + (-1) by omega, up_same])
                        rw [show o2 - 1 = o2 + (-1) by omega] at hI2
                        refine G_sub (ks := [1, 2, 0, 3, 4]) rfl ?_
                        exact ih77 (o2 + (-1)) (up τ2 35 (o2 + (-1)) ((τ2 35 (o2 + (-1))) - 1)) hI2 (hm2.up (by decide) _ _) (by omega)
                have hI0 : FIn (o + 1) L M (tx (σ 31 (120 + i))) ((up τ 35 (o + 1) (pts (σ 31 (120 + i)) x)) 35) := by
                  have hF0 : FRel 0 L L M (τ 35) := by
                    have e1 : d = 0 := by omega
                    have e2 : o = L := by omega
                    rw [e1, e2] at hF
                    exact hF
                  have e2 : o = L := by omega
                  rw [e2]
                  exact FIn.init (by omega) (by omega) (fun z => by omega) hF0 (fun j hj => by rw [up_other _ _ (by omega)]) (by rw [up_at, if_pos (by omega)]; omega)
                refine G_sub (ks := [2, 3, 0, 4, 5]) rfl ?_
                exact loop77 _ (o + 1) (up τ 35 (o + 1) (pts (σ 31 (120 + i)) x)) hI0 (hm.up (by decide) _ _) (Nat.lt_succ_self _)
              · refine g_iload_n F 3 rfl rfl d_X9_fault_57 ?_
                refine g_bipush F (by decide) d_X9_fault_58 ?_
                refine g_icmp_lt F d_X9_fault_60 ⟨by omega, by omega⟩ ⟨by decide, by decide⟩ (fun h60 => ?_) (fun h60 => ?_)
                · have hcan := pts_can (L := L) h49 (by omega) (by omega)
                  have hpe := (pts_pos h49).1
                  have htx := tx_in (σ 31 (120 + i))
                  refine g_iinc F (lv' := [(2, vI (o + 1)), (5, vI (pts (σ 31 (120 + i)) x)), (0, .ref (q 30)), (1, vI x), (3, vI d), (4, vI i)]) 3 rfl rfl (by decide) rfl d_X9_fault_66 ?_
                  refine g_aload_n F 2 rfl rfl d_X9_fault_69 ?_
                  refine g_getR F f_X9_22 d_X9_fault_70 (hsM_30 hs) rfl ?_
                  refine g_iload_n F 0 rfl rfl d_X9_fault_73 ?_
                  refine g_iload F 1 rfl d_X9_fault_74 ?_
                  refine g_iastore F d_X9_fault_76 (hsM_35 hs) (by omega) (by omega) (by decide) ?_
                  have loop77 : ∀ (nn : Nat) (o2 : Int) (τ2 : Sg), (FIn o2 L M (tx (σ 31 (120 + i))) (τ2 35)) → (Sm [35] σ τ2) → (o2).toNat < nn → G X E 6 q sh τ2 0 0 Q 77 [(0, .ref (q 30)), (1, vI x), (2, vI o2), (3, vI d), (4, vI i)] [] := by
                    intro n77
                    induction n77 with
                    | zero => intro o2 τ2 hI hm2 hm77; exact absurd hm77 (Nat.not_lt_zero _)
                    | succ n77 ih77 =>
                      intro o2 τ2 hI hm2 hm77
                      have hId := hI.1
                      have f34 : τ2 34 = σ 34 := hm2 34 (by decide)
                      have hDr : 1 ≤ o2 → rg (τ2 35 o2) := fun z => by rw [hI.2.2.1 z]; exact M2_rg hM hL1 (by omega) (tx_in _)
                      refine g_iload_n F 2 rfl rfl d_X9_fault_77 ?_
                      refine g_if_le F d_X9_fault_78 ⟨by omega, by omega⟩ (fun h78 => ?_) (fun h78 => ?_)
                      · refine g_iload_n F 2 rfl rfl d_X9_fault_106 ?_
                        refine g_if_ne F d_X9_fault_107 ⟨by omega, by omega⟩ (fun h107 => ?_) (fun h107 => ?_)
                        · refine g_iconst F d_X9_fault_114 ?_
                          refine g_istore_n F (lv' := [(3, vI 0), (0, .ref (q 30)), (1, vI x), (2, vI o2), (4, vI i)]) rfl (by decide) rfl d_X9_fault_115 ?_
                          refine g_iinc F (lv' := [(4, vI (i + 1)), (3, vI 0), (0, .ref (q 30)), (1, vI x), (2, vI o2)]) 4 rfl rfl (by decide) rfl d_X9_fault_116 ?_
                          refine g_goto F d_X9_fault_119 ?_
                          have hF9 : FRel 0 o2 (passL L M (tx (σ 31 (120 + i)))) (passM L M (tx (σ 31 (120 + i)))) (τ2 35) := by
                            refine FIn.fin (by omega) (by omega) (fun z => by omega) ⟨fun z => ?_, fun z => ?_⟩ hI (by first | exact Or.inl (by omega) | exact Or.inr h87 | (exfalso; omega)) (by first | (rw [if_pos (by omega)]; done) | (rw [if_neg (by omega)]; done) | (exfalso; omega))
                            · exact hF.m0 (by omega) (by omega)
                            · exact hF.m1 (by omega) (by omega)
                          have hMp := passM_in hM (hL1 (by omega)) (tx_in (σ 31 (120 + i)))
                          refine G_sub (ks := [2, 3, 4, 1, 0]) rfl ?_
                          exact ih16 o2 0 (i + 1) (passL L M (tx (σ 31 (120 + i)))) (passM L M (tx (σ 31 (120 + i)))) τ2 (by omega) hMp (fun z => passL_1 hMp z) hF9 (by rw [← hr, show (σ 34 4 - i).toNat = (σ 34 4 - (i + 1)).toNat + 1 by omega, ffun, if_pos hcan]) hm2 (by omega)
                        · refine g_iconst F d_X9_fault_110 ?_
                          refine g_goto F d_X9_fault_111 ?_
                          refine g_istore_n F (lv' := [(3, vI 1), (0, .ref (q 30)), (1, vI x), (2, vI o2), (4, vI i)]) rfl (by decide) rfl d_X9_fault_115 ?_
                          refine g_iinc F (lv' := [(4, vI (i + 1)), (3, vI 1), (0, .ref (q 30)), (1, vI x), (2, vI o2)]) 4 rfl rfl (by decide) rfl d_X9_fault_116 ?_
                          refine g_goto F d_X9_fault_119 ?_
                          have hF9 : FRel 1 o2 (passL L M (tx (σ 31 (120 + i)))) (passM L M (tx (σ 31 (120 + i)))) (τ2 35) := by
                            refine FIn.fin (by omega) (by omega) (fun z => by omega) ⟨fun z => ?_, fun z => ?_⟩ hI (by first | exact Or.inl (by omega) | exact Or.inr h87 | (exfalso; omega)) (by first | (rw [if_pos (by omega)]; done) | (rw [if_neg (by omega)]; done) | (exfalso; omega))
                            · exact hF.m0 (by omega) (by omega)
                            · exact hF.m1 (by omega) (by omega)
                          have hMp := passM_in hM (hL1 (by omega)) (tx_in (σ 31 (120 + i)))
                          refine G_sub (ks := [2, 3, 4, 1, 0]) rfl ?_
                          exact ih16 o2 1 (i + 1) (passL L M (tx (σ 31 (120 + i)))) (passM L M (tx (σ 31 (120 + i)))) τ2 (by omega) hMp (fun z => passL_1 hMp z) hF9 (by rw [← hr, show (σ 34 4 - i).toNat = (σ 34 4 - (i + 1)).toNat + 1 by omega, ffun, if_pos hcan]) hm2 (by omega)
                      · have hDo := hDr (by omega)
                        refine g_aload_n F 0 rfl rfl d_X9_fault_81 ?_
                        refine g_getR F f_X9_22 d_X9_fault_82 (hsM_30 hs) rfl ?_
                        refine g_iload_n F 2 rfl rfl d_X9_fault_85 ?_
                        refine g_iaload F d_X9_fault_86 (hsM_35 hs) (by omega) (by omega) (by decide) ?_
                        refine g_if_ne F d_X9_fault_87 hDo (fun h87 => ?_) (fun h87 => ?_)
                        · refine g_iload_n F 2 rfl rfl d_X9_fault_106 ?_
                          refine g_if_ne F d_X9_fault_107 ⟨by omega, by omega⟩ (fun h107 => ?_) (fun h107 => ?_)
                          · refine g_iconst F d_X9_fault_114 ?_
                            refine g_istore_n F (lv' := [(3, vI 0), (0, .ref (q 30)), (1, vI x), (2, vI o2), (4, vI i)]) rfl (by decide) rfl d_X9_fault_115 ?_
                            refine g_iinc F (lv' := [(4, vI (i + 1)), (3, vI 0), (0, .ref (q 30)), (1, vI x), (2, vI o2)]) 4 rfl rfl (by decide) rfl d_X9_fault_116 ?_
                            refine g_goto F d_X9_fault_119 ?_
                            have hF9 : FRel 0 o2 (passL L M (tx (σ 31 (120 + i)))) (passM L M (tx (σ 31 (120 + i)))) (τ2 35) := by
                              refine FIn.fin (by omega) (by omega) (fun z => by omega) ⟨fun z => ?_, fun z => ?_⟩ hI (by first | exact Or.inl (by omega) | exact Or.inr h87 | (exfalso; omega)) (by first | (rw [if_pos (by omega)]; done) | (rw [if_neg (by omega)]; done) | (exfalso; omega))
                              · exact hF.m0 (by omega) (by omega)
                              · exact hF.m1 (by omega) (by omega)
                            have hMp := passM_in hM (hL1 (by omega)) (tx_in (σ 31 (120 + i)))
                            refine G_sub (ks := [2, 3, 4, 1, 0]) rfl ?_
                            exact ih16 o2 0 (i + 1) (passL L M (tx (σ 31 (120 + i)))) (passM L M (tx (σ 31 (120 + i)))) τ2 (by omega) hMp (fun z => passL_1 hMp z) hF9 (by rw [← hr, show (σ 34 4 - i).toNat = (σ 34 4 - (i + 1)).toNat + 1 by omega, ffun, if_pos hcan]) hm2 (by omega)
                          · refine g_iconst F d_X9_fault_110 ?_
                            refine g_goto F d_X9_fault_111 ?_
                            refine g_istore_n F (lv' := [(3, vI 1), (0, .ref (q 30)), (1, vI x), (2, vI o2), (4, vI i)]) rfl (by decide) rfl d_X9_fault_115 ?_
                            refine g_iinc F (lv' := [(4, vI (i + 1)), (3, vI 1), (0, .ref (q 30)), (1, vI x), (2, vI o2)]) 4 rfl rfl (by decide) rfl d_X9_fault_116 ?_
                            refine g_goto F d_X9_fault_119 ?_
                            have hF9 : FRel 1 o2 (passL L M (tx (σ 31 (120 + i)))) (passM L M (tx (σ 31 (120 + i)))) (τ2 35) := by
                              refine FIn.fin (by omega) (by omega) (fun z => by omega) ⟨fun z => ?_, fun z => ?_⟩ hI (by first | exact Or.inl (by omega) | exact Or.inr h87 | (exfalso; omega)) (by first | (rw [if_pos (by omega)]; done) | (rw [if_neg (by omega)]; done) | (exfalso; omega))
                              · exact hF.m0 (by omega) (by omega)
                              · exact hF.m1 (by omega) (by omega)
                            have hMp := passM_in hM (hL1 (by omega)) (tx_in (σ 31 (120 + i)))
                            refine G_sub (ks := [2, 3, 4, 1, 0]) rfl ?_
                            exact ih16 o2 1 (i + 1) (passL L M (tx (σ 31 (120 + i)))) (passM L M (tx (σ 31 (120 + i)))) τ2 (by omega) hMp (fun z => passL_1 hMp z) hF9 (by rw [← hr, show (σ 34 4 - i).toNat = (σ 34 4 - (i + 1)).toNat + 1 by omega, ffun, if_pos hcan]) hm2 (by omega)
                        · refine g_iinc F (lv' := [(2, vI (o2 + (-1))), (0, .ref (q 30)), (1, vI x), (3, vI d), (4, vI i)]) 2 rfl rfl (by decide) rfl d_X9_fault_90 ?_
                          refine g_aload_n F 1 rfl rfl d_X9_fault_93 ?_
                          refine g_getR F f_X9_22 d_X9_fault_94 (hsM_30 hs) rfl ?_
                          refine g_iload_n F 0 rfl rfl d_X9_fault_97 ?_
                          refine g_dup2 F rfl rfl d_X9_fault_98 ?_
                          refine g_iaload F d_X9_fault_99 (hsM_35 hs) (by omega) (by omega) (by decide) ?_
                          refine g_iconst F d_X9_fault_100 ?_
                          refine g_isub F d_X9_fault_101 ?_
                          refine g_iastore F d_X9_fault_102 (hsM_35 hs) (by omega) (by omega) (by decide) ?_
                          refine g_goto F d_X9_fault_103 ?_
                          have hI2 : FIn (o2 - 1) L M (tx (σ 31 (120 + i))) ((up τ2 35 (o2 + (-1)) ((τ2 35 (o2 + (-1))) - 1)) 35) := hI.step (by omega) h87 (fun j hj => up_other _ _ (by omega) _) (by show up _ _ _ _ 35 (o2 - 1) = _; rw [show o2 - 1 = o2 + (-1) by omega, up_same])
                          rw [show o2 - 1 = o2 + (-1) by omega] at hI2
                          refine G_sub (ks := [1, 2, 0, 3, 4]) rfl ?_
                          exact ih77 (o2 + (-1)) (up τ2 35 (o2 + (-1)) ((τ2 35 (o2 + (-1))) - 1)) hI2 (hm2.up (by decide) _ _) (by omega)
                  have hI0 : FIn (o + 1) L M (tx (σ 31 (120 + i))) ((up τ 35 (o + 1) (pts (σ 31 (120 + i)) x)) 35) := by
                    have hF0 : FRel 0 L L M (τ 35) := by
                      have e1 : d = 0 := by omega
                      have e2 : o = L := by omega
                      rw [e1, e2] at hF
                      exact hF
                    have e2 : o = L := by omega
                    rw [e2]
                    exact FIn.init (by omega) (by omega) (fun z => by omega) hF0 (fun j hj => by rw [up_other _ _ (by omega)]) (by rw [up_at, if_pos (by omega)]; omega)
                  refine G_sub (ks := [2, 3, 0, 4, 5]) rfl ?_
                  exact loop77 _ (o + 1) (up τ 35 (o + 1) (pts (σ 31 (120 + i)) x)) hI0 (hm.up (by decide) _ _) (Nat.lt_succ_self _)
                · refine g_iload F 5 rfl d_X9_fault_63 ?_
                  exact hQ d_X9_fault_65 (⟨by rw [if_pos h4, ← hr, show (σ 34 4 - i).toNat = (σ 34 4 - i - 1).toNat + 1 by omega, ffun]; first | (rw [if_neg (fun z => by have := (canSt_iff.mp z).1; omega)]; done) | (rw [if_neg (pts_neg h49)]; done) | (rw [if_neg (pts_full h49 h54 (by omega))]; done), hm⟩)
    refine G_sub (ks := [3, 4, 2, 1, 0]) rfl ?_
    exact loop16 _ 0 0 0 0 (fun j => if j = 0 then 1 else 0) σ (by omega) (fun j => by split <;> omega) (fun _ => by simp) (Or.inl ⟨rfl, rfl, by omega, by omega, fun _ => rfl, fun z => by exfalso; omega, fun j a b => by exfalso; omega⟩) (by rw [Int.sub_zero]; rfl) (Sm.refl _ _) (Nat.lt_succ_self _)
  · refine g_iconst F d_X9_fault_7 ?_
    exact hQ d_X9_fault_8 (⟨by rw [if_neg h4], Sm.refl _ _⟩)
