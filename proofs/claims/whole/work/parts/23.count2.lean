def NR (σ : Sg) : Prop := in2 (σ 19)
theorem UOK_of {σ τ : Sg} (hI : UI σ τ) (hK : KR τ) (h : ∀ j, 0 ≤ j → j < 12 → nextOk σ τ j (τ 18 j)) : UOK σ τ := by
  refine ⟨hK, ⟨hK.U, fun f h0 h1 a h2 h3 => ?_⟩, hI.1⟩
  have ha := nA_in f
  obtain ⟨C, c1, c2, c3⟩ := h (f * 3 + a) (by omega) (by omega)
  rw [show (f * 3 + a) % 3 = a by omega, show (f * 3 + a) / 3 = f by omega] at c2
  rw [show (f * 3 + a) / 3 = f by omega] at c3
  exact ⟨C, c1, c2, c3⟩
theorem nextOk.move {σ τ τ' : Sg} {j v : Int} (h : nextOk σ τ j v) (e : ∀ i, 0 ≤ i → i < 12 → τ' 18 i = τ 18 i) : nextOk σ τ' j v := by
  obtain ⟨C, c1, c2, c3⟩ := h
  refine ⟨C, c1, fun p h1 h2 => ?_, c3⟩
  rw [c2 p h1 h2]
  apply ul_tables
  intro g a h0 h3 h4 h5
  have ha := nA_in g
  exact (e (g * 3 + a) (by omega) (by omega)).symm
set_option maxHeartbeats 1000000 in
theorem c_X1_takeNext (l : Launch) (E : Ev) (q : Nat → Nat) (sh : List Shp) (σ : Sg) (hs : HsC sh) (hN : NR σ) (hK : KR σ) : CI l E yX1_takeNext cX1_takeNext 3 .boolean ({ frames := 0, cells := 0, slots := 0, locals := 0 } : Room) q sh σ [.ref (q 16)] (fun z τ => Sm [18] σ τ ∧ (∀ j, 0 ≤ j → j < 12 → τ 18 j = σ 19 j) ∧ KR τ ∧ ((z = 0 ∧ ∀ j, 0 ≤ j → j < 12 → σ 19 j = σ 18 j) ∨ (z = 1 ∧ chgU σ))) := by
  refine CB_of (own := RX1) (by decide) rfl (Nat.le_of_ble_eq_true rfl) (fun X Q F hQ => ?_)
  show G X E 3 q sh σ 0 0 Q 0 [(0, .ref (q 16))] []
  refine g_iconst F d_X1_takeNext_0 ?_
  refine g_istore_n F (lv' := [(1, vI 0), (0, .ref (q 16))]) rfl (by decide) rfl d_X1_takeNext_1 ?_
  refine g_iconst F d_X1_takeNext_2 ?_
  refine g_istore_n F (lv' := [(2, vI 0), (1, vI 0), (0, .ref (q 16))]) rfl (by decide) rfl d_X1_takeNext_3 ?_
  have loop4 : ∀ (nn : Nat) (c : Int) (f : Int) (τ : Sg), (0 ≤ f ∧ f ≤ 12) → (Sm [18] σ τ) → (∀ g, 0 ≤ g → g < f → τ 18 g = σ 19 g) → (∀ g, f ≤ g → τ 18 g = σ 18 g) → (KR τ) → ((c = 0 ∧ ∀ g, 0 ≤ g → g < f → σ 19 g = σ 18 g) ∨ (c = 1 ∧ chgU σ)) → (12 - f).toNat < nn → G X E 3 q sh τ 0 0 Q 4 [(0, .ref (q 16)), (1, vI c), (2, vI f)] [] := by
    intro n4
    induction n4 with
    | zero => intro c f τ hf hm h1 h2 hT1 hc hm4; exact absurd hm4 (Nat.not_lt_zero _)
    | succ n4 ih4 =>
      intro c f τ hf hm h1 h2 hT1 hc hm4
      have e19 : τ 19 = σ 19 := hm 19 (by decide)
      have hc01 : c = 0 ∨ c = 1 := hc.elim (fun h => Or.inl h.1) (fun h => Or.inr h.1)
      refine g_iload_n F 2 rfl rfl d_X1_takeNext_4 ?_
      refine g_bipush F (by decide) d_X1_takeNext_5 ?_
      refine g_icmp_ge F d_X1_takeNext_7 ⟨by omega, by omega⟩ ⟨by decide, by decide⟩ (fun h7 => ?_) (fun h7 => ?_)
      · refine g_iload_n F 1 rfl rfl d_X1_takeNext_53 ?_
        exact hQ d_X1_takeNext_54 hc01 (⟨hm, fun g a b => h1 g a (by omega), hT1, hc.elim (fun h => Or.inl ⟨h.1, fun g a b => h.2 g a (by omega)⟩) Or.inr⟩)
      · refine g_iload_n F 1 rfl rfl d_X1_takeNext_10 ?_
        refine g_if_ne F d_X1_takeNext_11 ⟨by omega, by omega⟩ (fun h11 => ?_) (fun h11 => ?_)
        · refine g_iconst F d_X1_takeNext_29 ?_
          refine g_goto F d_X1_takeNext_30 ?_
          refine g_istore_n F (lv' := [(1, vI 1), (0, .ref (q 16)), (2, vI f)]) rfl (by decide) rfl d_X1_takeNext_34 ?_
          refine g_aload_n F 1 rfl rfl d_X1_takeNext_35 ?_
          refine g_getR F f_X1_15 d_X1_takeNext_36 (hsC_16 hs) rfl ?_
          refine g_iload_n F 2 rfl rfl d_X1_takeNext_39 ?_
          refine g_aload_n F 1 rfl rfl d_X1_takeNext_40 ?_
          refine g_getR F f_X1_18 d_X1_takeNext_41 (hsC_16 hs) rfl ?_
          refine g_iload_n F 2 rfl rfl d_X1_takeNext_44 ?_
          refine g_iaload F d_X1_takeNext_45 (hsC_19 hs) (by omega) (by omega) (by decide) ?_
          refine G_top (b := σ 19 f) (by rw [e19]) ?_
          refine g_iastore F d_X1_takeNext_46 (hsC_18 hs) (by omega) (by omega) (by decide) ?_
          refine g_iinc F (lv' := [(2, vI (f + 1)), (1, vI 1), (0, .ref (q 16))]) 2 rfl rfl (by decide) rfl d_X1_takeNext_47 ?_
          refine g_goto F d_X1_takeNext_50 ?_
          have hc2 : ((1 : Int) = 0 ∧ ∀ g, 0 ≤ g → g < f + 1 → σ 19 g = σ 18 g) ∨ ((1 : Int) = 1 ∧ chgU σ) := by
            rcases hc with ⟨q1, q2⟩ | ⟨q1, q2⟩
            · first
                | (left; refine ⟨rfl, fun g a b => ?_⟩; by_cases hg : g = f; (rw [hg]; exact h26); exact q2 g a (by omega))
                | (right; exact ⟨rfl, f, hf.1, by omega, h26⟩)
                | (exfalso; omega)
            · first
                | (right; exact ⟨rfl, q2⟩)
                | (exfalso; omega)
          refine G_sub (ks := [2, 1, 0]) rfl ?_
          exact ih4 1 (f + 1) (up τ 18 f (σ 19 f)) (by omega) (hm.up (by decide) _ _) (fun g a b => by rw [up_at]; split; (rename_i e; rw [e]); exact h1 g a (by omega)) (fun g a => by rw [up_other _ _ (by omega)]; exact h2 g (by omega)) (fun g => by rw [up_at]; split; exact hN _; exact hT1 g) hc2 (by omega)
        · refine g_aload_n F 0 rfl rfl d_X1_takeNext_14 ?_
          refine g_getR F f_X1_18 d_X1_takeNext_15 (hsC_16 hs) rfl ?_
          refine g_iload_n F 2 rfl rfl d_X1_takeNext_18 ?_
          refine g_iaload F d_X1_takeNext_19 (hsC_19 hs) (by omega) (by omega) (by decide) ?_
          refine G_top (b := σ 19 f) (by rw [e19]) ?_
          refine g_aload_n F 0 rfl rfl d_X1_takeNext_20 ?_
          refine g_getR F f_X1_15 d_X1_takeNext_21 (hsC_16 hs) rfl ?_
          refine g_iload_n F 2 rfl rfl d_X1_takeNext_24 ?_
          refine g_iaload F d_X1_takeNext_25 (hsC_18 hs) (by omega) (by omega) (by decide) ?_
          refine G_top (b := σ 18 f) (h2 f (Int.le_refl _)) ?_
          refine g_icmp_eq F d_X1_takeNext_26 ⟨by have := hN f; omega, by have := hN f; omega⟩ ⟨by have := hK f; omega, by have := hK f; omega⟩ (fun h26 => ?_) (fun h26 => ?_)
          · refine g_iconst F d_X1_takeNext_33 ?_
            refine g_istore_n F (lv' := [(1, vI 0), (0, .ref (q 16)), (2, vI f)]) rfl (by decide) rfl d_X1_takeNext_34 ?_
            refine g_aload_n F 1 rfl rfl d_X1_takeNext_35 ?_
            refine g_getR F f_X1_15 d_X1_takeNext_36 (hsC_16 hs) rfl ?_
            refine g_iload_n F 2 rfl rfl d_X1_takeNext_39 ?_
            refine g_aload_n F 1 rfl rfl d_X1_takeNext_40 ?_
            refine g_getR F f_X1_18 d_X1_takeNext_41 (hsC_16 hs) rfl ?_
            refine g_iload_n F 2 rfl rfl d_X1_takeNext_44 ?_
            refine g_iaload F d_X1_takeNext_45 (hsC_19 hs) (by omega) (by omega) (by decide) ?_
            refine G_top (b := σ 19 f) (by rw [e19]) ?_
            refine g_iastore F d_X1_takeNext_46 (hsC_18 hs) (by omega) (by omega) (by decide) ?_
            refine g_iinc F (lv' := [(2, vI (f + 1)), (1, vI 0), (0, .ref (q 16))]) 2 rfl rfl (by decide) rfl d_X1_takeNext_47 ?_
            refine g_goto F d_X1_takeNext_50 ?_
            have hc2 : ((0 : Int) = 0 ∧ ∀ g, 0 ≤ g → g < f + 1 → σ 19 g = σ 18 g) ∨ ((0 : Int) = 1 ∧ chgU σ) := by
              rcases hc with ⟨q1, q2⟩ | ⟨q1, q2⟩
              · first
                  | (left; refine ⟨rfl, fun g a b => ?_⟩; by_cases hg : g = f; (rw [hg]; exact h26); exact q2 g a (by omega))
                  | (right; exact ⟨rfl, f, hf.1, by omega, h26⟩)
                  | (exfalso; omega)
              · first
                  | (right; exact ⟨rfl, q2⟩)
                  | (exfalso; omega)
            refine G_sub (ks := [2, 1, 0]) rfl ?_
            exact ih4 0 (f + 1) (up τ 18 f (σ 19 f)) (by omega) (hm.up (by decide) _ _) (fun g a b => by rw [up_at]; split; (rename_i e; rw [e]); exact h1 g a (by omega)) (fun g a => by rw [up_other _ _ (by omega)]; exact h2 g (by omega)) (fun g => by rw [up_at]; split; exact hN _; exact hT1 g) hc2 (by omega)
          · refine g_iconst F d_X1_takeNext_29 ?_
            refine g_goto F d_X1_takeNext_30 ?_
            refine g_istore_n F (lv' := [(1, vI 1), (0, .ref (q 16)), (2, vI f)]) rfl (by decide) rfl d_X1_takeNext_34 ?_
            refine g_aload_n F 1 rfl rfl d_X1_takeNext_35 ?_
            refine g_getR F f_X1_15 d_X1_takeNext_36 (hsC_16 hs) rfl ?_
            refine g_iload_n F 2 rfl rfl d_X1_takeNext_39 ?_
            refine g_aload_n F 1 rfl rfl d_X1_takeNext_40 ?_
            refine g_getR F f_X1_18 d_X1_takeNext_41 (hsC_16 hs) rfl ?_
            refine g_iload_n F 2 rfl rfl d_X1_takeNext_44 ?_
            refine g_iaload F d_X1_takeNext_45 (hsC_19 hs) (by omega) (by omega) (by decide) ?_
            refine G_top (b := σ 19 f) (by rw [e19]) ?_
            refine g_iastore F d_X1_takeNext_46 (hsC_18 hs) (by omega) (by omega) (by decide) ?_
            refine g_iinc F (lv' := [(2, vI (f + 1)), (1, vI 1), (0, .ref (q 16))]) 2 rfl rfl (by decide) rfl d_X1_takeNext_47 ?_
            refine g_goto F d_X1_takeNext_50 ?_
            have hc2 : ((1 : Int) = 0 ∧ ∀ g, 0 ≤ g → g < f + 1 → σ 19 g = σ 18 g) ∨ ((1 : Int) = 1 ∧ chgU σ) := by
              rcases hc with ⟨q1, q2⟩ | ⟨q1, q2⟩
              · first
                  | (left; refine ⟨rfl, fun g a b => ?_⟩; by_cases hg : g = f; (rw [hg]; exact h26); exact q2 g a (by omega))
                  | (right; exact ⟨rfl, f, hf.1, by omega, h26⟩)
                  | (exfalso; omega)
              · first
                  | (right; exact ⟨rfl, q2⟩)
                  | (exfalso; omega)
            refine G_sub (ks := [2, 1, 0]) rfl ?_
            exact ih4 1 (f + 1) (up τ 18 f (σ 19 f)) (by omega) (hm.up (by decide) _ _) (fun g a b => by rw [up_at]; split; (rename_i e; rw [e]); exact h1 g a (by omega)) (fun g a => by rw [up_other _ _ (by omega)]; exact h2 g (by omega)) (fun g => by rw [up_at]; split; exact hN _; exact hT1 g) hc2 (by omega)
  refine G_sub (ks := [2, 1, 0]) rfl ?_
  exact loop4 _ 0 0 σ (by omega) (Sm.refl _ _) (fun g a b => by exfalso; omega) (fun _ _ => rfl) hK (Or.inl ⟨rfl, fun g a b => by exfalso; omega⟩) (Nat.lt_succ_self _)
set_option maxHeartbeats 1000000 in
theorem c_X1_renew (l : Launch) (E : Ev) (q : Nat → Nat) (sh : List Shp) (σ : Sg) (hs : HsC sh) (hBO : BOK σ) (hC : CR σ) (hK : KR σ) (hN : NR σ) : CV l E yX1_renew cX1_renew 4 ({ frames := 5, cells := 0, slots := 0, locals := 118 } : Room) q sh σ [.ref (q 16)] (fun τ => Sm [17, 18, 19] σ τ ∧ CR τ ∧ NR τ ∧ UOK σ τ) := by
  refine CV_of (own := RX1) (by decide) rfl (Nat.le_of_ble_eq_true rfl) (fun X Q F hQ => ?_)
  show G X E 4 q sh σ 0 0 Q 0 [(0, .ref (q 16))] []
  refine g_aload_n F 0 rfl rfl d_X1_renew_0 ?_
  refine g_getR F f_X1_15 d_X1_renew_1 (hsC_16 hs) rfl ?_
  refine g_iconst F d_X1_renew_4 ?_
  refine g_Sv F (own := RX1) (c_J7_fill_53178 l E q sh σ 18 12 0 (hsC_18 hs) (by decide)) k_X1_25 [] d_X1_renew_5 ⟨rfl, rfl, by decide, by decide⟩ ⟨Nat.zero_le _, Nat.zero_le _⟩ rfl (Nat.le_of_ble_eq_true rfl) ?_
  intro τ1 hp
  refine g_iconst F d_X1_renew_8 ?_
  refine g_istore_n F (lv' := [(1, vI 1), (0, .ref (q 16))]) rfl (by decide) rfl d_X1_renew_9 ?_
  refine g_iconst F d_X1_renew_10 ?_
  refine g_istore_n F (lv' := [(2, vI 0), (1, vI 1), (0, .ref (q 16))]) rfl (by decide) rfl d_X1_renew_11 ?_
  have loop12 : ∀ (nn : Nat) (g : Int) (r : Int) (τ : Sg), (0 ≤ r ∧ r ≤ 25) → (g = 0 ∨ g = 1) → (Sm [17, 18, 19] σ τ) → (CR τ) → (KR τ) → (NR τ) → (UI σ τ) → (g = 1 → r ≤ sumK τ) → (g = 0 → ∀ j, 0 ≤ j → j < 12 → nextOk σ τ j (τ 18 j)) → (25 - r).toNat < nn → G X E 4 q sh τ 0 0 Q 12 [(0, .ref (q 16)), (1, vI g), (2, vI r)] [] := by
    intro n12
    induction n12 with
    | zero => intro g r τ hr hg hm hC1 hK1 hN1 hI h1 h0 hm12; exact absurd hm12 (Nat.not_lt_zero _)
    | succ n12 ih12 =>
      intro g r τ hr hg hm hC1 hK1 hN1 hI h1 h0 hm12
      have e6 : τ 6 = σ 6 := hm 6 (by decide)
      have e7 : τ 7 = σ 7 := hm 7 (by decide)
      have e8 : τ 8 = σ 8 := hm 8 (by decide)
      have e9 : τ 9 = σ 9 := hm 9 (by decide)
      have e10 : τ 10 = σ 10 := hm 10 (by decide)
      have e11 : τ 11 = σ 11 := hm 11 (by decide)
      refine g_iload_n F 1 rfl rfl d_X1_renew_12 ?_
      refine g_if_eq F d_X1_renew_13 ⟨by omega, by omega⟩ (fun h13 => ?_) (fun h13 => ?_)
      · have hg0 : g = 0 := by
          rcases hg with q | q
          · exact q
          · have := h1 q
            have := sumK_in hK1
            exfalso; omega
        have hfin := h0 hg0
        exact hQ d_X1_renew_63 (⟨hm, hC1, hN1, UOK_of hI hK1 hfin⟩)
      · refine g_iload_n F 2 rfl rfl d_X1_renew_16 ?_
        refine g_bipush F (by decide) d_X1_renew_17 ?_
        refine g_icmp_ge F d_X1_renew_19 ⟨by omega, by omega⟩ ⟨by decide, by decide⟩ (fun h19 => ?_) (fun h19 => ?_)
        · have hg0 : g = 0 := by
            rcases hg with q | q
            · exact q
            · have := h1 q
              have := sumK_in hK1
              exfalso; omega
          have hfin := h0 hg0
          exact hQ d_X1_renew_63 (⟨hm, hC1, hN1, UOK_of hI hK1 hfin⟩)
        · refine g_iconst F d_X1_renew_22 ?_
          refine g_istore_n F (lv' := [(3, vI 0), (0, .ref (q 16)), (1, vI g), (2, vI r)]) rfl (by decide) rfl d_X1_renew_23 ?_
          have loop24 : ∀ (nn : Nat) (j : Int) (τ2 : Sg), (0 ≤ j ∧ j ≤ 12) → (Sm [17, 19] τ τ2) → (CR τ2) → (NR τ2) → (∀ k, 0 ≤ k → k < j → nextOk σ τ k (τ2 19 k)) → (12 - j).toNat < nn → G X E 4 q sh τ2 0 0 Q 24 [(0, .ref (q 16)), (1, vI g), (2, vI r), (3, vI j)] [] := by
            intro n24
            induction n24 with
            | zero => intro j τ2 hj hm2 hC2 hN2 hn hm24; exact absurd hm24 (Nat.not_lt_zero _)
            | succ n24 ih24 =>
              intro j τ2 hj hm2 hC2 hN2 hn hm24
              have f6 : τ2 6 = σ 6 := (hm2 6 (by decide)).trans e6
              have f7 : τ2 7 = σ 7 := (hm2 7 (by decide)).trans e7
              have f8 : τ2 8 = σ 8 := (hm2 8 (by decide)).trans e8
              have f9 : τ2 9 = σ 9 := (hm2 9 (by decide)).trans e9
              have f10 : τ2 10 = σ 10 := (hm2 10 (by decide)).trans e10
              have f11 : τ2 11 = σ 11 := (hm2 11 (by decide)).trans e11
              have f18 : τ2 18 = τ 18 := hm2 18 (by decide)
              have fk : kn τ2 = kn τ := by unfold kn; rw [f18]
              refine g_iload_n F 3 rfl rfl d_X1_renew_24 ?_
              refine g_bipush F (by decide) d_X1_renew_25 ?_
              refine g_icmp_ge F d_X1_renew_27 ⟨by omega, by omega⟩ ⟨by decide, by decide⟩ (fun h27 => ?_) (fun h27 => ?_)
              · refine g_aload_n F 0 rfl rfl d_X1_renew_52 ?_
                refine g_Vi F (own := RX1) (c_X1_takeNext l E q sh τ2 hs  hN2 (fun k => by rw [f18]; exact hK1 k)) k_X1_35 (hsC_16 hs) rfl rfl [] d_X1_renew_53 ⟨rfl, rfl, by decide, by decide⟩ ⟨Nat.zero_le _, Nat.zero_le _⟩ rfl (Nat.le_of_ble_eq_true rfl) ?_
                intro z τ4 hz
                have hC3 : CR τ4 := fun k => by rw [hz.1 17 (by decide)]; exact hC2 k
                have hN3 : NR τ4 := fun k => by rw [hz.1 19 (by decide)]; exact hN2 k
                have hnx : ∀ k, 0 ≤ k → k < 12 → nextOk σ τ k (τ4 18 k) := fun k a b => by rw [hz.2.1 k a b]; exact hn k a (by omega)
                have hst := UI_step hBO hK1 hz.2.2.1 hI hnx
                have hs1 : z = 1 → r + 1 ≤ sumK τ4 := by
                  intro h
                  have h5 := h1 (by omega)
                  rcases hz.2.2.2 with q | q
                  · exfalso; omega
                  · obtain ⟨k, a, b, c⟩ := q.2
                    have := sumK_step hst.2 ⟨k, a, b, by rw [hz.2.1 k a b, ← f18]; exact c⟩
                    omega
                have hs0 : z = 0 → ∀ k, 0 ≤ k → k < 12 → nextOk σ τ4 k (τ4 18 k) := by
                  intro h
                  rcases hz.2.2.2 with q | q
                  · intro k a b
                    exact (hnx k a b).move (fun i c d => by rw [hz.2.1 i c d, q.2 i c d, f18])
                  · exfalso; omega
                refine g_istore_n F (lv' := [(1, vI z), (0, .ref (q 16)), (2, vI r), (3, vI j)]) rfl (by decide) rfl d_X1_renew_56 ?_
                refine g_iinc F (lv' := [(2, vI (r + 1)), (1, vI z), (0, .ref (q 16)), (3, vI j)]) 2 rfl rfl (by decide) rfl d_X1_renew_57 ?_
                refine g_goto F d_X1_renew_60 ?_
                refine G_sub (ks := [2, 1, 0]) rfl ?_
                exact ih12 z (r + 1) τ4 (by omega) (hz.2.2.2.elim (fun h => Or.inl h.1) (fun h => Or.inr h.1)) ((hm.trans (hm2.wide (by decide))).trans (hz.1.wide (by decide))) hC3 hz.2.2.1 hN3 hst.1 hs1 hs0 (by omega)
              · have hBO2 : BOK τ2 := by
                  intro g h0 h1
                  rw [f6, f7, f8, f9, f10, f11]
                  exact hBO g h0 h1
                refine g_aload_n F 0 rfl rfl d_X1_renew_30 ?_
                refine g_getR F f_X1_18 d_X1_renew_31 (hsC_16 hs) rfl ?_
                refine g_iload_n F 3 rfl rfl d_X1_renew_34 ?_
                refine g_aload_n F 0 rfl rfl d_X1_renew_35 ?_
                refine g_iload_n F 3 rfl rfl d_X1_renew_36 ?_
                refine g_iconst F d_X1_renew_37 ?_
                refine g_idiv F ⟨by omega, by omega, by omega, by omega⟩ d_X1_renew_38 ?_
                refine g_iload_n F 3 rfl rfl d_X1_renew_39 ?_
                refine g_iconst F d_X1_renew_40 ?_
                refine g_irem F ⟨by omega, by omega, by omega, by omega⟩ d_X1_renew_41 ?_
                refine g_Vi F (own := RX1) (c_X1_countIn l E q sh τ2 hs (j / 3) (j % 3) (by omega) (by omega) hBO2 hC2 (fun k => by rw [f18]; exact hK1 k)) k_X1_31 (hsC_16 hs) rfl rfl [vI j, .ref (q 19)] d_X1_renew_42 ⟨rfl, rfl, by decide, by decide⟩ ⟨Nat.zero_le _, Nat.zero_le _⟩ rfl (Nat.le_of_ble_eq_true rfl) ?_
                intro z τ3 hq
                refine g_iastore F d_X1_renew_45 (hsC_19 hs) (by omega) (by omega) (by decide) ?_
                refine g_iinc F (lv' := [(3, vI (j + 1)), (0, .ref (q 16)), (1, vI g), (2, vI r)]) 3 rfl rfl (by decide) rfl d_X1_renew_46 ?_
                refine g_goto F d_X1_renew_49 ?_
                have m19 : τ3 19 = τ2 19 := hq.1 19 (by decide)
                have hz9 := hq.2.1 (j / 3 * 30)
                have q1 : CR (up τ3 19 j z) := by
                  intro p
                  rw [up_ne _ (by decide)]
                  exact hq.2.1 p
                have q2 : NR (up τ3 19 j z) := by
                  intro p
                  rw [up_at]
                  split
                  · rw [hq.2.2.2]; exact hz9
                  · rw [m19]; exact hN2 p
                have q3 : ∀ k, 0 ≤ k → k < j + 1 → nextOk σ τ k ((up τ3 19 j z) 19 k) := by
                  intro k a b
                  rw [up_at]
                  split
                  · rename_i e
                    rw [e]
                    refine ⟨τ3 17, hq.2.1, ?_, hq.2.2.2⟩
                    have h9 := hq.2.2.1
                    rw [f6, f7, f10, fk] at h9
                    exact h9
                  · rw [m19]; exact hn k a (by omega)
                refine G_sub (ks := [1, 2, 3, 0]) rfl ?_
                exact ih24 (j + 1) (up τ3 19 j z) (by omega) ((hm2.trans (hq.1.wide (by decide))).up (by decide) _ _) q1 q2 q3 (by omega)
          refine G_sub (ks := [1, 2, 3, 0]) rfl ?_
          exact loop24 _ 0 τ (by omega) (Sm.refl _ _) hC1 hN1 (fun k a b => by exfalso; omega) (Nat.lt_succ_self _)
  have hz : ∀ j, 0 ≤ j → j < 12 → τ1 18 j = 0 := fun j a b => hp.1 j a (by omega)
  have hK9 : KR τ1 := by
    intro j
    by_cases hj : 0 ≤ j ∧ j < 12
    · rw [hz j hj.1 hj.2]; decide
    · rw [hp.2.1 j (by omega)]; exact hK j
  have hC9 : CR τ1 := by
    intro j
    rw [hp.2.2 17 (by decide)]
    exact hC j
  have hN9 : NR τ1 := by
    intro j
    rw [hp.2.2 19 (by decide)]
    exact hN j
  have hmu := sumK_in hK9
  refine G_sub (ks := [2, 1, 0]) rfl ?_
  exact loop12 _ 1 0 τ1 (by omega) (Or.inr rfl) (hp.2.2.wide (by decide)) hC9 hK9 hN9 (UI_0 hz) (fun _ => hmu.1) (fun h => by cases h) (Nat.lt_succ_self _)
