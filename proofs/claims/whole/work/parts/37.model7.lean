/-! the reference: a call is begun -/
def nHang (σ : Sg) (s t c : Int) : Sg := up (up (up σ 41 s (-1)) 42 s t) 43 s c
def nHangs (σ : Sg) (b f p r : Int) : Nat → Sg
  | 0 => σ
  | j + 1 => nHang (nHangs σ b f p r j) (3 * b + j) (tp (σ 32) (f * 30 + p) j - f * 30) r
theorem nHangs_Sm (σ : Sg) (b f p r : Int) : ∀ j : Nat, Sm [41, 42, 43] σ (nHangs σ b f p r j)
  | 0 => Sm.refl _ _
  | j + 1 => by
    have ih := nHangs_Sm σ b f p r j
    unfold nHangs nHang
    exact ((ih.up (by decide) _ _).up (by decide) _ _).up (by decide) _ _
def nCall (σ : Sg) (g f w : Int) : Sg := nAh (up (nHangs (up σ 40 (σ 30 13) g) (σ 30 13) f (σ 30 21) (σ 30 22) (nA g).toNat) 30 13 (σ 30 13 + 1)) (σ 30 13) 0 w
set_option maxHeartbeats 1000000 in
theorem c_X9_beginCall (l : Launch) (E : Ev) (q : Nat → Nat) (sh : List Shp) (σ : Sg) (hs : HsM sh) (g f w : Int) (hg : 0 ≤ g ∧ g < 4) (hf : 0 ≤ f ∧ f < 4) (hw : 0 ≤ w ∧ w < 4) (hc : 0 ≤ σ 30 13 ∧ σ 30 13 < 302) (hs0 : 0 ≤ σ 30 18 ∧ σ 30 18 < 1000) (hT : MTR σ) (hh : ∀ j : Int, 0 ≤ j → j < nA g → 0 ≤ tp (σ 32) (f * 30 + σ 30 21) j ∧ tp (σ 32) (f * 30 + σ 30 21) j < 150) : CV l E yX9_beginCall cX9_beginCall 6 ({ frames := 4, cells := 0, slots := 0, locals := 87 } : Room) q sh σ [.ref (q 30), vI g, vI f, vI w] (isS (nCall σ g f w)) := by
  have hn := nA_in g
  obtain ⟨σ1, e1⟩ : ∃ s, s = up σ 40 (σ 30 13) g := ⟨_, rfl⟩
  have a30 : σ1 30 = σ 30 := by rw [e1]; exact up_ne _ (by decide) _ _
  have a32 : σ1 32 = σ 32 := by rw [e1]; exact up_ne _ (by decide) _ _
  have a37 : σ1 37 = σ 37 := by rw [e1]; exact up_ne _ (by decide) _ _
  have a40 : σ1 40 (σ 30 13) = g := by rw [e1]; exact up_same _ _ _ _
  refine CV_of (own := RX9) (by decide) rfl (Nat.le_of_ble_eq_true rfl) (fun X Q F hQ => ?_)
  show G X E 6 q sh σ 0 0 Q 0 [(0, .ref (q 30)), (1, vI g), (2, vI f), (3, vI w)] []
  refine g_aload_n F 0 rfl rfl d_X9_beginCall_0 ?_
  refine g_getI F 13 f_X9_182 d_X9_beginCall_1 (hsM_30 hs) rfl rfl ?_
  refine g_istore F (lv' := [(4, vI (σ 30 13)), (0, .ref (q 30)), (1, vI g), (2, vI f), (3, vI w)]) (by decide) rfl d_X9_beginCall_4 ?_
  refine g_aload_n F 1 rfl rfl d_X9_beginCall_6 ?_
  refine g_getR F f_X9_37 d_X9_beginCall_7 (hsM_30 hs) rfl ?_
  refine g_iload F 0 rfl d_X9_beginCall_10 ?_
  refine g_iload_n F 2 rfl rfl d_X9_beginCall_12 ?_
  refine g_iastore F d_X9_beginCall_13 (hsM_40 hs) (by omega) (by omega) (by decide) ?_
  refine G_eq (τ := σ1) e1.symm ?_
  refine g_iconst F d_X9_beginCall_14 ?_
  refine g_istore F (lv' := [(5, vI 0), (4, vI (σ 30 13)), (0, .ref (q 30)), (1, vI g), (2, vI f), (3, vI w)]) (by decide) rfl d_X9_beginCall_15 ?_
  have loop17 : ∀ (nn : Nat) (t : Int) (τ : Sg), (0 ≤ t ∧ t ≤ nA g) → (τ = nHangs σ1 (σ 30 13) f (σ 30 21) (σ 30 22) t.toNat) → (nA g - t).toNat < nn → G X E 6 q sh τ 0 0 Q 17 [(0, .ref (q 30)), (1, vI g), (2, vI f), (3, vI w), (4, vI (σ 30 13)), (5, vI t)] [] := by
    intro n17
    induction n17 with
    | zero => intro t τ ht hτ hm17; exact absurd hm17 (Nat.not_lt_zero _)
    | succ n17 ih17 =>
      intro t τ ht hτ hm17
      have hm : Sm [41, 42, 43] σ1 τ := by rw [hτ]; exact nHangs_Sm _ _ _ _ _ _
      have b30 : τ 30 = σ 30 := (hm 30 (by decide)).trans a30
      have b32 : τ 32 = σ 32 := (hm 32 (by decide)).trans a32
      have b37 : τ 37 = σ 37 := (hm 37 (by decide)).trans a37
      have b40 : τ 40 (σ 30 13) = g := by rw [hm 40 (by decide)]; exact a40
      refine g_iload F 5 rfl d_X9_beginCall_17 ?_
      refine g_iload_n F 1 rfl rfl d_X9_beginCall_19 ?_
      refine g_Si F (own := RX9) (c_X9_argumentsOf l E q sh τ g (by omega)) k_X9_85 [vI t] d_X9_beginCall_20 ⟨rfl, rfl, by decide, by decide⟩ ⟨Nat.zero_le _, Nat.zero_le _⟩ rfl (Nat.le_of_ble_eq_true rfl) ?_
      rintro _ _ ⟨rfl, rfl⟩
      refine g_icmp_ge F d_X9_beginCall_23 ⟨by omega, by omega⟩ ⟨by omega, by omega⟩ (fun h23 => ?_) (fun h23 => ?_)
      · refine g_aload_n F 0 rfl rfl d_X9_beginCall_84 ?_
        refine g_dup F rfl d_X9_beginCall_85 ?_
        refine g_getI F 13 f_X9_182 d_X9_beginCall_86 (hsM_30 hs) rfl rfl ?_
        refine G_top (b := σ 30 13) (by rw [b30]) ?_
        refine g_iconst F d_X9_beginCall_89 ?_
        refine g_iadd F d_X9_beginCall_90 ?_
        refine g_putI F 13 f_X9_182 d_X9_beginCall_91 (hsM_30 hs) rfl rfl rfl rfl rfl ?_
        refine g_aload_n F 0 rfl rfl d_X9_beginCall_94 ?_
        refine g_iload F 4 rfl d_X9_beginCall_95 ?_
        refine g_iconst F d_X9_beginCall_97 ?_
        refine g_iload_n F 3 rfl rfl d_X9_beginCall_98 ?_
        refine g_Vv F (own := RX9) (c_X9_goAhead l E q sh (up τ 30 13 ((σ 30 13) + 1)) hs (σ 30 13) 0 w hc (by rw [up_ne _ (by decide), b40]; exact hg) (by rw [up_ne _ (by decide), b40]; omega) hw (by rw [up_other _ _ (by decide), b30]; exact hs0) (fun z => by rw [up_ne _ (by decide), b37]; exact hT z)) k_X9_185 (hsM_30 hs) rfl rfl [] d_X9_beginCall_99 ⟨rfl, rfl, by decide, by decide⟩ ⟨Nat.zero_le _, Nat.zero_le _⟩ rfl (Nat.le_of_ble_eq_true rfl) ?_
        rintro _ rfl
        exact hQ d_X9_beginCall_102 (by unfold nCall; rw [← e1, hτ, show t = nA g by omega])
      · refine g_aload_n F 0 rfl rfl d_X9_beginCall_26 ?_
        refine g_getR F f_X9_40 d_X9_beginCall_27 (hsM_30 hs) rfl ?_
        refine g_iconst F d_X9_beginCall_30 ?_
        refine g_iload F 4 rfl d_X9_beginCall_31 ?_
        refine g_imul F d_X9_beginCall_33 ?_
        refine g_iload F 5 rfl d_X9_beginCall_34 ?_
        refine g_iadd F d_X9_beginCall_36 ?_
        refine g_iconst F d_X9_beginCall_37 ?_
        refine g_iastore F d_X9_beginCall_38 (hsM_41 hs) (by omega) (by omega) (by decide) ?_
        refine g_aload_n F 0 rfl rfl d_X9_beginCall_39 ?_
        refine g_getR F f_X9_43 d_X9_beginCall_40 (hsM_30 hs) rfl ?_
        refine g_iconst F d_X9_beginCall_43 ?_
        refine g_iload F 4 rfl d_X9_beginCall_44 ?_
        refine g_imul F d_X9_beginCall_46 ?_
        refine g_iload F 5 rfl d_X9_beginCall_47 ?_
        refine g_iadd F d_X9_beginCall_49 ?_
        refine g_aload_n F 0 rfl rfl d_X9_beginCall_50 ?_
        refine g_iload_n F 2 rfl rfl d_X9_beginCall_51 ?_
        refine g_aload_n F 0 rfl rfl d_X9_beginCall_52 ?_
        refine g_getI F 21 f_X9_149 d_X9_beginCall_53 (hsM_30 hs) rfl rfl ?_
        refine G_top (b := σ 30 21) (by rw [up_ne _ (by decide), b30]) ?_
        refine g_iload F 5 rfl d_X9_beginCall_56 ?_
        refine g_Vi F (own := RX9) (c_X9_textOf l E q sh (up τ 41 ((3 * (σ 30 13)) + t) (-1)) hs f (σ 30 21) t hf (by omega) (fun j h0 h1 => by rw [up_ne _ (by decide), b32]; exact hh j h0 (by omega))) k_X9_113 (hsM_30 hs) rfl rfl [vI ((3 * (σ 30 13)) + t), .ref (q 42)] d_X9_beginCall_58 ⟨rfl, rfl, by decide, by decide⟩ ⟨Nat.zero_le _, Nat.zero_le _⟩ rfl (Nat.le_of_ble_eq_true rfl) ?_
        rintro _ _ ⟨rfl, rfl⟩
        refine G_top (b := tp (σ 32) (f * 30 + σ 30 21) t - f * 30) (by rw [up_ne _ (by decide), b32]) ?_
        refine g_iastore F d_X9_beginCall_61 (hsM_42 hs) (by omega) (by omega) (by decide) ?_
        refine g_aload_n F 0 rfl rfl d_X9_beginCall_62 ?_
        refine g_getR F f_X9_46 d_X9_beginCall_63 (hsM_30 hs) rfl ?_
        refine g_iconst F d_X9_beginCall_66 ?_
        refine g_iload F 4 rfl d_X9_beginCall_67 ?_
        refine g_imul F d_X9_beginCall_69 ?_
        refine g_iload F 5 rfl d_X9_beginCall_70 ?_
        refine g_iadd F d_X9_beginCall_72 ?_
        refine g_aload_n F 0 rfl rfl d_X9_beginCall_73 ?_
        refine g_getI F 22 f_X9_155 d_X9_beginCall_74 (hsM_30 hs) rfl rfl ?_
        refine G_top (b := σ 30 22) (by rw [up_ne _ (by decide), up_ne _ (by decide), b30]) ?_
        refine g_iastore F d_X9_beginCall_77 (hsM_43 hs) (by omega) (by omega) (by decide) ?_
        refine g_iinc F (lv' := [(5, vI (t + 1)), (0, .ref (q 30)), (1, vI g), (2, vI f), (3, vI w), (4, vI (σ 30 13))]) 5 rfl rfl (by decide) rfl d_X9_beginCall_78 ?_
        refine g_goto F d_X9_beginCall_81 ?_
        refine G_sub (ks := [1, 2, 3, 4, 5, 0]) rfl ?_
        exact ih17 (t + 1) (up (up (up τ 41 ((3 * (σ 30 13)) + t) (-1)) 42 ((3 * (σ 30 13)) + t) (tp (σ 32) (f * 30 + σ 30 21) t - f * 30)) 43 ((3 * (σ 30 13)) + t) (σ 30 22)) (by omega) (by rw [show (t + 1).toNat = t.toNat + 1 by omega, nHangs, ← hτ, a32, show ((t.toNat : Nat) : Int) = t by omega]; rfl) (by omega)
  refine G_sub (ks := [2, 3, 4, 5, 1, 0]) rfl ?_
  exact loop17 _ 0 σ1 (by omega) rfl (Nat.lt_succ_self _)
