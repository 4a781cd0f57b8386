/-! the reference: USES -/
def Cu (σ : Sg) (x : Int) : Int → Int := fun p => σ 39 (p - x * 30)
def unM (σ : Sg) : Int → Int → Int := fun g j => σ 38 (3 * g + j)
def UR (σ : Sg) : Prop := ∀ j, 0 ≤ σ 38 j ∧ σ 38 j ≤ 2
theorem UR.U {σ : Sg} (h : UR σ) : inU (unM σ) := fun g j => h (3 * g + j)
theorem C2.in2 {σ : Sg} (h : C2 σ) (x : Int) : in2 (Cu σ x) := fun p => h (p - x * 30)
theorem ul_3 {S Z : Int → Int} {U : Int → Int → Int} {C : Int → Int} {a p : Int} (h : kd (S p) = 3) : ul S Z U C a p = if wo (S p) = a then 1 else 0 := by simp [ul, h]
theorem ul_4 {S Z : Int → Int} {U : Int → Int → Int} {C : Int → Int} {a p : Int} (h : kd (S p) = 4) : ul S Z U C a p = held (C (tp Z p 0) + C (tp Z p 1)) := by simp [ul, h]
theorem ul_5 {S Z : Int → Int} {U : Int → Int → Int} {C : Int → Int} {a p : Int} (h : kd (S p) = 5) : ul S Z U C a p = held (C (tp Z p 0) + most (C (tp Z p 1)) (C (tp Z p 2))) := by simp [ul, h]
theorem ul_6 {S Z : Int → Int} {U : Int → Int → Int} {C : Int → Int} {a p : Int} (h : kd (S p) = 6) : ul S Z U C a p = held (u3 (nA (wo (S p))) (fun j => U (wo (S p)) j * C (tp Z p j))) := by simp [ul, h]
theorem ul_0 {S Z : Int → Int} {U : Int → Int → Int} {C : Int → Int} {a p : Int} (h : kd (S p) < 3) : ul S Z U C a p = 0 := by
  unfold ul
  rw [if_neg (by omega), if_neg (by omega), if_neg (by omega), if_neg (by omega)]
theorem held_s {w : Int} (h : w = 0 ∨ w = 1) : held w = w := by rcases h with rfl | rfl <;> decide
theorem other_uses {S Z : Int → Int} {U : Int → Int → Int} {C : Int → Int} {a p w : Int} (h0 : 0 ≤ kd (S p) ∧ kd (S p) ≤ 6) (h6 : kd (S p) ≠ 6) (h4 : kd (S p) = 4 → False) (h5 : kd (S p) = 5 → False) (ha : kd (S p) ≠ 3 → w = 0) (hb : kd (S p) = 3 → w = if wo (S p) = a then 1 else 0) : held w = ul S Z U C a p := by
  by_cases k3 : kd (S p) = 3
  · rw [ul_3 k3, ← hb k3]
    apply held_s
    rw [hb k3]
    split
    · exact Or.inr rfl
    · exact Or.inl rfl
  · have k4 : kd (S p) ≠ 4 := h4
    have k5 : kd (S p) ≠ 5 := h5
    rw [ul_0 (by omega), ha k3]
    rfl
theorem other_rg {c a w : Int} (ha : kd c ≠ 3 → w = 0) (hb : kd c = 3 → w = if wo c = a then 1 else 0) : rg w := by
  by_cases k3 : kd c = 3
  · rw [hb k3]
    split
    · exact ⟨by decide, by decide⟩
    · exact ⟨by decide, by decide⟩
  · rw [ha k3]
    exact ⟨by decide, by decide⟩
set_option maxHeartbeats 1000000 in
theorem c_X9_findUses (l : Launch) (E : Ev) (q : Nat → Nat) (sh : List Shp) (σ : Sg) (hs : HsM sh) (x y : Int) (hx : 0 ≤ x ∧ x < 4) (hy : 0 ≤ y ∧ y < 3) (hM : MOK σ) (hU : UR σ) (hC : C2 σ) : CI l E yX9_findUses cX9_findUses 8 .int ({ frames := 2, cells := 0, slots := 0, locals := 45 } : Room) q sh σ [.ref (q 30), vI x, vI y] (fun z τ => Sm [39] σ τ ∧ C2 τ ∧ SolU (σ 31) (σ 32) (unM σ) (Cu τ x) y (x * 30) (σ 34 x) ∧ z = Cu τ x (x * 30)) := by
  have hB := (hM.1 x hx.1 hx.2).1
  have hn1 := hB.1
  have hn2 := hB.2.1
  refine CI_of (own := RX9) (by decide) rfl (Nat.le_of_ble_eq_true rfl) (fun X Q F hQ => ?_)
  show G X E 8 q sh σ 0 0 Q 0 [(0, .ref (q 30)), (1, vI x), (2, vI y)] []
  refine g_aload_n F 0 rfl rfl d_X9_findUses_0 ?_
  refine g_getR F f_X9_19 d_X9_findUses_1 (hsM_30 hs) rfl ?_
  refine g_iload_n F 1 rfl rfl d_X9_findUses_4 ?_
  refine g_iaload F d_X9_findUses_5 (hsM_34 hs) (by omega) (by omega) (by decide) ?_
  refine g_iconst F d_X9_findUses_6 ?_
  refine g_isub F d_X9_findUses_7 ?_
  refine g_istore_n F (lv' := [(3, vI ((σ 34 x) - 1)), (0, .ref (q 30)), (1, vI x), (2, vI y)]) rfl (by decide) rfl d_X9_findUses_8 ?_
  have loop9 : ∀ (nn : Nat) (i : Int) (τ : Sg), (-1 ≤ i ∧ i ≤ σ 34 x - 1) → (Sm [39] σ τ) → (C2 τ) → (∀ p, x * 30 + i < p → p < x * 30 + σ 34 x → Cu τ x p = ul (σ 31) (σ 32) (unM σ) (Cu τ x) y p) → (i + 1).toNat < nn → G X E 8 q sh τ 0 0 Q 9 [(0, .ref (q 30)), (1, vI x), (2, vI y), (3, vI i)] [] := by
    intro n9
    induction n9 with
    | zero => intro i τ hi hm hC1 hso hm9; exact absurd hm9 (Nat.not_lt_zero _)
    | succ n9 ih9 =>
      intro i τ hi hm hC1 hso hm9
      have g31 : τ 31 = σ 31 := hm 31 (by decide)
      have g32 : τ 32 = σ 32 := hm 32 (by decide)
      have g38 : τ 38 = σ 38 := hm 38 (by decide)
      refine g_iload_n F 3 rfl rfl d_X9_findUses_9 ?_
      refine g_if_lt F d_X9_findUses_10 ⟨by omega, by omega⟩ (fun h10 => ?_) (fun h10 => ?_)
      · refine g_aload_n F 0 rfl rfl d_X9_findUses_211 ?_
        refine g_getR F f_X9_34 d_X9_findUses_212 (hsM_30 hs) rfl ?_
        refine g_iconst F d_X9_findUses_215 ?_
        refine g_iaload F d_X9_findUses_216 (hsM_39 hs) (by omega) (by omega) (by decide) ?_
        exact hQ d_X9_findUses_217 (⟨hm, hC1, fun p a b => hso p (by omega) b, by unfold Cu; rw [Int.sub_self]⟩)
      · have hch := (hB.2.2.2.2 (x * 30 + i) (by omega) (by omega)).2.1
        have hvd := ((hM.1 x hx.1 hx.2).2 (x * 30 + i) (by omega) (by omega)).1
        have hkd := kd_in (σ 31 (x * 30 + i))
        have hrg := hM.2 (x * 30 + i)
        have hrg1 := hrg.1
        have hrg2 := hrg.2
        have hcb := cb_in (σ 31 (x * 30 + i))
        refine g_aload_n F 0 rfl rfl d_X9_findUses_13 ?_
        refine g_getR F f_X9_7 d_X9_findUses_14 (hsM_30 hs) rfl ?_
        refine g_bipush F (by decide) d_X9_findUses_17 ?_
        refine g_iload_n F 1 rfl rfl d_X9_findUses_19 ?_
        refine g_imul F d_X9_findUses_20 ?_
        refine g_iload_n F 3 rfl rfl d_X9_findUses_21 ?_
        refine g_iadd F d_X9_findUses_22 ?_
        refine G_top (b := x * 30 + i) (by omega) ?_
        refine g_iaload F d_X9_findUses_23 (hsM_31 hs) (by omega) (by omega) (by decide) ?_
        refine G_top (b := σ 31 (x * 30 + i)) (by rw [g31]) ?_
        refine g_istore F (lv' := [(4, vI (σ 31 (x * 30 + i))), (0, .ref (q 30)), (1, vI x), (2, vI y), (3, vI i)]) (by decide) rfl d_X9_findUses_24 ?_
        refine g_iload F 0 rfl d_X9_findUses_26 ?_
        refine g_Si F (own := RX9) (c_X9_calledBy l E q sh τ (σ 31 (x * 30 + i)) hrg) k_X9_81 [] d_X9_findUses_28 ⟨rfl, rfl, by decide, by decide⟩ ⟨Nat.zero_le _, Nat.zero_le _⟩ rfl (Nat.le_of_ble_eq_true rfl) ?_
        rintro _ _ ⟨rfl, rfl⟩
        refine g_istore F (lv' := [(5, vI (cb (σ 31 (x * 30 + i)))), (4, vI (σ 31 (x * 30 + i))), (0, .ref (q 30)), (1, vI x), (2, vI y), (3, vI i)]) (by decide) rfl d_X9_findUses_31 ?_
        have join57 : ∀ (w0 : Int), ((kd (σ 31 (x * 30 + i)) ≠ 3 → w0 = 0) ∧ (kd (σ 31 (x * 30 + i)) = 3 → w0 = if wo (σ 31 (x * 30 + i)) = y then 1 else 0)) → G X E 8 q sh τ 0 0 Q 57 [(5, vI (cb (σ 31 (x * 30 + i)))), (4, vI (σ 31 (x * 30 + i))), (0, .ref (q 30)), (1, vI x), (2, vI y), (3, vI i), (6, vI w0)] [] := by
          intro w0 hw0
          have hw0a := hw0.1
          have hw0b := hw0.2
          clear hw0
          refine g_iload F 0 rfl d_X9_findUses_57 ?_
          refine g_if_lt F d_X9_findUses_59 ⟨by omega, by omega⟩ (fun h59 => ?_) (fun h59 => ?_)
          · have n6 : kd (σ 31 (x * 30 + i)) ≠ 6 := fun z => by have := cb_iff.mpr z; omega
            have k5 : kd (σ 31 (x * 30 + i)) = 5 ↔ σ 31 (x * 30 + i) = 63 := kd_5
            have e0 := tp_0 (σ 32) (x * 30 + i)
            have c0 := hC1.in2 x (tp (σ 32) (x * 30 + i) 0)
            have c1 := hC1.in2 x (tp (σ 32) (x * 30 + i) 1)
            have c2 := hC1.in2 x (tp (σ 32) (x * 30 + i) 2)
            refine g_iload F 1 rfl d_X9_findUses_115 ?_
            refine g_Si F (own := RX9) (c_X9_isAct l E q sh τ (σ 31 (x * 30 + i)) hrg) k_X9_88 [] d_X9_findUses_117 ⟨rfl, rfl, by decide, by decide⟩ ⟨Nat.zero_le _, Nat.zero_le _⟩ rfl (Nat.le_of_ble_eq_true rfl) ?_
            rintro _ _ ⟨rfl, rfl⟩
            refine g_b_eq F d_X9_findUses_120 (fun h120 => ?_) (fun h120 => ?_)
            · refine g_iload F 1 rfl d_X9_findUses_149 ?_
              refine g_bipush F (by decide) d_X9_findUses_151 ?_
              refine g_icmp_ne F d_X9_findUses_153 ⟨by omega, by omega⟩ ⟨by decide, by decide⟩ (fun h153 => ?_) (fun h153 => ?_)
              · refine g_aload_n F 2 rfl rfl d_X9_findUses_194 ?_
                refine g_getR F f_X9_34 d_X9_findUses_195 (hsM_30 hs) rfl ?_
                refine g_iload_n F 5 rfl rfl d_X9_findUses_198 ?_
                refine g_iload F 6 rfl d_X9_findUses_199 ?_
                refine g_Si F (own := RX9) (c_X9_held l E q sh τ w0 (by first | exact ⟨by omega, by omega⟩ | exact other_rg hw0a hw0b)) k_X9_120 [vI i, .ref (q 39)] d_X9_findUses_201 ⟨rfl, rfl, by decide, by decide⟩ ⟨Nat.zero_le _, Nat.zero_le _⟩ rfl (Nat.le_of_ble_eq_true rfl) ?_
                rintro _ _ ⟨rfl, rfl⟩
                refine G_top (b := ul (σ 31) (σ 32) (unM σ) (Cu τ x) y (x * 30 + i)) (by first | exact hfin | exact other_uses (by omega) n6 (fun z => h120 z) (fun z => h153 (k5.mp z)) hw0a hw0b) ?_
                refine g_iastore F d_X9_findUses_204 (hsM_39 hs) (by omega) (by omega) (by decide) ?_
                refine g_iinc F (lv' := [(3, vI (i + (-1))), (5, vI (cb (σ 31 (x * 30 + i)))), (4, vI (σ 31 (x * 30 + i))), (0, .ref (q 30)), (1, vI x), (2, vI y), (6, vI w0)]) 5 rfl rfl (by decide) rfl d_X9_findUses_205 ?_
                refine g_goto F d_X9_findUses_208 ?_
                have w1 := ul_in (S := σ 31) (Z := σ 32) (a := y) (p := x * 30 + i) hU.U (hC1.in2 x)
                have q1 : C2 (up τ 39 i (ul (σ 31) (σ 32) (unM σ) (Cu τ x) y (x * 30 + i))) := by
                  intro j
                  rw [up_at]
                  split
                  · exact w1
                  · exact hC1 j
                have q3 : ∀ p, x * 30 + (i + (-1)) < p → p < x * 30 + σ 34 x → Cu (up τ 39 i (ul (σ 31) (σ 32) (unM σ) (Cu τ x) y (x * 30 + i))) x p = ul (σ 31) (σ 32) (unM σ) (Cu (up τ 39 i (ul (σ 31) (σ 32) (unM σ) (Cu τ x) y (x * 30 + i))) x) y p := by
                  intro p a b
                  have key : ul (σ 31) (σ 32) (unM σ) (Cu τ x) y p = ul (σ 31) (σ 32) (unM σ) (Cu (up τ 39 i (ul (σ 31) (σ 32) (unM σ) (Cu τ x) y (x * 30 + i))) x) y p := by
                    apply ul_congr
                    intro t h0 h1
                    have h7 := (hB.2.2.2.2 p (by omega) (by omega)).2.1 t h0 h1
                    unfold Cu
                    rw [up_other _ _ (show tp (σ 32) p t - x * 30 ≠ i by omega)]
                  rw [← key]
                  by_cases e : p = x * 30 + i
                  · rw [e]
                    show up τ 39 i _ 39 (x * 30 + i - x * 30) = _
                    rw [show x * 30 + i - x * 30 = i by omega, up_same]
                  · rw [← hso p (by omega) b]
                    unfold Cu
                    rw [up_other _ _ (show p - x * 30 ≠ i by omega)]
                refine G_sub (ks := [3, 4, 5, 0]) rfl ?_
                exact ih9 (i + (-1)) (up τ 39 i (ul (σ 31) (σ 32) (unM σ) (Cu τ x) y (x * 30 + i))) (by omega) (hm.up (by decide) _ _) q1 q3 (by omega)
              · have hk5 := k5.mpr h153
                have ht9 := tx_5 hk5
                have d0 := hch 0 (by omega) (by omega)
                have d1 := hch 1 (by omega) (by omega)
                have d2 := hch 2 (by omega) (by omega)
                have hmo : 0 ≤ most (Cu τ x (tp (σ 32) (x * 30 + i) 1)) (Cu τ x (tp (σ 32) (x * 30 + i) 2)) ∧ most (Cu τ x (tp (σ 32) (x * 30 + i) 1)) (Cu τ x (tp (σ 32) (x * 30 + i) 2)) ≤ 2 := by unfold most; split <;> omega
                have hfin : held (Cu τ x (tp (σ 32) (x * 30 + i) 0) + most (Cu τ x (tp (σ 32) (x * 30 + i) 1)) (Cu τ x (tp (σ 32) (x * 30 + i) 2))) = ul (σ 31) (σ 32) (unM σ) (Cu τ x) y (x * 30 + i) := (ul_5 hk5).symm
                refine g_aload_n F 2 rfl rfl d_X9_findUses_156 ?_
                refine g_getR F f_X9_34 d_X9_findUses_157 (hsM_30 hs) rfl ?_
                refine g_iload_n F 5 rfl rfl d_X9_findUses_160 ?_
                refine g_iconst F d_X9_findUses_161 ?_
                refine g_iadd F d_X9_findUses_162 ?_
                refine G_top (b := tp (σ 32) (x * 30 + i) 0 - x * 30) (by rw [e0]; omega) ?_
                refine g_iaload F d_X9_findUses_163 (hsM_39 hs) (by omega) (by omega) (by decide) ?_
                refine G_top (b := Cu τ x (tp (σ 32) (x * 30 + i) 0)) (rfl) ?_
                refine g_aload_n F 2 rfl rfl d_X9_findUses_164 ?_
                refine g_getR F f_X9_34 d_X9_findUses_165 (hsM_30 hs) rfl ?_
                refine g_aload_n F 2 rfl rfl d_X9_findUses_168 ?_
                refine g_iload_n F 3 rfl rfl d_X9_findUses_169 ?_
                refine g_iload_n F 5 rfl rfl d_X9_findUses_170 ?_
                refine g_iconst F d_X9_findUses_171 ?_
                refine g_Vi F (own := RX9) (c_X9_textOf l E q sh τ hs x i 1 hx (by omega) (fun j h0 h1 => by rw [g32]; have h9 := hch j h0 (by omega); omega)) k_X9_113 (hsM_30 hs) rfl rfl [.ref (q 39), vI (Cu τ x (tp (σ 32) (x * 30 + i) 0))] d_X9_findUses_172 ⟨rfl, rfl, by decide, by decide⟩ ⟨Nat.zero_le _, Nat.zero_le _⟩ rfl (Nat.le_of_ble_eq_true rfl) ?_
                rintro _ _ ⟨rfl, rfl⟩
                refine G_top (b := tp (σ 32) (x * 30 + i) 1 - x * 30) (by rw [g32]) ?_
                refine g_iaload F d_X9_findUses_175 (hsM_39 hs) (by omega) (by omega) (by decide) ?_
                refine G_top (b := Cu τ x (tp (σ 32) (x * 30 + i) 1)) (rfl) ?_
                refine g_aload_n F 2 rfl rfl d_X9_findUses_176 ?_
                refine g_getR F f_X9_34 d_X9_findUses_177 (hsM_30 hs) rfl ?_
                refine g_aload_n F 2 rfl rfl d_X9_findUses_180 ?_
                refine g_iload_n F 3 rfl rfl d_X9_findUses_181 ?_
                refine g_iload_n F 5 rfl rfl d_X9_findUses_182 ?_
                refine g_iconst F d_X9_findUses_183 ?_
                refine g_Vi F (own := RX9) (c_X9_textOf l E q sh τ hs x i 2 hx (by omega) (fun j h0 h1 => by rw [g32]; have h9 := hch j h0 (by omega); omega)) k_X9_113 (hsM_30 hs) rfl rfl [.ref (q 39), vI (Cu τ x (tp (σ 32) (x * 30 + i) 1)), vI (Cu τ x (tp (σ 32) (x * 30 + i) 0))] d_X9_findUses_184 ⟨rfl, rfl, by decide, by decide⟩ ⟨Nat.zero_le _, Nat.zero_le _⟩ rfl (Nat.le_of_ble_eq_true rfl) ?_
                rintro _ _ ⟨rfl, rfl⟩
                refine G_top (b := tp (σ 32) (x * 30 + i) 2 - x * 30) (by rw [g32]) ?_
                refine g_iaload F d_X9_findUses_187 (hsM_39 hs) (by omega) (by omega) (by decide) ?_
                refine G_top (b := Cu τ x (tp (σ 32) (x * 30 + i) 2)) (rfl) ?_
                refine g_Si F (own := RX9) (c_X9_most l E q sh τ (Cu τ x (tp (σ 32) (x * 30 + i) 1)) (Cu τ x (tp (σ 32) (x * 30 + i) 2)) ⟨by omega, by omega⟩ ⟨by omega, by omega⟩) k_X9_117 [vI (Cu τ x (tp (σ 32) (x * 30 + i) 0))] d_X9_findUses_188 ⟨rfl, rfl, by decide, by decide⟩ ⟨Nat.zero_le _, Nat.zero_le _⟩ rfl (Nat.le_of_ble_eq_true rfl) ?_
                rintro _ _ ⟨rfl, rfl⟩
                refine g_iadd F d_X9_findUses_191 ?_
                refine g_istore F (lv' := [(6, vI ((Cu τ x (tp (σ 32) (x * 30 + i) 0)) + (most (Cu τ x (tp (σ 32) (x * 30 + i) 1)) (Cu τ x (tp (σ 32) (x * 30 + i) 2))))), (5, vI (cb (σ 31 (x * 30 + i)))), (4, vI (σ 31 (x * 30 + i))), (0, .ref (q 30)), (1, vI x), (2, vI y), (3, vI i)]) (by decide) rfl d_X9_findUses_192 ?_
                refine g_aload_n F 3 rfl rfl d_X9_findUses_194 ?_
                refine g_getR F f_X9_34 d_X9_findUses_195 (hsM_30 hs) rfl ?_
                refine g_iload_n F 6 rfl rfl d_X9_findUses_198 ?_
                refine g_iload F 0 rfl d_X9_findUses_199 ?_
                refine g_Si F (own := RX9) (c_X9_held l E q sh τ ((Cu τ x (tp (σ 32) (x * 30 + i) 0)) + (most (Cu τ x (tp (σ 32) (x * 30 + i) 1)) (Cu τ x (tp (σ 32) (x * 30 + i) 2)))) (by first | exact ⟨by omega, by omega⟩ | exact other_rg hw0a hw0b)) k_X9_120 [vI i, .ref (q 39)] d_X9_findUses_201 ⟨rfl, rfl, by decide, by decide⟩ ⟨Nat.zero_le _, Nat.zero_le _⟩ rfl (Nat.le_of_ble_eq_true rfl) ?_
                rintro _ _ ⟨rfl, rfl⟩
                refine G_top (b := ul (σ 31) (σ 32) (unM σ) (Cu τ x) y (x * 30 + i)) (by first | exact hfin | exact other_uses (by omega) n6 (fun z => h120 z) (fun z => h153 (k5.mp z)) hw0a hw0b) ?_
                refine g_iastore F d_X9_findUses_204 (hsM_39 hs) (by omega) (by omega) (by decide) ?_
                refine g_iinc F (lv' := [(3, vI (i + (-1))), (6, vI ((Cu τ x (tp (σ 32) (x * 30 + i) 0)) + (most (Cu τ x (tp (σ 32) (x * 30 + i) 1)) (Cu τ x (tp (σ 32) (x * 30 + i) 2))))), (5, vI (cb (σ 31 (x * 30 + i)))), (4, vI (σ 31 (x * 30 + i))), (0, .ref (q 30)), (1, vI x), (2, vI y)]) 6 rfl rfl (by decide) rfl d_X9_findUses_205 ?_
                refine g_goto F d_X9_findUses_208 ?_
                have w1 := ul_in (S := σ 31) (Z := σ 32) (a := y) (p := x * 30 + i) hU.U (hC1.in2 x)
                have q1 : C2 (up τ 39 i (ul (σ 31) (σ 32) (unM σ) (Cu τ x) y (x * 30 + i))) := by
                  intro j
                  rw [up_at]
                  split
                  · exact w1
                  · exact hC1 j
                have q3 : ∀ p, x * 30 + (i + (-1)) < p → p < x * 30 + σ 34 x → Cu (up τ 39 i (ul (σ 31) (σ 32) (unM σ) (Cu τ x) y (x * 30 + i))) x p = ul (σ 31) (σ 32) (unM σ) (Cu (up τ 39 i (ul (σ 31) (σ 32) (unM σ) (Cu τ x) y (x * 30 + i))) x) y p := by
                  intro p a b
                  have key : ul (σ 31) (σ 32) (unM σ) (Cu τ x) y p = ul (σ 31) (σ 32) (unM σ) (Cu (up τ 39 i (ul (σ 31) (σ 32) (unM σ) (Cu τ x) y (x * 30 + i))) x) y p := by
                    apply ul_congr
                    intro t h0 h1
                    have h7 := (hB.2.2.2.2 p (by omega) (by omega)).2.1 t h0 h1
                    unfold Cu
                    rw [up_other _ _ (show tp (σ 32) p t - x * 30 ≠ i by omega)]
                  rw [← key]
                  by_cases e : p = x * 30 + i
                  · rw [e]
                    show up τ 39 i _ 39 (x * 30 + i - x * 30) = _
                    rw [show x * 30 + i - x * 30 = i by omega, up_same]
                  · rw [← hso p (by omega) b]
                    unfold Cu
                    rw [up_other _ _ (show p - x * 30 ≠ i by omega)]
                refine G_sub (ks := [4, 5, 6, 0]) rfl ?_
                exact ih9 (i + (-1)) (up τ 39 i (ul (σ 31) (σ 32) (unM σ) (Cu τ x) y (x * 30 + i))) (by omega) (hm.up (by decide) _ _) q1 q3 (by omega)
            · have ht9 := tx_4 h120
              have d0 := hch 0 (by omega) (by omega)
              have d1 := hch 1 (by omega) (by omega)
              have hfin : held (Cu τ x (tp (σ 32) (x * 30 + i) 0) + Cu τ x (tp (σ 32) (x * 30 + i) 1)) = ul (σ 31) (σ 32) (unM σ) (Cu τ x) y (x * 30 + i) := (ul_4 h120).symm
              refine g_aload_n F 2 rfl rfl d_X9_findUses_123 ?_
              refine g_getR F f_X9_34 d_X9_findUses_124 (hsM_30 hs) rfl ?_
              refine g_iload_n F 5 rfl rfl d_X9_findUses_127 ?_
              refine g_iconst F d_X9_findUses_128 ?_
              refine g_iadd F d_X9_findUses_129 ?_
              refine G_top (b := tp (σ 32) (x * 30 + i) 0 - x * 30) (by rw [e0]; omega) ?_
              refine g_iaload F d_X9_findUses_130 (hsM_39 hs) (by omega) (by omega) (by decide) ?_
              refine G_top (b := Cu τ x (tp (σ 32) (x * 30 + i) 0)) (rfl) ?_
              refine g_aload_n F 2 rfl rfl d_X9_findUses_131 ?_
              refine g_getR F f_X9_34 d_X9_findUses_132 (hsM_30 hs) rfl ?_
              refine g_aload_n F 2 rfl rfl d_X9_findUses_135 ?_
              refine g_iload_n F 3 rfl rfl d_X9_findUses_136 ?_
              refine g_iload_n F 5 rfl rfl d_X9_findUses_137 ?_
              refine g_iconst F d_X9_findUses_138 ?_
              refine g_Vi F (own := RX9) (c_X9_textOf l E q sh τ hs x i 1 hx (by omega) (fun j h0 h1 => by rw [g32]; have h9 := hch j h0 (by omega); omega)) k_X9_113 (hsM_30 hs) rfl rfl [.ref (q 39), vI (Cu τ x (tp (σ 32) (x * 30 + i) 0))] d_X9_findUses_139 ⟨rfl, rfl, by decide, by decide⟩ ⟨Nat.zero_le _, Nat.zero_le _⟩ rfl (Nat.le_of_ble_eq_true rfl) ?_
              rintro _ _ ⟨rfl, rfl⟩
              refine G_top (b := tp (σ 32) (x * 30 + i) 1 - x * 30) (by rw [g32]) ?_
              refine g_iaload F d_X9_findUses_142 (hsM_39 hs) (by omega) (by omega) (by decide) ?_
              refine G_top (b := Cu τ x (tp (σ 32) (x * 30 + i) 1)) (rfl) ?_
              refine g_iadd F d_X9_findUses_143 ?_
              refine g_istore F (lv' := [(6, vI ((Cu τ x (tp (σ 32) (x * 30 + i) 0)) + (Cu τ x (tp (σ 32) (x * 30 + i) 1)))), (5, vI (cb (σ 31 (x * 30 + i)))), (4, vI (σ 31 (x * 30 + i))), (0, .ref (q 30)), (1, vI x), (2, vI y), (3, vI i)]) (by decide) rfl d_X9_findUses_144 ?_
              refine g_goto F d_X9_findUses_146 ?_
              refine g_aload_n F 3 rfl rfl d_X9_findUses_194 ?_
              refine g_getR F f_X9_34 d_X9_findUses_195 (hsM_30 hs) rfl ?_
              refine g_iload_n F 6 rfl rfl d_X9_findUses_198 ?_
              refine g_iload F 0 rfl d_X9_findUses_199 ?_
              refine g_Si F (own := RX9) (c_X9_held l E q sh τ ((Cu τ x (tp (σ 32) (x * 30 + i) 0)) + (Cu τ x (tp (σ 32) (x * 30 + i) 1))) (by first | exact ⟨by omega, by omega⟩ | exact other_rg hw0a hw0b)) k_X9_120 [vI i, .ref (q 39)] d_X9_findUses_201 ⟨rfl, rfl, by decide, by decide⟩ ⟨Nat.zero_le _, Nat.zero_le _⟩ rfl (Nat.le_of_ble_eq_true rfl) ?_
              rintro _ _ ⟨rfl, rfl⟩
              refine G_top (b := ul (σ 31) (σ 32) (unM σ) (Cu τ x) y (x * 30 + i)) (by first | exact hfin | exact other_uses (by omega) n6 (fun z => h120 z) (fun z => h153 (k5.mp z)) hw0a hw0b) ?_
              refine g_iastore F d_X9_findUses_204 (hsM_39 hs) (by omega) (by omega) (by decide) ?_
              refine g_iinc F (lv' := [(3, vI (i + (-1))), (6, vI ((Cu τ x (tp (σ 32) (x * 30 + i) 0)) + (Cu τ x (tp (σ 32) (x * 30 + i) 1)))), (5, vI (cb (σ 31 (x * 30 + i)))), (4, vI (σ 31 (x * 30 + i))), (0, .ref (q 30)), (1, vI x), (2, vI y)]) 6 rfl rfl (by decide) rfl d_X9_findUses_205 ?_
              refine g_goto F d_X9_findUses_208 ?_
              have w1 := ul_in (S := σ 31) (Z := σ 32) (a := y) (p := x * 30 + i) hU.U (hC1.in2 x)
              have q1 : C2 (up τ 39 i (ul (σ 31) (σ 32) (unM σ) (Cu τ x) y (x * 30 + i))) := by
                intro j
                rw [up_at]
                split
                · exact w1
                · exact hC1 j
              have q3 : ∀ p, x * 30 + (i + (-1)) < p → p < x * 30 + σ 34 x → Cu (up τ 39 i (ul (σ 31) (σ 32) (unM σ) (Cu τ x) y (x * 30 + i))) x p = ul (σ 31) (σ 32) (unM σ) (Cu (up τ 39 i (ul (σ 31) (σ 32) (unM σ) (Cu τ x) y (x * 30 + i))) x) y p := by
                intro p a b
                have key : ul (σ 31) (σ 32) (unM σ) (Cu τ x) y p = ul (σ 31) (σ 32) (unM σ) (Cu (up τ 39 i (ul (σ 31) (σ 32) (unM σ) (Cu τ x) y (x * 30 + i))) x) y p := by
                  apply ul_congr
                  intro t h0 h1
                  have h7 := (hB.2.2.2.2 p (by omega) (by omega)).2.1 t h0 h1
                  unfold Cu
                  rw [up_other _ _ (show tp (σ 32) p t - x * 30 ≠ i by omega)]
                rw [← key]
                by_cases e : p = x * 30 + i
                · rw [e]
                  show up τ 39 i _ 39 (x * 30 + i - x * 30) = _
                  rw [show x * 30 + i - x * 30 = i by omega, up_same]
                · rw [← hso p (by omega) b]
                  unfold Cu
                  rw [up_other _ _ (show p - x * 30 ≠ i by omega)]
              refine G_sub (ks := [4, 5, 6, 0]) rfl ?_
              exact ih9 (i + (-1)) (up τ 39 i (ul (σ 31) (σ 32) (unM σ) (Cu τ x) y (x * 30 + i))) (by omega) (hm.up (by decide) _ _) q1 q3 (by omega)
          · have hk := cb_iff.mp (by omega : 0 ≤ cb (σ 31 (x * 30 + i)))
            have ht9 := tx_6 hk
            have hw6 := wo_6 hk
            have e6 := cb_6 hk
            have hna := nA_in (wo (σ 31 (x * 30 + i)))
            refine g_iconst F d_X9_findUses_62 ?_
            refine g_istore F (lv' := [(7, vI 0), (5, vI (cb (σ 31 (x * 30 + i)))), (4, vI (σ 31 (x * 30 + i))), (0, .ref (q 30)), (1, vI x), (2, vI y), (3, vI i), (6, vI w0)]) (by decide) rfl d_X9_findUses_63 ?_
            have loop65 : ∀ (nn : Nat) (d : Int) (t : Int), (0 ≤ t ∧ t ≤ nA (wo (σ 31 (x * 30 + i)))) → (d = u3 t (fun j => unM σ (wo (σ 31 (x * 30 + i))) j * Cu τ x (tp (σ 32) (x * 30 + i) j))) → (nA (wo (σ 31 (x * 30 + i))) - t).toNat < nn → G X E 8 q sh τ 0 0 Q 65 [(0, .ref (q 30)), (1, vI x), (2, vI y), (3, vI i), (4, vI (σ 31 (x * 30 + i))), (5, vI (cb (σ 31 (x * 30 + i)))), (6, vI d), (7, vI t)] [] := by
              intro n65
              induction n65 with
              | zero => intro d t ht hd hm65; exact absurd hm65 (Nat.not_lt_zero _)
              | succ n65 ih65 =>
                intro d t ht hd hm65
                refine g_iload F 7 rfl d_X9_findUses_65 ?_
                refine g_iload F 5 rfl d_X9_findUses_67 ?_
                refine g_Si F (own := RX9) (c_X9_argumentsOf l E q sh τ (cb (σ 31 (x * 30 + i))) (by omega)) k_X9_85 [vI t] d_X9_findUses_69 ⟨rfl, rfl, by decide, by decide⟩ ⟨Nat.zero_le _, Nat.zero_le _⟩ rfl (Nat.le_of_ble_eq_true rfl) ?_
                rintro _ _ ⟨rfl, rfl⟩
                refine G_top (b := nA (wo (σ 31 (x * 30 + i)))) (by rw [e6]) ?_
                refine g_icmp_ge F d_X9_findUses_72 ⟨by omega, by omega⟩ ⟨by omega, by omega⟩ (fun h72 => ?_) (fun h72 => ?_)
                · have hdi := u3_in (n := t) (x := (fun j => unM σ (wo (σ 31 (x * 30 + i))) j * Cu τ x (tp (σ 32) (x * 30 + i) j))) (m := 4) (by decide) (fun j _ _ _ => mul_in2 (hU.U _ j) (hC1.in2 x _))
                  rw [← hd] at hdi
                  have hfin : held d = ul (σ 31) (σ 32) (unM σ) (Cu τ x) y (x * 30 + i) := by rw [hd, show t = nA (wo (σ 31 (x * 30 + i))) by omega, ul_6 hk]
                  refine g_goto F d_X9_findUses_112 ?_
                  refine g_aload_n F 0 rfl rfl d_X9_findUses_194 ?_
                  refine g_getR F f_X9_34 d_X9_findUses_195 (hsM_30 hs) rfl ?_
                  refine g_iload_n F 3 rfl rfl d_X9_findUses_198 ?_
                  refine g_iload F 6 rfl d_X9_findUses_199 ?_
                  refine g_Si F (own := RX9) (c_X9_held l E q sh τ d (by first | exact ⟨by omega, by omega⟩ | exact other_rg hw0a hw0b)) k_X9_120 [vI i, .ref (q 39)] d_X9_findUses_201 ⟨rfl, rfl, by decide, by decide⟩ ⟨Nat.zero_le _, Nat.zero_le _⟩ rfl (Nat.le_of_ble_eq_true rfl) ?_
                  rintro _ _ ⟨rfl, rfl⟩
                  refine G_top (b := ul (σ 31) (σ 32) (unM σ) (Cu τ x) y (x * 30 + i)) (by first | exact hfin | exact other_uses (by omega) n6 (fun z => h120 z) (fun z => h153 (k5.mp z)) hw0a hw0b) ?_
                  refine g_iastore F d_X9_findUses_204 (hsM_39 hs) (by omega) (by omega) (by decide) ?_
                  refine g_iinc F (lv' := [(3, vI (i + (-1))), (0, .ref (q 30)), (1, vI x), (2, vI y), (4, vI (σ 31 (x * 30 + i))), (5, vI (cb (σ 31 (x * 30 + i)))), (6, vI d), (7, vI t)]) 3 rfl rfl (by decide) rfl d_X9_findUses_205 ?_
                  refine g_goto F d_X9_findUses_208 ?_
                  have w1 := ul_in (S := σ 31) (Z := σ 32) (a := y) (p := x * 30 + i) hU.U (hC1.in2 x)
                  have q1 : C2 (up τ 39 i (ul (σ 31) (σ 32) (unM σ) (Cu τ x) y (x * 30 + i))) := by
                    intro j
                    rw [up_at]
                    split
                    · exact w1
                    · exact hC1 j
                  have q3 : ∀ p, x * 30 + (i + (-1)) < p → p < x * 30 + σ 34 x → Cu (up τ 39 i (ul (σ 31) (σ 32) (unM σ) (Cu τ x) y (x * 30 + i))) x p = ul (σ 31) (σ 32) (unM σ) (Cu (up τ 39 i (ul (σ 31) (σ 32) (unM σ) (Cu τ x) y (x * 30 + i))) x) y p := by
                    intro p a b
                    have key : ul (σ 31) (σ 32) (unM σ) (Cu τ x) y p = ul (σ 31) (σ 32) (unM σ) (Cu (up τ 39 i (ul (σ 31) (σ 32) (unM σ) (Cu τ x) y (x * 30 + i))) x) y p := by
                      apply ul_congr
                      intro t h0 h1
                      have h7 := (hB.2.2.2.2 p (by omega) (by omega)).2.1 t h0 h1
                      unfold Cu
                      rw [up_other _ _ (show tp (σ 32) p t - x * 30 ≠ i by omega)]
                    rw [← key]
                    by_cases e : p = x * 30 + i
                    · rw [e]
                      show up τ 39 i _ 39 (x * 30 + i - x * 30) = _
                      rw [show x * 30 + i - x * 30 = i by omega, up_same]
                    · rw [← hso p (by omega) b]
                      unfold Cu
                      rw [up_other _ _ (show p - x * 30 ≠ i by omega)]
                  refine G_sub (ks := [1, 2, 3, 0]) rfl ?_
                  exact ih9 (i + (-1)) (up τ 39 i (ul (σ 31) (σ 32) (unM σ) (Cu τ x) y (x * 30 + i))) (by omega) (hm.up (by decide) _ _) q1 q3 (by omega)
                · have hc9 := hch t (by omega) (by omega)
                  refine g_iload F 6 rfl d_X9_findUses_75 ?_
                  refine g_aload_n F 0 rfl rfl d_X9_findUses_77 ?_
                  refine g_getR F f_X9_34 d_X9_findUses_78 (hsM_30 hs) rfl ?_
                  refine g_aload_n F 0 rfl rfl d_X9_findUses_81 ?_
                  refine g_iload_n F 1 rfl rfl d_X9_findUses_82 ?_
                  refine g_iload_n F 3 rfl rfl d_X9_findUses_83 ?_
                  refine g_iload F 7 rfl d_X9_findUses_84 ?_
                  refine g_Vi F (own := RX9) (c_X9_textOf l E q sh τ hs x i t hx (by omega) (fun j h0 h1 => by rw [g32]; have h9 := hch j h0 (by omega); omega)) k_X9_113 (hsM_30 hs) rfl rfl [.ref (q 39), vI d] d_X9_findUses_86 ⟨rfl, rfl, by decide, by decide⟩ ⟨Nat.zero_le _, Nat.zero_le _⟩ rfl (Nat.le_of_ble_eq_true rfl) ?_
                  rintro _ _ ⟨rfl, rfl⟩
                  refine G_top (b := tp (σ 32) (x * 30 + i) t - x * 30) (by rw [g32]) ?_
                  refine g_iaload F d_X9_findUses_89 (hsM_39 hs) (by omega) (by omega) (by decide) ?_
                  refine G_top (b := Cu τ x (tp (σ 32) (x * 30 + i) t)) (rfl) ?_
                  refine g_aload_n F 0 rfl rfl d_X9_findUses_90 ?_
                  refine g_getR F f_X9_31 d_X9_findUses_91 (hsM_30 hs) rfl ?_
                  refine g_iconst F d_X9_findUses_94 ?_
                  refine g_iload F 5 rfl d_X9_findUses_95 ?_
                  refine g_imul F d_X9_findUses_97 ?_
                  refine g_iload F 7 rfl d_X9_findUses_98 ?_
                  refine g_iadd F d_X9_findUses_100 ?_
                  refine g_iaload F d_X9_findUses_101 (hsM_38 hs) (by omega) (by omega) (by decide) ?_
                  refine G_top (b := unM σ (wo (σ 31 (x * 30 + i))) t) (by rw [g38, e6]; rfl) ?_
                  refine g_imul F d_X9_findUses_102 ?_
                  refine G_top (b := unM σ (wo (σ 31 (x * 30 + i))) t * Cu τ x (tp (σ 32) (x * 30 + i) t)) (Int.mul_comm _ _) ?_
                  refine g_iadd F d_X9_findUses_103 ?_
                  refine g_istore F (lv' := [(6, vI (d + (unM σ (wo (σ 31 (x * 30 + i))) t * Cu τ x (tp (σ 32) (x * 30 + i) t)))), (0, .ref (q 30)), (1, vI x), (2, vI y), (3, vI i), (4, vI (σ 31 (x * 30 + i))), (5, vI (cb (σ 31 (x * 30 + i)))), (7, vI t)]) (by decide) rfl d_X9_findUses_104 ?_
                  refine g_iinc F (lv' := [(7, vI (t + 1)), (6, vI (d + (unM σ (wo (σ 31 (x * 30 + i))) t * Cu τ x (tp (σ 32) (x * 30 + i) t)))), (0, .ref (q 30)), (1, vI x), (2, vI y), (3, vI i), (4, vI (σ 31 (x * 30 + i))), (5, vI (cb (σ 31 (x * 30 + i))))]) 7 rfl rfl (by decide) rfl d_X9_findUses_106 ?_
                  refine g_goto F d_X9_findUses_109 ?_
                  refine G_sub (ks := [2, 3, 4, 5, 6, 7, 1, 0]) rfl ?_
                  exact ih65 (d + (unM σ (wo (σ 31 (x * 30 + i))) t * Cu τ x (tp (σ 32) (x * 30 + i) t))) (t + 1) (by omega) (by rw [hd]; exact u3_step (by omega) (fun j => unM σ (wo (σ 31 (x * 30 + i))) j * Cu τ x (tp (σ 32) (x * 30 + i) j))) (by omega)
            refine G_sub (ks := [3, 4, 5, 6, 2, 1, 7, 0]) rfl ?_
            exact loop65 _ w0 0 (by omega) (by rw [hw0a (by omega), u3_0]) (Nat.lt_succ_self _)
        refine g_iload F 1 rfl d_X9_findUses_33 ?_
        refine g_Si F (own := RX9) (c_X9_isArgument l E q sh τ (σ 31 (x * 30 + i)) hrg) k_X9_92 [] d_X9_findUses_35 ⟨rfl, rfl, by decide, by decide⟩ ⟨Nat.zero_le _, Nat.zero_le _⟩ rfl (Nat.le_of_ble_eq_true rfl) ?_
        rintro _ _ ⟨rfl, rfl⟩
        refine g_b_eq F d_X9_findUses_38 (fun h38 => ?_) (fun h38 => ?_)
        · refine g_iconst F d_X9_findUses_54 ?_
          refine g_istore F (lv' := [(6, vI 0), (5, vI (cb (σ 31 (x * 30 + i)))), (4, vI (σ 31 (x * 30 + i))), (0, .ref (q 30)), (1, vI x), (2, vI y), (3, vI i)]) (by decide) rfl d_X9_findUses_55 ?_
          refine G_sub (ks := [1, 2, 3, 4, 5, 6, 0]) rfl ?_
          exact join57 0 (by first | exact ⟨fun z => absurd h38 z, fun _ => by rw [wo_3 h38, if_pos h47]⟩ | exact ⟨fun z => absurd h38 z, fun _ => by rw [wo_3 h38, if_neg h47]⟩ | exact ⟨fun _ => rfl, fun z => absurd z h38⟩)
        · have b3 := kd_3.mp h38
          refine g_iload F 1 rfl d_X9_findUses_41 ?_
          refine g_bipush F (by decide) d_X9_findUses_43 ?_
          refine g_isub F d_X9_findUses_45 ?_
          refine g_iload_n F 4 rfl rfl d_X9_findUses_46 ?_
          refine g_icmp_ne F d_X9_findUses_47 ⟨by omega, by omega⟩ ⟨by omega, by omega⟩ (fun h47 => ?_) (fun h47 => ?_)
          · refine g_iconst F d_X9_findUses_54 ?_
            refine g_istore F (lv' := [(6, vI 0), (5, vI (cb (σ 31 (x * 30 + i)))), (4, vI (σ 31 (x * 30 + i))), (0, .ref (q 30)), (1, vI x), (2, vI y), (3, vI i)]) (by decide) rfl d_X9_findUses_55 ?_
            refine G_sub (ks := [1, 2, 3, 4, 5, 6, 0]) rfl ?_
            exact join57 0 (by first | exact ⟨fun z => absurd h38 z, fun _ => by rw [wo_3 h38, if_pos h47]⟩ | exact ⟨fun z => absurd h38 z, fun _ => by rw [wo_3 h38, if_neg h47]⟩ | exact ⟨fun _ => rfl, fun z => absurd z h38⟩)
          · refine g_iconst F d_X9_findUses_50 ?_
            refine g_goto F d_X9_findUses_51 ?_
            refine g_istore F (lv' := [(6, vI 1), (5, vI (cb (σ 31 (x * 30 + i)))), (4, vI (σ 31 (x * 30 + i))), (0, .ref (q 30)), (1, vI x), (2, vI y), (3, vI i)]) (by decide) rfl d_X9_findUses_55 ?_
            refine G_sub (ks := [1, 2, 3, 4, 5, 6, 0]) rfl ?_
            exact join57 1 (by first | exact ⟨fun z => absurd h38 z, fun _ => by rw [wo_3 h38, if_pos h47]⟩ | exact ⟨fun z => absurd h38 z, fun _ => by rw [wo_3 h38, if_neg h47]⟩ | exact ⟨fun _ => rfl, fun z => absurd z h38⟩)
  refine G_sub (ks := [1, 2, 3, 0]) rfl ?_
  exact loop9 _ ((σ 34 x) - 1) σ (by omega) (Sm.refl _ _) hC (fun p a b => by exfalso; omega) (Nat.lt_succ_self _)
