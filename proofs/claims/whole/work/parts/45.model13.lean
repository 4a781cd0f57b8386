/-! the reference: layTables -/
def LyZ (σ τ : Sg) (f j : Int) : Prop := Sm [37, 38, 39] σ τ ∧ MTR τ ∧ UR τ ∧ τ 39 = σ 39 ∧ (∀ g, 0 ≤ g → g < f → τ 37 g = 0) ∧ ∀ g, 0 ≤ g → g < j → τ 38 g = 0
theorem LyZ.t {σ τ : Sg} {f j : Int} (h : LyZ σ τ f j) : LyZ σ (up τ 37 f 0) (f + 1) j := by
  obtain ⟨a, b, c, d, e, g⟩ := h
  refine ⟨a.up (by decide) _ _, fun x => ?_, fun x => by rw [up_ne _ (by decide)]; exact c x, by rw [up_ne _ (by decide)]; exact d, fun x x0 x1 => ?_, fun x x0 x1 => by rw [up_ne _ (by decide)]; exact g x x0 x1⟩
  · rw [up_at]; split
    · omega
    · exact b x
  · rw [up_at]; split
    · rfl
    · exact e x x0 (by omega)
theorem LyZ.u {σ τ : Sg} {f j : Int} (h : LyZ σ τ f j) : LyZ σ (up τ 38 j 0) f (j + 1) := by
  obtain ⟨a, b, c, d, e, g⟩ := h
  refine ⟨a.up (by decide) _ _, fun x => by rw [up_ne _ (by decide)]; exact b x, fun x => ?_, by rw [up_ne _ (by decide)]; exact d, fun x x0 x1 => by rw [up_ne _ (by decide)]; exact e x x0 x1, fun x x0 x1 => ?_⟩
  · rw [up_at]; split
    · omega
    · exact c x
  · rw [up_at]; split
    · rfl
    · exact g x x0 (by omega)
theorem shl_nA (f : Int) : bShl 1 (nA f) = aA f + 1 := by have := aA_eq f; omega
set_option maxHeartbeats 1000000 in
theorem c_X9_layTables (l : Launch) (E : Ev) (q : Nat → Nat) (sh : List Shp) (σ : Sg) (hs : HsM sh) (L : TB) (U : Int → Int → Int) (hM : MOK σ) (hT : MTR σ) (hUR : UR σ) (hC : C2 σ) (hL : LfpT (σ 34) (σ 31) (σ 32) L) (hU : LfpU (σ 34) (σ 31) (σ 32) U) : CV l E yX9_layTables cX9_layTables 5 ({ frames := 3, cells := 0, slots := 0, locals := 72 } : Room) q sh σ [.ref (q 30)] (fun τ => Sm [37, 38, 39] σ τ ∧ MTR τ ∧ UR τ ∧ C2 τ ∧ LyD τ L U) := by
  refine CV_of (own := RX9) (by decide) rfl (Nat.le_of_ble_eq_true rfl) (fun X Q F hQ => ?_)
  show G X E 5 q sh σ 0 0 Q 0 [(0, .ref (q 30))] []
  refine g_iconst F d_X9_layTables_0 ?_
  refine g_istore_n F (lv' := [(1, vI 0), (0, .ref (q 30))]) rfl (by decide) rfl d_X9_layTables_1 ?_
  have loop2 : ∀ (nn : Nat) (f0 : Int) (τa : Sg), (0 ≤ f0 ∧ f0 ≤ 4) → (LyZ σ τa f0 (3 * f0)) → (4 - f0).toNat < nn → G X E 5 q sh τa 0 0 Q 2 [(0, .ref (q 30)), (1, vI f0)] [] := by
    intro n2
    induction n2 with
    | zero => intro f0 τa hf0 hz hm2; exact absurd hm2 (Nat.not_lt_zero _)
    | succ n2 ih2 =>
      intro f0 τa hf0 hz hm2
      refine g_iload_n F 1 rfl rfl d_X9_layTables_2 ?_
      refine g_iconst F d_X9_layTables_3 ?_
      refine g_icmp_ge F d_X9_layTables_4 ⟨by omega, by omega⟩ ⟨by decide, by decide⟩ (fun h4 => ?_) (fun h4 => ?_)
      · refine g_iconst F d_X9_layTables_44 ?_
        refine g_istore_n F (lv' := [(1, vI 1), (0, .ref (q 30))]) rfl (by decide) rfl d_X9_layTables_45 ?_
        have loop46 : ∀ (nn : Nat) (c0 : Int) (τ0 : Sg), (c0 = 0 ∨ c0 = 1) → (LyI σ τ0 L U) → (c0 = 0 → LyD τ0 L U) → (2 * (56 - muM τ0) + c0).toNat < nn → G X E 5 q sh τ0 0 0 Q 46 [(0, .ref (q 30)), (1, vI c0)] [] := by
          intro n46
          induction n46 with
          | zero => intro c0 τ0 hc0 hI0 hd0 hm46; exact absurd hm46 (Nat.not_lt_zero _)
          | succ n46 ih46 =>
            intro c0 τ0 hc0 hI0 hd0 hm46
            have hmu0 := muM_in hI0.2.2.1
            refine g_iload_n F 1 rfl rfl d_X9_layTables_46 ?_
            refine g_if_eq F d_X9_layTables_47 ⟨by omega, by omega⟩ (fun h47 => ?_) (fun h47 => ?_)
            · exact hQ d_X9_layTables_199 (⟨hI0.1, hI0.2.1, hI0.2.2.1, hI0.2.2.2.1, hd0 (by omega)⟩)
            · refine g_iconst F d_X9_layTables_50 ?_
              refine g_istore_n F (lv' := [(1, vI 0), (0, .ref (q 30))]) rfl (by decide) rfl d_X9_layTables_51 ?_
              refine g_iconst F d_X9_layTables_52 ?_
              refine g_istore_n F (lv' := [(2, vI 0), (1, vI 0), (0, .ref (q 30))]) rfl (by decide) rfl d_X9_layTables_53 ?_
              have loop54 : ∀ (nn : Nat) (c1 : Int) (f : Int) (τ1 : Sg), (0 ≤ f ∧ f ≤ 4) → (LyI σ τ1 L U) → (LyP σ τ0 τ1 c1 (pT f 0) (pU f 0)) → (4 - f).toNat < nn → G X E 5 q sh τ1 0 0 Q 54 [(0, .ref (q 30)), (1, vI c1), (2, vI f)] [] := by
                intro n54
                induction n54 with
                | zero => intro c1 f τ1 hf hI1 hP1 hm54; exact absurd hm54 (Nat.not_lt_zero _)
                | succ n54 ih54 =>
                  intro c1 f τ1 hf hI1 hP1 hm54
                  refine g_iload_n F 2 rfl rfl d_X9_layTables_54 ?_
                  refine g_iconst F d_X9_layTables_55 ?_
                  refine g_icmp_ge F d_X9_layTables_56 ⟨by omega, by omega⟩ ⟨by decide, by decide⟩ (fun h56 => ?_) (fun h56 => ?_)
                  · refine g_goto F d_X9_layTables_196 ?_
                    have hend := Ly_end hM hL hU hI1 hP1 (fun g s a b c d => ⟨a, b, c, d, by omega⟩) (fun g s a b c d => ⟨a, b, c, d, by omega⟩)
                    have hmu1 := muM_in hI1.2.2.1
                    have hend2 : (c1 = 1 ∧ muM τ0 < muM τ1) ∨ (c1 = 0 ∧ muM τ0 = muM τ1) := hend.elim Or.inl (fun z => Or.inr ⟨z.1, z.2.1⟩)
                    refine G_sub (ks := [0, 1]) rfl ?_
                    exact ih46 c1 τ1 (by omega) hI1 (fun z => (hend.resolve_left (fun w => by have := w.1; omega)).2.2) (by clear hend; omega)
                  · refine g_iconst F d_X9_layTables_59 ?_
                    refine g_istore_n F (lv' := [(3, vI 0), (0, .ref (q 30)), (1, vI c1), (2, vI f)]) rfl (by decide) rfl d_X9_layTables_60 ?_
                    have loop61 : ∀ (nn : Nat) (c2 : Int) (s : Int) (τ2 : Sg), (0 ≤ s ∧ s ≤ aA f + 1) → (LyI σ τ2 L U) → (LyP σ τ0 τ2 c2 (pT f s) (pU f 0)) → (aA f + 1 - s).toNat < nn → G X E 5 q sh τ2 0 0 Q 61 [(0, .ref (q 30)), (1, vI c2), (2, vI f), (3, vI s)] [] := by
                      intro n61
                      induction n61 with
                      | zero => intro c2 s τ2 hss hI2 hP2 hm61; exact absurd hm61 (Nat.not_lt_zero _)
                      | succ n61 ih61 =>
                        intro c2 s τ2 hss hI2 hP2 hm61
                        have hna := nA_in f
                        have haa := aA_in f
                        have hc2 := hP2.c01
                        refine g_iload_n F 3 rfl rfl d_X9_layTables_61 ?_
                        refine g_iconst F d_X9_layTables_62 ?_
                        refine g_iload_n F 2 rfl rfl d_X9_layTables_63 ?_
                        refine g_Si F (own := RX9) (c_X9_argumentsOf l E q sh τ2 f (by omega)) k_X9_85 [vI 1, vI s] d_X9_layTables_64 ⟨rfl, rfl, by decide, by decide⟩ ⟨Nat.zero_le _, Nat.zero_le _⟩ rfl (Nat.le_of_ble_eq_true rfl) ?_
                        rintro _ _ ⟨rfl, rfl⟩
                        refine g_ishl F d_X9_layTables_67 ?_
                        refine G_top (b := aA f + 1) (shl_nA f) ?_
                        refine g_icmp_ge F d_X9_layTables_68 ⟨by omega, by omega⟩ ⟨by omega, by omega⟩ (fun h68 => ?_) (fun h68 => ?_)
                        · refine g_iconst F d_X9_layTables_129 ?_
                          refine g_istore_n F (lv' := [(3, vI 0), (0, .ref (q 30)), (1, vI c2), (2, vI f)]) rfl (by decide) rfl d_X9_layTables_130 ?_
                          have loop131 : ∀ (nn : Nat) (c3 : Int) (a : Int) (τ3 : Sg), (0 ≤ a ∧ a ≤ nA f) → (LyI σ τ3 L U) → (LyP σ τ0 τ3 c3 (pT (f + 1) 0) (pU f a)) → (nA f - a).toNat < nn → G X E 5 q sh τ3 0 0 Q 131 [(0, .ref (q 30)), (1, vI c3), (2, vI f), (3, vI a)] [] := by
                            intro n131
                            induction n131 with
                            | zero => intro c3 a τ3 ha hI3 hP3 hm131; exact absurd hm131 (Nat.not_lt_zero _)
                            | succ n131 ih131 =>
                              intro c3 a τ3 ha hI3 hP3 hm131
                              have hc3 := hP3.c01
                              refine g_iload_n F 3 rfl rfl d_X9_layTables_131 ?_
                              refine g_iload_n F 2 rfl rfl d_X9_layTables_132 ?_
                              refine g_Si F (own := RX9) (c_X9_argumentsOf l E q sh τ3 f (by omega)) k_X9_85 [vI a] d_X9_layTables_133 ⟨rfl, rfl, by decide, by decide⟩ ⟨Nat.zero_le _, Nat.zero_le _⟩ rfl (Nat.le_of_ble_eq_true rfl) ?_
                              rintro _ _ ⟨rfl, rfl⟩
                              refine g_icmp_ge F d_X9_layTables_136 ⟨by omega, by omega⟩ ⟨by omega, by omega⟩ (fun h136 => ?_) (fun h136 => ?_)
                              · refine g_iinc F (lv' := [(2, vI (f + 1)), (0, .ref (q 30)), (1, vI c3), (3, vI a)]) 2 rfl rfl (by decide) rfl d_X9_layTables_190 ?_
                                refine g_goto F d_X9_layTables_193 ?_
                                have hP9 : LyP σ τ0 τ3 c3 (pT (f + 1) 0) (pU (f + 1) 0) := hP3.wk (fun g r z => z) (fun g r z => pU_next (by omega) z)
                                refine G_sub (ks := [1, 2, 0]) rfl ?_
                                exact ih54 c3 (f + 1) τ3 (by omega) hI3 hP9 (by omega)
                              · obtain ⟨k1, k2, k3, k4, k5⟩ : Sm [37, 38, 39] σ τ3 ∧ MTR τ3 ∧ UR τ3 ∧ C2 τ3 ∧ True := ⟨hI3.1, hI3.2.1, hI3.2.2.1, hI3.2.2.2.1, trivial⟩
                                have k31 : τ3 31 = σ 31 := k1 31 (by decide)
                                have k32 : τ3 32 = σ 32 := k1 32 (by decide)
                                have k33 : τ3 33 = σ 33 := k1 33 (by decide)
                                have k34 : τ3 34 = σ 34 := k1 34 (by decide)
                                have kM : MOK τ3 := by unfold MOK; rw [k31, k32, k33, k34]; exact hM
                                have hua := k3 (3 * f + a)
                                have hun : unM τ3 f a = τ3 38 (3 * f + a) := rfl
                                refine g_aload_n F 0 rfl rfl d_X9_layTables_139 ?_
                                refine g_iload_n F 2 rfl rfl d_X9_layTables_140 ?_
                                refine g_iload_n F 3 rfl rfl d_X9_layTables_141 ?_
                                refine g_Vi F (own := RX9) (c_X9_findUses l E q sh τ3 hs f a (by omega) (by omega) kM k3 k4) k_X9_127 (hsM_30 hs) rfl rfl [] d_X9_layTables_142 ⟨rfl, rfl, by decide, by decide⟩ ⟨Nat.zero_le _, Nat.zero_le _⟩ rfl (Nat.le_of_ble_eq_true rfl) ?_
                                intro z6 τ6 hz6
                                obtain rfl : z6 = Cu τ6 f (f * 30) := hz6.2.2.2
                                have hcu := hz6.2.1.in2 f (f * 30)
                                have e638 : τ6 38 = τ3 38 := hz6.1 38 (by decide)
                                refine g_istore F (lv' := [(4, vI (Cu τ6 f (f * 30))), (0, .ref (q 30)), (1, vI c3), (2, vI f), (3, vI a)]) (by decide) rfl d_X9_layTables_145 ?_
                                refine g_iload_n F 2 rfl rfl d_X9_layTables_147 ?_
                                refine g_if_ne F d_X9_layTables_148 ⟨by omega, by omega⟩ (fun h148 => ?_) (fun h148 => ?_)
                                · refine g_iconst F d_X9_layTables_166 ?_
                                  refine g_goto F d_X9_layTables_167 ?_
                                  refine g_istore_n F (lv' := [(1, vI 1), (4, vI (Cu τ6 f (f * 30))), (0, .ref (q 30)), (2, vI f), (3, vI a)]) rfl (by decide) rfl d_X9_layTables_171 ?_
                                  refine g_aload_n F 2 rfl rfl d_X9_layTables_172 ?_
                                  refine g_getR F f_X9_31 d_X9_layTables_173 (hsM_30 hs) rfl ?_
                                  refine g_iconst F d_X9_layTables_176 ?_
                                  refine g_iload_n F 3 rfl rfl d_X9_layTables_177 ?_
                                  refine g_imul F d_X9_layTables_178 ?_
                                  refine g_iload_n F 4 rfl rfl d_X9_layTables_179 ?_
                                  refine g_iadd F d_X9_layTables_180 ?_
                                  refine g_iload F 1 rfl d_X9_layTables_181 ?_
                                  refine g_iastore F d_X9_layTables_183 (hsM_38 hs) (by omega) (by omega) (by decide) ?_
                                  refine g_iinc F (lv' := [(3, vI (a + 1)), (1, vI 1), (4, vI (Cu τ6 f (f * 30))), (0, .ref (q 30)), (2, vI f)]) 4 rfl rfl (by decide) rfl d_X9_layTables_184 ?_
                                  refine g_goto F d_X9_layTables_187 ?_
                                  have hcc : (1 : Int) = if c3 ≠ 0 ∨ unM τ3 f a ≠ Cu τ6 f (f * 30) then 1 else 0 := by first | (rw [if_pos (by omega)]; done) | (rw [if_neg (by omega)]; done)
                                  obtain ⟨hI6, hP6⟩ := Ly_u (f := f) (a := a) hM (by omega) (by omega) hU hI3 hP3 hz6.1 hz6.2.1 (by rw [← k31, ← k32, ← k34]; exact hz6.2.2.1)
                                  rw [← hcc] at hP6
                                  refine G_sub (ks := [3, 1, 4, 0]) rfl ?_
                                  exact ih131 1 (a + 1) (up τ6 38 ((3 * f) + a) (Cu τ6 f (f * 30))) (by omega) hI6 (hP6.wk (fun g r z => z) (fun g r z => pU_step z)) (by omega)
                                · refine g_aload_n F 1 rfl rfl d_X9_layTables_151 ?_
                                  refine g_getR F f_X9_31 d_X9_layTables_152 (hsM_30 hs) rfl ?_
                                  refine g_iconst F d_X9_layTables_155 ?_
                                  refine g_iload_n F 3 rfl rfl d_X9_layTables_156 ?_
                                  refine g_imul F d_X9_layTables_157 ?_
                                  refine g_iload_n F 4 rfl rfl d_X9_layTables_158 ?_
                                  refine g_iadd F d_X9_layTables_159 ?_
                                  refine g_iaload F d_X9_layTables_160 (hsM_38 hs) (by omega) (by omega) (by decide) ?_
                                  refine G_top (b := unM τ3 f a) (by rw [e638]; rfl) ?_
                                  refine g_iload F 0 rfl d_X9_layTables_161 ?_
                                  refine g_icmp_eq F d_X9_layTables_163 ⟨by omega, by omega⟩ ⟨by omega, by omega⟩ (fun h163 => ?_) (fun h163 => ?_)
                                  · refine g_iconst F d_X9_layTables_170 ?_
                                    refine g_istore_n F (lv' := [(1, vI 0), (4, vI (Cu τ6 f (f * 30))), (0, .ref (q 30)), (2, vI f), (3, vI a)]) rfl (by decide) rfl d_X9_layTables_171 ?_
                                    refine g_aload_n F 2 rfl rfl d_X9_layTables_172 ?_
                                    refine g_getR F f_X9_31 d_X9_layTables_173 (hsM_30 hs) rfl ?_
                                    refine g_iconst F d_X9_layTables_176 ?_
                                    refine g_iload_n F 3 rfl rfl d_X9_layTables_177 ?_
                                    refine g_imul F d_X9_layTables_178 ?_
                                    refine g_iload_n F 4 rfl rfl d_X9_layTables_179 ?_
                                    refine g_iadd F d_X9_layTables_180 ?_
                                    refine g_iload F 1 rfl d_X9_layTables_181 ?_
                                    refine g_iastore F d_X9_layTables_183 (hsM_38 hs) (by omega) (by omega) (by decide) ?_
                                    refine g_iinc F (lv' := [(3, vI (a + 1)), (1, vI 0), (4, vI (Cu τ6 f (f * 30))), (0, .ref (q 30)), (2, vI f)]) 4 rfl rfl (by decide) rfl d_X9_layTables_184 ?_
                                    refine g_goto F d_X9_layTables_187 ?_
                                    have hcc : (0 : Int) = if c3 ≠ 0 ∨ unM τ3 f a ≠ Cu τ6 f (f * 30) then 1 else 0 := by first | (rw [if_pos (by omega)]; done) | (rw [if_neg (by omega)]; done)
                                    obtain ⟨hI6, hP6⟩ := Ly_u (f := f) (a := a) hM (by omega) (by omega) hU hI3 hP3 hz6.1 hz6.2.1 (by rw [← k31, ← k32, ← k34]; exact hz6.2.2.1)
                                    rw [← hcc] at hP6
                                    refine G_sub (ks := [3, 1, 4, 0]) rfl ?_
                                    exact ih131 0 (a + 1) (up τ6 38 ((3 * f) + a) (Cu τ6 f (f * 30))) (by omega) hI6 (hP6.wk (fun g r z => z) (fun g r z => pU_step z)) (by omega)
                                  · refine g_iconst F d_X9_layTables_166 ?_
                                    refine g_goto F d_X9_layTables_167 ?_
                                    refine g_istore_n F (lv' := [(1, vI 1), (4, vI (Cu τ6 f (f * 30))), (0, .ref (q 30)), (2, vI f), (3, vI a)]) rfl (by decide) rfl d_X9_layTables_171 ?_
                                    refine g_aload_n F 2 rfl rfl d_X9_layTables_172 ?_
                                    refine g_getR F f_X9_31 d_X9_layTables_173 (hsM_30 hs) rfl ?_
                                    refine g_iconst F d_X9_layTables_176 ?_
                                    refine g_iload_n F 3 rfl rfl d_X9_layTables_177 ?_
                                    refine g_imul F d_X9_layTables_178 ?_
                                    refine g_iload_n F 4 rfl rfl d_X9_layTables_179 ?_
                                    refine g_iadd F d_X9_layTables_180 ?_
                                    refine g_iload F 1 rfl d_X9_layTables_181 ?_
                                    refine g_iastore F d_X9_layTables_183 (hsM_38 hs) (by omega) (by omega) (by decide) ?_
                                    refine g_iinc F (lv' := [(3, vI (a + 1)), (1, vI 1), (4, vI (Cu τ6 f (f * 30))), (0, .ref (q 30)), (2, vI f)]) 4 rfl rfl (by decide) rfl d_X9_layTables_184 ?_
                                    refine g_goto F d_X9_layTables_187 ?_
                                    have hcc : (1 : Int) = if c3 ≠ 0 ∨ unM τ3 f a ≠ Cu τ6 f (f * 30) then 1 else 0 := by first | (rw [if_pos (by omega)]; done) | (rw [if_neg (by omega)]; done)
                                    obtain ⟨hI6, hP6⟩ := Ly_u (f := f) (a := a) hM (by omega) (by omega) hU hI3 hP3 hz6.1 hz6.2.1 (by rw [← k31, ← k32, ← k34]; exact hz6.2.2.1)
                                    rw [← hcc] at hP6
                                    refine G_sub (ks := [3, 1, 4, 0]) rfl ?_
                                    exact ih131 1 (a + 1) (up τ6 38 ((3 * f) + a) (Cu τ6 f (f * 30))) (by omega) hI6 (hP6.wk (fun g r z => z) (fun g r z => pU_step z)) (by omega)
                          refine G_sub (ks := [1, 2, 3, 0]) rfl ?_
                          exact loop131 _ c2 0 τ2 (by omega) hI2 (hP2.wk (fun g r z => pT_next (by omega) z) (fun g r z => z)) (Nat.lt_succ_self _)
                        · obtain ⟨k1, k2, k3, k4, k5⟩ : Sm [37, 38, 39] σ τ2 ∧ MTR τ2 ∧ UR τ2 ∧ C2 τ2 ∧ True := ⟨hI2.1, hI2.2.1, hI2.2.2.1, hI2.2.2.2.1, trivial⟩
                          have k31 : τ2 31 = σ 31 := k1 31 (by decide)
                          have k32 : τ2 32 = σ 32 := k1 32 (by decide)
                          have k33 : τ2 33 = σ 33 := k1 33 (by decide)
                          have k34 : τ2 34 = σ 34 := k1 34 (by decide)
                          have kM : MOK τ2 := by unfold MOK; rw [k31, k32, k33, k34]; exact hM
                          have hb2 := b2_in (mtb τ2 f s)
                          refine g_aload_n F 0 rfl rfl d_X9_layTables_71 ?_
                          refine g_iload_n F 2 rfl rfl d_X9_layTables_72 ?_
                          refine g_iload_n F 3 rfl rfl d_X9_layTables_73 ?_
                          refine g_Vv F (own := RX9) (c_X9_findMay l E q sh τ2 hs f s (by omega) (by omega) kM k2 k4) k_X9_123 (hsM_30 hs) rfl rfl [] d_X9_layTables_74 ⟨rfl, rfl, by decide, by decide⟩ ⟨Nat.zero_le _, Nat.zero_le _⟩ rfl (Nat.le_of_ble_eq_true rfl) ?_
                          intro τ5 hz5
                          have hn5 := (kM.1 f (by omega) (by omega)).1.1
                          have h01 := hz5.2.2.1 0 (by omega) (by omega)
                          have e537 : τ5 37 = τ2 37 := hz5.1 37 (by decide)
                          refine g_iload_n F 1 rfl rfl d_X9_layTables_77 ?_
                          refine g_if_ne F d_X9_layTables_78 ⟨by omega, by omega⟩ (fun h78 => ?_) (fun h78 => ?_)
                          · refine g_iconst F d_X9_layTables_100 ?_
                            refine g_goto F d_X9_layTables_101 ?_
                            refine g_istore_n F (lv' := [(1, vI 1), (0, .ref (q 30)), (2, vI f), (3, vI s)]) rfl (by decide) rfl d_X9_layTables_105 ?_
                            refine g_aload_n F 1 rfl rfl d_X9_layTables_106 ?_
                            refine g_getR F f_X9_28 d_X9_layTables_107 (hsM_30 hs) rfl ?_
                            refine g_iload_n F 2 rfl rfl d_X9_layTables_110 ?_
                            refine g_dup2 F rfl rfl d_X9_layTables_111 ?_
                            refine g_iaload F d_X9_layTables_112 (hsM_37 hs) (by omega) (by omega) (by decide) ?_
                            refine g_aload_n F 1 rfl rfl d_X9_layTables_113 ?_
                            refine g_getR F f_X9_34 d_X9_layTables_114 (hsM_30 hs) rfl ?_
                            refine g_iconst F d_X9_layTables_117 ?_
                            refine g_iaload F d_X9_layTables_118 (hsM_39 hs) (by omega) (by omega) (by decide) ?_
                            refine g_iload_n F 3 rfl rfl d_X9_layTables_119 ?_
                            refine g_ishl F d_X9_layTables_120 ?_
                            refine g_ior F d_X9_layTables_121 ?_
                            refine g_iastore F d_X9_layTables_122 (hsM_37 hs) (by omega) (by omega) (by decide) ?_
                            refine g_iinc F (lv' := [(3, vI (s + 1)), (1, vI 1), (0, .ref (q 30)), (2, vI f)]) 3 rfl rfl (by decide) rfl d_X9_layTables_123 ?_
                            refine g_goto F d_X9_layTables_126 ?_
                            have hcc : (1 : Int) = if c2 ≠ 0 ∨ b2 (mtb τ2 f s) ≠ τ5 39 0 then 1 else 0 := by first | (rw [if_pos (by omega)]; done) | (rw [if_neg (by omega)]; done)
                            obtain ⟨hI5, hP5⟩ := Ly_t (f := f) (s := s) hM (by omega) (by omega) hL hI2 hP2 hz5.1 hz5.2.1 h01 (by rw [← k31, ← k32, ← k34]; exact hz5.2.2.2)
                            rw [← hcc] at hP5
                            refine G_sub (ks := [2, 1, 3, 0]) rfl ?_
                            exact ih61 1 (s + 1) (up τ5 37 f (bOr (τ5 37 f) (bShl (τ5 39 0) s))) (by omega) hI5 (hP5.wk (fun g r z => pT_step z) (fun g r z => z)) (by omega)
                          · refine g_aload_n F 0 rfl rfl d_X9_layTables_81 ?_
                            refine g_getR F f_X9_28 d_X9_layTables_82 (hsM_30 hs) rfl ?_
                            refine g_iload_n F 2 rfl rfl d_X9_layTables_85 ?_
                            refine g_iaload F d_X9_layTables_86 (hsM_37 hs) (by omega) (by omega) (by decide) ?_
                            refine g_iload_n F 3 rfl rfl d_X9_layTables_87 ?_
                            refine g_ishr F d_X9_layTables_88 ?_
                            refine g_iconst F d_X9_layTables_89 ?_
                            refine g_iand F d_X9_layTables_90 ?_
                            refine G_top (b := b2 (mtb τ2 f s)) (by rw [e537]; exact bit_eq (k2 f) (by omega)) ?_
                            refine g_aload_n F 0 rfl rfl d_X9_layTables_91 ?_
                            refine g_getR F f_X9_34 d_X9_layTables_92 (hsM_30 hs) rfl ?_
                            refine g_iconst F d_X9_layTables_95 ?_
                            refine g_iaload F d_X9_layTables_96 (hsM_39 hs) (by omega) (by omega) (by decide) ?_
                            refine g_icmp_eq F d_X9_layTables_97 ⟨by omega, by omega⟩ ⟨by omega, by omega⟩ (fun h97 => ?_) (fun h97 => ?_)
                            · refine g_iconst F d_X9_layTables_104 ?_
                              refine g_istore_n F (lv' := [(1, vI 0), (0, .ref (q 30)), (2, vI f), (3, vI s)]) rfl (by decide) rfl d_X9_layTables_105 ?_
                              refine g_aload_n F 1 rfl rfl d_X9_layTables_106 ?_
                              refine g_getR F f_X9_28 d_X9_layTables_107 (hsM_30 hs) rfl ?_
                              refine g_iload_n F 2 rfl rfl d_X9_layTables_110 ?_
                              refine g_dup2 F rfl rfl d_X9_layTables_111 ?_
                              refine g_iaload F d_X9_layTables_112 (hsM_37 hs) (by omega) (by omega) (by decide) ?_
                              refine g_aload_n F 1 rfl rfl d_X9_layTables_113 ?_
                              refine g_getR F f_X9_34 d_X9_layTables_114 (hsM_30 hs) rfl ?_
                              refine g_iconst F d_X9_layTables_117 ?_
                              refine g_iaload F d_X9_layTables_118 (hsM_39 hs) (by omega) (by omega) (by decide) ?_
                              refine g_iload_n F 3 rfl rfl d_X9_layTables_119 ?_
                              refine g_ishl F d_X9_layTables_120 ?_
                              refine g_ior F d_X9_layTables_121 ?_
                              refine g_iastore F d_X9_layTables_122 (hsM_37 hs) (by omega) (by omega) (by decide) ?_
                              refine g_iinc F (lv' := [(3, vI (s + 1)), (1, vI 0), (0, .ref (q 30)), (2, vI f)]) 3 rfl rfl (by decide) rfl d_X9_layTables_123 ?_
                              refine g_goto F d_X9_layTables_126 ?_
                              have hcc : (0 : Int) = if c2 ≠ 0 ∨ b2 (mtb τ2 f s) ≠ τ5 39 0 then 1 else 0 := by first | (rw [if_pos (by omega)]; done) | (rw [if_neg (by omega)]; done)
                              obtain ⟨hI5, hP5⟩ := Ly_t (f := f) (s := s) hM (by omega) (by omega) hL hI2 hP2 hz5.1 hz5.2.1 h01 (by rw [← k31, ← k32, ← k34]; exact hz5.2.2.2)
                              rw [← hcc] at hP5
                              refine G_sub (ks := [2, 1, 3, 0]) rfl ?_
                              exact ih61 0 (s + 1) (up τ5 37 f (bOr (τ5 37 f) (bShl (τ5 39 0) s))) (by omega) hI5 (hP5.wk (fun g r z => pT_step z) (fun g r z => z)) (by omega)
                            · refine g_iconst F d_X9_layTables_100 ?_
                              refine g_goto F d_X9_layTables_101 ?_
                              refine g_istore_n F (lv' := [(1, vI 1), (0, .ref (q 30)), (2, vI f), (3, vI s)]) rfl (by decide) rfl d_X9_layTables_105 ?_
                              refine g_aload_n F 1 rfl rfl d_X9_layTables_106 ?_
                              refine g_getR F f_X9_28 d_X9_layTables_107 (hsM_30 hs) rfl ?_
                              refine g_iload_n F 2 rfl rfl d_X9_layTables_110 ?_
                              refine g_dup2 F rfl rfl d_X9_layTables_111 ?_
                              refine g_iaload F d_X9_layTables_112 (hsM_37 hs) (by omega) (by omega) (by decide) ?_
                              refine g_aload_n F 1 rfl rfl d_X9_layTables_113 ?_
                              refine g_getR F f_X9_34 d_X9_layTables_114 (hsM_30 hs) rfl ?_
                              refine g_iconst F d_X9_layTables_117 ?_
                              refine g_iaload F d_X9_layTables_118 (hsM_39 hs) (by omega) (by omega) (by decide) ?_
                              refine g_iload_n F 3 rfl rfl d_X9_layTables_119 ?_
                              refine g_ishl F d_X9_layTables_120 ?_
                              refine g_ior F d_X9_layTables_121 ?_
                              refine g_iastore F d_X9_layTables_122 (hsM_37 hs) (by omega) (by omega) (by decide) ?_
                              refine g_iinc F (lv' := [(3, vI (s + 1)), (1, vI 1), (0, .ref (q 30)), (2, vI f)]) 3 rfl rfl (by decide) rfl d_X9_layTables_123 ?_
                              refine g_goto F d_X9_layTables_126 ?_
                              have hcc : (1 : Int) = if c2 ≠ 0 ∨ b2 (mtb τ2 f s) ≠ τ5 39 0 then 1 else 0 := by first | (rw [if_pos (by omega)]; done) | (rw [if_neg (by omega)]; done)
                              obtain ⟨hI5, hP5⟩ := Ly_t (f := f) (s := s) hM (by omega) (by omega) hL hI2 hP2 hz5.1 hz5.2.1 h01 (by rw [← k31, ← k32, ← k34]; exact hz5.2.2.2)
                              rw [← hcc] at hP5
                              refine G_sub (ks := [2, 1, 3, 0]) rfl ?_
                              exact ih61 1 (s + 1) (up τ5 37 f (bOr (τ5 37 f) (bShl (τ5 39 0) s))) (by omega) hI5 (hP5.wk (fun g r z => pT_step z) (fun g r z => z)) (by omega)
                    refine G_sub (ks := [1, 2, 3, 0]) rfl ?_
                    exact loop61 _ c1 0 τ1 (by have := aA_in f; omega) hI1 hP1 (Nat.lt_succ_self _)
              refine G_sub (ks := [2, 1, 0]) rfl ?_
              exact loop54 _ 0 0 τ0 (by omega) hI0 LyP_0 (Nat.lt_succ_self _)
        have hI9 : LyI σ τa L U := LyI_0 hz.1 hz.2.1 hz.2.2.1 (fun j => by rw [hz.2.2.2.1]; exact hC j) hU (fun f a b => hz.2.2.2.2.1 f a (by omega)) (fun j a b => hz.2.2.2.2.2 j a (by omega))
        refine G_sub (ks := [1, 0]) rfl ?_
        exact loop46 _ 1 τa (Or.inr rfl) hI9 (fun z => absurd z (by decide)) (Nat.lt_succ_self _)
      · refine g_aload_n F 0 rfl rfl d_X9_layTables_7 ?_
        refine g_getR F f_X9_28 d_X9_layTables_8 (hsM_30 hs) rfl ?_
        refine g_iload_n F 1 rfl rfl d_X9_layTables_11 ?_
        refine g_iconst F d_X9_layTables_12 ?_
        refine g_iastore F d_X9_layTables_13 (hsM_37 hs) (by omega) (by omega) (by decide) ?_
        refine g_iconst F d_X9_layTables_14 ?_
        refine g_istore_n F (lv' := [(2, vI 0), (0, .ref (q 30)), (1, vI f0)]) rfl (by decide) rfl d_X9_layTables_15 ?_
        have loop16 : ∀ (nn : Nat) (j0 : Int) (τb : Sg), (0 ≤ j0 ∧ j0 ≤ 3) → (LyZ σ τb (f0 + 1) (3 * f0 + j0)) → (3 - j0).toNat < nn → G X E 5 q sh τb 0 0 Q 16 [(0, .ref (q 30)), (1, vI f0), (2, vI j0)] [] := by
          intro n16
          induction n16 with
          | zero => intro j0 τb hj0 hzb hm16; exact absurd hm16 (Nat.not_lt_zero _)
          | succ n16 ih16 =>
            intro j0 τb hj0 hzb hm16
            refine g_iload_n F 2 rfl rfl d_X9_layTables_16 ?_
            refine g_iconst F d_X9_layTables_17 ?_
            refine g_icmp_ge F d_X9_layTables_18 ⟨by omega, by omega⟩ ⟨by decide, by decide⟩ (fun h18 => ?_) (fun h18 => ?_)
            · refine g_iinc F (lv' := [(1, vI (f0 + 1)), (0, .ref (q 30)), (2, vI j0)]) 1 rfl rfl (by decide) rfl d_X9_layTables_38 ?_
              refine g_goto F d_X9_layTables_41 ?_
              have hz9 : LyZ σ τb (f0 + 1) (3 * (f0 + 1)) := by rw [show 3 * (f0 + 1) = 3 * f0 + j0 by omega]; exact hzb
              refine G_sub (ks := [1, 0]) rfl ?_
              exact ih2 (f0 + 1) τb (by omega) hz9 (by omega)
            · refine g_aload_n F 0 rfl rfl d_X9_layTables_21 ?_
              refine g_getR F f_X9_31 d_X9_layTables_22 (hsM_30 hs) rfl ?_
              refine g_iconst F d_X9_layTables_25 ?_
              refine g_iload_n F 1 rfl rfl d_X9_layTables_26 ?_
              refine g_imul F d_X9_layTables_27 ?_
              refine g_iload_n F 2 rfl rfl d_X9_layTables_28 ?_
              refine g_iadd F d_X9_layTables_29 ?_
              refine g_iconst F d_X9_layTables_30 ?_
              refine g_iastore F d_X9_layTables_31 (hsM_38 hs) (by omega) (by omega) (by decide) ?_
              refine g_iinc F (lv' := [(2, vI (j0 + 1)), (0, .ref (q 30)), (1, vI f0)]) 2 rfl rfl (by decide) rfl d_X9_layTables_32 ?_
              refine g_goto F d_X9_layTables_35 ?_
              refine G_sub (ks := [1, 2, 0]) rfl ?_
              exact ih16 (j0 + 1) (up τb 38 ((3 * f0) + j0) 0) (by omega) (by rw [show 3 * f0 + (j0 + 1) = 3 * f0 + j0 + 1 by omega]; exact hzb.u) (by omega)
        refine G_sub (ks := [1, 2, 0]) rfl ?_
        exact loop16 _ 0 (up τa 37 f0 0) (by omega) (by rw [show 3 * f0 + 0 = 3 * f0 by omega]; exact hz.t) (Nat.lt_succ_self _)
  refine G_sub (ks := [1, 0]) rfl ?_
  exact loop2 _ 0 σ (by omega) ⟨Sm.refl _ _, hT, hUR, rfl, fun g a b => by exfalso; omega, fun g a b => by exfalso; omega⟩ (Nat.lt_succ_self _)
