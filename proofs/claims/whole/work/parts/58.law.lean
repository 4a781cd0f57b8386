def sz100 : List Shp := []
set_option maxHeartbeats 4000000 in
theorem law_body {X : Cx} {E : Ev} {l : Launch} {Q : State → Prop} {b L : Nat} {xs : Nat → Int32} (F : Fx X E l cL_law 4 RL room_1) (hX : Scr X E b L xs) (hQ : ∀ {pc : Nat} {lv : List (Nat × Value)} {q : Nat → Nat} {sh : List Shp} {τ : Sg}, Go cL_law pc .ireturn 1 → G X E 4 q sh τ 49 16512 Q pc lv [vI 1]) (q : Nat → Nat) : G X E 4 q [] (fun _ _ => 0) 0 0 Q 0 [(0, .ref b)] [] := by
  have hL4 := hX.2.2.2
  show G X E 4 q sz100 (fun _ _ => 0) 0 0 Q 0 [(0, .ref b)] []
  refine g_new F (fs := [some none, some none, some none, some none, some none, some none]) kl_7 (mg 68 (by decide +kernel) rfl) (mg 69 (by decide +kernel) rfl) (mg 56 (by decide +kernel) rfl) rfl (fun _ => rfl) rfl df_7 (by decide) (by decide) d_L_law_0 (fun q1 e1 => ?_)
  have a1 := e1
  show G X E 4 q1 sz55 (fun _ _ => 0) 1 6 Q 3 [(0, .ref b)] [.ref (q1 0)]
  refine g_dup F rfl d_L_law_3 ?_
  refine g_I F (own := RL) (c_X8_init l E q1 (fun _ _ => 0) (fun _ _ _ => rfl)) ki_L_9 [.ref (q1 0)] d_L_law_4 ⟨rfl, rfl, by decide, by decide⟩ ⟨by decide, by decide⟩ rfl (Nat.le_of_ble_eq_true rfl) ?_
  intro q2 τ1 e2 h1
  obtain ⟨h1a, h1b⟩ := h1
  have hz1 : ∀ (k : Nat) (j : Int), 30 ≤ k → τ1 k j = 0 := h1b.zero (n := 0) (fun _ _ _ => rfl) (by decide) (by decide)
  rw [← e2 0 (Nat.le_of_ble_eq_true rfl)]
  have a2 := ag.trans a1 e2 (Nat.le_of_ble_eq_true rfl)
  show G X E 4 q2 sz62 τ1 30 8173 Q 7 [(0, .ref b)] [.ref (q2 0)]
  refine g_astore_n F (lv' := [(1, .ref (q2 0)), (0, .ref b)]) rfl (by decide) rfl d_L_law_7 ?_
  refine g_new F (fs := [some none, some none, some none, some none, some none, some none, some none, some none, some none, some none, some none, some none, some none, none, some none, some none, some none, some none, none, none, none, none, none, none, some none]) kl_8 (mg 706 (by decide +kernel) rfl) (mg 707 (by decide +kernel) rfl) (mg 67 (by decide +kernel) rfl) rfl (fun j => hz1 _ j (Nat.le_of_ble_eq_true rfl)) rfl df_8 (by decide) (by decide) d_L_law_8 (fun q3 e3 => ?_)
  rw [← e3 0 (Nat.le_of_ble_eq_true rfl)]
  have a3 := ag.trans a2 e3 (Nat.le_of_ble_eq_true rfl)
  show G X E 4 q3 sz63 τ1 31 8198 Q 11 [(1, .ref (q3 0)), (0, .ref b)] [.ref (q3 30)]
  refine g_dup F rfl d_L_law_11 ?_
  refine g_I F (own := RL) (c_X9_init l E q3 τ1 (tbl τ1) (kn τ1) (fun k j hk => hz1 k j (by omega)) (start_lfp h1a)) ki_L_12 [.ref (q3 30)] d_L_law_12 ⟨rfl, rfl, by decide, by decide⟩ ⟨by decide, by decide⟩ rfl (Nat.le_of_ble_eq_true rfl) ?_
  intro q4 τ2 e4 h2
  obtain ⟨g1, g2, g3, g4, g5, g6⟩ := h2
  have hI0 : LINV τ2 := INV.start h1a g1 g2 g3 g4 g5 g6
  rw [← e4 0 (Nat.le_of_ble_eq_true rfl)]
  rw [← e4 30 (Nat.le_of_ble_eq_true rfl)]
  have a4 := ag.trans a3 e4 (Nat.le_of_ble_eq_true rfl)
  show G X E 4 q4 sz99 τ2 49 16512 Q 15 [(1, .ref (q4 0)), (0, .ref b)] [.ref (q4 30)]
  refine g_astore_n F (lv' := [(2, .ref (q4 30)), (1, .ref (q4 0)), (0, .ref b)]) rfl (by decide) rfl d_L_law_15 ?_
  refine g_iconst F d_L_law_16 ?_
  refine g_istore_n F (lv' := [(3, vI 0), (2, .ref (q4 30)), (1, .ref (q4 0)), (0, .ref b)]) rfl (by decide) rfl d_L_law_17 ?_
  have loop18 : ∀ (nn : Nat) (i : Int) (τ : Sg), (0 ≤ i ∧ i ≤ (L : Int)) → (LINV τ) → ((L : Int) - i).toNat < nn → G X E 4 q4 sz99 τ 49 16512 Q 18 [(0, .ref b), (1, .ref (q4 0)), (2, .ref (q4 30)), (3, vI i)] [] := by
    intro n18
    induction n18 with
    | zero => intro i τ hi hI hm18; exact absurd hm18 (Nat.not_lt_zero _)
    | succ n18 ih18 =>
      intro i τ hi hI hm18
      obtain ⟨re, rt, hv⟩ := hI
      have ht := hv.1
      refine g_iload_n F 3 rfl rfl d_L_law_18 ?_
      refine g_aload_n F 0 rfl rfl d_L_law_19 ?_
      refine g_slen F hX d_L_law_20 ?_
      refine g_iconst F d_L_law_21 ?_
      refine g_isub F d_L_law_22 ?_
      refine g_icmp_gt F d_L_law_23 ⟨by omega, by omega⟩ ⟨by omega, by omega⟩ (fun h23 => ?_) (fun h23 => ?_)
      · refine g_iconst F d_L_law_636 ?_
        exact hQ d_L_law_637
      · have hw15 := bAnd15 (xv xs i)
        refine g_aload_n F 0 rfl rfl d_L_law_26 ?_
        refine g_iload_n F 3 rfl rfl d_L_law_27 ?_
        refine g_sld F hX d_L_law_28 (by omega) (by omega) ?_
        refine g_bipush F (by decide) d_L_law_29 ?_
        refine g_iand F d_L_law_31 ?_
        have hcs : bAnd (xv xs i) 15 = 0 ∨ bAnd (xv xs i) 15 = 1 ∨ bAnd (xv xs i) 15 = 2 ∨ bAnd (xv xs i) 15 = 3 ∨ bAnd (xv xs i) 15 = 4 ∨ bAnd (xv xs i) 15 = 5 ∨ bAnd (xv xs i) 15 = 6 ∨ bAnd (xv xs i) 15 = 7 ∨ bAnd (xv xs i) 15 = 8 ∨ bAnd (xv xs i) 15 = 9 ∨ bAnd (xv xs i) 15 = 10 ∨ bAnd (xv xs i) 15 = 11 ∨ bAnd (xv xs i) 15 = 12 ∨ bAnd (xv xs i) 15 = 13 ∨ bAnd (xv xs i) 15 = 14 ∨ bAnd (xv xs i) 15 = 15 := by omega
        rcases hcs with hk | hk | hk | hk | hk | hk | hk | hk | hk | hk | hk | hk | hk | hk | hk | hk
        · refine g_tabIn F d_L_law_32 ⟨by omega, by omega⟩ 0 (tgt := 112) (by omega) (by decide) rfl rfl ?_
          refine g_aload_n F 1 rfl rfl d_L_law_112 ?_
          refine g_aload_n F 0 rfl rfl d_L_law_113 ?_
          refine g_iload_n F 3 rfl rfl d_L_law_114 ?_
          refine g_iconst F d_L_law_115 ?_
          refine g_iadd F d_L_law_116 ?_
          refine g_sld F hX d_L_law_117 (by omega) (by omega) ?_
          refine g_Vi F (own := RL) (c_X8_say l E q4 sz99 τ hc_49 (xv xs (i + 1)) (xv_rg xs (i + 1)) ht.1.1) k_L_13 rfl rfl rfl [] d_L_law_118 ⟨rfl, rfl, by decide, by decide⟩ ⟨by decide, by decide⟩ rfl (Nat.le_of_ble_eq_true rfl) ?_
          intro z1 τ1 hz1
          obtain ⟨rfl, rfl⟩ := hz1
          have hsay := hv.say (xv_rg xs (i + 1))
          refine g_aload_n F 2 rfl rfl d_L_law_121 ?_
          refine g_aload_n F 0 rfl rfl d_L_law_122 ?_
          refine g_iload_n F 3 rfl rfl d_L_law_123 ?_
          refine g_iconst F d_L_law_124 ?_
          refine g_iadd F d_L_law_125 ?_
          refine g_sld F hX d_L_law_126 (by omega) (by omega) ?_
          refine g_Vi F (own := RL) (c_X9_say l E q4 sz99 (sSay τ (xv xs (i + 1))) hm_49 (xv xs (i + 1)) (xv_rg xs (i + 1)) (by rw [say_34]; exact ht.n4)) k_L_17 rfl rfl rfl [vI (vSay τ (xv xs (i + 1)))] d_L_law_127 ⟨rfl, rfl, by decide, by decide⟩ ⟨by decide, by decide⟩ rfl (Nat.le_of_ble_eq_true rfl) ?_
          intro z2 τ2 hz2
          obtain ⟨rfl, rfl⟩ := hz2
          have hI9 : LINV (sSayM (sSay τ (xv xs (i + 1))) (xv xs (i + 1))) := ⟨re, rt, hsay.2⟩
          refine g_same F d_L_law_130 (hsay.1) ?_
          refine g_iinc F (lv' := [(3, vI (i + 5)), (0, .ref b), (1, .ref (q4 0)), (2, .ref (q4 30))]) 3 rfl rfl (by decide) rfl d_L_law_630 ?_
          refine g_goto F d_L_law_633 ?_
          refine G_sub (ks := [1, 2, 3, 0]) rfl ?_
          exact ih18 (i + 5) (sSayM (sSay τ (xv xs (i + 1))) (xv xs (i + 1))) (by omega) hI9 (by omega)
        · refine g_tabIn F d_L_law_32 ⟨by omega, by omega⟩ 1 (tgt := 135) (by omega) (by decide) rfl rfl ?_
          refine g_aload_n F 1 rfl rfl d_L_law_135 ?_
          refine g_Vi F (own := RL) (c_X8_wipe l E q4 sz99 τ hc_49  ) k_L_18 rfl rfl rfl [] d_L_law_136 ⟨rfl, rfl, by decide, by decide⟩ ⟨by decide, by decide⟩ rfl (Nat.le_of_ble_eq_true rfl) ?_
          rintro _ _ ⟨rfl, rfl⟩
          refine g_aload_n F 2 rfl rfl d_L_law_139 ?_
          refine g_Vi F (own := RL) (c_X9_wipe l E q4 sz99 (up τ 1 1 0) hm_49  ) k_L_22 rfl rfl rfl [vI (τ 1 1)] d_L_law_140 ⟨rfl, rfl, by decide, by decide⟩ ⟨by decide, by decide⟩ rfl (Nat.le_of_ble_eq_true rfl) ?_
          rintro _ _ ⟨rfl, rfl⟩
          have hI9 : LINV (up (up τ 1 1 0) 34 4 0) := ⟨re, rt, hv.wipe.2⟩
          refine g_same F d_L_law_143 (hv.wipe.1) ?_
          refine g_iinc F (lv' := [(3, vI (i + 5)), (0, .ref b), (1, .ref (q4 0)), (2, .ref (q4 30))]) 3 rfl rfl (by decide) rfl d_L_law_630 ?_
          refine g_goto F d_L_law_633 ?_
          refine G_sub (ks := [1, 2, 3, 0]) rfl ?_
          exact ih18 (i + 5) (up (up τ 1 1 0) 34 4 0) (by omega) hI9 (by omega)
        · refine g_tabIn F d_L_law_32 ⟨by omega, by omega⟩ 2 (tgt := 148) (by omega) (by decide) rfl rfl ?_
          refine g_aload_n F 1 rfl rfl d_L_law_148 ?_
          refine g_aload_n F 0 rfl rfl d_L_law_149 ?_
          refine g_iload_n F 3 rfl rfl d_L_law_150 ?_
          refine g_iconst F d_L_law_151 ?_
          refine g_iadd F d_L_law_152 ?_
          refine g_sld F hX d_L_law_153 (by omega) (by omega) ?_
          refine g_Vi F (own := RL) (c_X8_fault l E q4 sz99 τ hc_49 (xv xs (i + 1)) (xv_rg xs (i + 1)) ht.1.1 ht.1.2.1 ht.1.2.2.1) k_L_23 rfl rfl rfl [] d_L_law_154 ⟨rfl, rfl, by decide, by decide⟩ ⟨by decide, by decide⟩ rfl (Nat.le_of_ble_eq_true rfl) ?_
          intro z1 τ1 hz1
          have hv1 := hv.c34 hz1.2.1 hz1.2.2
          refine g_aload_n F 2 rfl rfl d_L_law_157 ?_
          refine g_aload_n F 0 rfl rfl d_L_law_158 ?_
          refine g_iload_n F 3 rfl rfl d_L_law_159 ?_
          refine g_iconst F d_L_law_160 ?_
          refine g_iadd F d_L_law_161 ?_
          refine g_sld F hX d_L_law_162 (by omega) (by omega) ?_
          refine g_Vi F (own := RL) (c_X9_fault l E q4 sz99 τ1 hm_49 (xv xs (i + 1)) (xv_rg xs (i + 1)) hv1.1.n4 hv1.1.2.2.2.2.1.1.2) k_L_26 rfl rfl rfl [vI z1] d_L_law_163 ⟨rfl, rfl, by decide, by decide⟩ ⟨by decide, by decide⟩ rfl (Nat.le_of_ble_eq_true rfl) ?_
          intro z2 τ2 hz2
          have hI9 : LINV τ2 := ⟨re, rt, hv1.m35 hz2.2⟩
          refine g_same F d_L_law_166 (fault_eq ht hz1.2.1 hz1.1 hz2.1) ?_
          refine g_iinc F (lv' := [(3, vI (i + 5)), (0, .ref b), (1, .ref (q4 0)), (2, .ref (q4 30))]) 3 rfl rfl (by decide) rfl d_L_law_630 ?_
          refine g_goto F d_L_law_633 ?_
          refine G_sub (ks := [1, 2, 3, 0]) rfl ?_
          exact ih18 (i + 5) τ2 (by omega) hI9 (by omega)
        · refine g_tabIn F d_L_law_32 ⟨by omega, by omega⟩ 3 (tgt := 171) (by omega) (by decide) rfl rfl ?_
          obtain ⟨Z, D, hF⟩ := body_ZD ht (xv xs (i + 1))
          refine g_aload_n F 1 rfl rfl d_L_law_171 ?_
          refine g_aload_n F 0 rfl rfl d_L_law_172 ?_
          refine g_iload_n F 3 rfl rfl d_L_law_173 ?_
          refine g_iconst F d_L_law_174 ?_
          refine g_iadd F d_L_law_175 ?_
          refine g_sld F hX d_L_law_176 (by omega) (by omega) ?_
          refine g_Vi F (own := RL) (c_X8_body l E q4 sz99 τ hc_49 (xv xs (i + 1)) Z D (xv_rg xs (i + 1)) ht.1 hF (ffP_rg ht.1.1)) k_L_27 rfl rfl rfl [] d_L_law_177 ⟨rfl, rfl, by decide, by decide⟩ ⟨by decide, by decide⟩ rfl (Nat.le_of_ble_eq_true rfl) ?_
          intro z1 τ1 hz1
          have hz1 : bodyC τ τ1 (xv xs (i + 1)) z1 Z D := hz1
          obtain ⟨b1, b2, b3, b4, b5, b6, b7, b8⟩ := body_pre ht hF hz1
          refine g_aload_n F 2 rfl rfl d_L_law_180 ?_
          refine g_aload_n F 0 rfl rfl d_L_law_181 ?_
          refine g_iload_n F 3 rfl rfl d_L_law_182 ?_
          refine g_iconst F d_L_law_183 ?_
          refine g_iadd F d_L_law_184 ?_
          refine g_sld F hX d_L_law_185 (by omega) (by omega) ?_
          refine g_Vi F (own := RL) (c_X9_body l E q4 sz99 τ1 hm_49 (xv xs (i + 1)) Z D (tbl τ1) (kn τ1) (xv_rg xs (i + 1)) b2 b3 b4 b5 b6 b7 b8) k_L_30 rfl rfl rfl [vI z1] d_L_law_186 ⟨rfl, rfl, by decide, by decide⟩ ⟨by decide, by decide⟩ rfl (Nat.le_of_ble_eq_true rfl) ?_
          intro z2 τ2 hz2
          have hbe := body_end hv hz1 b1 hz2
          have hI9 : LINV τ2 := hbe.2
          refine g_same F d_L_law_189 (hbe.1) ?_
          refine g_iinc F (lv' := [(3, vI (i + 5)), (0, .ref b), (1, .ref (q4 0)), (2, .ref (q4 30))]) 3 rfl rfl (by decide) rfl d_L_law_630 ?_
          refine g_goto F d_L_law_633 ?_
          refine G_sub (ks := [1, 2, 3, 0]) rfl ?_
          exact ih18 (i + 5) τ2 (by omega) hI9 (by omega)
        · refine g_tabIn F d_L_law_32 ⟨by omega, by omega⟩ 4 (tgt := 194) (by omega) (by decide) rfl rfl ?_
          refine g_aload_n F 1 rfl rfl d_L_law_194 ?_
          refine g_aload_n F 0 rfl rfl d_L_law_195 ?_
          refine g_iload_n F 3 rfl rfl d_L_law_196 ?_
          refine g_iconst F d_L_law_197 ?_
          refine g_iadd F d_L_law_198 ?_
          refine g_sld F hX d_L_law_199 (by omega) (by omega) ?_
          refine g_aload_n F 0 rfl rfl d_L_law_200 ?_
          refine g_iload_n F 3 rfl rfl d_L_law_201 ?_
          refine g_iconst F d_L_law_202 ?_
          refine g_iadd F d_L_law_203 ?_
          refine g_sld F hX d_L_law_204 (by omega) (by omega) ?_
          refine g_aload_n F 0 rfl rfl d_L_law_205 ?_
          refine g_iload_n F 3 rfl rfl d_L_law_206 ?_
          refine g_iconst F d_L_law_207 ?_
          refine g_iadd F d_L_law_208 ?_
          refine g_sld F hX d_L_law_209 (by omega) (by omega) ?_
          refine g_Vi F (own := RL) (c_X8_node l E q4 sz99 τ hc_49 (xv xs (i + 1)) (xv xs (i + 2)) (xv xs (i + 3)) (xv_rg xs (i + 1)) (xv_rg xs (i + 2)) (xv_rg xs (i + 3)) ht.n6) k_L_31 rfl rfl rfl [] d_L_law_210 ⟨rfl, rfl, by decide, by decide⟩ ⟨by decide, by decide⟩ rfl (Nat.le_of_ble_eq_true rfl) ?_
          rintro _ _ ⟨rfl, rfl⟩
          refine g_aload_n F 2 rfl rfl d_L_law_213 ?_
          refine g_aload_n F 0 rfl rfl d_L_law_214 ?_
          refine g_iload_n F 3 rfl rfl d_L_law_215 ?_
          refine g_iconst F d_L_law_216 ?_
          refine g_iadd F d_L_law_217 ?_
          refine g_sld F hX d_L_law_218 (by omega) (by omega) ?_
          refine g_aload_n F 0 rfl rfl d_L_law_219 ?_
          refine g_iload_n F 3 rfl rfl d_L_law_220 ?_
          refine g_iconst F d_L_law_221 ?_
          refine g_iadd F d_L_law_222 ?_
          refine g_sld F hX d_L_law_223 (by omega) (by omega) ?_
          refine g_aload_n F 0 rfl rfl d_L_law_224 ?_
          refine g_iload_n F 3 rfl rfl d_L_law_225 ?_
          refine g_iconst F d_L_law_226 ?_
          refine g_iadd F d_L_law_227 ?_
          refine g_sld F hX d_L_law_228 (by omega) (by omega) ?_
          refine g_Vi F (own := RL) (c_X9_node l E q4 sz99 τ hm_49 (xv xs (i + 1)) (xv xs (i + 2)) (xv xs (i + 3)) (xv_rg xs (i + 1)) (xv_rg xs (i + 2)) (xv_rg xs (i + 3)) ht.n34) k_L_35 rfl rfl rfl [vI (vNode τ (xv xs (i + 1)) (xv xs (i + 2)) (xv xs (i + 3)))] d_L_law_229 ⟨rfl, rfl, by decide, by decide⟩ ⟨by decide, by decide⟩ rfl (Nat.le_of_ble_eq_true rfl) ?_
          rintro _ _ ⟨rfl, rfl⟩
          have hI9 : LINV τ := ⟨re, rt, hv⟩
          refine g_same F d_L_law_232 (node_eq ht _ _ _) ?_
          refine g_iinc F (lv' := [(3, vI (i + 5)), (0, .ref b), (1, .ref (q4 0)), (2, .ref (q4 30))]) 3 rfl rfl (by decide) rfl d_L_law_630 ?_
          refine g_goto F d_L_law_633 ?_
          refine G_sub (ks := [1, 2, 3, 0]) rfl ?_
          exact ih18 (i + 5) τ (by omega) hI9 (by omega)
        · refine g_tabIn F d_L_law_32 ⟨by omega, by omega⟩ 5 (tgt := 237) (by omega) (by decide) rfl rfl ?_
          refine g_aload_n F 1 rfl rfl d_L_law_237 ?_
          refine g_aload_n F 0 rfl rfl d_L_law_238 ?_
          refine g_iload_n F 3 rfl rfl d_L_law_239 ?_
          refine g_iconst F d_L_law_240 ?_
          refine g_iadd F d_L_law_241 ?_
          refine g_sld F hX d_L_law_242 (by omega) (by omega) ?_
          refine g_aload_n F 0 rfl rfl d_L_law_243 ?_
          refine g_iload_n F 3 rfl rfl d_L_law_244 ?_
          refine g_iconst F d_L_law_245 ?_
          refine g_iadd F d_L_law_246 ?_
          refine g_sld F hX d_L_law_247 (by omega) (by omega) ?_
          refine g_aload_n F 0 rfl rfl d_L_law_248 ?_
          refine g_iload_n F 3 rfl rfl d_L_law_249 ?_
          refine g_iconst F d_L_law_250 ?_
          refine g_iadd F d_L_law_251 ?_
          refine g_sld F hX d_L_law_252 (by omega) (by omega) ?_
          refine g_aload_n F 0 rfl rfl d_L_law_253 ?_
          refine g_iload_n F 3 rfl rfl d_L_law_254 ?_
          refine g_iconst F d_L_law_255 ?_
          refine g_iadd F d_L_law_256 ?_
          refine g_sld F hX d_L_law_257 (by omega) (by omega) ?_
          refine g_Vi F (own := RL) (c_X8_run l E q4 sz99 τ hc_49 (xv xs (i + 1)) (xv xs (i + 2)) (xv xs (i + 3)) (xv xs (i + 4)) re rt (xv_rg xs (i + 1)) (xv_rg xs (i + 2)) (xv_rg xs (i + 3)) (xv_rg xs (i + 4)) hv.2) k_L_36 rfl rfl rfl [] d_L_law_258 ⟨rfl, rfl, by decide, by decide⟩ ⟨by decide, by decide⟩ rfl (Nat.le_of_ble_eq_true rfl) ?_
          intro z1 τ1 hz1
          have hv1 := hv.runs hz1.2.1 hz1.2.2
          refine g_aload_n F 2 rfl rfl d_L_law_261 ?_
          refine g_aload_n F 0 rfl rfl d_L_law_262 ?_
          refine g_iload_n F 3 rfl rfl d_L_law_263 ?_
          refine g_iconst F d_L_law_264 ?_
          refine g_iadd F d_L_law_265 ?_
          refine g_sld F hX d_L_law_266 (by omega) (by omega) ?_
          refine g_aload_n F 0 rfl rfl d_L_law_267 ?_
          refine g_iload_n F 3 rfl rfl d_L_law_268 ?_
          refine g_iconst F d_L_law_269 ?_
          refine g_iadd F d_L_law_270 ?_
          refine g_sld F hX d_L_law_271 (by omega) (by omega) ?_
          refine g_aload_n F 0 rfl rfl d_L_law_272 ?_
          refine g_iload_n F 3 rfl rfl d_L_law_273 ?_
          refine g_iconst F d_L_law_274 ?_
          refine g_iadd F d_L_law_275 ?_
          refine g_sld F hX d_L_law_276 (by omega) (by omega) ?_
          refine g_aload_n F 0 rfl rfl d_L_law_277 ?_
          refine g_iload_n F 3 rfl rfl d_L_law_278 ?_
          refine g_iconst F d_L_law_279 ?_
          refine g_iadd F d_L_law_280 ?_
          refine g_sld F hX d_L_law_281 (by omega) (by omega) ?_
          refine g_Vi F (own := RL) (c_X9_run l E q4 sz99 τ1 hm_49 (xv xs (i + 1)) (xv xs (i + 2)) (xv xs (i + 3)) (xv xs (i + 4)) re rt (xv_rg xs (i + 1)) (xv_rg xs (i + 2)) (xv_rg xs (i + 3)) (xv_rg xs (i + 4)) hv1.mrun) k_L_40 rfl rfl rfl [vI z1] d_L_law_282 ⟨rfl, rfl, by decide, by decide⟩ ⟨by decide, by decide⟩ rfl (Nat.le_of_ble_eq_true rfl) ?_
          intro z2 τ2 hz2
          have hI9 : LINV τ2 := ⟨re, rt, hv1.me hz2.2⟩
          refine g_same F d_L_law_285 (by rw [hz1.1, hz2.1]) ?_
          refine g_iinc F (lv' := [(3, vI (i + 5)), (0, .ref b), (1, .ref (q4 0)), (2, .ref (q4 30))]) 3 rfl rfl (by decide) rfl d_L_law_630 ?_
          refine g_goto F d_L_law_633 ?_
          refine G_sub (ks := [1, 2, 3, 0]) rfl ?_
          exact ih18 (i + 5) τ2 (by omega) hI9 (by omega)
        · refine g_tabIn F d_L_law_32 ⟨by omega, by omega⟩ 6 (tgt := 290) (by omega) (by decide) rfl rfl ?_
          refine g_aload_n F 1 rfl rfl d_L_law_290 ?_
          refine g_aload_n F 0 rfl rfl d_L_law_291 ?_
          refine g_iload_n F 3 rfl rfl d_L_law_292 ?_
          refine g_iconst F d_L_law_293 ?_
          refine g_iadd F d_L_law_294 ?_
          refine g_sld F hX d_L_law_295 (by omega) (by omega) ?_
          refine g_aload_n F 0 rfl rfl d_L_law_296 ?_
          refine g_iload_n F 3 rfl rfl d_L_law_297 ?_
          refine g_iconst F d_L_law_298 ?_
          refine g_iadd F d_L_law_299 ?_
          refine g_sld F hX d_L_law_300 (by omega) (by omega) ?_
          refine g_Vi F (own := RL) (c_X8_may l E q4 sz99 τ hc_49 (xv xs (i + 1)) (xv xs (i + 2)) (xv_rg xs (i + 1)) (xv_rg xs (i + 2)) ht.1.2.2.2.2.2.2.1) k_L_41 rfl rfl rfl [] d_L_law_301 ⟨rfl, rfl, by decide, by decide⟩ ⟨by decide, by decide⟩ rfl (Nat.le_of_ble_eq_true rfl) ?_
          rintro _ _ ⟨rfl, rfl⟩
          refine g_aload_n F 2 rfl rfl d_L_law_304 ?_
          refine g_aload_n F 0 rfl rfl d_L_law_305 ?_
          refine g_iload_n F 3 rfl rfl d_L_law_306 ?_
          refine g_iconst F d_L_law_307 ?_
          refine g_iadd F d_L_law_308 ?_
          refine g_sld F hX d_L_law_309 (by omega) (by omega) ?_
          refine g_aload_n F 0 rfl rfl d_L_law_310 ?_
          refine g_iload_n F 3 rfl rfl d_L_law_311 ?_
          refine g_iconst F d_L_law_312 ?_
          refine g_iadd F d_L_law_313 ?_
          refine g_sld F hX d_L_law_314 (by omega) (by omega) ?_
          refine g_Vi F (own := RL) (c_X9_may l E q4 sz99 τ hm_49 (xv xs (i + 1)) (xv xs (i + 2)) (xv_rg xs (i + 1)) (xv_rg xs (i + 2)) ht.2.2.2.2.1.2.1) k_L_45 rfl rfl rfl [vI (vMay τ (xv xs (i + 1)) (xv xs (i + 2)))] d_L_law_315 ⟨rfl, rfl, by decide, by decide⟩ ⟨by decide, by decide⟩ rfl (Nat.le_of_ble_eq_true rfl) ?_
          rintro _ _ ⟨rfl, rfl⟩
          have hI9 : LINV τ := ⟨re, rt, hv⟩
          refine g_same F d_L_law_318 (may_eq ht _ _) ?_
          refine g_iinc F (lv' := [(3, vI (i + 5)), (0, .ref b), (1, .ref (q4 0)), (2, .ref (q4 30))]) 3 rfl rfl (by decide) rfl d_L_law_630 ?_
          refine g_goto F d_L_law_633 ?_
          refine G_sub (ks := [1, 2, 3, 0]) rfl ?_
          exact ih18 (i + 5) τ (by omega) hI9 (by omega)
        · refine g_tabIn F d_L_law_32 ⟨by omega, by omega⟩ 7 (tgt := 323) (by omega) (by decide) rfl rfl ?_
          refine g_aload_n F 1 rfl rfl d_L_law_323 ?_
          refine g_aload_n F 0 rfl rfl d_L_law_324 ?_
          refine g_iload_n F 3 rfl rfl d_L_law_325 ?_
          refine g_iconst F d_L_law_326 ?_
          refine g_iadd F d_L_law_327 ?_
          refine g_sld F hX d_L_law_328 (by omega) (by omega) ?_
          refine g_Vi F (own := RL) (c_X8_must l E q4 sz99 τ hc_49 (xv xs (i + 1)) (xv_rg xs (i + 1))) k_L_46 rfl rfl rfl [] d_L_law_329 ⟨rfl, rfl, by decide, by decide⟩ ⟨by decide, by decide⟩ rfl (Nat.le_of_ble_eq_true rfl) ?_
          rintro _ _ ⟨rfl, rfl⟩
          refine g_aload_n F 2 rfl rfl d_L_law_332 ?_
          refine g_aload_n F 0 rfl rfl d_L_law_333 ?_
          refine g_iload_n F 3 rfl rfl d_L_law_334 ?_
          refine g_iconst F d_L_law_335 ?_
          refine g_iadd F d_L_law_336 ?_
          refine g_sld F hX d_L_law_337 (by omega) (by omega) ?_
          refine g_Vi F (own := RL) (c_X9_must l E q4 sz99 τ hm_49 (xv xs (i + 1)) (xv_rg xs (i + 1)) ht.2.2.2.2.1.2.1) k_L_49 rfl rfl rfl [vI (if 0 ≤ (xv xs (i + 1)) ∧ (xv xs (i + 1)) < 4 then τ 15 (xv xs (i + 1)) else -1)] d_L_law_338 ⟨rfl, rfl, by decide, by decide⟩ ⟨by decide, by decide⟩ rfl (Nat.le_of_ble_eq_true rfl) ?_
          rintro _ _ ⟨rfl, rfl⟩
          have hI9 : LINV τ := ⟨re, rt, hv⟩
          refine g_same F d_L_law_341 (must_eq ht _) ?_
          refine g_iinc F (lv' := [(3, vI (i + 5)), (0, .ref b), (1, .ref (q4 0)), (2, .ref (q4 30))]) 3 rfl rfl (by decide) rfl d_L_law_630 ?_
          refine g_goto F d_L_law_633 ?_
          refine G_sub (ks := [1, 2, 3, 0]) rfl ?_
          exact ih18 (i + 5) τ (by omega) hI9 (by omega)
        · refine g_tabIn F d_L_law_32 ⟨by omega, by omega⟩ 8 (tgt := 346) (by omega) (by decide) rfl rfl ?_
          refine g_aload_n F 1 rfl rfl d_L_law_346 ?_
          refine g_aload_n F 0 rfl rfl d_L_law_347 ?_
          refine g_iload_n F 3 rfl rfl d_L_law_348 ?_
          refine g_iconst F d_L_law_349 ?_
          refine g_iadd F d_L_law_350 ?_
          refine g_sld F hX d_L_law_351 (by omega) (by omega) ?_
          refine g_aload_n F 0 rfl rfl d_L_law_352 ?_
          refine g_iload_n F 3 rfl rfl d_L_law_353 ?_
          refine g_iconst F d_L_law_354 ?_
          refine g_iadd F d_L_law_355 ?_
          refine g_sld F hX d_L_law_356 (by omega) (by omega) ?_
          refine g_Vi F (own := RL) (c_X8_joint l E q4 sz99 τ hc_49 (xv xs (i + 1)) (xv xs (i + 2)) (xv_rg xs (i + 1)) (xv_rg xs (i + 2)) ht.1.2.2.2.2.2.2.1) k_L_50 rfl rfl rfl [] d_L_law_357 ⟨rfl, rfl, by decide, by decide⟩ ⟨by decide, by decide⟩ rfl (Nat.le_of_ble_eq_true rfl) ?_
          rintro _ _ ⟨rfl, rfl⟩
          refine g_aload_n F 2 rfl rfl d_L_law_360 ?_
          refine g_aload_n F 0 rfl rfl d_L_law_361 ?_
          refine g_iload_n F 3 rfl rfl d_L_law_362 ?_
          refine g_iconst F d_L_law_363 ?_
          refine g_iadd F d_L_law_364 ?_
          refine g_sld F hX d_L_law_365 (by omega) (by omega) ?_
          refine g_aload_n F 0 rfl rfl d_L_law_366 ?_
          refine g_iload_n F 3 rfl rfl d_L_law_367 ?_
          refine g_iconst F d_L_law_368 ?_
          refine g_iadd F d_L_law_369 ?_
          refine g_sld F hX d_L_law_370 (by omega) (by omega) ?_
          refine g_Vi F (own := RL) (c_X9_joint l E q4 sz99 τ hm_49 (xv xs (i + 1)) (xv xs (i + 2)) (xv_rg xs (i + 1)) (xv_rg xs (i + 2)) ht.2.2.2.2.1.2.1) k_L_53 rfl rfl rfl [vI (if 0 ≤ (xv xs (i + 1)) ∧ (xv xs (i + 1)) < 4 then jl (tbl τ) (xv xs (i + 1)) (xv xs (i + 2)) (aA (xv xs (i + 1)) + 1).toNat 0 0 else -1)] d_L_law_371 ⟨rfl, rfl, by decide, by decide⟩ ⟨by decide, by decide⟩ rfl (Nat.le_of_ble_eq_true rfl) ?_
          rintro _ _ ⟨rfl, rfl⟩
          have hI9 : LINV τ := ⟨re, rt, hv⟩
          refine g_same F d_L_law_374 (joint_eq ht _ _) ?_
          refine g_iinc F (lv' := [(3, vI (i + 5)), (0, .ref b), (1, .ref (q4 0)), (2, .ref (q4 30))]) 3 rfl rfl (by decide) rfl d_L_law_630 ?_
          refine g_goto F d_L_law_633 ?_
          refine G_sub (ks := [1, 2, 3, 0]) rfl ?_
          exact ih18 (i + 5) τ (by omega) hI9 (by omega)
        · refine g_tabIn F d_L_law_32 ⟨by omega, by omega⟩ 9 (tgt := 379) (by omega) (by decide) rfl rfl ?_
          refine g_aload_n F 1 rfl rfl d_L_law_379 ?_
          refine g_aload_n F 0 rfl rfl d_L_law_380 ?_
          refine g_iload_n F 3 rfl rfl d_L_law_381 ?_
          refine g_iconst F d_L_law_382 ?_
          refine g_iadd F d_L_law_383 ?_
          refine g_sld F hX d_L_law_384 (by omega) (by omega) ?_
          refine g_aload_n F 0 rfl rfl d_L_law_385 ?_
          refine g_iload_n F 3 rfl rfl d_L_law_386 ?_
          refine g_iconst F d_L_law_387 ?_
          refine g_iadd F d_L_law_388 ?_
          refine g_sld F hX d_L_law_389 (by omega) (by omega) ?_
          refine g_Vi F (own := RL) (c_X8_uses l E q4 sz99 τ hc_49 (xv xs (i + 1)) (xv xs (i + 2)) (xv_rg xs (i + 1)) (xv_rg xs (i + 2))) k_L_54 rfl rfl rfl [] d_L_law_390 ⟨rfl, rfl, by decide, by decide⟩ ⟨by decide, by decide⟩ rfl (Nat.le_of_ble_eq_true rfl) ?_
          rintro _ _ ⟨rfl, rfl⟩
          refine g_aload_n F 2 rfl rfl d_L_law_393 ?_
          refine g_aload_n F 0 rfl rfl d_L_law_394 ?_
          refine g_iload_n F 3 rfl rfl d_L_law_395 ?_
          refine g_iconst F d_L_law_396 ?_
          refine g_iadd F d_L_law_397 ?_
          refine g_sld F hX d_L_law_398 (by omega) (by omega) ?_
          refine g_aload_n F 0 rfl rfl d_L_law_399 ?_
          refine g_iload_n F 3 rfl rfl d_L_law_400 ?_
          refine g_iconst F d_L_law_401 ?_
          refine g_iadd F d_L_law_402 ?_
          refine g_sld F hX d_L_law_403 (by omega) (by omega) ?_
          refine g_Vi F (own := RL) (c_X9_uses l E q4 sz99 τ hm_49 (xv xs (i + 1)) (xv xs (i + 2)) (xv_rg xs (i + 1)) (xv_rg xs (i + 2))) k_L_57 rfl rfl rfl [vI (if (0 ≤ (xv xs (i + 1)) ∧ (xv xs (i + 1)) < 4) ∧ 0 ≤ (xv xs (i + 2)) ∧ (xv xs (i + 2)) < nA (xv xs (i + 1)) then τ 18 ((xv xs (i + 1)) * 3 + (xv xs (i + 2))) else -1)] d_L_law_404 ⟨rfl, rfl, by decide, by decide⟩ ⟨by decide, by decide⟩ rfl (Nat.le_of_ble_eq_true rfl) ?_
          rintro _ _ ⟨rfl, rfl⟩
          have hI9 : LINV τ := ⟨re, rt, hv⟩
          refine g_same F d_L_law_407 (uses_eq ht _ _) ?_
          refine g_iinc F (lv' := [(3, vI (i + 5)), (0, .ref b), (1, .ref (q4 0)), (2, .ref (q4 30))]) 3 rfl rfl (by decide) rfl d_L_law_630 ?_
          refine g_goto F d_L_law_633 ?_
          refine G_sub (ks := [1, 2, 3, 0]) rfl ?_
          exact ih18 (i + 5) τ (by omega) hI9 (by omega)
        · refine g_tabIn F d_L_law_32 ⟨by omega, by omega⟩ 10 (tgt := 412) (by omega) (by decide) rfl rfl ?_
          refine g_aload_n F 1 rfl rfl d_L_law_412 ?_
          refine g_aload_n F 0 rfl rfl d_L_law_413 ?_
          refine g_iload_n F 3 rfl rfl d_L_law_414 ?_
          refine g_iconst F d_L_law_415 ?_
          refine g_iadd F d_L_law_416 ?_
          refine g_sld F hX d_L_law_417 (by omega) (by omega) ?_
          refine g_aload_n F 0 rfl rfl d_L_law_418 ?_
          refine g_iload_n F 3 rfl rfl d_L_law_419 ?_
          refine g_iconst F d_L_law_420 ?_
          refine g_iadd F d_L_law_421 ?_
          refine g_sld F hX d_L_law_422 (by omega) (by omega) ?_
          refine g_aload_n F 0 rfl rfl d_L_law_423 ?_
          refine g_iload_n F 3 rfl rfl d_L_law_424 ?_
          refine g_iconst F d_L_law_425 ?_
          refine g_iadd F d_L_law_426 ?_
          refine g_sld F hX d_L_law_427 (by omega) (by omega) ?_
          refine g_Vi F (own := RL) (c_X8_part l E q4 sz99 τ hc_49 (xv xs (i + 1)) (xv xs (i + 2)) (xv xs (i + 3)) (xv_rg xs (i + 1)) (xv_rg xs (i + 2)) (xv_rg xs (i + 3)) ht.n6 ht.1.2.2.2.2.2.1) k_L_58 rfl rfl rfl [] d_L_law_428 ⟨rfl, rfl, by decide, by decide⟩ ⟨by decide, by decide⟩ rfl (Nat.le_of_ble_eq_true rfl) ?_
          rintro _ _ ⟨rfl, rfl⟩
          refine g_aload_n F 2 rfl rfl d_L_law_431 ?_
          refine g_aload_n F 0 rfl rfl d_L_law_432 ?_
          refine g_iload_n F 3 rfl rfl d_L_law_433 ?_
          refine g_iconst F d_L_law_434 ?_
          refine g_iadd F d_L_law_435 ?_
          refine g_sld F hX d_L_law_436 (by omega) (by omega) ?_
          refine g_aload_n F 0 rfl rfl d_L_law_437 ?_
          refine g_iload_n F 3 rfl rfl d_L_law_438 ?_
          refine g_iconst F d_L_law_439 ?_
          refine g_iadd F d_L_law_440 ?_
          refine g_sld F hX d_L_law_441 (by omega) (by omega) ?_
          refine g_aload_n F 0 rfl rfl d_L_law_442 ?_
          refine g_iload_n F 3 rfl rfl d_L_law_443 ?_
          refine g_iconst F d_L_law_444 ?_
          refine g_iadd F d_L_law_445 ?_
          refine g_sld F hX d_L_law_446 (by omega) (by omega) ?_
          refine g_Vi F (own := RL) (c_X9_part l E q4 sz99 τ hm_49 (xv xs (i + 1)) (xv xs (i + 2)) (xv xs (i + 3)) (fun s p => bt (τ 13 p) s) (xv_rg xs (i + 1)) (xv_rg xs (i + 2)) (xv_rg xs (i + 3)) ht.n34 ht.2.2.2.2.1.1 ht.2.2.2.2.1.2.1 ht.2.2.2.2.1.2.2.2 (fun hx => ht.pv hx)) k_L_61 rfl rfl rfl [vI (vPart τ (xv xs (i + 1)) (xv xs (i + 2)) (xv xs (i + 3)))] d_L_law_447 ⟨rfl, rfl, by decide, by decide⟩ ⟨by decide, by decide⟩ rfl (Nat.le_of_ble_eq_true rfl) ?_
          intro z2 τ2 hz2
          have hI9 : LINV τ2 := ⟨re, rt, hv.m39 hz2.2.1 hz2.2.2⟩
          refine g_same F d_L_law_450 (by rw [hz2.1]; exact part_eq ht _ _ _) ?_
          refine g_iinc F (lv' := [(3, vI (i + 5)), (0, .ref b), (1, .ref (q4 0)), (2, .ref (q4 30))]) 3 rfl rfl (by decide) rfl d_L_law_630 ?_
          refine g_goto F d_L_law_633 ?_
          refine G_sub (ks := [1, 2, 3, 0]) rfl ?_
          exact ih18 (i + 5) τ2 (by omega) hI9 (by omega)
        · refine g_tabIn F d_L_law_32 ⟨by omega, by omega⟩ 11 (tgt := 455) (by omega) (by decide) rfl rfl ?_
          refine g_aload_n F 1 rfl rfl d_L_law_455 ?_
          refine g_aload_n F 0 rfl rfl d_L_law_456 ?_
          refine g_iload_n F 3 rfl rfl d_L_law_457 ?_
          refine g_iconst F d_L_law_458 ?_
          refine g_iadd F d_L_law_459 ?_
          refine g_sld F hX d_L_law_460 (by omega) (by omega) ?_
          refine g_aload_n F 0 rfl rfl d_L_law_461 ?_
          refine g_iload_n F 3 rfl rfl d_L_law_462 ?_
          refine g_iconst F d_L_law_463 ?_
          refine g_iadd F d_L_law_464 ?_
          refine g_sld F hX d_L_law_465 (by omega) (by omega) ?_
          refine g_Vi F (own := RL) (c_X8_ends l E q4 sz99 τ hc_49 (xv xs (i + 1)) (xv xs (i + 2)) re rt (xv_rg xs (i + 1)) (xv_rg xs (i + 2)) hv.2) k_L_62 rfl rfl rfl [] d_L_law_466 ⟨rfl, rfl, by decide, by decide⟩ ⟨by decide, by decide⟩ rfl (Nat.le_of_ble_eq_true rfl) ?_
          intro z1 τ1 hz1
          have hv1 := hv.runs hz1.2.1 hz1.2.2
          refine g_aload_n F 2 rfl rfl d_L_law_469 ?_
          refine g_aload_n F 0 rfl rfl d_L_law_470 ?_
          refine g_iload_n F 3 rfl rfl d_L_law_471 ?_
          refine g_iconst F d_L_law_472 ?_
          refine g_iadd F d_L_law_473 ?_
          refine g_sld F hX d_L_law_474 (by omega) (by omega) ?_
          refine g_aload_n F 0 rfl rfl d_L_law_475 ?_
          refine g_iload_n F 3 rfl rfl d_L_law_476 ?_
          refine g_iconst F d_L_law_477 ?_
          refine g_iadd F d_L_law_478 ?_
          refine g_sld F hX d_L_law_479 (by omega) (by omega) ?_
          refine g_Vi F (own := RL) (c_X9_ends l E q4 sz99 τ1 hm_49 (xv xs (i + 1)) (xv xs (i + 2)) re rt (xv_rg xs (i + 1)) (xv_rg xs (i + 2)) hv1.mrun) k_L_65 rfl rfl rfl [vI z1] d_L_law_480 ⟨rfl, rfl, by decide, by decide⟩ ⟨by decide, by decide⟩ rfl (Nat.le_of_ble_eq_true rfl) ?_
          intro z2 τ2 hz2
          have hI9 : LINV τ2 := ⟨re, rt, hv1.me hz2.2⟩
          refine g_same F d_L_law_483 (by rw [hz1.1, hz2.1]; exact ends_eq hv.ok _ _) ?_
          refine g_iinc F (lv' := [(3, vI (i + 5)), (0, .ref b), (1, .ref (q4 0)), (2, .ref (q4 30))]) 3 rfl rfl (by decide) rfl d_L_law_630 ?_
          refine g_goto F d_L_law_633 ?_
          refine G_sub (ks := [1, 2, 3, 0]) rfl ?_
          exact ih18 (i + 5) τ2 (by omega) hI9 (by omega)
        · refine g_tabIn F d_L_law_32 ⟨by omega, by omega⟩ 12 (tgt := 488) (by omega) (by decide) rfl rfl ?_
          refine g_aload_n F 1 rfl rfl d_L_law_488 ?_
          refine g_aload_n F 0 rfl rfl d_L_law_489 ?_
          refine g_iload_n F 3 rfl rfl d_L_law_490 ?_
          refine g_iconst F d_L_law_491 ?_
          refine g_iadd F d_L_law_492 ?_
          refine g_sld F hX d_L_law_493 (by omega) (by omega) ?_
          refine g_aload_n F 0 rfl rfl d_L_law_494 ?_
          refine g_iload_n F 3 rfl rfl d_L_law_495 ?_
          refine g_iconst F d_L_law_496 ?_
          refine g_iadd F d_L_law_497 ?_
          refine g_sld F hX d_L_law_498 (by omega) (by omega) ?_
          refine g_Vi F (own := RL) (c_X8_matters l E q4 sz99 τ hc_49 (xv xs (i + 1)) (xv xs (i + 2)) re rt (xv_rg xs (i + 1)) (xv_rg xs (i + 2)) hv.2) k_L_66 rfl rfl rfl [] d_L_law_499 ⟨rfl, rfl, by decide, by decide⟩ ⟨by decide, by decide⟩ rfl (Nat.le_of_ble_eq_true rfl) ?_
          intro z1 τ1 hz1
          have hv1 := hv.runs hz1.2.1 hz1.2.2
          refine g_aload_n F 2 rfl rfl d_L_law_502 ?_
          refine g_aload_n F 0 rfl rfl d_L_law_503 ?_
          refine g_iload_n F 3 rfl rfl d_L_law_504 ?_
          refine g_iconst F d_L_law_505 ?_
          refine g_iadd F d_L_law_506 ?_
          refine g_sld F hX d_L_law_507 (by omega) (by omega) ?_
          refine g_aload_n F 0 rfl rfl d_L_law_508 ?_
          refine g_iload_n F 3 rfl rfl d_L_law_509 ?_
          refine g_iconst F d_L_law_510 ?_
          refine g_iadd F d_L_law_511 ?_
          refine g_sld F hX d_L_law_512 (by omega) (by omega) ?_
          refine g_Vi F (own := RL) (c_X9_matters l E q4 sz99 τ1 hm_49 (xv xs (i + 1)) (xv xs (i + 2)) re rt (xv_rg xs (i + 1)) (xv_rg xs (i + 2)) hv1.mrun) k_L_69 rfl rfl rfl [vI z1] d_L_law_513 ⟨rfl, rfl, by decide, by decide⟩ ⟨by decide, by decide⟩ rfl (Nat.le_of_ble_eq_true rfl) ?_
          intro z2 τ2 hz2
          have hI9 : LINV τ2 := ⟨re, rt, hv1.me hz2.2⟩
          refine g_same F d_L_law_516 (by rw [hz1.1, hz2.1]; exact mat_eq _ _ _) ?_
          refine g_iinc F (lv' := [(3, vI (i + 5)), (0, .ref b), (1, .ref (q4 0)), (2, .ref (q4 30))]) 3 rfl rfl (by decide) rfl d_L_law_630 ?_
          refine g_goto F d_L_law_633 ?_
          refine G_sub (ks := [1, 2, 3, 0]) rfl ?_
          exact ih18 (i + 5) τ2 (by omega) hI9 (by omega)
        · refine g_tabIn F d_L_law_32 ⟨by omega, by omega⟩ 13 (tgt := 521) (by omega) (by decide) rfl rfl ?_
          refine g_aload_n F 1 rfl rfl d_L_law_521 ?_
          refine g_aload_n F 0 rfl rfl d_L_law_522 ?_
          refine g_iload_n F 3 rfl rfl d_L_law_523 ?_
          refine g_iconst F d_L_law_524 ?_
          refine g_iadd F d_L_law_525 ?_
          refine g_sld F hX d_L_law_526 (by omega) (by omega) ?_
          refine g_aload_n F 0 rfl rfl d_L_law_527 ?_
          refine g_iload_n F 3 rfl rfl d_L_law_528 ?_
          refine g_iconst F d_L_law_529 ?_
          refine g_iadd F d_L_law_530 ?_
          refine g_sld F hX d_L_law_531 (by omega) (by omega) ?_
          refine g_Vi F (own := RL) (c_X8_steps l E q4 sz99 τ hc_49 (xv xs (i + 1)) (xv xs (i + 2)) re rt (xv_rg xs (i + 1)) (xv_rg xs (i + 2)) hv.2) k_L_70 rfl rfl rfl [] d_L_law_532 ⟨rfl, rfl, by decide, by decide⟩ ⟨by decide, by decide⟩ rfl (Nat.le_of_ble_eq_true rfl) ?_
          intro z1 τ1 hz1
          have hv1 := hv.runs hz1.2.1 hz1.2.2
          refine g_aload_n F 2 rfl rfl d_L_law_535 ?_
          refine g_aload_n F 0 rfl rfl d_L_law_536 ?_
          refine g_iload_n F 3 rfl rfl d_L_law_537 ?_
          refine g_iconst F d_L_law_538 ?_
          refine g_iadd F d_L_law_539 ?_
          refine g_sld F hX d_L_law_540 (by omega) (by omega) ?_
          refine g_aload_n F 0 rfl rfl d_L_law_541 ?_
          refine g_iload_n F 3 rfl rfl d_L_law_542 ?_
          refine g_iconst F d_L_law_543 ?_
          refine g_iadd F d_L_law_544 ?_
          refine g_sld F hX d_L_law_545 (by omega) (by omega) ?_
          refine g_Vi F (own := RL) (c_X9_steps l E q4 sz99 τ1 hm_49 (xv xs (i + 1)) (xv xs (i + 2)) re rt (xv_rg xs (i + 1)) (xv_rg xs (i + 2)) hv1.mrun) k_L_73 rfl rfl rfl [vI z1] d_L_law_546 ⟨rfl, rfl, by decide, by decide⟩ ⟨by decide, by decide⟩ rfl (Nat.le_of_ble_eq_true rfl) ?_
          intro z2 τ2 hz2
          have hI9 : LINV τ2 := ⟨re, rt, hv1.me hz2.2⟩
          refine g_same F d_L_law_549 (by rw [hz1.1, hz2.1]; exact steps_eq _ _ _) ?_
          refine g_iinc F (lv' := [(3, vI (i + 5)), (0, .ref b), (1, .ref (q4 0)), (2, .ref (q4 30))]) 3 rfl rfl (by decide) rfl d_L_law_630 ?_
          refine g_goto F d_L_law_633 ?_
          refine G_sub (ks := [1, 2, 3, 0]) rfl ?_
          exact ih18 (i + 5) τ2 (by omega) hI9 (by omega)
        · refine g_tabIn F d_L_law_32 ⟨by omega, by omega⟩ 14 (tgt := 554) (by omega) (by decide) rfl rfl ?_
          refine g_aload_n F 1 rfl rfl d_L_law_554 ?_
          refine g_aload_n F 0 rfl rfl d_L_law_555 ?_
          refine g_iload_n F 3 rfl rfl d_L_law_556 ?_
          refine g_iconst F d_L_law_557 ?_
          refine g_iadd F d_L_law_558 ?_
          refine g_sld F hX d_L_law_559 (by omega) (by omega) ?_
          refine g_aload_n F 0 rfl rfl d_L_law_560 ?_
          refine g_iload_n F 3 rfl rfl d_L_law_561 ?_
          refine g_iconst F d_L_law_562 ?_
          refine g_iadd F d_L_law_563 ?_
          refine g_sld F hX d_L_law_564 (by omega) (by omega) ?_
          refine g_aload_n F 0 rfl rfl d_L_law_565 ?_
          refine g_iload_n F 3 rfl rfl d_L_law_566 ?_
          refine g_iconst F d_L_law_567 ?_
          refine g_iadd F d_L_law_568 ?_
          refine g_sld F hX d_L_law_569 (by omega) (by omega) ?_
          refine g_aload_n F 0 rfl rfl d_L_law_570 ?_
          refine g_iload_n F 3 rfl rfl d_L_law_571 ?_
          refine g_iconst F d_L_law_572 ?_
          refine g_iadd F d_L_law_573 ?_
          refine g_sld F hX d_L_law_574 (by omega) (by omega) ?_
          refine g_Vi F (own := RL) (c_X8_unlike l E q4 sz99 τ hc_49 (xv xs (i + 1)) (xv xs (i + 2)) (xv xs (i + 3)) (xv xs (i + 4)) re rt (xv_rg xs (i + 1)) (xv_rg xs (i + 2)) (xv_rg xs (i + 3)) (xv_rg xs (i + 4)) hv.2) k_L_74 rfl rfl rfl [] d_L_law_575 ⟨rfl, rfl, by decide, by decide⟩ ⟨by decide, by decide⟩ rfl (Nat.le_of_ble_eq_true rfl) ?_
          intro z1 τ1 hz1
          have hv1 := hv.runs hz1.2.1 hz1.2.2
          refine g_aload_n F 2 rfl rfl d_L_law_578 ?_
          refine g_aload_n F 0 rfl rfl d_L_law_579 ?_
          refine g_iload_n F 3 rfl rfl d_L_law_580 ?_
          refine g_iconst F d_L_law_581 ?_
          refine g_iadd F d_L_law_582 ?_
          refine g_sld F hX d_L_law_583 (by omega) (by omega) ?_
          refine g_aload_n F 0 rfl rfl d_L_law_584 ?_
          refine g_iload_n F 3 rfl rfl d_L_law_585 ?_
          refine g_iconst F d_L_law_586 ?_
          refine g_iadd F d_L_law_587 ?_
          refine g_sld F hX d_L_law_588 (by omega) (by omega) ?_
          refine g_aload_n F 0 rfl rfl d_L_law_589 ?_
          refine g_iload_n F 3 rfl rfl d_L_law_590 ?_
          refine g_iconst F d_L_law_591 ?_
          refine g_iadd F d_L_law_592 ?_
          refine g_sld F hX d_L_law_593 (by omega) (by omega) ?_
          refine g_aload_n F 0 rfl rfl d_L_law_594 ?_
          refine g_iload_n F 3 rfl rfl d_L_law_595 ?_
          refine g_iconst F d_L_law_596 ?_
          refine g_iadd F d_L_law_597 ?_
          refine g_sld F hX d_L_law_598 (by omega) (by omega) ?_
          refine g_Vi F (own := RL) (c_X9_unlike l E q4 sz99 τ1 hm_49 (xv xs (i + 1)) (xv xs (i + 2)) (xv xs (i + 3)) (xv xs (i + 4)) re rt (xv_rg xs (i + 1)) (xv_rg xs (i + 2)) (xv_rg xs (i + 3)) (xv_rg xs (i + 4)) hv1.mrun) k_L_77 rfl rfl rfl [vI z1] d_L_law_599 ⟨rfl, rfl, by decide, by decide⟩ ⟨by decide, by decide⟩ rfl (Nat.le_of_ble_eq_true rfl) ?_
          intro z2 τ2 hz2
          have hI9 : LINV τ2 := ⟨re, rt, hv1.me hz2.2⟩
          refine g_same F d_L_law_602 (by rw [hz1.1, hz2.1]) ?_
          refine g_iinc F (lv' := [(3, vI (i + 5)), (0, .ref b), (1, .ref (q4 0)), (2, .ref (q4 30))]) 3 rfl rfl (by decide) rfl d_L_law_630 ?_
          refine g_goto F d_L_law_633 ?_
          refine G_sub (ks := [1, 2, 3, 0]) rfl ?_
          exact ih18 (i + 5) τ2 (by omega) hI9 (by omega)
        · refine g_tabIn F d_L_law_32 ⟨by omega, by omega⟩ 15 (tgt := 607) (by omega) (by decide) rfl rfl ?_
          refine g_aload_n F 1 rfl rfl d_L_law_607 ?_
          refine g_aload_n F 0 rfl rfl d_L_law_608 ?_
          refine g_iload_n F 3 rfl rfl d_L_law_609 ?_
          refine g_iconst F d_L_law_610 ?_
          refine g_iadd F d_L_law_611 ?_
          refine g_sld F hX d_L_law_612 (by omega) (by omega) ?_
          refine g_Vi F (own := RL) (c_X8_told l E q4 sz99 τ hc_49 (xv xs (i + 1)) (xv_rg xs (i + 1))) k_L_78 rfl rfl rfl [] d_L_law_613 ⟨rfl, rfl, by decide, by decide⟩ ⟨by decide, by decide⟩ rfl (Nat.le_of_ble_eq_true rfl) ?_
          rintro _ _ ⟨rfl, rfl⟩
          refine g_aload_n F 2 rfl rfl d_L_law_616 ?_
          refine g_aload_n F 0 rfl rfl d_L_law_617 ?_
          refine g_iload_n F 3 rfl rfl d_L_law_618 ?_
          refine g_iconst F d_L_law_619 ?_
          refine g_iadd F d_L_law_620 ?_
          refine g_sld F hX d_L_law_621 (by omega) (by omega) ?_
          refine g_Vi F (own := RL) (c_X9_told l E q4 sz99 τ hm_49 (xv xs (i + 1)) (xv_rg xs (i + 1))) k_L_81 rfl rfl rfl [vI (vTold τ (xv xs (i + 1)))] d_L_law_622 ⟨rfl, rfl, by decide, by decide⟩ ⟨by decide, by decide⟩ rfl (Nat.le_of_ble_eq_true rfl) ?_
          rintro _ _ ⟨rfl, rfl⟩
          have hI9 : LINV τ := ⟨re, rt, hv⟩
          refine g_same F d_L_law_625 (told_eq ht _) ?_
          refine g_iinc F (lv' := [(3, vI (i + 5)), (0, .ref b), (1, .ref (q4 0)), (2, .ref (q4 30))]) 3 rfl rfl (by decide) rfl d_L_law_630 ?_
          refine g_goto F d_L_law_633 ?_
          refine G_sub (ks := [1, 2, 3, 0]) rfl ?_
          exact ih18 (i + 5) τ (by omega) hI9 (by omega)
  refine G_sub (ks := [3, 2, 1, 0]) rfl ?_
  exact loop18 _ 0 τ2 (by omega) hI0 (Nat.lt_succ_self _)
