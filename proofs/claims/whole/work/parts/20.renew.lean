def mu (σ : Sg) : Int := pc8 (σ 14 0) + pc8 (σ 14 1) + pc8 (σ 14 2) + pc8 (σ 14 3)
theorem mu_in (σ : Sg) : 0 ≤ mu σ ∧ mu σ ≤ 32 := by
  have h0 := pc8_in (σ 14 0)
  have h1 := pc8_in (σ 14 1)
  have h2 := pc8_in (σ 14 2)
  have h3 := pc8_in (σ 14 3)
  unfold mu
  omega
def le8 (σ τ : Sg) : Prop := ∀ f s, 0 ≤ f → f < 4 → 0 ≤ s → s < 8 → bt (σ 14 f) s = true → bt (τ 14 f) s = true
theorem mu_step {σ τ : Sg} (hs : TR σ) (ht : TR τ) (h : le8 σ τ) (hf : ∃ f, 0 ≤ f ∧ f < 4 ∧ σ 14 f ≠ τ 14 f) : mu σ + 1 ≤ mu τ := by
  have h0 := pc8_mono (a := σ 14 0) (b := τ 14 0) (fun s a b => h 0 s (by decide) (by decide) a b)
  have h1 := pc8_mono (a := σ 14 1) (b := τ 14 1) (fun s a b => h 1 s (by decide) (by decide) a b)
  have h2 := pc8_mono (a := σ 14 2) (b := τ 14 2) (fun s a b => h 2 s (by decide) (by decide) a b)
  have h3 := pc8_mono (a := σ 14 3) (b := τ 14 3) (fun s a b => h 3 s (by decide) (by decide) a b)
  obtain ⟨f, f0, f1, f2⟩ := hf
  have h4 : pc8 (σ 14 f) < pc8 (τ 14 f) := by
    rcases Int.lt_or_le (pc8 (σ 14 f)) (pc8 (τ 14 f)) with q | q
    · exact q
    · exact absurd (pc8_eq (hs f) (ht f) (fun s a b => h f s f0 f1 a b) q) f2
  unfold mu
  rcases four ⟨f0, f1⟩ with rfl | rfl | rfl | rfl <;> omega
def chgT (σ : Sg) : Prop := ∃ f, 0 ≤ f ∧ f < 4 ∧ σ 14 f ≠ σ 13 (f * 30)
def RI (σ τ : Sg) : Prop := MonoT (tbl τ) ∧ (∀ L, MonoT L → PreT (σ 6) (σ 7) (σ 10) L → leT (tbl τ) L) ∧ ∀ f s, 0 ≤ f → f < 4 → 0 ≤ s → s < 8 → bt (τ 14 f) s = true → ∀ V, Sol (σ 7) (σ 10) (tbl τ) V s (f * 30) (σ 6 f) → V (f * 30) = true
theorem RI_0 {σ τ : Sg} (h : ∀ f, 0 ≤ f → f < 4 → τ 14 f = 0) : RI σ τ := by
  have e : ∀ f r, 0 ≤ f → f < 4 → tbl τ f r = true → False := by
    intro f r h0 h1 h2
    unfold tbl at h2
    rw [h f h0 h1, bt_0] at h2
    cases h2
  refine ⟨fun g r r' h0 h1 _ _ _ _ _ h2 => (e g r h0 h1 h2).elim, fun L _ _ g r h0 h1 _ _ h2 => (e g r h0 h1 h2).elim, fun f s h0 h1 _ _ h2 => (e f s h0 h1 h2).elim⟩
theorem RI_step {σ τ τ2 τ3 : Sg} (hBO : BOK σ) (h : RI σ τ) (hsol : ∀ f, 0 ≤ f → f < 4 → ∀ s, 0 ≤ s → s < 8 → Sol (σ 7) (σ 10) (tbl τ) (fun x => bt (τ2 13 x) s) s (f * 30) (σ 6 f)) (h3 : ∀ f, 0 ≤ f → f < 4 → τ3 14 f = τ2 13 (f * 30)) : RI σ τ3 ∧ le8 τ τ3 := by
  obtain ⟨hM, hL, hP⟩ := h
  have hB : ∀ f, 0 ≤ f → f < 4 → Wf (σ 7) (σ 10) (σ 11) (f * 30) (σ 6 f) := fun f h0 h1 => (hBO f h0 h1).1
  have e : ∀ f s, 0 ≤ f → f < 4 → tbl τ3 f s = bt (τ2 13 (f * 30)) s := fun f s h0 h1 => by unfold tbl; rw [h3 f h0 h1]
  have hle : le8 τ τ3 := by
    intro f s h0 h1 h2 h4 h5
    have := hP f s h0 h1 h2 h4 h5 _ (hsol f h0 h1 s h2 h4)
    rw [h3 f h0 h1]
    exact this
  have hle2 : leT (tbl τ) (tbl τ3) := by
    intro g r h0 h1 h2 h4 h5
    have := aA_in g
    exact hle g r h0 h1 h2 (by omega) h5
  refine ⟨⟨?_, ?_, ?_⟩, hle⟩
  · intro g r r' h0 h1 h2 h4 h5 h6 h7 h8
    have ha := aA_in g
    rw [e g r h0 h1] at h8
    rw [e g r' h0 h1]
    have hn := (hB g h0 h1).1
    exact (hsol g h0 h1 r h2 (by omega)).le (hB g h0 h1) hM (leT.refl _) h7 (hsol g h0 h1 r' h5 (by omega)) (p := g * 30) (by omega) (by omega) h8
  · intro L hLM hLF g r h0 h1 h2 h4 h5
    have ha := aA_in g
    rw [e g r h0 h1] at h5
    obtain ⟨V, hV, hV2⟩ := hLF g h0 h1 r h2 h4
    apply hV2
    have hn := (hB g h0 h1).1
    exact (hsol g h0 h1 r h2 (by omega)).le (hB g h0 h1) hM (hL L hLM hLF) (sub.refl _) hV (p := g * 30) (by omega) (by omega) h5
  · intro f s h0 h1 h2 h4 h5 V hV
    have h6 := e f s h0 h1
    unfold tbl at h6
    rw [h6] at h5
    have hn := (hB f h0 h1).1
    exact (hsol f h0 h1 s h2 h4).le (hB f h0 h1) hM hle2 (sub.refl _) hV (p := f * 30) (by omega) (by omega) h5
theorem Sol.tables {S Z : Int → Int} {T T' : TB} {V : Int → Bool} {s b n : Int} (h : ∀ g r, 0 ≤ g → g < 4 → T g r = T' g r) (hV : Sol S Z T V s b n) : Sol S Z T' V s b n := by
  intro p h1 h2
  rw [hV p h1 h2]
  unfold mvl
  by_cases k6 : kd (S p) = 6
  · have := wo_6 k6
    rw [if_neg (by omega), if_neg (by omega), if_neg (by omega), if_neg (by omega), if_pos k6, if_neg (by omega), if_neg (by omega), if_neg (by omega), if_neg (by omega), if_pos k6]
    exact h _ _ this.1 this.2
  · rw [if_neg k6, if_neg k6]
/-- what renew leaves behind -/
def TOK (σ τ : Sg) : Prop := RW τ ∧ TR τ ∧ LfpT (σ 6) (σ 7) (σ 10) (tbl τ) ∧ (∀ f, 0 ≤ f → f < 4 → ∀ s, 0 ≤ s → s < 8 → Sol (σ 7) (σ 10) (tbl τ) (fun x => bt (τ 13 x) s) s (f * 30) (σ 6 f)) ∧ ∀ f, 0 ≤ f → f < 4 → τ 14 f = τ 13 (f * 30)
theorem TOK_of {σ τ τ4 : Sg} (hBO : BOK σ) (hI : RI σ τ) (hR : RW τ) (hT : TR τ) (hf : (∀ f, 0 ≤ f → f < 4 → ∀ s, 0 ≤ s → s < 8 → Sol (σ 7) (σ 10) (tbl τ) (fun x => bt (τ 13 x) s) s (f * 30) (σ 6 f)) ∧ ∀ f, 0 ≤ f → f < 4 → τ 14 f = τ 13 (f * 30)) (g13 : τ4 13 = τ 13) (g14 : τ4 14 = τ 14) : TOK σ τ4 := by
  have e : tbl τ4 = tbl τ := by unfold tbl; rw [g14]
  refine ⟨fun j => by rw [g13]; exact hR j, fun j => by rw [g14]; exact hT j, ?_, ?_, ?_⟩
  · rw [e]
    refine ⟨hI.1, fun f a b s c d => ?_, hI.2.1⟩
    have ha := aA_in f
    exact ⟨_, hf.1 f a b s c (by omega), by unfold tbl; rw [hf.2 f a b]⟩
  · rw [e, g13]; exact hf.1
  · rw [g13, g14]; exact hf.2
set_option maxHeartbeats 1000000 in
theorem c_X7_takeRoots (l : Launch) (E : Ev) (q : Nat → Nat) (sh : List Shp) (σ : Sg) (hs : HsC sh) (hR : RW σ) (hT : TR σ) : CI l E yX7_takeRoots cX7_takeRoots 4 .boolean ({ frames := 2, cells := 0, slots := 0, locals := 41 } : Room) q sh σ [.ref (q 12)] (fun z τ => Sm [14] σ τ ∧ (∀ f, 0 ≤ f → f < 4 → τ 14 f = σ 13 (f * 30)) ∧ TR τ ∧ ((z = 0 ∧ ∀ f, 0 ≤ f → f < 4 → σ 14 f = σ 13 (f * 30)) ∨ (z = 1 ∧ chgT σ))) := by
  refine CB_of (own := RX7) (by decide) rfl (Nat.le_of_ble_eq_true rfl) (fun X Q F hQ => ?_)
  show G X E 4 q sh σ 0 0 Q 0 [(0, .ref (q 12))] []
  refine g_iconst F d_X7_takeRoots_0 ?_
  refine g_istore_n F (lv' := [(1, vI 0), (0, .ref (q 12))]) rfl (by decide) rfl d_X7_takeRoots_1 ?_
  refine g_iconst F d_X7_takeRoots_2 ?_
  refine g_istore_n F (lv' := [(2, vI 0), (1, vI 0), (0, .ref (q 12))]) rfl (by decide) rfl d_X7_takeRoots_3 ?_
  have loop4 : ∀ (nn : Nat) (c : Int) (f : Int) (τ : Sg), (0 ≤ f ∧ f ≤ 4) → (Sm [14] σ τ) → (∀ g, 0 ≤ g → g < f → τ 14 g = σ 13 (g * 30)) → (∀ g, f ≤ g → τ 14 g = σ 14 g) → (TR τ) → ((c = 0 ∧ ∀ g, 0 ≤ g → g < f → σ 14 g = σ 13 (g * 30)) ∨ (c = 1 ∧ chgT σ)) → (4 - f).toNat < nn → G X E 4 q sh τ 0 0 Q 4 [(0, .ref (q 12)), (1, vI c), (2, vI f)] [] := by
    intro n4
    induction n4 with
    | zero => intro c f τ hf hm h1 h2 hT1 hc hm4; exact absurd hm4 (Nat.not_lt_zero _)
    | succ n4 ih4 =>
      intro c f τ hf hm h1 h2 hT1 hc hm4
      have e13 : τ 13 = σ 13 := hm 13 (by decide)
      have hc01 : c = 0 ∨ c = 1 := hc.elim (fun h => Or.inl h.1) (fun h => Or.inr h.1)
      refine g_iload_n F 2 rfl rfl d_X7_takeRoots_4 ?_
      refine g_iconst F d_X7_takeRoots_5 ?_
      refine g_icmp_ge F d_X7_takeRoots_6 ⟨by omega, by omega⟩ ⟨by decide, by decide⟩ (fun h6 => ?_) (fun h6 => ?_)
      · refine g_iload_n F 1 rfl rfl d_X7_takeRoots_55 ?_
        exact hQ d_X7_takeRoots_56 hc01 (⟨hm, fun g a b => h1 g a (by omega), hT1, hc.elim (fun h => Or.inl ⟨h.1, fun g a b => h.2 g a (by omega)⟩) Or.inr⟩)
      · refine g_aload_n F 0 rfl rfl d_X7_takeRoots_9 ?_
        refine g_aload_n F 0 rfl rfl d_X7_takeRoots_10 ?_
        refine g_getR F f_X7_21 d_X7_takeRoots_11 (hsC_12 hs) rfl ?_
        refine g_iload_n F 2 rfl rfl d_X7_takeRoots_14 ?_
        refine g_Vi F (own := RX7) (c_X0_root l E q sh τ hs.B f (by omega)) k_X7_38 (hsC_5 hs) rfl rfl [.ref (q 12)] d_X7_takeRoots_15 ⟨rfl, rfl, by decide, by decide⟩ ⟨Nat.zero_le _, Nat.zero_le _⟩ rfl (Nat.le_of_ble_eq_true rfl) ?_
        rintro _ _ ⟨rfl, rfl⟩
        refine g_Vi F (own := RX7) (c_X7_rowAt l E q sh τ hs (f * 30) (by omega)) k_X7_58 (hsC_12 hs) rfl rfl [] d_X7_takeRoots_18 ⟨rfl, rfl, by decide, by decide⟩ ⟨Nat.zero_le _, Nat.zero_le _⟩ rfl (Nat.le_of_ble_eq_true rfl) ?_
        rintro _ _ ⟨rfl, rfl⟩
        refine G_top (b := σ 13 (f * 30)) (by rw [e13]) ?_
        refine g_istore_n F (lv' := [(3, vI (σ 13 (f * 30))), (0, .ref (q 12)), (1, vI c), (2, vI f)]) rfl (by decide) rfl d_X7_takeRoots_21 ?_
        refine g_iload_n F 2 rfl rfl d_X7_takeRoots_22 ?_
        refine g_if_ne F d_X7_takeRoots_23 ⟨by omega, by omega⟩ (fun h23 => ?_) (fun h23 => ?_)
        · refine g_iconst F d_X7_takeRoots_36 ?_
          refine g_goto F d_X7_takeRoots_37 ?_
          refine g_istore_n F (lv' := [(1, vI 1), (3, vI (σ 13 (f * 30))), (0, .ref (q 12)), (2, vI f)]) rfl (by decide) rfl d_X7_takeRoots_41 ?_
          refine g_aload_n F 2 rfl rfl d_X7_takeRoots_42 ?_
          refine g_getR F f_X7_15 d_X7_takeRoots_43 (hsC_12 hs) rfl ?_
          refine g_iload_n F 3 rfl rfl d_X7_takeRoots_46 ?_
          refine g_iload_n F 1 rfl rfl d_X7_takeRoots_47 ?_
          refine g_iastore F d_X7_takeRoots_48 (hsC_14 hs) (by omega) (by omega) (by decide) ?_
          refine g_iinc F (lv' := [(2, vI (f + 1)), (1, vI 1), (3, vI (σ 13 (f * 30))), (0, .ref (q 12))]) 3 rfl rfl (by decide) rfl d_X7_takeRoots_49 ?_
          refine g_goto F d_X7_takeRoots_52 ?_
          have hc2 : ((1 : Int) = 0 ∧ ∀ g, 0 ≤ g → g < f + 1 → σ 14 g = σ 13 (g * 30)) ∨ ((1 : Int) = 1 ∧ chgT σ) := by
            rcases hc with ⟨q1, q2⟩ | ⟨q1, q2⟩
            · first
                | (left; refine ⟨rfl, fun g a b => ?_⟩; by_cases hg : g = f; (rw [hg]; exact h33.symm); exact q2 g a (by omega))
                | (right; exact ⟨rfl, f, hf.1, by omega, fun z => h33 z.symm⟩)
                | (exfalso; omega)
            · first
                | (right; exact ⟨rfl, q2⟩)
                | (exfalso; omega)
          refine G_sub (ks := [3, 1, 0]) rfl ?_
          exact ih4 1 (f + 1) (up τ 14 f (σ 13 (f * 30))) (by omega) (hm.up (by decide) _ _) (fun g a b => by rw [up_at]; split; (rename_i e; rw [e]); exact h1 g a (by omega)) (fun g a => by rw [up_other _ _ (by omega)]; exact h2 g (by omega)) (fun g => by rw [up_at]; split; exact hR _; exact hT1 g) hc2 (by omega)
        · refine g_iload_n F 0 rfl rfl d_X7_takeRoots_26 ?_
          refine g_aload_n F 1 rfl rfl d_X7_takeRoots_27 ?_
          refine g_getR F f_X7_15 d_X7_takeRoots_28 (hsC_12 hs) rfl ?_
          refine g_iload_n F 3 rfl rfl d_X7_takeRoots_31 ?_
          refine g_iaload F d_X7_takeRoots_32 (hsC_14 hs) (by omega) (by omega) (by decide) ?_
          refine G_top (b := σ 14 f) (h2 f (Int.le_refl _)) ?_
          refine g_icmp_eq F d_X7_takeRoots_33 ⟨by have := hR (f * 30); omega, by have := hR (f * 30); omega⟩ ⟨by have := hT f; omega, by have := hT f; omega⟩ (fun h33 => ?_) (fun h33 => ?_)
          · refine g_iconst F d_X7_takeRoots_40 ?_
            refine g_istore_n F (lv' := [(1, vI 0), (3, vI (σ 13 (f * 30))), (0, .ref (q 12)), (2, vI f)]) rfl (by decide) rfl d_X7_takeRoots_41 ?_
            refine g_aload_n F 2 rfl rfl d_X7_takeRoots_42 ?_
            refine g_getR F f_X7_15 d_X7_takeRoots_43 (hsC_12 hs) rfl ?_
            refine g_iload_n F 3 rfl rfl d_X7_takeRoots_46 ?_
            refine g_iload_n F 1 rfl rfl d_X7_takeRoots_47 ?_
            refine g_iastore F d_X7_takeRoots_48 (hsC_14 hs) (by omega) (by omega) (by decide) ?_
            refine g_iinc F (lv' := [(2, vI (f + 1)), (1, vI 0), (3, vI (σ 13 (f * 30))), (0, .ref (q 12))]) 3 rfl rfl (by decide) rfl d_X7_takeRoots_49 ?_
            refine g_goto F d_X7_takeRoots_52 ?_
            have hc2 : ((0 : Int) = 0 ∧ ∀ g, 0 ≤ g → g < f + 1 → σ 14 g = σ 13 (g * 30)) ∨ ((0 : Int) = 1 ∧ chgT σ) := by
              rcases hc with ⟨q1, q2⟩ | ⟨q1, q2⟩
              · first
                  | (left; refine ⟨rfl, fun g a b => ?_⟩; by_cases hg : g = f; (rw [hg]; exact h33.symm); exact q2 g a (by omega))
                  | (right; exact ⟨rfl, f, hf.1, by omega, fun z => h33 z.symm⟩)
                  | (exfalso; omega)
              · first
                  | (right; exact ⟨rfl, q2⟩)
                  | (exfalso; omega)
            refine G_sub (ks := [3, 1, 0]) rfl ?_
            exact ih4 0 (f + 1) (up τ 14 f (σ 13 (f * 30))) (by omega) (hm.up (by decide) _ _) (fun g a b => by rw [up_at]; split; (rename_i e; rw [e]); exact h1 g a (by omega)) (fun g a => by rw [up_other _ _ (by omega)]; exact h2 g (by omega)) (fun g => by rw [up_at]; split; exact hR _; exact hT1 g) hc2 (by omega)
          · refine g_iconst F d_X7_takeRoots_36 ?_
            refine g_goto F d_X7_takeRoots_37 ?_
            refine g_istore_n F (lv' := [(1, vI 1), (3, vI (σ 13 (f * 30))), (0, .ref (q 12)), (2, vI f)]) rfl (by decide) rfl d_X7_takeRoots_41 ?_
            refine g_aload_n F 2 rfl rfl d_X7_takeRoots_42 ?_
            refine g_getR F f_X7_15 d_X7_takeRoots_43 (hsC_12 hs) rfl ?_
            refine g_iload_n F 3 rfl rfl d_X7_takeRoots_46 ?_
            refine g_iload_n F 1 rfl rfl d_X7_takeRoots_47 ?_
            refine g_iastore F d_X7_takeRoots_48 (hsC_14 hs) (by omega) (by omega) (by decide) ?_
            refine g_iinc F (lv' := [(2, vI (f + 1)), (1, vI 1), (3, vI (σ 13 (f * 30))), (0, .ref (q 12))]) 3 rfl rfl (by decide) rfl d_X7_takeRoots_49 ?_
            refine g_goto F d_X7_takeRoots_52 ?_
            have hc2 : ((1 : Int) = 0 ∧ ∀ g, 0 ≤ g → g < f + 1 → σ 14 g = σ 13 (g * 30)) ∨ ((1 : Int) = 1 ∧ chgT σ) := by
              rcases hc with ⟨q1, q2⟩ | ⟨q1, q2⟩
              · first
                  | (left; refine ⟨rfl, fun g a b => ?_⟩; by_cases hg : g = f; (rw [hg]; exact h33.symm); exact q2 g a (by omega))
                  | (right; exact ⟨rfl, f, hf.1, by omega, fun z => h33 z.symm⟩)
                  | (exfalso; omega)
              · first
                  | (right; exact ⟨rfl, q2⟩)
                  | (exfalso; omega)
            refine G_sub (ks := [3, 1, 0]) rfl ?_
            exact ih4 1 (f + 1) (up τ 14 f (σ 13 (f * 30))) (by omega) (hm.up (by decide) _ _) (fun g a b => by rw [up_at]; split; (rename_i e; rw [e]); exact h1 g a (by omega)) (fun g a => by rw [up_other _ _ (by omega)]; exact h2 g (by omega)) (fun g => by rw [up_at]; split; exact hR _; exact hT1 g) hc2 (by omega)
  refine G_sub (ks := [2, 1, 0]) rfl ?_
  exact loop4 _ 0 0 σ (by omega) (Sm.refl _ _) (fun g a b => by exfalso; omega) (fun _ _ => rfl) hT (Or.inl ⟨rfl, fun g a b => by exfalso; omega⟩) (Nat.lt_succ_self _)
set_option maxHeartbeats 1000000 in
theorem c_X7_renew (l : Launch) (E : Ev) (q : Nat → Nat) (sh : List Shp) (σ : Sg) (hs : HsC sh) (hBO : BOK σ) (hR : RW σ) (hT : TR σ) : CV l E yX7_renew cX7_renew 3 ({ frames := 5, cells := 0, slots := 0, locals := 117 } : Room) q sh σ [.ref (q 12)] (fun τ => Sm [13, 14, 15] σ τ ∧ TOK σ τ ∧ ∀ f, 0 ≤ f → f < 4 → τ 15 f = need3 (fun s => tbl τ f s) f) := by
  refine CV_of (own := RX7) (by decide) rfl (Nat.le_of_ble_eq_true rfl) (fun X Q F hQ => ?_)
  show G X E 3 q sh σ 0 0 Q 0 [(0, .ref (q 12))] []
  refine g_aload_n F 0 rfl rfl d_X7_renew_0 ?_
  refine g_getR F f_X7_15 d_X7_renew_1 (hsC_12 hs) rfl ?_
  refine g_iconst F d_X7_renew_4 ?_
  refine g_Sv F (own := RX7) (c_J7_fill_53178 l E q sh σ 14 4 0 (hsC_14 hs) (by decide)) k_X7_25 [] d_X7_renew_5 ⟨rfl, rfl, by decide, by decide⟩ ⟨Nat.zero_le _, Nat.zero_le _⟩ rfl (Nat.le_of_ble_eq_true rfl) ?_
  intro τ1 hp
  refine g_iconst F d_X7_renew_8 ?_
  refine g_istore_n F (lv' := [(1, vI 1), (0, .ref (q 12))]) rfl (by decide) rfl d_X7_renew_9 ?_
  refine g_iconst F d_X7_renew_10 ?_
  refine g_istore_n F (lv' := [(2, vI 0), (1, vI 1), (0, .ref (q 12))]) rfl (by decide) rfl d_X7_renew_11 ?_
  have loop12 : ∀ (nn : Nat) (g : Int) (r : Int) (τ : Sg), (0 ≤ r ∧ r ≤ 33) → (g = 0 ∨ g = 1) → (Sm [13, 14] σ τ) → (RW τ) → (TR τ) → (RI σ τ) → (g = 1 → r ≤ mu τ) → (g = 0 → (∀ f, 0 ≤ f → f < 4 → ∀ s, 0 ≤ s → s < 8 → Sol (σ 7) (σ 10) (tbl τ) (fun x => bt (τ 13 x) s) s (f * 30) (σ 6 f)) ∧ ∀ f, 0 ≤ f → f < 4 → τ 14 f = τ 13 (f * 30)) → (33 - r).toNat < nn → G X E 3 q sh τ 0 0 Q 12 [(0, .ref (q 12)), (1, vI g), (2, vI r)] [] := by
    intro n12
    induction n12 with
    | zero => intro g r τ hr hg hm hR1 hT1 hI h1 h0 hm12; exact absurd hm12 (Nat.not_lt_zero _)
    | succ n12 ih12 =>
      intro g r τ hr hg hm hR1 hT1 hI h1 h0 hm12
      have e6 : τ 6 = σ 6 := hm 6 (by decide)
      have e7 : τ 7 = σ 7 := hm 7 (by decide)
      have e8 : τ 8 = σ 8 := hm 8 (by decide)
      have e9 : τ 9 = σ 9 := hm 9 (by decide)
      have e10 : τ 10 = σ 10 := hm 10 (by decide)
      have e11 : τ 11 = σ 11 := hm 11 (by decide)
      refine g_iload_n F 1 rfl rfl d_X7_renew_12 ?_
      refine g_if_eq F d_X7_renew_13 ⟨by omega, by omega⟩ (fun h13 => ?_) (fun h13 => ?_)
      · have hg0 : g = 0 := by
          rcases hg with q | q
          · exact q
          · have := h1 q
            have := mu_in τ
            exfalso; omega
        have hfin := h0 hg0
        refine g_iconst F d_X7_renew_37 ?_
        refine g_istore_n F (lv' := [(2, vI 0), (0, .ref (q 12)), (1, vI g)]) rfl (by decide) rfl d_X7_renew_38 ?_
        have loop39 : ∀ (nn : Nat) (f2 : Int) (τ4 : Sg), (0 ≤ f2 ∧ f2 ≤ 4) → (Sm [15] τ τ4) → (∀ k, 0 ≤ k → k < f2 → τ4 15 k = need3 (fun s => bt (τ 13 (k * 30)) s) k) → (4 - f2).toNat < nn → G X E 3 q sh τ4 0 0 Q 39 [(0, .ref (q 12)), (1, vI g), (2, vI f2)] [] := by
          intro n39
          induction n39 with
          | zero => intro f2 τ4 hf2 hm4 hn4 hm39; exact absurd hm39 (Nat.not_lt_zero _)
          | succ n39 ih39 =>
            intro f2 τ4 hf2 hm4 hn4 hm39
            have g13 : τ4 13 = τ 13 := hm4 13 (by decide)
            have g14 : τ4 14 = τ 14 := hm4 14 (by decide)
            refine g_iload_n F 2 rfl rfl d_X7_renew_39 ?_
            refine g_iconst F d_X7_renew_40 ?_
            refine g_icmp_ge F d_X7_renew_41 ⟨by omega, by omega⟩ ⟨by decide, by decide⟩ (fun h41 => ?_) (fun h41 => ?_)
            · exact hQ d_X7_renew_69 (⟨(hm.wide (by decide)).trans (hm4.wide (by decide)), TOK_of hBO hI hR1 hT1 hfin g13 g14, fun k a b => by rw [hn4 k a (by omega)]; unfold need3 tbl; rw [g14, hfin.2 k a b]⟩)
            · refine g_aload_n F 0 rfl rfl d_X7_renew_44 ?_
              refine g_getR F f_X7_18 d_X7_renew_45 (hsC_12 hs) rfl ?_
              refine g_iload_n F 2 rfl rfl d_X7_renew_48 ?_
              refine g_aload_n F 0 rfl rfl d_X7_renew_49 ?_
              refine g_aload_n F 0 rfl rfl d_X7_renew_50 ?_
              refine g_getR F f_X7_21 d_X7_renew_51 (hsC_12 hs) rfl ?_
              refine g_iload_n F 2 rfl rfl d_X7_renew_54 ?_
              refine g_Vi F (own := RX7) (c_X0_root l E q sh τ4 hs.B f2 (by omega)) k_X7_38 (hsC_5 hs) rfl rfl [.ref (q 12), vI f2, .ref (q 15)] d_X7_renew_55 ⟨rfl, rfl, by decide, by decide⟩ ⟨Nat.zero_le _, Nat.zero_le _⟩ rfl (Nat.le_of_ble_eq_true rfl) ?_
              rintro _ _ ⟨rfl, rfl⟩
              refine g_iload_n F 2 rfl rfl d_X7_renew_58 ?_
              refine g_Vi F (own := RX7) (c_X7_neededAt l E q sh τ4 hs (f2 * 30) f2 (by omega) (by omega) (by rw [g13]; exact hR1 _)) k_X7_44 (hsC_12 hs) rfl rfl [vI f2, .ref (q 15)] d_X7_renew_59 ⟨rfl, rfl, by decide, by decide⟩ ⟨Nat.zero_le _, Nat.zero_le _⟩ rfl (Nat.le_of_ble_eq_true rfl) ?_
              rintro _ _ ⟨rfl, rfl⟩
              refine G_top (b := need3 (fun s => bt (τ 13 (f2 * 30)) s) f2) (by rw [g13]) ?_
              refine g_iastore F d_X7_renew_62 (hsC_15 hs) (by omega) (by omega) (by decide) ?_
              refine g_iinc F (lv' := [(2, vI (f2 + 1)), (0, .ref (q 12)), (1, vI g)]) 2 rfl rfl (by decide) rfl d_X7_renew_63 ?_
              refine g_goto F d_X7_renew_66 ?_
              refine G_sub (ks := [1, 2, 0]) rfl ?_
              exact ih39 (f2 + 1) (up τ4 15 f2 (need3 (fun s => bt (τ 13 (f2 * 30)) s) f2)) (by omega) (hm4.up (by decide) _ _) (fun k a b => by rw [up_at]; split; (rename_i e; rw [e]); exact hn4 k a (by omega)) (by omega)
        refine G_sub (ks := [1, 2, 0]) rfl ?_
        exact loop39 _ 0 τ (by omega) (Sm.refl _ _) (fun k a b => by exfalso; omega) (Nat.lt_succ_self _)
      · refine g_iload_n F 2 rfl rfl d_X7_renew_16 ?_
        refine g_bipush F (by decide) d_X7_renew_17 ?_
        refine g_icmp_ge F d_X7_renew_19 ⟨by omega, by omega⟩ ⟨by decide, by decide⟩ (fun h19 => ?_) (fun h19 => ?_)
        · have hg0 : g = 0 := by
            rcases hg with q | q
            · exact q
            · have := h1 q
              have := mu_in τ
              exfalso; omega
          have hfin := h0 hg0
          refine g_iconst F d_X7_renew_37 ?_
          refine g_istore_n F (lv' := [(2, vI 0), (0, .ref (q 12)), (1, vI g)]) rfl (by decide) rfl d_X7_renew_38 ?_
          have loop39 : ∀ (nn : Nat) (f2 : Int) (τ4 : Sg), (0 ≤ f2 ∧ f2 ≤ 4) → (Sm [15] τ τ4) → (∀ k, 0 ≤ k → k < f2 → τ4 15 k = need3 (fun s => bt (τ 13 (k * 30)) s) k) → (4 - f2).toNat < nn → G X E 3 q sh τ4 0 0 Q 39 [(0, .ref (q 12)), (1, vI g), (2, vI f2)] [] := by
            intro n39
            induction n39 with
            | zero => intro f2 τ4 hf2 hm4 hn4 hm39; exact absurd hm39 (Nat.not_lt_zero _)
            | succ n39 ih39 =>
              intro f2 τ4 hf2 hm4 hn4 hm39
              have g13 : τ4 13 = τ 13 := hm4 13 (by decide)
              have g14 : τ4 14 = τ 14 := hm4 14 (by decide)
              refine g_iload_n F 2 rfl rfl d_X7_renew_39 ?_
              refine g_iconst F d_X7_renew_40 ?_
              refine g_icmp_ge F d_X7_renew_41 ⟨by omega, by omega⟩ ⟨by decide, by decide⟩ (fun h41 => ?_) (fun h41 => ?_)
              · exact hQ d_X7_renew_69 (⟨(hm.wide (by decide)).trans (hm4.wide (by decide)), TOK_of hBO hI hR1 hT1 hfin g13 g14, fun k a b => by rw [hn4 k a (by omega)]; unfold need3 tbl; rw [g14, hfin.2 k a b]⟩)
              · refine g_aload_n F 0 rfl rfl d_X7_renew_44 ?_
                refine g_getR F f_X7_18 d_X7_renew_45 (hsC_12 hs) rfl ?_
                refine g_iload_n F 2 rfl rfl d_X7_renew_48 ?_
                refine g_aload_n F 0 rfl rfl d_X7_renew_49 ?_
                refine g_aload_n F 0 rfl rfl d_X7_renew_50 ?_
                refine g_getR F f_X7_21 d_X7_renew_51 (hsC_12 hs) rfl ?_
                refine g_iload_n F 2 rfl rfl d_X7_renew_54 ?_
                refine g_Vi F (own := RX7) (c_X0_root l E q sh τ4 hs.B f2 (by omega)) k_X7_38 (hsC_5 hs) rfl rfl [.ref (q 12), vI f2, .ref (q 15)] d_X7_renew_55 ⟨rfl, rfl, by decide, by decide⟩ ⟨Nat.zero_le _, Nat.zero_le _⟩ rfl (Nat.le_of_ble_eq_true rfl) ?_
                rintro _ _ ⟨rfl, rfl⟩
                refine g_iload_n F 2 rfl rfl d_X7_renew_58 ?_
                refine g_Vi F (own := RX7) (c_X7_neededAt l E q sh τ4 hs (f2 * 30) f2 (by omega) (by omega) (by rw [g13]; exact hR1 _)) k_X7_44 (hsC_12 hs) rfl rfl [vI f2, .ref (q 15)] d_X7_renew_59 ⟨rfl, rfl, by decide, by decide⟩ ⟨Nat.zero_le _, Nat.zero_le _⟩ rfl (Nat.le_of_ble_eq_true rfl) ?_
                rintro _ _ ⟨rfl, rfl⟩
                refine G_top (b := need3 (fun s => bt (τ 13 (f2 * 30)) s) f2) (by rw [g13]) ?_
                refine g_iastore F d_X7_renew_62 (hsC_15 hs) (by omega) (by omega) (by decide) ?_
                refine g_iinc F (lv' := [(2, vI (f2 + 1)), (0, .ref (q 12)), (1, vI g)]) 2 rfl rfl (by decide) rfl d_X7_renew_63 ?_
                refine g_goto F d_X7_renew_66 ?_
                refine G_sub (ks := [1, 2, 0]) rfl ?_
                exact ih39 (f2 + 1) (up τ4 15 f2 (need3 (fun s => bt (τ 13 (f2 * 30)) s) f2)) (by omega) (hm4.up (by decide) _ _) (fun k a b => by rw [up_at]; split; (rename_i e; rw [e]); exact hn4 k a (by omega)) (by omega)
          refine G_sub (ks := [1, 2, 0]) rfl ?_
          exact loop39 _ 0 τ (by omega) (Sm.refl _ _) (fun k a b => by exfalso; omega) (Nat.lt_succ_self _)
        · have hBO2 : BOK τ := by
            intro g h0 h1
            rw [e6, e7, e8, e9, e10, e11]
            exact hBO g h0 h1
          refine g_aload_n F 0 rfl rfl d_X7_renew_22 ?_
          refine g_Vv F (own := RX7) (c_X7_fillRows l E q sh τ hs  hBO2 hR1 hT1) k_X7_31 (hsC_12 hs) rfl rfl [] d_X7_renew_23 ⟨rfl, rfl, by decide, by decide⟩ ⟨Nat.zero_le _, Nat.zero_le _⟩ rfl (Nat.le_of_ble_eq_true rfl) ?_
          intro τ2 hf
          rw [e6, e7, e10] at hf
          have e14 : τ2 14 = τ 14 := hf.1 14 (by decide)
          refine g_aload_n F 0 rfl rfl d_X7_renew_26 ?_
          refine g_Vi F (own := RX7) (c_X7_takeRoots l E q sh τ2 hs  hf.2.1 (fun j => by rw [e14]; exact hT1 j)) k_X7_34 (hsC_12 hs) rfl rfl [] d_X7_renew_27 ⟨rfl, rfl, by decide, by decide⟩ ⟨Nat.zero_le _, Nat.zero_le _⟩ rfl (Nat.le_of_ble_eq_true rfl) ?_
          intro z τ3 hz
          have e13 : τ3 13 = τ2 13 := hz.1 13 (by decide)
          have hR3 : RW τ3 := fun j => by rw [e13]; exact hf.2.1 j
          have hst := RI_step hBO hI hf.2.2 (τ3 := τ3) hz.2.1
          have hs1 : z = 1 → r + 1 ≤ mu τ3 := by
            intro h
            have h5 := h1 (by omega)
            rcases hz.2.2.2 with q | q
            · exfalso; omega
            · obtain ⟨f, a, b, c⟩ := q.2
              have := mu_step hT1 hz.2.2.1 hst.2 ⟨f, a, b, by rw [hz.2.1 f a b]; rw [e14] at c; exact c⟩
              omega
          have hs0 : z = 0 → (∀ f, 0 ≤ f → f < 4 → ∀ s, 0 ≤ s → s < 8 → Sol (σ 7) (σ 10) (tbl τ3) (fun x => bt (τ3 13 x) s) s (f * 30) (σ 6 f)) ∧ ∀ f, 0 ≤ f → f < 4 → τ3 14 f = τ3 13 (f * 30) := by
            intro h
            rcases hz.2.2.2 with q | q
            · have e5 : ∀ g r, 0 ≤ g → g < 4 → tbl τ g r = tbl τ3 g r := by
                intro g r a b
                unfold tbl
                rw [hz.2.1 g a b, ← q.2 g a b, e14]
              refine ⟨fun f a b s c d => ?_, fun f a b => by rw [e13]; exact hz.2.1 f a b⟩
              rw [e13]
              exact (hf.2.2 f a b s c d).tables e5
            · exfalso; omega
          refine g_istore_n F (lv' := [(1, vI z), (0, .ref (q 12)), (2, vI r)]) rfl (by decide) rfl d_X7_renew_30 ?_
          refine g_iinc F (lv' := [(2, vI (r + 1)), (1, vI z), (0, .ref (q 12))]) 2 rfl rfl (by decide) rfl d_X7_renew_31 ?_
          refine g_goto F d_X7_renew_34 ?_
          refine G_sub (ks := [2, 1, 0]) rfl ?_
          exact ih12 z (r + 1) τ3 (by omega) (hz.2.2.2.elim (fun h => Or.inl h.1) (fun h => Or.inr h.1)) ((hm.trans (hf.1.wide (by decide))).trans (hz.1.wide (by decide))) hR3 hz.2.2.1 hst.1 hs1 hs0 (by omega)
  have hz : ∀ j, 0 ≤ j → j < 4 → τ1 14 j = 0 := fun j a b => hp.1 j a (by omega)
  have hT9 : TR τ1 := by
    intro j
    by_cases hj : 0 ≤ j ∧ j < 4
    · rw [hz j hj.1 hj.2]; decide
    · rw [hp.2.1 j (by omega)]; exact hT j
  have hR9 : RW τ1 := by
    intro j
    rw [hp.2.2 13 (by decide)]
    exact hR j
  have hmu := mu_in τ1
  refine G_sub (ks := [2, 1, 0]) rfl ?_
  exact loop12 _ 1 0 τ1 (by omega) (Or.inr rfl) (hp.2.2.wide (by decide)) hR9 hT9 (RI_0 hz) (fun _ => hmu.1) (fun h => by cases h) (Nat.lt_succ_self _)
