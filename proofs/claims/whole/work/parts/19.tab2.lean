/-- which texts of a call may come, as bits -/
def cwd (σ : Sg) (p y s : Int) : Int := c3 (nA y) (bt (σ 13 (tp (σ 10) p 0)) s) (bt (σ 13 (tp (σ 10) p 1)) s) (bt (σ 13 (tp (σ 10) p 2)) s)
theorem cwd_sel (σ : Sg) (p s : Int) {t : Int} (ht : 0 ≤ t ∧ t < 3) : (if t = 0 then bt (σ 13 (tp (σ 10) p 0)) s else if t = 1 then bt (σ 13 (tp (σ 10) p 1)) s else bt (σ 13 (tp (σ 10) p 2)) s) = bt (σ 13 (tp (σ 10) p t)) s := by
  have h1 : t = 0 ∨ t = 1 ∨ t = 2 := by omega
  rcases h1 with rfl | rfl | rfl <;> rfl
theorem cwd_step (σ : Sg) (p s : Int) {t d : Int} (ht : 0 ≤ t ∧ t < 3) (hd : d = c3 t (bt (σ 13 (tp (σ 10) p 0)) s) (bt (σ 13 (tp (σ 10) p 1)) s) (bt (σ 13 (tp (σ 10) p 2)) s)) : bOr d (bShl (b2 (bt (σ 13 (tp (σ 10) p t)) s)) t) = c3 (t + 1) (bt (σ 13 (tp (σ 10) p 0)) s) (bt (σ 13 (tp (σ 10) p 1)) s) (bt (σ 13 (tp (σ 10) p 2)) s) := by
  rw [← cwd_sel σ p s ht, hd]
  exact c3_step ht _ _ _
theorem bit_lt {k s : Int} (h : k ≠ s) : decide (k < s) = decide (k < s + 1) := by
  congr 1
  apply propext
  omega
theorem bit_put {w s : Int} (hw : 0 ≤ w ∧ w < 256) (hs : 0 ≤ s ∧ s < 8) {P : Int → Bool} (hk : ∀ k, 0 ≤ k → k < 8 → bt w k = (decide (k < s) && P k)) (hP : P s = true) : ∀ k, 0 ≤ k → k < 8 → bt (bOr w (bShl 1 s)) k = (decide (k < s + 1) && P k) := by
  intro k h0 h1
  have ho := one_in hs
  rw [(or_in hw ho.1).2, ho.2 k h0, hk k h0 h1]
  by_cases hks : k = s
  · subst hks
    rw [hP]
    simp
    omega
  · have e1 : decide (k = s) = false := by simpa using hks
    rw [e1, bit_lt hks]
    simp
theorem bit_skip {w s : Int} {P : Int → Bool} (hk : ∀ k, 0 ≤ k → k < 8 → bt w k = (decide (k < s) && P k)) (hP : P s = false) : ∀ k, 0 ≤ k → k < 8 → bt w k = (decide (k < s + 1) && P k) := by
  intro k h0 h1
  rw [hk k h0 h1]
  by_cases hks : k = s
  · subst hks
    rw [hP]
    simp
  · rw [bit_lt hks]
/-- a row of a text, by its rows within -/
def rowOk (σ : Sg) (p z : Int) : Prop := (0 ≤ z ∧ z < 256) ∧ ∀ s, 0 ≤ s → s < 8 → bt z s = mvl (σ 7) (σ 10) (tbl σ) (fun x => bt (σ 13 x) s) s p
set_option maxHeartbeats 1000000 in
theorem c_J7_fill_53178 (l : Launch) (E : Ev) (q : Nat → Nat) (sh : List Shp) (σ : Sg) (c n : Nat) (v : Int) (hc : sh[c]? = some (.inl n)) (hn : n < 2147483648) : CV l E yJ7_fill_53178 cJ7_fill_53178 4 ({ frames := 0, cells := 0, slots := 0, locals := 0 } : Room) q sh σ [.ref (q c), vI v] (fun τ => (∀ j, 0 ≤ j → j < (n : Int) → τ c j = v) ∧ (∀ j, ¬ (0 ≤ j ∧ j < (n : Int)) → τ c j = σ c j) ∧ Sm [c] σ τ) := by
  refine CV_of (own := RJ7) (by decide) rfl (Nat.le_of_ble_eq_true rfl) (fun X Q F hQ => ?_)
  show G X E 4 q sh σ 0 0 Q 0 [(0, .ref (q c)), (1, vI v)] []
  refine g_iconst F d_J7_fill_53178_0 ?_
  refine g_istore_n F (lv' := [(2, vI 0), (0, .ref (q c)), (1, vI v)]) rfl (by decide) rfl d_J7_fill_53178_1 ?_
  refine g_aload_n F 1 rfl rfl d_J7_fill_53178_2 ?_
  refine g_alen F d_J7_fill_53178_3 hc ?_
  refine g_istore_n F (lv' := [(3, vI (((n : Nat) : Int))), (2, vI 0), (0, .ref (q c)), (1, vI v)]) rfl (by decide) rfl d_J7_fill_53178_4 ?_
  have loop5 : ∀ (nn : Nat) (i : Int) (τ : Sg), (0 ≤ i ∧ i ≤ (n : Int)) → (∀ j, 0 ≤ j → j < i → τ c j = v) → (∀ j, ¬ (0 ≤ j ∧ j < (n : Int)) → τ c j = σ c j) → (Sm [c] σ τ) → ((n : Int) - i).toNat < nn → G X E 4 q sh τ 0 0 Q 5 [(0, .ref (q c)), (1, vI v), (2, vI i), (3, vI (((n : Nat) : Int)))] [] := by
    intro n5
    induction n5 with
    | zero => intro i τ hi h1 h2 hm hm5; exact absurd hm5 (Nat.not_lt_zero _)
    | succ n5 ih5 =>
      intro i τ hi h1 h2 hm hm5
      refine g_iload_n F 2 rfl rfl d_J7_fill_53178_5 ?_
      refine g_iload_n F 3 rfl rfl d_J7_fill_53178_6 ?_
      refine g_icmp_ge F d_J7_fill_53178_7 ⟨by omega, by omega⟩ ⟨by omega, by omega⟩ (fun h7 => ?_) (fun h7 => ?_)
      · exact hQ d_J7_fill_53178_20 (⟨fun j a b => h1 j a (by omega), h2, hm⟩)
      · refine g_aload_n F 0 rfl rfl d_J7_fill_53178_10 ?_
        refine g_iload_n F 2 rfl rfl d_J7_fill_53178_11 ?_
        refine g_iload_n F 1 rfl rfl d_J7_fill_53178_12 ?_
        refine g_iastore F d_J7_fill_53178_13 hc (by omega) (by omega) hn ?_
        refine g_iinc F (lv' := [(2, vI (i + 1)), (0, .ref (q c)), (1, vI v), (3, vI (((n : Nat) : Int)))]) 2 rfl rfl (by decide) rfl d_J7_fill_53178_14 ?_
        refine g_goto F d_J7_fill_53178_17 ?_
        refine G_sub (ks := [1, 2, 0, 3]) rfl ?_
        exact ih5 (i + 1) (up τ c i v) (by omega) (fun j a b => by rw [up_at]; split; rfl; exact h1 j a (by omega)) (fun j a => by rw [up_other _ _ (by omega)]; exact h2 j a) (hm.up (by simp) _ _) (by omega)
  refine G_sub (ks := [2, 3, 1, 0]) rfl ?_
  exact loop5 _ 0 σ (by omega) (fun j a b => by exfalso; omega) (fun _ _ => rfl) (Sm.refl _ _) (Nat.lt_succ_self _)
set_option maxHeartbeats 1000000 in
theorem c_X7_callRow (l : Launch) (E : Ev) (q : Nat → Nat) (sh : List Shp) (σ : Sg) (hs : HsC sh) (p y : Int) (hp : 0 ≤ p ∧ p < 120) (hy : 0 ≤ y ∧ y < 4) (hh : ∀ j : Int, 0 ≤ j → j < nA y → 0 ≤ tp (σ 10) p j ∧ tp (σ 10) p j < 120) (hR : RW σ) (hT : 0 ≤ σ 14 y ∧ σ 14 y < 256) : CI l E yX7_callRow cX7_callRow 7 .int ({ frames := 2, cells := 0, slots := 0, locals := 47 } : Room) q sh σ [.ref (q 12), vI p, vI y] (fun z τ => σ = τ ∧ (0 ≤ z ∧ z < 256) ∧ ∀ s, 0 ≤ s → s < 8 → bt z s = bt (σ 14 y) (cwd σ p y s)) := by
  have hn := nA_in y
  have haa := aA_in y
  refine CI_of (own := RX7) (by decide) rfl (Nat.le_of_ble_eq_true rfl) (fun X Q F hQ => ?_)
  show G X E 7 q sh σ 0 0 Q 0 [(0, .ref (q 12)), (1, vI p), (2, vI y)] []
  refine g_iconst F d_X7_callRow_0 ?_
  refine g_istore_n F (lv' := [(3, vI 0), (0, .ref (q 12)), (1, vI p), (2, vI y)]) rfl (by decide) rfl d_X7_callRow_1 ?_
  refine g_iconst F d_X7_callRow_2 ?_
  refine g_istore F (lv' := [(4, vI 0), (3, vI 0), (0, .ref (q 12)), (1, vI p), (2, vI y)]) (by decide) rfl d_X7_callRow_3 ?_
  have loop5 : ∀ (nn : Nat) (w : Int) (s : Int), (0 ≤ s ∧ s ≤ 8) → (0 ≤ w ∧ w < 256) → (∀ k, 0 ≤ k → k < 8 → bt w k = (decide (k < s) && bt (σ 14 y) (cwd σ p y k))) → (8 - s).toNat < nn → G X E 7 q sh σ 0 0 Q 5 [(0, .ref (q 12)), (1, vI p), (2, vI y), (3, vI w), (4, vI s)] [] := by
    intro n5
    induction n5 with
    | zero => intro w s hs0 hw hk hm5; exact absurd hm5 (Nat.not_lt_zero _)
    | succ n5 ih5 =>
      intro w s hs0 hw hk hm5
      refine g_iload F 4 rfl d_X7_callRow_5 ?_
      refine g_bipush F (by decide) d_X7_callRow_7 ?_
      refine g_icmp_ge F d_X7_callRow_9 ⟨by omega, by omega⟩ ⟨by decide, by decide⟩ (fun h9 => ?_) (fun h9 => ?_)
      · refine g_iload_n F 3 rfl rfl d_X7_callRow_76 ?_
        exact hQ d_X7_callRow_77 (⟨rfl, hw, fun k h0 h1 => by rw [hk k h0 h1]; simp; intro; omega⟩)
      · refine g_iconst F d_X7_callRow_12 ?_
        refine g_istore F (lv' := [(5, vI 0), (0, .ref (q 12)), (1, vI p), (2, vI y), (3, vI w), (4, vI s)]) (by decide) rfl d_X7_callRow_13 ?_
        refine g_iconst F d_X7_callRow_15 ?_
        refine g_istore F (lv' := [(6, vI 0), (5, vI 0), (0, .ref (q 12)), (1, vI p), (2, vI y), (3, vI w), (4, vI s)]) (by decide) rfl d_X7_callRow_16 ?_
        have loop18 : ∀ (nn : Nat) (d : Int) (t : Int), (0 ≤ t ∧ t ≤ nA y) → (d = c3 t (bt (σ 13 (tp (σ 10) p 0)) s) (bt (σ 13 (tp (σ 10) p 1)) s) (bt (σ 13 (tp (σ 10) p 2)) s)) → (nA y - t).toNat < nn → G X E 7 q sh σ 0 0 Q 18 [(0, .ref (q 12)), (1, vI p), (2, vI y), (3, vI w), (4, vI s), (5, vI d), (6, vI t)] [] := by
          intro n18
          induction n18 with
          | zero => intro d t ht hd hm18; exact absurd hm18 (Nat.not_lt_zero _)
          | succ n18 ih18 =>
            intro d t ht hd hm18
            refine g_iload F 6 rfl d_X7_callRow_18 ?_
            refine g_iload_n F 2 rfl rfl d_X7_callRow_20 ?_
            refine g_Ni F (own := RX7) (c_X8_argumentsOf l E q sh σ y ⟨by omega, by omega⟩) k_X7_76 [vI t] d_X7_callRow_21 ⟨rfl, rfl, by decide, by decide⟩ ⟨Nat.zero_le _, Nat.zero_le _⟩ rfl (Nat.le_of_ble_eq_true rfl) ?_
            rintro _ _ ⟨rfl, rfl⟩
            refine g_icmp_ge F d_X7_callRow_24 ⟨by omega, by omega⟩ ⟨by omega, by omega⟩ (fun h24 => ?_) (fun h24 => ?_)
            · have hcw : 0 ≤ cwd σ p y s ∧ cwd σ p y s ≤ aA y := c3_in _ _ _
              refine g_aload_n F 0 rfl rfl d_X7_callRow_53 ?_
              refine g_iload_n F 2 rfl rfl d_X7_callRow_54 ?_
              refine g_iload F 5 rfl d_X7_callRow_55 ?_
              refine G_top (b := cwd σ p y s) (by rw [hd, show t = nA y by omega]; rfl) ?_
              refine g_Vi F (own := RX7) (c_X7_has l E q sh σ hs y (cwd σ p y s) hy (by omega) hT) k_X7_79 (hsC_12 hs) rfl rfl [] d_X7_callRow_57 ⟨rfl, rfl, by decide, by decide⟩ ⟨Nat.zero_le _, Nat.zero_le _⟩ rfl (Nat.le_of_ble_eq_true rfl) ?_
              rintro _ _ ⟨rfl, rfl⟩
              refine g_b_eq F d_X7_callRow_60 (fun h60 => ?_) (fun h60 => ?_)
              · refine g_iinc F (lv' := [(4, vI (s + 1)), (0, .ref (q 12)), (1, vI p), (2, vI y), (3, vI w), (5, vI d), (6, vI t)]) 4 rfl rfl (by decide) rfl d_X7_callRow_70 ?_
                refine g_goto F d_X7_callRow_73 ?_
                have hw2 : 0 ≤ w ∧ w < 256 := by first | exact hw | exact (or_in hw (one_in (k := s) (by omega)).1).1
                have hk2 : ∀ k, 0 ≤ k → k < 8 → bt w k = (decide (k < s + 1) && bt (σ 14 y) (cwd σ p y k)) := by
                  first
                    | exact bit_put hw (by omega) hk h60
                    | exact bit_skip hk (by simpa using h60)
                refine G_sub (ks := [1, 2, 3, 4, 0]) rfl ?_
                exact ih5 w (s + 1) (by omega) hw2 hk2 (by omega)
              · refine g_iload_n F 3 rfl rfl d_X7_callRow_63 ?_
                refine g_iconst F d_X7_callRow_64 ?_
                refine g_iload F 4 rfl d_X7_callRow_65 ?_
                refine g_ishl F d_X7_callRow_67 ?_
                refine g_ior F d_X7_callRow_68 ?_
                refine g_istore_n F (lv' := [(3, vI (bOr w (bShl 1 s))), (0, .ref (q 12)), (1, vI p), (2, vI y), (4, vI s), (5, vI d), (6, vI t)]) rfl (by decide) rfl d_X7_callRow_69 ?_
                refine g_iinc F (lv' := [(4, vI (s + 1)), (3, vI (bOr w (bShl 1 s))), (0, .ref (q 12)), (1, vI p), (2, vI y), (5, vI d), (6, vI t)]) 4 rfl rfl (by decide) rfl d_X7_callRow_70 ?_
                refine g_goto F d_X7_callRow_73 ?_
                have hw2 : 0 ≤ (bOr w (bShl 1 s)) ∧ (bOr w (bShl 1 s)) < 256 := by first | exact hw | exact (or_in hw (one_in (k := s) (by omega)).1).1
                have hk2 : ∀ k, 0 ≤ k → k < 8 → bt (bOr w (bShl 1 s)) k = (decide (k < s + 1) && bt (σ 14 y) (cwd σ p y k)) := by
                  first
                    | exact bit_put hw (by omega) hk h60
                    | exact bit_skip hk (by simpa using h60)
                refine G_sub (ks := [2, 3, 4, 1, 0]) rfl ?_
                exact ih5 (bOr w (bShl 1 s)) (s + 1) (by omega) hw2 hk2 (by omega)
            · refine g_iload F 5 rfl d_X7_callRow_27 ?_
              refine g_aload_n F 0 rfl rfl d_X7_callRow_29 ?_
              refine g_iload_n F 1 rfl rfl d_X7_callRow_30 ?_
              refine g_iload F 6 rfl d_X7_callRow_31 ?_
              refine g_Vi F (own := RX7) (c_X7_textRow l E q sh σ hs p t hp (by omega) (fun j h0 h1 => hh j h0 (by omega))) k_X7_70 (hsC_12 hs) rfl rfl [vI d] d_X7_callRow_33 ⟨rfl, rfl, by decide, by decide⟩ ⟨Nat.zero_le _, Nat.zero_le _⟩ rfl (Nat.le_of_ble_eq_true rfl) ?_
              rintro _ _ ⟨rfl, rfl⟩
              refine g_iload F 4 rfl d_X7_callRow_36 ?_
              refine g_ishr F d_X7_callRow_38 ?_
              refine g_iconst F d_X7_callRow_39 ?_
              refine g_iand F d_X7_callRow_40 ?_
              refine G_top (b := b2 (bt (σ 13 (tp (σ 10) p t)) s)) (bit_eq (hR _) (by omega)) ?_
              refine g_iload F 6 rfl d_X7_callRow_41 ?_
              refine g_ishl F d_X7_callRow_43 ?_
              refine g_ior F d_X7_callRow_44 ?_
              refine g_istore F (lv' := [(5, vI (bOr d (bShl (b2 (bt (σ 13 (tp (σ 10) p t)) s)) t))), (0, .ref (q 12)), (1, vI p), (2, vI y), (3, vI w), (4, vI s), (6, vI t)]) (by decide) rfl d_X7_callRow_45 ?_
              refine g_iinc F (lv' := [(6, vI (t + 1)), (5, vI (bOr d (bShl (b2 (bt (σ 13 (tp (σ 10) p t)) s)) t))), (0, .ref (q 12)), (1, vI p), (2, vI y), (3, vI w), (4, vI s)]) 6 rfl rfl (by decide) rfl d_X7_callRow_47 ?_
              refine g_goto F d_X7_callRow_50 ?_
              refine G_sub (ks := [2, 3, 4, 5, 6, 1, 0]) rfl ?_
              exact ih18 (bOr d (bShl (b2 (bt (σ 13 (tp (σ 10) p t)) s)) t)) (t + 1) (by omega) (cwd_step σ p s (by omega) hd) (by omega)
        refine G_sub (ks := [2, 3, 4, 5, 6, 1, 0]) rfl ?_
        exact loop18 _ 0 0 (by omega) (c3_0 _ _ _).symm (Nat.lt_succ_self _)
  refine G_sub (ks := [2, 3, 4, 1, 0]) rfl ?_
  exact loop5 _ 0 0 (by omega) (by omega) (fun k h0 h1 => by rw [bt_0]; simp; intro h; exfalso; omega) (Nat.lt_succ_self _)
set_option maxHeartbeats 1000000 in
theorem c_X7_rowOf (l : Launch) (E : Ev) (q : Nat → Nat) (sh : List Shp) (σ : Sg) (hs : HsC sh) (p f : Int) (hf : 0 ≤ f ∧ f < 4) (hp : f * 30 ≤ p ∧ p < f * 30 + σ 6 f) (hBO : BOK σ) (hR : RW σ) (hTR : TR σ) : CI l E yX7_rowOf cX7_rowOf 2 .int ({ frames := 3, cells := 0, slots := 0, locals := 73 } : Room) q sh σ [.ref (q 12), vI p] (fun z τ => σ = τ ∧ rowOk σ p z) := by
  have hB := (hBO f hf.1 hf.2).1
  have hn1 := hB.1
  have hn2 := hB.2.1
  have hK := (hBO f hf.1 hf.2).2 p hp.1 hp.2
  have hc := (hB.2.2.2.2 p hp.1 hp.2).2.1
  have hkd := kd_in (σ 7 p)
  refine CI_of (own := RX7) (by decide) rfl (Nat.le_of_ble_eq_true rfl) (fun X Q F hQ => ?_)
  show G X E 2 q sh σ 0 0 Q 0 [(0, .ref (q 12)), (1, vI p)] []
  refine g_aload_n F 0 rfl rfl d_X7_rowOf_0 ?_
  refine g_getR F f_X7_21 d_X7_rowOf_1 (hsC_12 hs) rfl ?_
  refine g_iload_n F 1 rfl rfl d_X7_rowOf_4 ?_
  refine g_Vi F (own := RX7) (c_X0_kindAt l E q sh σ hs.B p (by omega)) k_X7_61 (hsC_5 hs) rfl rfl [] d_X7_rowOf_5 ⟨rfl, rfl, by decide, by decide⟩ ⟨Nat.zero_le _, Nat.zero_le _⟩ rfl (Nat.le_of_ble_eq_true rfl) ?_
  rintro _ _ ⟨rfl, rfl⟩
  refine G_top (b := kd (σ 7 p)) (hK.1) ?_
  have hcs : kd (σ 7 p) = 1 ∨ kd (σ 7 p) = 2 ∨ kd (σ 7 p) = 3 ∨ kd (σ 7 p) = 4 ∨ kd (σ 7 p) = 5 ∨ kd (σ 7 p) = 6 ∨ kd (σ 7 p) = 0 := by omega
  rcases hcs with hk | hk | hk | hk | hk | hk | hk
  · refine g_tabIn F d_X7_rowOf_8 ⟨by omega, by omega⟩ 0 (tgt := 48) (by omega) (by decide) rfl rfl ?_
    refine g_sipush F (by decide) d_X7_rowOf_48 ?_
    exact hQ d_X7_rowOf_51 (⟨rfl, by decide, fun s h0 h1 => by rw [bt_255 ⟨h0, h1⟩]; simp [mvl, hk]⟩)
  · refine g_tabIn F d_X7_rowOf_8 ⟨by omega, by omega⟩ 1 (tgt := 113) (by omega) (by decide) rfl rfl ?_
    refine g_iconst F d_X7_rowOf_113 ?_
    exact hQ d_X7_rowOf_114 (⟨rfl, by decide, fun s h0 h1 => by rw [bt_0]; simp [mvl, hk]⟩)
  · have h3 := kd_3.mp hk
    have h4 := wo_3 hk
    refine g_tabIn F d_X7_rowOf_8 ⟨by omega, by omega⟩ 2 (tgt := 52) (by omega) (by decide) rfl rfl ?_
    refine g_aload_n F 0 rfl rfl d_X7_rowOf_52 ?_
    refine g_getR F f_X7_21 d_X7_rowOf_53 (hsC_12 hs) rfl ?_
    refine g_iload_n F 1 rfl rfl d_X7_rowOf_56 ?_
    refine g_Vi F (own := RX7) (c_X0_worthAt l E q sh σ hs.B p (by omega)) k_X7_64 (hsC_5 hs) rfl rfl [] d_X7_rowOf_57 ⟨rfl, rfl, by decide, by decide⟩ ⟨Nat.zero_le _, Nat.zero_le _⟩ rfl (Nat.le_of_ble_eq_true rfl) ?_
    rintro _ _ ⟨rfl, rfl⟩
    refine G_top (b := wo (σ 7 p)) (hK.2.1) ?_
    refine g_Si F (own := RX7) (c_X7_setsWith l E q sh σ (wo (σ 7 p)) (by omega)) k_X7_67 [] d_X7_rowOf_60 ⟨rfl, rfl, by decide, by decide⟩ ⟨Nat.zero_le _, Nat.zero_le _⟩ rfl (Nat.le_of_ble_eq_true rfl) ?_
    rintro _ _ ⟨rfl, rfl⟩
    exact hQ d_X7_rowOf_63 (⟨rfl, ⟨by have := bt_sets (a := wo (σ 7 p)) (s := 0) (by omega) (by omega); omega, by have := bt_sets (a := wo (σ 7 p)) (s := 0) (by omega) (by omega); omega⟩, fun s h0 h1 => by rw [(bt_sets (a := wo (σ 7 p)) (s := s) (by omega) ⟨h0, h1⟩).1]; simp [mvl, hk]⟩)
  · have ht9 := tx_4 hk
    have hr := and_in (hR (tp (σ 10) p 0)) (hR (tp (σ 10) p 1))
    refine g_tabIn F d_X7_rowOf_8 ⟨by omega, by omega⟩ 3 (tgt := 64) (by omega) (by decide) rfl rfl ?_
    refine g_aload_n F 0 rfl rfl d_X7_rowOf_64 ?_
    refine g_iload_n F 1 rfl rfl d_X7_rowOf_65 ?_
    refine g_iconst F d_X7_rowOf_66 ?_
    refine g_Vi F (own := RX7) (c_X7_textRow l E q sh σ hs p 0 (by omega) (by omega) (fun j h0 h1 => by have h9 := hc j h0 (by omega); omega)) k_X7_70 (hsC_12 hs) rfl rfl [] d_X7_rowOf_67 ⟨rfl, rfl, by decide, by decide⟩ ⟨Nat.zero_le _, Nat.zero_le _⟩ rfl (Nat.le_of_ble_eq_true rfl) ?_
    rintro _ _ ⟨rfl, rfl⟩
    refine g_aload_n F 0 rfl rfl d_X7_rowOf_70 ?_
    refine g_iload_n F 1 rfl rfl d_X7_rowOf_71 ?_
    refine g_iconst F d_X7_rowOf_72 ?_
    refine g_Vi F (own := RX7) (c_X7_textRow l E q sh σ hs p 1 (by omega) (by omega) (fun j h0 h1 => by have h9 := hc j h0 (by omega); omega)) k_X7_70 (hsC_12 hs) rfl rfl [vI (σ 13 (tp (σ 10) p 0))] d_X7_rowOf_73 ⟨rfl, rfl, by decide, by decide⟩ ⟨Nat.zero_le _, Nat.zero_le _⟩ rfl (Nat.le_of_ble_eq_true rfl) ?_
    rintro _ _ ⟨rfl, rfl⟩
    refine g_iand F d_X7_rowOf_76 ?_
    exact hQ d_X7_rowOf_77 (⟨rfl, hr.1, fun s h0 h1 => by rw [hr.2]; simp [mvl, hk]⟩)
  · have ht9 := tx_5 hk
    have hr1 := or_in (hR (tp (σ 10) p 1)) (hR (tp (σ 10) p 2))
    have hr := and_in (hR (tp (σ 10) p 0)) hr1.1
    refine g_tabIn F d_X7_rowOf_8 ⟨by omega, by omega⟩ 4 (tgt := 78) (by omega) (by decide) rfl rfl ?_
    refine g_aload_n F 0 rfl rfl d_X7_rowOf_78 ?_
    refine g_iload_n F 1 rfl rfl d_X7_rowOf_79 ?_
    refine g_iconst F d_X7_rowOf_80 ?_
    refine g_Vi F (own := RX7) (c_X7_textRow l E q sh σ hs p 0 (by omega) (by omega) (fun j h0 h1 => by have h9 := hc j h0 (by omega); omega)) k_X7_70 (hsC_12 hs) rfl rfl [] d_X7_rowOf_81 ⟨rfl, rfl, by decide, by decide⟩ ⟨Nat.zero_le _, Nat.zero_le _⟩ rfl (Nat.le_of_ble_eq_true rfl) ?_
    rintro _ _ ⟨rfl, rfl⟩
    refine g_aload_n F 0 rfl rfl d_X7_rowOf_84 ?_
    refine g_iload_n F 1 rfl rfl d_X7_rowOf_85 ?_
    refine g_iconst F d_X7_rowOf_86 ?_
    refine g_Vi F (own := RX7) (c_X7_textRow l E q sh σ hs p 1 (by omega) (by omega) (fun j h0 h1 => by have h9 := hc j h0 (by omega); omega)) k_X7_70 (hsC_12 hs) rfl rfl [vI (σ 13 (tp (σ 10) p 0))] d_X7_rowOf_87 ⟨rfl, rfl, by decide, by decide⟩ ⟨Nat.zero_le _, Nat.zero_le _⟩ rfl (Nat.le_of_ble_eq_true rfl) ?_
    rintro _ _ ⟨rfl, rfl⟩
    refine g_aload_n F 0 rfl rfl d_X7_rowOf_90 ?_
    refine g_iload_n F 1 rfl rfl d_X7_rowOf_91 ?_
    refine g_iconst F d_X7_rowOf_92 ?_
    refine g_Vi F (own := RX7) (c_X7_textRow l E q sh σ hs p 2 (by omega) (by omega) (fun j h0 h1 => by have h9 := hc j h0 (by omega); omega)) k_X7_70 (hsC_12 hs) rfl rfl [vI (σ 13 (tp (σ 10) p 1)), vI (σ 13 (tp (σ 10) p 0))] d_X7_rowOf_93 ⟨rfl, rfl, by decide, by decide⟩ ⟨Nat.zero_le _, Nat.zero_le _⟩ rfl (Nat.le_of_ble_eq_true rfl) ?_
    rintro _ _ ⟨rfl, rfl⟩
    refine g_ior F d_X7_rowOf_96 ?_
    refine g_iand F d_X7_rowOf_97 ?_
    exact hQ d_X7_rowOf_98 (⟨rfl, hr.1, fun s h0 h1 => by rw [hr.2, hr1.2]; simp [mvl, hk]⟩)
  · have ht9 := tx_6 hk
    have hw6 := wo_6 hk
    refine g_tabIn F d_X7_rowOf_8 ⟨by omega, by omega⟩ 5 (tgt := 99) (by omega) (by decide) rfl rfl ?_
    refine g_aload_n F 0 rfl rfl d_X7_rowOf_99 ?_
    refine g_iload_n F 1 rfl rfl d_X7_rowOf_100 ?_
    refine g_aload_n F 0 rfl rfl d_X7_rowOf_101 ?_
    refine g_getR F f_X7_21 d_X7_rowOf_102 (hsC_12 hs) rfl ?_
    refine g_iload_n F 1 rfl rfl d_X7_rowOf_105 ?_
    refine g_Vi F (own := RX7) (c_X0_worthAt l E q sh σ hs.B p (by omega)) k_X7_64 (hsC_5 hs) rfl rfl [vI p, .ref (q 12)] d_X7_rowOf_106 ⟨rfl, rfl, by decide, by decide⟩ ⟨Nat.zero_le _, Nat.zero_le _⟩ rfl (Nat.le_of_ble_eq_true rfl) ?_
    rintro _ _ ⟨rfl, rfl⟩
    refine G_top (b := wo (σ 7 p)) (hK.2.1) ?_
    refine g_Vi F (own := RX7) (c_X7_callRow l E q sh σ hs p (wo (σ 7 p)) (by omega) hw6 (fun j h0 h1 => by have h9 := hc j h0 (by omega); omega) hR (hTR _)) k_X7_73 (hsC_12 hs) rfl rfl [] d_X7_rowOf_109 ⟨rfl, rfl, by decide, by decide⟩ ⟨Nat.zero_le _, Nat.zero_le _⟩ rfl (Nat.le_of_ble_eq_true rfl) ?_
    intro z τ hz
    obtain ⟨rfl, hz1, hz2⟩ := hz
    exact hQ d_X7_rowOf_112 (⟨rfl, hz1, fun s h0 h1 => by rw [hz2 s h0 h1]; simp [mvl, hk, tbl, cwd]⟩)
  · refine g_tabOut F d_X7_rowOf_8 ⟨by omega, by omega⟩ (tgt := 113) (by omega) rfl ?_
    refine g_iconst F d_X7_rowOf_113 ?_
    exact hQ d_X7_rowOf_114 (⟨rfl, by decide, fun s h0 h1 => by rw [bt_0]; simp [mvl, hk]⟩)
set_option maxHeartbeats 1000000 in
theorem c_X7_fillRows (l : Launch) (E : Ev) (q : Nat → Nat) (sh : List Shp) (σ : Sg) (hs : HsC sh) (hBO : BOK σ) (hR : RW σ) (hTR : TR σ) : CV l E yX7_fillRows cX7_fillRows 4 ({ frames := 4, cells := 0, slots := 0, locals := 94 } : Room) q sh σ [.ref (q 12)] (fun τ => Sm [13] σ τ ∧ RW τ ∧ ∀ f, 0 ≤ f → f < 4 → ∀ s, 0 ≤ s → s < 8 → Sol (σ 7) (σ 10) (tbl σ) (fun x => bt (τ 13 x) s) s (f * 30) (σ 6 f)) := by
  refine CV_of (own := RX7) (by decide) rfl (Nat.le_of_ble_eq_true rfl) (fun X Q F hQ => ?_)
  show G X E 4 q sh σ 0 0 Q 0 [(0, .ref (q 12))] []
  refine g_iconst F d_X7_fillRows_0 ?_
  refine g_istore_n F (lv' := [(1, vI 0), (0, .ref (q 12))]) rfl (by decide) rfl d_X7_fillRows_1 ?_
  have loop2 : ∀ (nn : Nat) (f : Int) (τ : Sg), (0 ≤ f ∧ f ≤ 4) → (Sm [13] σ τ) → (RW τ) → (∀ g, 0 ≤ g → g < f → ∀ s, 0 ≤ s → s < 8 → Sol (σ 7) (σ 10) (tbl σ) (fun x => bt (τ 13 x) s) s (g * 30) (σ 6 g)) → (4 - f).toNat < nn → G X E 4 q sh τ 0 0 Q 2 [(0, .ref (q 12)), (1, vI f)] [] := by
    intro n2
    induction n2 with
    | zero => intro f τ hf hm hR1 hd hm2; exact absurd hm2 (Nat.not_lt_zero _)
    | succ n2 ih2 =>
      intro f τ hf hm hR1 hd hm2
      have e6 : τ 6 = σ 6 := hm 6 (by decide)
      refine g_iload_n F 1 rfl rfl d_X7_fillRows_2 ?_
      refine g_iconst F d_X7_fillRows_3 ?_
      refine g_icmp_ge F d_X7_fillRows_4 ⟨by omega, by omega⟩ ⟨by decide, by decide⟩ (fun h4 => ?_) (fun h4 => ?_)
      · exact hQ d_X7_fillRows_56 (⟨hm, hR1, fun g h0 h1 => hd g h0 (by omega)⟩)
      · have hn1 := (hBO f hf.1 (by omega)).1.1
        have hn2 := (hBO f hf.1 (by omega)).1.2.1
        refine g_aload_n F 0 rfl rfl d_X7_fillRows_7 ?_
        refine g_getR F f_X7_21 d_X7_fillRows_8 (hsC_12 hs) rfl ?_
        refine g_iload_n F 1 rfl rfl d_X7_fillRows_11 ?_
        refine g_Vi F (own := RX7) (c_X0_root l E q sh τ hs.B f (by omega)) k_X7_38 (hsC_5 hs) rfl rfl [] d_X7_fillRows_12 ⟨rfl, rfl, by decide, by decide⟩ ⟨Nat.zero_le _, Nat.zero_le _⟩ rfl (Nat.le_of_ble_eq_true rfl) ?_
        rintro _ _ ⟨rfl, rfl⟩
        refine g_istore_n F (lv' := [(2, vI (f * 30)), (0, .ref (q 12)), (1, vI f)]) rfl (by decide) rfl d_X7_fillRows_15 ?_
        refine g_iload_n F 0 rfl rfl d_X7_fillRows_16 ?_
        refine g_aload_n F 1 rfl rfl d_X7_fillRows_17 ?_
        refine g_getR F f_X7_21 d_X7_fillRows_18 (hsC_12 hs) rfl ?_
        refine g_iload_n F 2 rfl rfl d_X7_fillRows_21 ?_
        refine g_Vi F (own := RX7) (c_X0_count l E q sh τ hs.B f (by omega)) k_X7_48 (hsC_5 hs) rfl rfl [vI (f * 30)] d_X7_fillRows_22 ⟨rfl, rfl, by decide, by decide⟩ ⟨Nat.zero_le _, Nat.zero_le _⟩ rfl (Nat.le_of_ble_eq_true rfl) ?_
        rintro _ _ ⟨rfl, rfl⟩
        refine G_top (b := σ 6 f) (by rw [e6]) ?_
        refine g_iadd F d_X7_fillRows_25 ?_
        refine g_iconst F d_X7_fillRows_26 ?_
        refine g_isub F d_X7_fillRows_27 ?_
        refine g_istore_n F (lv' := [(3, vI (((f * 30) + (σ 6 f)) - 1)), (2, vI (f * 30)), (0, .ref (q 12)), (1, vI f)]) rfl (by decide) rfl d_X7_fillRows_28 ?_
        have loop29 : ∀ (nn : Nat) (i : Int) (τ2 : Sg), (f * 30 - 1 ≤ i ∧ i ≤ f * 30 + σ 6 f - 1) → (Sm [13] σ τ2) → (RW τ2) → (∀ g, 0 ≤ g → g < f → ∀ s, 0 ≤ s → s < 8 → Sol (σ 7) (σ 10) (tbl σ) (fun x => bt (τ2 13 x) s) s (g * 30) (σ 6 g)) → (∀ p, i < p → p < f * 30 + σ 6 f → ∀ s, 0 ≤ s → s < 8 → bt (τ2 13 p) s = mvl (σ 7) (σ 10) (tbl σ) (fun x => bt (τ2 13 x) s) s p) → (i - f * 30 + 1).toNat < nn → G X E 4 q sh τ2 0 0 Q 29 [(0, .ref (q 12)), (1, vI f), (2, vI (f * 30)), (3, vI i)] [] := by
          intro n29
          induction n29 with
          | zero => intro i τ2 hi hm2 hR2 hd2 hin hm29; exact absurd hm29 (Nat.not_lt_zero _)
          | succ n29 ih29 =>
            intro i τ2 hi hm2 hR2 hd2 hin hm29
            have g6 : τ2 6 = σ 6 := hm2 6 (by decide)
            have g7 : τ2 7 = σ 7 := hm2 7 (by decide)
            have g8 : τ2 8 = σ 8 := hm2 8 (by decide)
            have g9 : τ2 9 = σ 9 := hm2 9 (by decide)
            have g10 : τ2 10 = σ 10 := hm2 10 (by decide)
            have g11 : τ2 11 = σ 11 := hm2 11 (by decide)
            have g14 : τ2 14 = σ 14 := hm2 14 (by decide)
            refine g_iload_n F 3 rfl rfl d_X7_fillRows_29 ?_
            refine g_iload_n F 2 rfl rfl d_X7_fillRows_30 ?_
            refine g_icmp_lt F d_X7_fillRows_31 ⟨by omega, by omega⟩ ⟨by omega, by omega⟩ (fun h31 => ?_) (fun h31 => ?_)
            · refine g_iinc F (lv' := [(1, vI (f + 1)), (0, .ref (q 12)), (2, vI (f * 30)), (3, vI i)]) 1 rfl rfl (by decide) rfl d_X7_fillRows_50 ?_
              refine g_goto F d_X7_fillRows_53 ?_
              refine G_sub (ks := [1, 0]) rfl ?_
              exact ih2 (f + 1) τ2 (by omega) hm2 hR2 (fun g h0 h1 s h2 h3 => by by_cases hg : g = f; (subst hg; exact fun p h4 h5 => hin p (by omega) h5 s h2 h3); exact hd2 g h0 (by omega) s h2 h3) (by omega)
            · have hBO2 : BOK τ2 := by
                intro g h0 h1
                rw [g6, g7, g8, g9, g10, g11]
                exact hBO g h0 h1
              refine g_aload_n F 0 rfl rfl d_X7_fillRows_34 ?_
              refine g_iload_n F 3 rfl rfl d_X7_fillRows_35 ?_
              refine g_aload_n F 0 rfl rfl d_X7_fillRows_36 ?_
              refine g_iload_n F 3 rfl rfl d_X7_fillRows_37 ?_
              refine g_Vi F (own := RX7) (c_X7_rowOf l E q sh τ2 hs i f ⟨hf.1, by omega⟩ ⟨by omega, by rw [g6]; omega⟩ hBO2 hR2 (fun g => by rw [g14]; exact hTR g)) k_X7_51 (hsC_12 hs) rfl rfl [vI i, .ref (q 12)] d_X7_fillRows_38 ⟨rfl, rfl, by decide, by decide⟩ ⟨Nat.zero_le _, Nat.zero_le _⟩ rfl (Nat.le_of_ble_eq_true rfl) ?_
              intro z τ3 hz
              obtain ⟨rfl, hz1⟩ := hz
              refine g_Vv F (own := RX7) (c_X7_setRow l E q sh τ2 hs i z (by omega)) k_X7_54 (hsC_12 hs) rfl rfl [] d_X7_fillRows_41 ⟨rfl, rfl, by decide, by decide⟩ ⟨Nat.zero_le _, Nat.zero_le _⟩ rfl (Nat.le_of_ble_eq_true rfl) ?_
              rintro _ rfl
              refine g_iinc F (lv' := [(3, vI (i + (-1))), (0, .ref (q 12)), (1, vI f), (2, vI (f * 30))]) 3 rfl rfl (by decide) rfl d_X7_fillRows_44 ?_
              refine g_goto F d_X7_fillRows_47 ?_
              have q0 : ∀ b n D, Wf (σ 7) (σ 10) D b n → (i < b ∨ b + n ≤ i ∨ True) → True := fun _ _ _ _ _ => trivial
              have q1 : ∀ g, 0 ≤ g → g < f → ∀ s, 0 ≤ s → s < 8 → Sol (σ 7) (σ 10) (tbl σ) (fun x => bt ((up τ2 13 i z) 13 x) s) s (g * 30) (σ 6 g) := by
                intro g h0 h1 s h2 h3 p h4 h5
                have hB := (hBO g h0 (by omega)).1
                have hn3 := hB.2.1
                show bt ((up τ2 13 i z) 13 p) s = _
                rw [up_other _ _ (show p ≠ i by omega)]
                have h6 := hd2 g h0 h1 s h2 h3 p h4 h5
                rw [show bt (τ2 13 p) s = (fun x => bt (τ2 13 x) s) p from rfl, h6]
                apply mvl_congr
                intro j hj0 hj1
                have h7 := (hB.2.2.2.2 p h4 h5).2.1 j hj0 hj1
                show bt (τ2 13 _) s = bt ((up τ2 13 i z) 13 _) s
                rw [up_other _ _ (show tp (σ 10) p j ≠ i by omega)]
              have q2 : ∀ p, i - 1 < p → p < f * 30 + σ 6 f → ∀ s, 0 ≤ s → s < 8 → bt ((up τ2 13 i z) 13 p) s = mvl (σ 7) (σ 10) (tbl σ) (fun x => bt ((up τ2 13 i z) 13 x) s) s p := by
                intro p h4 h5 s h2 h3
                have hB := (hBO f hf.1 (by omega)).1
                have key : mvl (σ 7) (σ 10) (tbl σ) (fun x => bt (τ2 13 x) s) s p = mvl (σ 7) (σ 10) (tbl σ) (fun x => bt ((up τ2 13 i z) 13 x) s) s p := by
                  apply mvl_congr
                  intro j hj0 hj1
                  have h7 := (hB.2.2.2.2 p (by omega) h5).2.1 j hj0 hj1
                  show bt (τ2 13 _) s = bt ((up τ2 13 i z) 13 _) s
                  rw [up_other _ _ (show tp (σ 10) p j ≠ i by omega)]
                rw [← key]
                by_cases hp : p = i
                · subst hp
                  rw [up_same, hz1.2 s h2 h3, g7, g10]
                  unfold tbl
                  rw [g14]
                · rw [up_other _ _ hp]
                  exact hin p (by omega) h5 s h2 h3
              refine G_sub (ks := [1, 2, 3, 0]) rfl ?_
              exact ih29 (i + (-1)) (up τ2 13 i z) (by omega) (hm2.up (by decide) _ _) (fun p => by rw [up_at]; split; exact hz1.1; exact hR2 p) q1 q2 (by omega)
        refine G_sub (ks := [2, 3, 1, 0]) rfl ?_
        exact loop29 _ (((f * 30) + (σ 6 f)) - 1) τ (by omega) hm hR1 hd (fun p h1 h2 => by exfalso; omega) (Nat.lt_succ_self _)
  refine G_sub (ks := [1, 0]) rfl ?_
  exact loop2 _ 0 σ (by omega) (Sm.refl _ _) hR (fun g h0 h1 => by exfalso; omega) (Nat.lt_succ_self _)
