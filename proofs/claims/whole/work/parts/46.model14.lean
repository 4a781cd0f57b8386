/-! the reference: body -/
/-- the open nodes -/
def CH (S Z D A U : Int → Int) (n e o : Int) : Prop := (0 ≤ o ∧ o ≤ 10) ∧ (1 ≤ o → A 1 = 0) ∧ (o = 0 → e = 0 ∨ e = n) ∧ ∀ j, 1 ≤ j → j ≤ o → (0 ≤ A j ∧ A j < e) ∧ D (A j) = j - 1 ∧ (0 ≤ U j ∧ U j ≤ tx (S (A j))) ∧ (j < o → 1 ≤ U j) ∧ tp Z (A j) (tx (S (A j)) - U j) = (if j = o then e else A (j + 1))
theorem CH.dep {S Z D A U : Int → Int} {n e o : Int} (hW : Wf S Z D 0 n) (h : CH S Z D A U n e o) (he : 0 ≤ e ∧ e < n) (h1 : 1 ≤ o → 1 ≤ U o) : D e = o ∧ o ≤ 9 := by
  obtain ⟨a, b, c, d⟩ := h
  have hd := (hW.2.2.2.2 e (by omega) (by omega)).1
  by_cases z : o = 0
  · have e0 : e = 0 := by have := c z; omega
    rw [e0, hW.2.2.2.1]
    omega
  · obtain ⟨d1, d2, d3, d4, d5⟩ := d o (by omega) (Int.le_refl _)
    rw [if_pos rfl] at d5
    have h9 := (hW.2.2.2.2 (A o) (by omega) (by omega)).2.1 (tx (S (A o)) - U o) (by omega) (by have := h1 (by omega); omega)
    rw [d5, d2] at h9
    omega
theorem CH.push {S Z D A U A' U' : Int → Int} {n e o : Int} (hW : Wf S Z D 0 n) (h : CH S Z D A U n e o) (he : 0 ≤ e ∧ e < n) (h1 : 1 ≤ o → 1 ≤ U o) (hA : ∀ j, j ≠ o + 1 → A' j = A j) (hA1 : A' (o + 1) = e) (hU : ∀ j, j ≠ o + 1 → U' j = U j) (hU1 : U' (o + 1) = tx (S e)) : CH S Z D A' U' n (e + 1) (o + 1) := by
  obtain ⟨hd1, hd2⟩ := h.dep hW he h1
  obtain ⟨a, b, c, d⟩ := h
  have ht := tx_in (S e)
  refine ⟨by omega, fun _ => ?_, fun z => by exfalso; omega, ?_⟩
  · by_cases z : o = 0
    · have e0 : e = 0 := by have := c z; omega
      rw [z] at hA1
      rw [show (1 : Int) = 0 + 1 from rfl, hA1, e0]
    · rw [hA 1 (by omega)]; exact b (by omega)
  · intro j j0 j1
    by_cases z : j = o + 1
    · rw [z, hA1, hU1, if_pos rfl, Int.sub_self, tp_0]
      exact ⟨by omega, by omega, by omega, fun y => by exfalso; omega, rfl⟩
    · obtain ⟨d1, d2, d3, d4, d5⟩ := d j j0 (by omega)
      rw [hA j z, hU j z, if_neg z]
      refine ⟨by omega, d2, d3, fun _ => ?_, ?_⟩
      · by_cases y : j = o
        · rw [y]; exact h1 (by omega)
        · exact d4 (by omega)
      · rw [d5]
        by_cases y : j = o
        · rw [if_pos y, y, hA1]
        · rw [if_neg y, hA _ (by omega)]
theorem CH.size {S Z D A U : Int → Int} {n e o : Int} (hW : Wf S Z D 0 n) (h : CH S Z D A U n e o) (he : e ≤ n) (ho : 1 ≤ o) (h0 : U o = 0) : Z (A o) = e - A o := by
  obtain ⟨d1, d2, d3, d4, d5⟩ := h.2.2.2 o ho (Int.le_refl _)
  rw [if_pos rfl, h0, Int.sub_zero] at d5
  rw [(hW.2.2.2.2 (A o) (by omega) (by omega)).1.1, d5]
theorem CH.pop {S Z D A U U' : Int → Int} {n e o : Int} (hW : Wf S Z D 0 n) (h : CH S Z D A U n e o) (he : e ≤ n) (ho : 1 ≤ o) (h0 : U o = 0) (hU : ∀ j, j ≠ o - 1 → U' j = U j) (hU1 : U' (o - 1) = U (o - 1) - 1) : CH S Z D A U' n e (o - 1) := by
  have hz := h.size hW he ho h0
  obtain ⟨a, b, c, d⟩ := h
  refine ⟨by omega, fun z => b ho, fun z => ?_, ?_⟩
  · right
    have h1 := b ho
    rw [show o = 1 by omega, h1, hW.2.2.1] at hz
    omega
  · intro j j0 j1
    obtain ⟨d1, d2, d3, d4, d5⟩ := d j j0 (by omega)
    have d4' := d4 (by omega)
    rw [if_neg (by omega)] at d5
    by_cases z : j = o - 1
    · rw [if_pos z]
      have hu : U' j = U j - 1 := by rw [z]; exact hU1
      rw [hu, show tx (S (A j)) - (U j - 1) = tx (S (A j)) - U j + 1 by omega, tp_succ _ _ _ (by omega), d5, show j + 1 = o by omega, hz]
      exact ⟨d1, d2, by omega, fun y => by exfalso; omega, by omega⟩
    · rw [if_neg z, hU j z, d5]
      exact ⟨d1, d2, d3, fun _ => d4', rfl⟩
theorem CH.fin {S Z D A U : Int → Int} {n o : Int} (hW : Wf S Z D 0 n) (h : CH S Z D A U n n o) (h1 : 1 ≤ o → 1 ≤ U o) : o = 0 := by
  obtain ⟨a, b, c, d⟩ := h
  rcases Int.lt_or_le 0 o with z | z
  · exfalso
    obtain ⟨d1, d2, d3, d4, d5⟩ := d o (by omega) (Int.le_refl _)
    rw [if_pos rfl] at d5
    have h9 := (hW.2.2.2.2 (A o) (by omega) (by omega)).2.1 (tx (S (A o)) - U o) (by omega) (by have := h1 (by omega); omega)
    omega
  · omega
/-- what is placed already -/
def PLC (σ τ : Sg) (x : Int) (Z D : Int → Int) (n i o : Int) : Prop := (∀ k, 0 ≤ k → k < i → τ 31 (x * 30 + k) = σ 31 (120 + k) ∧ τ 33 (x * 30 + k) = D k) ∧ (∀ k, 0 ≤ k → k < i → (∀ j, 1 ≤ j → j ≤ o → τ 36 j ≠ k) → τ 32 (x * 30 + k) = Z k) ∧ (∀ p, ¬ (x * 30 ≤ p ∧ p < x * 30 + n) → τ 31 p = σ 31 p ∧ τ 32 p = σ 32 p ∧ τ 33 p = σ 33 p) ∧ (∀ j, rg (τ 31 j)) ∧ Sm [31, 32, 33, 35, 36] σ τ
/-- what stands behind a body -/
def putM (σ τ : Sg) (x : Int) (Z D : Int → Int) : Prop := τ 34 x = σ 34 4 ∧ τ 34 4 = 0 ∧ (∀ g, g ≠ x → g ≠ 4 → τ 34 g = σ 34 g) ∧ (∀ i, 0 ≤ i → i < σ 34 4 → τ 31 (x * 30 + i) = σ 31 (120 + i) ∧ τ 32 (x * 30 + i) = Z i ∧ τ 33 (x * 30 + i) = D i) ∧ (∀ p, ¬ (x * 30 ≤ p ∧ p < x * 30 + σ 34 4) → τ 31 p = σ 31 p ∧ τ 32 p = σ 32 p ∧ τ 33 p = σ 33 p) ∧ ∀ j, rg (τ 31 j)
theorem PLC.put {σ τ τ2 : Sg} {x n i o : Int} {Z D : Int → Int} {v1 v2 : Int} (hx : 0 ≤ x ∧ x < 4) (ho : 0 ≤ o) (h : PLC σ τ x Z D n i o) (hi : 0 ≤ i ∧ i < n) (hn : n ≤ 30) (hch : ∀ j, 1 ≤ j → j ≤ o → τ 36 j < i) (hD : D i = o) (hv : v1 = σ 31 (120 + i)) (hr : rg v1) (e : τ2 = up (up (up (up τ 31 (x * 30 + i) v1) 33 (x * 30 + i) o) 36 (o + 1) i) 35 (o + 1) v2) : PLC σ τ2 x Z D n (i + 1) (o + 1) := by
  obtain ⟨a, b, c, d, m⟩ := h
  have e31 : τ2 31 = up τ 31 (x * 30 + i) v1 31 := by rw [e, up_ne _ (by decide), up_ne _ (by decide), up_ne _ (by decide)]
  have e33 : ∀ p, τ2 33 p = if p = x * 30 + i then o else τ 33 p := fun p => by rw [e, up_ne _ (by decide), up_ne _ (by decide), up_at, up_ne _ (by decide)]
  have e32 : τ2 32 = τ 32 := by rw [e, up_ne _ (by decide), up_ne _ (by decide), up_ne _ (by decide), up_ne _ (by decide)]
  have e36 : ∀ p, τ2 36 p = if p = o + 1 then i else τ 36 p := fun p => by rw [e, up_ne _ (by decide), up_at, up_ne _ (by decide), up_ne _ (by decide)]
  refine ⟨?_, ?_, ?_, ?_, ?_⟩
  · intro k k0 k1
    rw [e31, e33]
    by_cases z : k = i
    · rw [z, up_same, if_pos rfl]; exact ⟨hv, hD.symm⟩
    · rw [up_other _ _ (by omega), if_neg (by omega)]; exact a k k0 (by omega)
  · intro k k0 k1 hk
    rw [e32]
    by_cases z : k = i
    · exfalso
      exact hk (o + 1) (by omega) (Int.le_refl _) (by rw [e36, if_pos rfl, z])
    · apply b k k0 (by omega)
      intro j j0 j1 hj
      apply hk j j0 (by omega)
      rw [e36, if_neg (by omega)]
      exact hj
  · intro p hp
    rw [e31, e32, e33, up_other _ _ (by omega), if_neg (by omega)]
    exact c p hp
  · intro j
    rw [e31, up_at]
    split
    · exact hr
    · exact d j
  · rw [e]
    exact (((m.up (by decide) _ _).up (by decide) _ _).up (by decide) _ _).up (by decide) _ _
theorem PLC.pop {σ τ τ2 : Sg} {x n i o o' : Int} {Z D : Int → Int} {v v2 : Int} (hx : 0 ≤ x ∧ x < 4) (h : PLC σ τ x Z D n i o) (hA : 0 ≤ τ 36 o ∧ τ 36 o < n) (hv : v = Z (τ 36 o)) (ho : o' = o - 1) (e : τ2 = up (up τ 32 (x * 30 + τ 36 o) v) 35 o' v2) : PLC σ τ2 x Z D n i o' := by
  obtain ⟨a, b, c, d, m⟩ := h
  have e31 : τ2 31 = τ 31 := by rw [e, up_ne _ (by decide), up_ne _ (by decide)]
  have e33 : τ2 33 = τ 33 := by rw [e, up_ne _ (by decide), up_ne _ (by decide)]
  have e36 : τ2 36 = τ 36 := by rw [e, up_ne _ (by decide), up_ne _ (by decide)]
  have e32 : ∀ p, τ2 32 p = if p = x * 30 + τ 36 o then v else τ 32 p := fun p => by rw [e, up_ne _ (by decide), up_at]
  refine ⟨by rw [e31, e33]; exact a, ?_, ?_, by rw [e31]; exact d, ?_⟩
  · intro k k0 k1 hk
    rw [e32]
    split
    · rename_i z
      rw [hv, show k = τ 36 o by omega]
    · rename_i z
      apply b k k0 k1
      intro j j0 j1 hj
      by_cases y : j = o
      · rw [y] at hj; omega
      · rw [e36] at hk
        exact hk j j0 (by omega) hj
  · intro p hp
    rw [e31, e33, e32, if_neg (by omega)]
    exact c p hp
  · rw [e]
    exact (m.up (by decide) _ _).up (by decide) _ _
theorem MOK_put {σ τ : Sg} {x : Int} {Z D : Int → Int} (hx : 0 ≤ x ∧ x < 4) (hW : Wf (fun i => σ 31 (120 + i)) Z D 0 (σ 34 4)) (hV : sgOk (fun i => σ 31 (120 + i)) (σ 34 4) x) (hB : MOK σ) (h : putM σ τ x Z D) : MOK τ := by
  obtain ⟨h1, h0, h2, h3, h4, h5⟩ := h
  have hn1 := hW.1
  have hn2 := hW.2.1
  refine ⟨?_, h5⟩
  intro f f0 f1
  by_cases hf : f = x
  · subst hf
    rw [h1]
    refine ⟨(hW.shift (S' := τ 31) (b := f * 30) (fun i a b => (h3 i a b).1)).congr ?_, ?_⟩
    · intro p p1 p2
      have h9 := h3 (p - f * 30) (by omega) (by omega)
      rw [show f * 30 + (p - f * 30) = p by omega] at h9
      exact ⟨rfl, h9.2.1, h9.2.2⟩
    · intro p p1 p2
      have h9 := h3 (p - f * 30) (by omega) (by omega)
      rw [show f * 30 + (p - f * 30) = p by omega] at h9
      rw [h9.1]
      exact hV (p - f * 30) (by omega) (by omega)
  · rw [h2 f hf (by omega)]
    obtain ⟨b1, b2⟩ := hB.1 f f0 f1
    have hn3 := b1.2.1
    have hout : ∀ p, f * 30 ≤ p → p < f * 30 + σ 34 f → ¬ (x * 30 ≤ p ∧ p < x * 30 + σ 34 4) := by
      intro p p1 p2 p3
      rcases Int.lt_or_gt_of_ne hf with q | q <;> omega
    refine ⟨b1.congr ?_, ?_⟩
    · intro p p1 p2
      have h9 := h4 p (hout p p1 p2)
      exact ⟨h9.1, h9.2.1, h9.2.2⟩
    · intro p p1 p2
      have h9 := h4 p (hout p p1 p2)
      rw [h9.1]
      exact b2 p p1 p2
abbrev bmrows : List Nat := [31, 32, 33, 34, 35, 36, 37, 38, 39]
theorem putM.move {σ τ υ : Sg} {x : Int} {Z D : Int → Int} (h : putM σ τ x Z D) (hm : Sm [37, 38, 39] τ υ) : putM σ υ x Z D := by
  unfold putM at h ⊢
  rw [hm 34 (by decide), hm 31 (by decide), hm 32 (by decide), hm 33 (by decide)]
  exact h
theorem pts_ok {c f : Int} (h0 : kd c ≠ 0) (h3 : kd c = 3 → wo c < nA f) : pts c f = tx c := by
  unfold pts
  rw [if_neg (fun z => z.elim h0 (fun y => y.2 (h3 y.1)))]
theorem ffun_nn (S : Int → Int) {n f : Int} (hn : 0 ≤ n) : ∀ (k : Nat) (i L : Int) (M : Int → Int), 0 ≤ i → ffun S n f k i L M = -6 ∨ 0 ≤ ffun S n f k i L M
  | 0, i, L, M, hi => by unfold ffun; split <;> omega
  | k + 1, i, L, M, hi => by
    have ih := ffun_nn S (f := f) hn k (i + 1) (passL L M (tx (S i))) (passM L M (tx (S i))) (by omega)
    unfold ffun
    split
    · exact ih
    · omega
theorem ffM_nn {σ : Sg} {f : Int} (hn : 0 ≤ σ 34 4 ∧ σ 34 4 ≤ 30) : ffM σ f = -6 ∨ 0 ≤ ffM σ f := ffun_nn _ hn.1 _ 0 0 _ (Int.le_refl _)
set_option maxHeartbeats 1000000 in
theorem c_X9_body (l : Launch) (E : Ev) (q : Nat → Nat) (sh : List Shp) (σ : Sg) (hs : HsM sh) (x : Int) (Z D : Int → Int) (L : TB) (U : Int → Int → Int) (rx : rg x) (hn : 0 ≤ σ 34 4 ∧ σ 34 4 ≤ 30) (hM : MOK σ) (hT : MTR σ) (hUR : UR σ) (hC : C2 σ) (hF : ffM σ x = -6 → Wf (fun i => σ 31 (120 + i)) Z D 0 (σ 34 4) ∧ sgOk (fun i => σ 31 (120 + i)) (σ 34 4) x) (hLU : (0 ≤ x ∧ x < 4) → ffM σ x = -6 → ∀ τ : Sg, putM σ τ x Z D → LfpT (τ 34) (τ 31) (τ 32) L ∧ LfpU (τ 34) (τ 31) (τ 32) U) : CI l E yX9_body cX9_body 5 .int ({ frames := 4, cells := 0, slots := 0, locals := 96 } : Room) q sh σ [.ref (q 30), vI x] (fun z τ => (¬ (0 ≤ x ∧ x < 4) → z = -1 ∧ τ = σ) ∧ ((0 ≤ x ∧ x < 4) → (ffM σ x ≠ -6 → z = -5 ∧ Sm [35] σ τ) ∧ (ffM σ x = -6 → z = σ 34 4 ∧ putM σ τ x Z D ∧ MOK τ ∧ MTR τ ∧ UR τ ∧ C2 τ ∧ LyD τ L U ∧ Sm bmrows σ τ))) := by
  have rx1 := rx.1
  have rx2 := rx.2
  have hfr := ffM_rg (f := x) hn
  have hfi := ffM_nn (f := x) hn
  refine CI_of (own := RX9) (by decide) rfl (Nat.le_of_ble_eq_true rfl) (fun X Q F hQ => ?_)
  show G X E 5 q sh σ 0 0 Q 0 [(0, .ref (q 30)), (1, vI x)] []
  refine g_iload_n F 1 rfl rfl d_X9_body_0 ?_
  refine g_Si F (own := RX9) (c_X9_isFunction l E q sh σ x ⟨by omega, by omega⟩) k_X9_99 [] d_X9_body_1 ⟨rfl, rfl, by decide, by decide⟩ ⟨Nat.zero_le _, Nat.zero_le _⟩ rfl (Nat.le_of_ble_eq_true rfl) ?_
  rintro _ _ ⟨rfl, rfl⟩
  refine g_b_ne F d_X9_body_4 (fun h4 => ?_) (fun h4 => ?_)
  · refine g_aload_n F 0 rfl rfl d_X9_body_9 ?_
    refine g_iload_n F 1 rfl rfl d_X9_body_10 ?_
    refine g_Vi F (own := RX9) (c_X9_fault l E q sh σ hs x rx hn hM.2) k_X9_106 (hsM_30 hs) rfl rfl [] d_X9_body_11 ⟨rfl, rfl, by decide, by decide⟩ ⟨Nat.zero_le _, Nat.zero_le _⟩ rfl (Nat.le_of_ble_eq_true rfl) ?_
    intro z1 τ1 hz1
    have hz1a : z1 = ffM σ x := by rw [hz1.1, if_pos h4]
    have hrz : rg z1 := by rw [hz1a]; exact hfr
    have e134 : τ1 34 = σ 34 := hz1.2 34 (by decide)
    refine g_if_lt F d_X9_body_14 hrz (fun h14 => ?_) (fun h14 => ?_)
    · have hff : ffM σ x = -6 := by omega
      obtain ⟨hW, hV⟩ := hF hff
      have hn1 := hW.1
      refine g_bipush F (by decide) d_X9_body_20 ?_
      refine g_iload_n F 1 rfl rfl d_X9_body_22 ?_
      refine g_imul F d_X9_body_23 ?_
      refine G_top (b := x * 30) (by omega) ?_
      refine g_istore_n F (lv' := [(2, vI (x * 30)), (0, .ref (q 30)), (1, vI x)]) rfl (by decide) rfl d_X9_body_24 ?_
      refine g_iconst F d_X9_body_25 ?_
      refine g_istore_n F (lv' := [(3, vI 0), (2, vI (x * 30)), (0, .ref (q 30)), (1, vI x)]) rfl (by decide) rfl d_X9_body_26 ?_
      refine g_iconst F d_X9_body_27 ?_
      refine g_istore F (lv' := [(4, vI 0), (3, vI 0), (2, vI (x * 30)), (0, .ref (q 30)), (1, vI x)]) (by decide) rfl d_X9_body_28 ?_
      have loop30 : ∀ (nn : Nat) (o : Int) (i : Int) (τ : Sg), (0 ≤ i ∧ i ≤ σ 34 4) → (CH (fun i => σ 31 (120 + i)) Z D (τ 36) (τ 35) (σ 34 4) i o) → (1 ≤ o → 1 ≤ τ 35 o) → (PLC σ τ x Z D (σ 34 4) i o) → (σ 34 4 - i).toNat < nn → G X E 5 q sh τ 0 0 Q 30 [(0, .ref (q 30)), (1, vI x), (2, vI (x * 30)), (3, vI o), (4, vI i)] [] := by
        intro n30
        induction n30 with
        | zero => intro o i τ hi hCH hU1 hP hm30; exact absurd hm30 (Nat.not_lt_zero _)
        | succ n30 ih30 =>
          intro o i τ hi hCH hU1 hP hm30
          have e34 : τ 34 = σ 34 := hP.2.2.2.2 34 (by decide)
          have ho := hCH.1
          refine g_iload F 4 rfl d_X9_body_30 ?_
          refine g_aload_n F 0 rfl rfl d_X9_body_32 ?_
          refine g_getR F f_X9_19 d_X9_body_33 (hsM_30 hs) rfl ?_
          refine g_iconst F d_X9_body_36 ?_
          refine g_iaload F d_X9_body_37 (hsM_34 hs) (by omega) (by omega) (by decide) ?_
          refine G_top (b := σ 34 4) (by rw [e34]) ?_
          refine g_icmp_ge F d_X9_body_38 ⟨by omega, by omega⟩ ⟨by omega, by omega⟩ (fun h38 => ?_) (fun h38 => ?_)
          · have hin : i = σ 34 4 := by omega
            have ho0 : o = 0 := by rw [hin] at hCH; exact hCH.fin hW hU1
            refine g_aload_n F 0 rfl rfl d_X9_body_159 ?_
            refine g_getR F f_X9_19 d_X9_body_160 (hsM_30 hs) rfl ?_
            refine g_iload_n F 1 rfl rfl d_X9_body_163 ?_
            refine g_aload_n F 0 rfl rfl d_X9_body_164 ?_
            refine g_getR F f_X9_19 d_X9_body_165 (hsM_30 hs) rfl ?_
            refine g_iconst F d_X9_body_168 ?_
            refine g_iaload F d_X9_body_169 (hsM_34 hs) (by omega) (by omega) (by decide) ?_
            refine G_top (b := σ 34 4) (by rw [e34]) ?_
            refine g_iastore F d_X9_body_170 (hsM_34 hs) (by omega) (by omega) (by decide) ?_
            refine g_aload_n F 0 rfl rfl d_X9_body_171 ?_
            refine g_getR F f_X9_19 d_X9_body_172 (hsM_30 hs) rfl ?_
            refine g_iconst F d_X9_body_175 ?_
            refine g_iconst F d_X9_body_176 ?_
            refine g_iastore F d_X9_body_177 (hsM_34 hs) (by omega) (by omega) (by decide) ?_
            have hp9 : putM σ (up (up τ 34 x (σ 34 4)) 34 4 0) x Z D := by
              have p1 := hP.1
              have p2 := hP.2.1
              have p3 := hP.2.2.1
              refine ⟨by rw [up_other _ _ (by omega), up_same], up_same _ _ _ _, fun g g1 g2 => by rw [up_other _ _ g2, up_other _ _ g1, e34], ?_, ?_, ?_⟩
              · intro k k0 k1
                rw [up_ne _ (by decide), up_ne _ (by decide), up_ne _ (by decide), up_ne _ (by decide), up_ne _ (by decide), up_ne _ (by decide)]
                exact ⟨(p1 k k0 (by omega)).1, p2 k k0 (by omega) (fun j a b => by exfalso; omega), (p1 k k0 (by omega)).2⟩
              · intro p hp
                rw [up_ne _ (by decide), up_ne _ (by decide), up_ne _ (by decide), up_ne _ (by decide), up_ne _ (by decide), up_ne _ (by decide)]
                exact p3 p hp
              · intro j
                rw [up_ne _ (by decide), up_ne _ (by decide)]
                exact hP.2.2.2.1 j
            have hM9 := MOK_put h4 hW hV hM hp9
            have hLU9 := hLU h4 hff _ hp9
            have hs9 : Sm bmrows σ (up (up τ 34 x (σ 34 4)) 34 4 0) := ((hP.2.2.2.2.wide (by decide)).up (by decide) _ _).up (by decide) _ _
            have r37 : (up (up τ 34 x (σ 34 4)) 34 4 0) 37 = σ 37 := by rw [up_ne _ (by decide), up_ne _ (by decide)]; exact hP.2.2.2.2 37 (by decide)
            have r38 : (up (up τ 34 x (σ 34 4)) 34 4 0) 38 = σ 38 := by rw [up_ne _ (by decide), up_ne _ (by decide)]; exact hP.2.2.2.2 38 (by decide)
            have r39 : (up (up τ 34 x (σ 34 4)) 34 4 0) 39 = σ 39 := by rw [up_ne _ (by decide), up_ne _ (by decide)]; exact hP.2.2.2.2 39 (by decide)
            refine g_aload_n F 0 rfl rfl d_X9_body_178 ?_
            refine g_Vv F (own := RX9) (c_X9_layTables l E q sh (up (up τ 34 x (σ 34 4)) 34 4 0) hs L U hM9 (fun f => by rw [r37]; exact hT f) (fun f => by rw [r38]; exact hUR f) (fun f => by rw [r39]; exact hC f) hLU9.1 hLU9.2) k_X9_64 (hsM_30 hs) rfl rfl [] d_X9_body_179 ⟨rfl, rfl, by decide, by decide⟩ ⟨Nat.zero_le _, Nat.zero_le _⟩ rfl (Nat.le_of_ble_eq_true rfl) ?_
            intro τ9 hz9
            have e934 := hz9.1 34 (by decide)
            refine g_aload_n F 0 rfl rfl d_X9_body_182 ?_
            refine g_getR F f_X9_19 d_X9_body_183 (hsM_30 hs) rfl ?_
            refine g_iload_n F 1 rfl rfl d_X9_body_186 ?_
            refine g_iaload F d_X9_body_187 (hsM_34 hs) (by omega) (by omega) (by decide) ?_
            exact hQ d_X9_body_188 (⟨fun h => absurd h4 h, fun _ => ⟨fun h => absurd hff h, fun _ => ⟨by rw [e934, up_other _ _ (by omega), up_same], hp9.move hz9.1, MOK_put h4 hW hV hM (hp9.move hz9.1), hz9.2.1, hz9.2.2.1, hz9.2.2.2.1, hz9.2.2.2.2, hs9.trans (hz9.1.wide (by decide))⟩⟩⟩)
          · have hdep := hCH.dep hW (by omega) hU1
            have hsi : τ 31 (120 + i) = σ 31 (120 + i) := (hP.2.2.1 (120 + i) (by omega)).1
            have hpt : pts (σ 31 (120 + i)) x = tx (σ 31 (120 + i)) := pts_ok (hV i (by omega) (by omega)).1 (hV i (by omega) (by omega)).2
            refine g_aload_n F 0 rfl rfl d_X9_body_41 ?_
            refine g_getR F f_X9_7 d_X9_body_42 (hsM_30 hs) rfl ?_
            refine g_iload_n F 2 rfl rfl d_X9_body_45 ?_
            refine g_iload F 4 rfl d_X9_body_46 ?_
            refine g_iadd F d_X9_body_48 ?_
            refine g_aload_n F 0 rfl rfl d_X9_body_49 ?_
            refine g_getR F f_X9_7 d_X9_body_50 (hsM_30 hs) rfl ?_
            refine g_bipush F (by decide) d_X9_body_53 ?_
            refine g_iload F 4 rfl d_X9_body_55 ?_
            refine g_iadd F d_X9_body_57 ?_
            refine g_iaload F d_X9_body_58 (hsM_31 hs) (by omega) (by omega) (by decide) ?_
            refine G_top (b := σ 31 (120 + i)) (hsi) ?_
            refine g_iastore F d_X9_body_59 (hsM_31 hs) (by omega) (by omega) (by decide) ?_
            refine g_aload_n F 0 rfl rfl d_X9_body_60 ?_
            refine g_getR F f_X9_16 d_X9_body_61 (hsM_30 hs) rfl ?_
            refine g_iload_n F 2 rfl rfl d_X9_body_64 ?_
            refine g_iload F 4 rfl d_X9_body_65 ?_
            refine g_iadd F d_X9_body_67 ?_
            refine g_iload_n F 3 rfl rfl d_X9_body_68 ?_
            refine g_iastore F d_X9_body_69 (hsM_33 hs) (by omega) (by omega) (by decide) ?_
            refine g_iinc F (lv' := [(3, vI (o + 1)), (0, .ref (q 30)), (1, vI x), (2, vI (x * 30)), (4, vI i)]) 3 rfl rfl (by decide) rfl d_X9_body_70 ?_
            refine g_aload_n F 1 rfl rfl d_X9_body_73 ?_
            refine g_getR F f_X9_25 d_X9_body_74 (hsM_30 hs) rfl ?_
            refine g_iload_n F 0 rfl rfl d_X9_body_77 ?_
            refine g_iload F 4 rfl d_X9_body_78 ?_
            refine g_iastore F d_X9_body_80 (hsM_36 hs) (by omega) (by omega) (by decide) ?_
            refine g_aload_n F 1 rfl rfl d_X9_body_81 ?_
            refine g_getR F f_X9_22 d_X9_body_82 (hsM_30 hs) rfl ?_
            refine g_iload_n F 0 rfl rfl d_X9_body_85 ?_
            refine g_aload_n F 1 rfl rfl d_X9_body_86 ?_
            refine g_getR F f_X9_7 d_X9_body_87 (hsM_30 hs) rfl ?_
            refine g_iload_n F 3 rfl rfl d_X9_body_90 ?_
            refine g_iload F 4 rfl d_X9_body_91 ?_
            refine g_iadd F d_X9_body_93 ?_
            refine g_iaload F d_X9_body_94 (hsM_31 hs) (by omega) (by omega) (by decide) ?_
            refine G_top (b := σ 31 (120 + i)) (by rw [up_ne _ (by decide), up_ne _ (by decide), up_same]) ?_
            refine g_iload_n F 2 rfl rfl d_X9_body_95 ?_
            refine g_Si F (own := RX9) (c_X9_partsOf l E q sh (up (up (up τ 31 ((x * 30) + i) (σ 31 (120 + i))) 33 ((x * 30) + i) o) 36 (o + 1) i) (σ 31 (120 + i)) x (hM.2 _) h4) k_X9_102 [vI (o + 1), .ref (q 35)] d_X9_body_96 ⟨rfl, rfl, by decide, by decide⟩ ⟨Nat.zero_le _, Nat.zero_le _⟩ rfl (Nat.le_of_ble_eq_true rfl) ?_
            rintro _ _ ⟨rfl, rfl⟩
            refine G_top (b := tx (σ 31 (120 + i))) (hpt) ?_
            refine g_iastore F d_X9_body_99 (hsM_35 hs) (by omega) (by omega) (by decide) ?_
            have loop100 : ∀ (nn : Nat) (o2 : Int) (τ2 : Sg), (CH (fun i => σ 31 (120 + i)) Z D (τ2 36) (τ2 35) (σ 34 4) (i + 1) o2) → (PLC σ τ2 x Z D (σ 34 4) (i + 1) o2) → (o2).toNat < nn → G X E 5 q sh τ2 0 0 Q 100 [(0, .ref (q 30)), (1, vI x), (2, vI (x * 30)), (3, vI o2), (4, vI i)] [] := by
              intro n100
              induction n100 with
              | zero => intro o2 τ2 hCH2 hP2 hm100; exact absurd hm100 (Nat.not_lt_zero _)
              | succ n100 ih100 =>
                intro o2 τ2 hCH2 hP2 hm100
                have ho2 := hCH2.1
                have f34 : τ2 34 = σ 34 := hP2.2.2.2.2 34 (by decide)
                refine g_iload_n F 3 rfl rfl d_X9_body_100 ?_
                refine g_if_le F d_X9_body_101 ⟨by omega, by omega⟩ (fun h101 => ?_) (fun h101 => ?_)
                · refine g_iinc F (lv' := [(4, vI (i + 1)), (0, .ref (q 30)), (1, vI x), (2, vI (x * 30)), (3, vI o2)]) 4 rfl rfl (by decide) rfl d_X9_body_153 ?_
                  refine g_goto F d_X9_body_156 ?_
                  refine G_sub (ks := [1, 2, 3, 4, 0]) rfl ?_
                  exact ih30 o2 (i + 1) τ2 (by omega) hCH2 (fun z => by have := (hCH2.2.2.2 o2 z (Int.le_refl _)).2.2.1; omega) hP2 (by omega)
                · obtain ⟨hA1, hA2, hA3, hA4, hA5⟩ := hCH2.2.2.2 o2 (by omega) (Int.le_refl _)
                  have hA3 : 0 ≤ τ2 35 o2 ∧ τ2 35 o2 ≤ tx (σ 31 (120 + τ2 36 o2)) := hA3
                  have hA6 := tx_in (σ 31 (120 + τ2 36 o2))
                  refine g_aload_n F 0 rfl rfl d_X9_body_104 ?_
                  refine g_getR F f_X9_22 d_X9_body_105 (hsM_30 hs) rfl ?_
                  refine g_iload_n F 3 rfl rfl d_X9_body_108 ?_
                  refine g_iaload F d_X9_body_109 (hsM_35 hs) (by omega) (by omega) (by decide) ?_
                  refine g_if_ne F d_X9_body_110 ⟨by omega, by omega⟩ (fun h110 => ?_) (fun h110 => ?_)
                  · refine g_iinc F (lv' := [(4, vI (i + 1)), (0, .ref (q 30)), (1, vI x), (2, vI (x * 30)), (3, vI o2)]) 4 rfl rfl (by decide) rfl d_X9_body_153 ?_
                    refine g_goto F d_X9_body_156 ?_
                    refine G_sub (ks := [1, 2, 3, 4, 0]) rfl ?_
                    exact ih30 o2 (i + 1) τ2 (by omega) hCH2 (fun z => by have := (hCH2.2.2.2 o2 z (Int.le_refl _)).2.2.1; omega) hP2 (by omega)
                  · refine g_aload_n F 0 rfl rfl d_X9_body_113 ?_
                    refine g_getR F f_X9_13 d_X9_body_114 (hsM_30 hs) rfl ?_
                    refine g_iload_n F 2 rfl rfl d_X9_body_117 ?_
                    refine g_aload_n F 0 rfl rfl d_X9_body_118 ?_
                    refine g_getR F f_X9_25 d_X9_body_119 (hsM_30 hs) rfl ?_
                    refine g_iload_n F 3 rfl rfl d_X9_body_122 ?_
                    refine g_iaload F d_X9_body_123 (hsM_36 hs) (by omega) (by omega) (by decide) ?_
                    refine g_iadd F d_X9_body_124 ?_
                    refine g_iload F 4 rfl d_X9_body_125 ?_
                    refine g_aload_n F 0 rfl rfl d_X9_body_127 ?_
                    refine g_getR F f_X9_25 d_X9_body_128 (hsM_30 hs) rfl ?_
                    refine g_iload_n F 3 rfl rfl d_X9_body_131 ?_
                    refine g_iaload F d_X9_body_132 (hsM_36 hs) (by omega) (by omega) (by decide) ?_
                    refine g_isub F d_X9_body_133 ?_
                    refine g_iconst F d_X9_body_134 ?_
                    refine g_iadd F d_X9_body_135 ?_
                    refine g_iastore F d_X9_body_136 (hsM_32 hs) (by omega) (by omega) (by decide) ?_
                    refine g_iinc F (lv' := [(3, vI (o2 + (-1))), (0, .ref (q 30)), (1, vI x), (2, vI (x * 30)), (4, vI i)]) 3 rfl rfl (by decide) rfl d_X9_body_137 ?_
                    refine g_aload_n F 1 rfl rfl d_X9_body_140 ?_
                    refine g_getR F f_X9_22 d_X9_body_141 (hsM_30 hs) rfl ?_
                    refine g_iload_n F 0 rfl rfl d_X9_body_144 ?_
                    refine g_dup2 F rfl rfl d_X9_body_145 ?_
                    refine g_iaload F d_X9_body_146 (hsM_35 hs) (by omega) (by omega) (by decide) ?_
                    refine g_iconst F d_X9_body_147 ?_
                    refine g_isub F d_X9_body_148 ?_
                    refine g_iastore F d_X9_body_149 (hsM_35 hs) (by omega) (by omega) (by decide) ?_
                    refine g_goto F d_X9_body_150 ?_
                    have hCH8 : CH (fun i => σ 31 (120 + i)) Z D ((up (up τ2 32 ((x * 30) + (τ2 36 o2)) ((i - (τ2 36 o2)) + 1)) 35 (o2 + (-1)) (((up τ2 32 ((x * 30) + (τ2 36 o2)) ((i - (τ2 36 o2)) + 1)) 35 (o2 + (-1))) - 1)) 36) ((up (up τ2 32 ((x * 30) + (τ2 36 o2)) ((i - (τ2 36 o2)) + 1)) 35 (o2 + (-1)) (((up τ2 32 ((x * 30) + (τ2 36 o2)) ((i - (τ2 36 o2)) + 1)) 35 (o2 + (-1))) - 1)) 35) (σ 34 4) (i + 1) (o2 - 1) := by
                      rw [show (up (up τ2 32 ((x * 30) + (τ2 36 o2)) ((i - (τ2 36 o2)) + 1)) 35 (o2 + (-1)) (((up τ2 32 ((x * 30) + (τ2 36 o2)) ((i - (τ2 36 o2)) + 1)) 35 (o2 + (-1))) - 1)) 36 = τ2 36 by rw [up_ne _ (by decide), up_ne _ (by decide)]]
                      refine hCH2.pop hW (by omega) (by omega) h110 (fun j hj => ?_) ?_
                      · rw [up_other _ _ (by omega), up_ne _ (by decide)]
                      · rw [show o2 - 1 = o2 + (-1) by omega, up_same, up_ne _ (by decide)]
                    have hvz : (i - (τ2 36 o2)) + 1 = Z (τ2 36 o2) := by have := hCH2.size hW (by omega) (by omega) h110; omega
                    have hP8 : PLC σ (up (up τ2 32 ((x * 30) + (τ2 36 o2)) ((i - (τ2 36 o2)) + 1)) 35 (o2 + (-1)) (((up τ2 32 ((x * 30) + (τ2 36 o2)) ((i - (τ2 36 o2)) + 1)) 35 (o2 + (-1))) - 1)) x Z D (σ 34 4) (i + 1) (o2 + (-1)) := hP2.pop h4 (by omega) hvz (by omega) rfl
                    rw [show o2 - 1 = o2 + (-1) by omega] at hCH8
                    refine G_sub (ks := [1, 2, 3, 0, 4]) rfl ?_
                    exact ih100 (o2 + (-1)) (up (up τ2 32 ((x * 30) + (τ2 36 o2)) ((i - (τ2 36 o2)) + 1)) 35 (o2 + (-1)) (((up τ2 32 ((x * 30) + (τ2 36 o2)) ((i - (τ2 36 o2)) + 1)) 35 (o2 + (-1))) - 1)) hCH8 hP8 (by omega)
            have hCH9 : CH (fun i => σ 31 (120 + i)) Z D ((up (up (up (up τ 31 ((x * 30) + i) (σ 31 (120 + i))) 33 ((x * 30) + i) o) 36 (o + 1) i) 35 (o + 1) (tx (σ 31 (120 + i)))) 36) ((up (up (up (up τ 31 ((x * 30) + i) (σ 31 (120 + i))) 33 ((x * 30) + i) o) 36 (o + 1) i) 35 (o + 1) (tx (σ 31 (120 + i)))) 35) (σ 34 4) (i + 1) (o + 1) := by
              refine hCH.push hW (by omega) hU1 (fun j hj => ?_) ?_ (fun j hj => ?_) ?_
              · rw [up_ne _ (by decide), up_other _ _ hj, up_ne _ (by decide), up_ne _ (by decide)]
              · rw [up_ne _ (by decide), up_same]
              · rw [up_other _ _ hj, up_ne _ (by decide), up_ne _ (by decide), up_ne _ (by decide)]
              · rw [up_same]
            have hP9 : PLC σ (up (up (up (up τ 31 ((x * 30) + i) (σ 31 (120 + i))) 33 ((x * 30) + i) o) 36 (o + 1) i) 35 (o + 1) (tx (σ 31 (120 + i)))) x Z D (σ 34 4) (i + 1) (o + 1) := hP.put h4 (by omega) (by omega) (by omega) (fun j a b => (hCH.2.2.2 j a b).1.2) hdep.1 rfl (hM.2 _) rfl
            refine G_sub (ks := [1, 2, 3, 0, 4]) rfl ?_
            exact loop100 _ (o + 1) (up (up (up (up τ 31 ((x * 30) + i) (σ 31 (120 + i))) 33 ((x * 30) + i) o) 36 (o + 1) i) 35 (o + 1) (tx (σ 31 (120 + i)))) hCH9 hP9 (Nat.lt_succ_self _)
      have hm1 : Sm [31, 32, 33, 35, 36] σ τ1 := hz1.2.wide (by decide)
      refine G_sub (ks := [3, 4, 2, 1, 0]) rfl ?_
      exact loop30 _ 0 0 τ1 (by omega) ⟨by omega, fun z => by exfalso; omega, fun _ => Or.inl rfl, fun j a b => by exfalso; omega⟩ (fun z => by exfalso; omega) ⟨fun k a b => by exfalso; omega, fun k a b => by exfalso; omega, fun p _ => by rw [hz1.2 31 (by decide), hz1.2 32 (by decide), hz1.2 33 (by decide)]; exact ⟨rfl, rfl, rfl⟩, fun j => by rw [hz1.2 31 (by decide)]; exact hM.2 j, hm1⟩ (Nat.lt_succ_self _)
    · refine g_bipush F (by decide) d_X9_body_17 ?_
      exact hQ d_X9_body_19 (⟨fun h => absurd h4 h, fun _ => ⟨fun _ => ⟨rfl, hz1.2⟩, fun h => by exfalso; omega⟩⟩)
  · refine g_iconst F d_X9_body_7 ?_
    exact hQ d_X9_body_8 (⟨fun _ => ⟨rfl, rfl⟩, fun h => absurd h h4⟩)
