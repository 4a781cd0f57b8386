/-! class and reference side by side -/
theorem mvl_S {S S' Z Z' : Int → Int} {T : TB} {V : Int → Bool} {s p : Int} (hS : S' p = S p) (hZ : ∀ j, 0 ≤ j → j < tx (S p) → tp Z' p j = tp Z p j) : mvl S' Z' T V s p = mvl S Z T V s p := by
  unfold mvl
  rw [hS]
  by_cases k1 : kd (S p) = 1
  · rw [if_pos k1, if_pos k1]
  rw [if_neg k1, if_neg k1]
  by_cases k3 : kd (S p) = 3
  · rw [if_pos k3, if_pos k3]
  rw [if_neg k3, if_neg k3]
  by_cases k4 : kd (S p) = 4
  · have h5 := tx_4 k4
    rw [if_pos k4, if_pos k4, hZ 0 (by omega) (by omega), hZ 1 (by omega) (by omega)]
  rw [if_neg k4, if_neg k4]
  by_cases k5 : kd (S p) = 5
  · have h5 := tx_5 k5
    rw [if_pos k5, if_pos k5, hZ 0 (by omega) (by omega), hZ 1 (by omega) (by omega), hZ 2 (by omega) (by omega)]
  rw [if_neg k5, if_neg k5]
  by_cases k6 : kd (S p) = 6
  · rw [if_pos k6, if_pos k6]
    have h5 := tx_6 k6
    have h7 := nA_in (wo (S p))
    have e : c3 (nA (wo (S p))) (V (tp Z' p 0)) (V (tp Z' p 1)) (V (tp Z' p 2)) = c3 (nA (wo (S p))) (V (tp Z p 0)) (V (tp Z p 1)) (V (tp Z p 2)) := by
      have h8 : nA (wo (S p)) = 0 ∨ nA (wo (S p)) = 1 ∨ nA (wo (S p)) = 2 ∨ nA (wo (S p)) = 3 := by omega
      rcases h8 with h8 | h8 | h8 | h8
      · rw [h8]; simp [c3]
      · rw [hZ 0 (by omega) (by omega), h8]; simp [c3]
      · rw [hZ 0 (by omega) (by omega), hZ 1 (by omega) (by omega), h8]; simp [c3]
      · rw [hZ 0 (by omega) (by omega), hZ 1 (by omega) (by omega), hZ 2 (by omega) (by omega)]
    rw [e]
  · rw [if_neg k6, if_neg k6]
theorem ul_S {S S' Z Z' : Int → Int} {U : Int → Int → Int} {C : Int → Int} {a p : Int} (hS : S' p = S p) (hZ : ∀ j, 0 ≤ j → j < tx (S p) → tp Z' p j = tp Z p j) : ul S' Z' U C a p = ul S Z U C a p := by
  unfold ul
  rw [hS]
  by_cases k3 : kd (S p) = 3
  · rw [if_pos k3, if_pos k3]
  rw [if_neg k3, if_neg k3]
  by_cases k4 : kd (S p) = 4
  · have h5 := tx_4 k4
    rw [if_pos k4, if_pos k4, hZ 0 (by omega) (by omega), hZ 1 (by omega) (by omega)]
  rw [if_neg k4, if_neg k4]
  by_cases k5 : kd (S p) = 5
  · have h5 := tx_5 k5
    rw [if_pos k5, if_pos k5, hZ 0 (by omega) (by omega), hZ 1 (by omega) (by omega), hZ 2 (by omega) (by omega)]
  rw [if_neg k5, if_neg k5]
  by_cases k6 : kd (S p) = 6
  · have h5 := tx_6 k6
    rw [if_pos k6, if_pos k6]
    congr 1
    exact u3_congr (fun j h0 h1 _ => by rw [hZ j h0 (by omega)])
  · rw [if_neg k6, if_neg k6]
/-- two tellings of the same BODIES -/
def SameB (N S Z N' S' Z' : Int → Int) : Prop := (∀ f, 0 ≤ f → f < 4 → N' f = N f) ∧ ∀ f p, 0 ≤ f → f < 4 → f * 30 ≤ p → p < f * 30 + N f → S' p = S p ∧ Z' p = Z p
theorem SameB.tp {N S Z D N' S' Z' : Int → Int} (h : SameB N S Z N' S' Z') {f p j : Int} (f0 : 0 ≤ f) (f1 : f < 4) (hW : Wf S Z D (f * 30) (N f)) (p0 : f * 30 ≤ p) (p1 : p < f * 30 + N f) (j0 : 0 ≤ j) (j1 : j < tx (S p)) : tp Z' p j = tp Z p j :=
  tp_congr' (e := f * 30 + N f) (t := tx (S p)) (fun q a b => (h.2 f q f0 f1 (by omega) b).2) (fun i a b => ⟨((hW.2.2.2.2 p p0 p1).2.1 i a b).1, ((hW.2.2.2.2 p p0 p1).2.1 i a b).2.1⟩) j0 (by omega)
theorem SameB.sol {N S Z D N' S' Z' : Int → Int} (h : SameB N S Z N' S' Z') {f s : Int} {T : TB} {V : Int → Bool} (f0 : 0 ≤ f) (f1 : f < 4) (hW : Wf S Z D (f * 30) (N f)) : Sol S' Z' T V s (f * 30) (N' f) ↔ Sol S Z T V s (f * 30) (N f) := by
  unfold Sol
  rw [h.1 f f0 f1]
  constructor
  · intro k p p0 p1
    rw [k p p0 p1]
    exact mvl_S (h.2 f p f0 f1 p0 p1).1 (fun j a b => h.tp f0 f1 hW p0 p1 a b)
  · intro k p p0 p1
    rw [k p p0 p1]
    exact (mvl_S (h.2 f p f0 f1 p0 p1).1 (fun j a b => h.tp f0 f1 hW p0 p1 a b)).symm
theorem SameB.solU {N S Z D N' S' Z' : Int → Int} (h : SameB N S Z N' S' Z') {f a : Int} {U : Int → Int → Int} {C : Int → Int} (f0 : 0 ≤ f) (f1 : f < 4) (hW : Wf S Z D (f * 30) (N f)) : SolU S' Z' U C a (f * 30) (N' f) ↔ SolU S Z U C a (f * 30) (N f) := by
  unfold SolU
  rw [h.1 f f0 f1]
  constructor
  · intro k p p0 p1
    rw [k p p0 p1]
    exact ul_S (h.2 f p f0 f1 p0 p1).1 (fun j a b => h.tp f0 f1 hW p0 p1 a b)
  · intro k p p0 p1
    rw [k p p0 p1]
    exact (ul_S (h.2 f p f0 f1 p0 p1).1 (fun j a b => h.tp f0 f1 hW p0 p1 a b)).symm
theorem SameB.lfpT {N S Z D N' S' Z' : Int → Int} (h : SameB N S Z N' S' Z') (hW : ∀ f, 0 ≤ f → f < 4 → Wf S Z D (f * 30) (N f)) {T : TB} (hT : LfpT N S Z T) : LfpT N' S' Z' T := by
  obtain ⟨a, b, c⟩ := hT
  refine ⟨a, fun f f0 f1 s s0 s1 => ?_, fun L hM hP => c L hM (fun f f0 f1 s s0 s1 => ?_)⟩
  · obtain ⟨V, v1, v2⟩ := b f f0 f1 s s0 s1
    exact ⟨V, (h.sol f0 f1 (hW f f0 f1)).mpr v1, v2⟩
  · obtain ⟨V, v1, v2⟩ := hP f f0 f1 s s0 s1
    exact ⟨V, (h.sol f0 f1 (hW f f0 f1)).mp v1, v2⟩
theorem SameB.lfpU {N S Z D N' S' Z' : Int → Int} (h : SameB N S Z N' S' Z') (hW : ∀ f, 0 ≤ f → f < 4 → Wf S Z D (f * 30) (N f)) {U : Int → Int → Int} (hU : LfpU N S Z U) : LfpU N' S' Z' U := by
  obtain ⟨⟨a, b⟩, c⟩ := hU
  refine ⟨⟨a, fun f f0 f1 x x0 x1 => ?_⟩, fun L hL => c L ⟨hL.1, fun f f0 f1 x x0 x1 => ?_⟩⟩
  · obtain ⟨C, c1, c2, c3⟩ := b f f0 f1 x x0 x1
    exact ⟨C, c1, (h.solU f0 f1 (hW f f0 f1)).mpr c2, c3⟩
  · obtain ⟨C, c1, c2, c3⟩ := hL.2 f f0 f1 x x0 x1
    exact ⟨C, c1, (h.solU f0 f1 (hW f f0 f1)).mp c2, c3⟩
theorem Sol.tab {S Z : Int → Int} {T T' : TB} {V : Int → Bool} {s b n : Int} (h : ∀ g r, 0 ≤ g → g < 4 → 0 ≤ r → r ≤ aA g → T g r = T' g r) (hV : Sol S Z T V s b n) : Sol S Z T' V s b n := by
  intro p h1 h2
  rw [hV p h1 h2]
  unfold mvl
  by_cases k6 : kd (S p) = 6
  · have h6 := wo_6 k6
    have i := c3_in (f := wo (S p)) (V (tp Z p 0)) (V (tp Z p 1)) (V (tp Z p 2))
    rw [if_neg (by omega), if_neg (by omega), if_neg (by omega), if_neg (by omega), if_pos k6, if_neg (by omega), if_neg (by omega), if_neg (by omega), if_neg (by omega), if_pos k6]
    exact h _ _ h6.1 h6.2 i.1 i.2
  · rw [if_neg k6, if_neg k6]
/-- the class and the reference hold the same -/
def Pads (σ : Sg) : Prop := σ 34 4 = σ 1 1 ∧ ∀ i, 0 ≤ i → i < σ 1 1 → σ 31 (120 + i) = σ 2 i
def Bods (σ : Sg) : Prop := (∀ f, 0 ≤ f → f < 4 → σ 34 f = σ 6 f) ∧ ∀ f p, inB σ f p → σ 31 p = σ 7 p ∧ σ 32 p = σ 10 p ∧ σ 33 p = σ 11 p
def Needs (σ : Sg) : Prop := ∀ f, 0 ≤ f → f < 4 → σ 15 f = need3 (fun s => tbl σ f s) f
def Twin (σ : Sg) : Prop := CSt σ ∧ TOK σ σ ∧ Needs σ ∧ UOK σ σ ∧ (MOK σ ∧ MTR σ ∧ UR σ ∧ C2 σ) ∧ Pads σ ∧ Bods σ ∧ LyD σ (tbl σ) (kn σ)
def INV (σ : Sg) (re rt : RF) : Prop := Twin σ ∧ RSt σ re rt
theorem Bods.same {σ : Sg} (h : Bods σ) : SameB (σ 6) (σ 7) (σ 10) (σ 34) (σ 31) (σ 32) :=
  ⟨h.1, fun f p f0 f1 p0 p1 => ⟨(h.2 f p ⟨⟨f0, f1⟩, p0, p1⟩).1, (h.2 f p ⟨⟨f0, f1⟩, p0, p1⟩).2.1⟩⟩
theorem Twin.wf {σ : Sg} (h : Twin σ) : ∀ f, 0 ≤ f → f < 4 → Wf (σ 7) (σ 10) (σ 11) (f * 30) (σ 6 f) := fun f a b => (h.1.2.2.2.1 f a b).1
theorem need_bit {T : TB} {f j : Int} (hf : 0 ≤ f ∧ f < 4) (hj : 0 ≤ j ∧ j < nA f) : bt (need3 (fun s => T f s) f) j = !T f (cutA f (bShl 1 j)) := by
  have hn := nA_in f
  obtain ⟨a, b, c⟩ := c3_bits hn (!T f (cutA f 1)) (!T f (cutA f 2)) (!T f (cutA f 4))
  unfold need3
  rcases three (y := j) (by omega) with rfl | rfl | rfl
  · rw [a, decide_eq_true hj.2]; rfl
  · rw [b, decide_eq_true hj.2]; rfl
  · rw [c, decide_eq_true hj.2]; rfl
theorem need_in {T : Int → Bool} {f : Int} : 0 ≤ need3 T f ∧ need3 T f ≤ aA f := by unfold need3; exact c3_in _ _ _
theorem Twin.tw {σ : Sg} (h : Twin σ) : TW σ σ := by
  obtain ⟨a, b, c, d, ⟨e1, e2, e3, e4⟩, p, ⟨q1, q2⟩, r⟩ := h
  refine ⟨a.2.2.2.1, a.2.2.2.2.2.2.2.2.2.2, fun f f0 f1 => ?_, e1, e2, q1, fun f p hp => ⟨(q2 f p hp).1, (q2 f p hp).2.1⟩, fun f j f0 f1 j0 j1 => ?_⟩
  · rw [c f f0 f1]
    have h1 := need_in (T := fun s => tbl σ f s) (f := f)
    have h2 := aA_in f
    omega
  · rw [c f f0 f1, need_bit ⟨f0, f1⟩ ⟨j0, j1⟩]
    have hn := nA_in f
    have h3 := cutA_in (f := f) ⟨f0, f1⟩ (shl3 (a := j) (by omega))
    rw [r.1 f _ f0 f1 h3.1 h3.2]
theorem MRun.congr {σ : Sg} {re rt re' rt' : RF} (h : MRun σ re rt) (e : ∀ f a w, inRun f a w → re' f a w = re f a w ∧ rt' f a w = rt f a w) : MRun σ re' rt' := by
  refine ⟨h.1, fun f a w hi => ?_, fun τ hτ f a w hi => ?_⟩
  · rw [(e f a w hi).1, (e f a w hi).2]; exact h.2.1 f a w hi
  · rw [(e f a w hi).1, (e f a w hi).2]; exact h.2.2 τ hτ f a w hi
theorem INV.mrun {σ : Sg} {re rt : RF} (h : INV σ re rt) : MRun σ re rt := by
  have ht := h.1.tw
  refine (m_run ht).congr (fun f a w hi => ?_)
  obtain ⟨_, a1, a2, _⟩ := h.2.1 σ (fun _ _ => rfl) ht.2.1 f a w hi
  obtain ⟨_, b1, b2, _⟩ := run_ok ht σ (fun _ _ => rfl) ht.2.1 f a w hi
  exact ⟨a1.symm.trans b1, a2.symm.trans b2⟩
theorem INV.ok {σ : Sg} {re rt : RF} (h : INV σ re rt) : reOk re := fun f a w hi => (h.2.in hi).1
abbrev srows : List Nat := [1, 2, 6, 7, 8, 9, 10, 11, 13, 14, 15, 17, 18, 19, 31, 32, 33, 34, 37, 38]
theorem Twin.rows {σ τ : Sg} (h : Twin σ) (e : ∀ k, k ∈ srows → τ k = σ k) (h4 : ∀ j, 0 ≤ τ 4 j ∧ τ 4 j ≤ 3) (hA : AH τ) (hC : C2 τ) : Twin τ := by
  have et : tbl τ = tbl σ := by unfold tbl; rw [e 14 (by decide)]
  have ek : kn τ = kn σ := by unfold kn; rw [e 18 (by decide)]
  have em : mtb τ = mtb σ := by unfold mtb; rw [e 37 (by decide)]
  have eu : unM τ = unM σ := by unfold unM; rw [e 38 (by decide)]
  obtain ⟨⟨q1, q2, q3, q4, q5, q6, q7, q8, q9, q10, q11⟩, b, c, d, ⟨e1, e2, e3, e4⟩, p, q, r⟩ := h
  refine ⟨⟨by rw [e 1 (by decide)]; exact q1, by rw [e 2 (by decide)]; exact q2, h4, BOK_rows q4 (fun k hk => e k (by revert k; decide)), by rw [e 7 (by decide)]; exact q5, fun j => by rw [e 13 (by decide)]; exact q6 j, fun j => by rw [e 14 (by decide)]; exact q7 j, fun j => by rw [e 17 (by decide)]; exact q8 j, fun j => by rw [e 18 (by decide)]; exact q9 j, fun j => by rw [e 19 (by decide)]; exact q10 j, hA⟩, ?_, ?_, ?_, ⟨MOK_rows e1 (fun k hk => e k (by revert k; decide)), fun f => by rw [e 37 (by decide)]; exact e2 f, fun f => by rw [e 38 (by decide)]; exact e3 f, hC⟩, ?_, ?_, ?_⟩
  · unfold TOK RW TR at b ⊢
    rw [e 6 (by decide), e 7 (by decide), e 10 (by decide), et, e 13 (by decide), e 14 (by decide)]
    exact b
  · unfold Needs at c ⊢
    rw [e 15 (by decide), et]
    exact c
  · unfold UOK KR at d ⊢
    rw [e 6 (by decide), e 7 (by decide), e 10 (by decide), ek, e 18 (by decide)]
    exact d
  · unfold Pads at p ⊢
    rw [e 34 (by decide), e 1 (by decide), e 31 (by decide), e 2 (by decide)]
    exact p
  · unfold Bods inB at q ⊢
    rw [e 34 (by decide), e 6 (by decide), e 31 (by decide), e 32 (by decide), e 33 (by decide), e 7 (by decide), e 10 (by decide), e 11 (by decide)]
    exact q
  · unfold LyD at r ⊢
    rw [et, ek, em, eu]
    exact r
theorem INV.rows {σ τ : Sg} {re rt : RF} (h : INV σ re rt) (e : ∀ k, k ∈ srows → τ k = σ k) (h4 : ∀ j, 0 ≤ τ 4 j ∧ τ 4 j ≤ 3) (hA : AH τ) (hC : C2 τ) (hK : KeptOk τ re rt) : INV τ re rt :=
  ⟨h.1.rows e h4 hA hC, h.2.1.move (fun k hk => e k (by revert k; decide)), hK, hA, fun f f0 f1 => by rw [e 15 (by decide)]; exact h.2.2.2.2 f f0 f1⟩
theorem KeptOk.row {σ τ : Sg} {re rt : RF} (h : KeptOk σ re rt) (e : τ 29 = σ 29) : KeptOk τ re rt := by unfold KeptOk at h ⊢; rw [e]; exact h
theorem INV.sm {σ τ : Sg} {re rt : RF} {ks : List Nat} (h : INV σ re rt) (m : Sm ks σ τ) (hk : ∀ k, k ∈ ks → k ∉ srows ∧ k ≠ 4 ∧ k ≠ 28 ∧ k ≠ 29 ∧ k ≠ 39) : INV τ re rt := by
  have g : ∀ k, k ∈ srows ∨ k = 4 ∨ k = 28 ∨ k = 29 ∨ k = 39 → τ k = σ k := by
    intro k hk'
    apply m k
    intro z
    obtain ⟨a, b, c, d, e⟩ := hk k z
    rcases hk' with x | x | x | x | x
    · exact a x
    · exact b x
    · exact c x
    · exact d x
    · exact e x
  exact h.rows (fun k hk => g k (Or.inl hk)) (fun j => by rw [g 4 (by simp)]; exact h.1.1.2.2.1 j) (fun f => by rw [g 28 (by simp)]; exact h.2.2.2.1 f) (fun j => by rw [g 39 (by simp)]; exact h.1.2.2.2.2.1.2.2.2 j) (h.2.2.1.row (g 29 (by simp)))
theorem INV.c34 {σ τ : Sg} {re rt : RF} (h : INV σ re rt) (m : Sm [3, 4] σ τ) (h4 : ∀ j, 0 ≤ τ 4 j ∧ τ 4 j ≤ 3) : INV τ re rt :=
  h.rows (fun k hk => m k (by revert k; decide)) h4 (fun f => by rw [m 28 (by decide)]; exact h.2.2.2.1 f) (fun j => by rw [m 39 (by decide)]; exact h.1.2.2.2.2.1.2.2.2 j) (h.2.2.1.row (m 29 (by decide)))
theorem INV.runs {σ τ : Sg} {re rt : RF} (h : INV σ re rt) (m : Sm orows σ τ) (hR : RSt τ re rt) : INV τ re rt :=
  h.rows (fun k hk => m k (by revert k; decide)) (fun j => by rw [m 4 (by decide)]; exact h.1.1.2.2.1 j) hR.2.2.1 (fun j => by rw [m 39 (by decide)]; exact h.1.2.2.2.2.1.2.2.2 j) hR.2.1
theorem INV.m35 {σ τ : Sg} {re rt : RF} (h : INV σ re rt) (m : Sm [35] σ τ) : INV τ re rt := h.sm m (by decide)
theorem INV.me {σ τ : Sg} {re rt : RF} (h : INV σ re rt) (m : Sm erows σ τ) : INV τ re rt := h.sm m (by decide)
theorem INV.m39 {σ τ : Sg} {re rt : RF} (h : INV σ re rt) (m : Sm [39] σ τ) (hC : C2 τ) : INV τ re rt :=
  h.rows (fun k hk => m k (by revert k; decide)) (fun j => by rw [m 4 (by decide)]; exact h.1.1.2.2.1 j) (fun f => by rw [m 28 (by decide)]; exact h.2.2.2.1 f) hC (h.2.2.1.row (m 29 (by decide)))
/-! the answers -/
theorem may_eq {σ : Sg} (h : Twin σ) (x y : Int) : vMay σ x y = (if 0 ≤ x ∧ x < 4 then (if 0 ≤ y ∧ y ≤ aA x then b2 (mtb σ x y) else -2) else -1) := by
  unfold vMay
  by_cases hx : 0 ≤ x ∧ x < 4
  · rw [if_pos hx, if_pos hx]
    by_cases hy : 0 ≤ y ∧ y ≤ aA x
    · rw [if_pos hy, if_pos hy, h.2.2.2.2.2.2.2.1 x y hx.1 hx.2 hy.1 hy.2]
    · rw [if_neg hy, if_neg hy]
  · rw [if_neg hx, if_neg hx]
theorem need_eq {σ : Sg} (h : Twin σ) {x : Int} (hx : 0 ≤ x ∧ x < 4) : need3 (fun s => tbl σ x s) x = need3 (fun s => mtb σ x s) x := by
  have r := h.2.2.2.2.2.2.2.1
  unfold need3
  have c1 := cutA_in hx (s := 1) (by decide)
  have c2 := cutA_in hx (s := 2) (by decide)
  have c4 := cutA_in hx (s := 4) (by decide)
  dsimp only
  rw [r x _ hx.1 hx.2 c1.1 c1.2, r x _ hx.1 hx.2 c2.1 c2.2, r x _ hx.1 hx.2 c4.1 c4.2]
theorem must_eq {σ : Sg} (h : Twin σ) (x : Int) : (if 0 ≤ x ∧ x < 4 then σ 15 x else -1) = (if 0 ≤ x ∧ x < 4 then need3 (fun s => mtb σ x s) x else -1) := by
  by_cases hx : 0 ≤ x ∧ x < 4
  · rw [if_pos hx, if_pos hx, h.2.2.1 x hx.1 hx.2, need_eq h hx]
  · rw [if_neg hx, if_neg hx]
theorem jl_eq {T T' : TB} {f i : Int} (hf : 0 ≤ f ∧ f < 4) (h : ∀ r, 0 ≤ r → r ≤ aA f → T f r = T' f r) : ∀ (k : Nat) (s n : Int), 0 ≤ s → s + k ≤ 8 → jl T f i k s n = jl T' f i k s n
  | 0, _, _, _, _ => rfl
  | k + 1, s, n, s0, s1 => by
    have e : isJ T f s = isJ T' f s := by
      unfold isJ
      have c := cutA_in hf (s := s) (by omega)
      rw [h _ c.1 c.2]
      apply propext
      constructor
      · rintro ⟨a, b⟩
        refine ⟨a, fun r r0 r1 r2 => ?_⟩
        have c2 := cutA_in hf (s := r) (by omega)
        rw [← h _ c2.1 c2.2]
        exact b r r0 r1 r2
      · rintro ⟨a, b⟩
        refine ⟨a, fun r r0 r1 r2 => ?_⟩
        have c2 := cutA_in hf (s := r) (by omega)
        rw [h _ c2.1 c2.2]
        exact b r r0 r1 r2
    have eb : jB T f s = jB T' f s := by
      by_cases z : isJ T f s
      · rw [jB_t z, jB_t (by rw [← e]; exact z)]
      · rw [jB_f z, jB_f (by rw [← e]; exact z)]
    unfold jl
    rw [eb, jl_eq hf h k (s + 1) (n + 1) (by omega) (by omega), jl_eq hf h k (s + 1) n (by omega) (by omega)]
theorem joint_eq {σ : Sg} (h : Twin σ) (x y : Int) : (if 0 ≤ x ∧ x < 4 then jl (tbl σ) x y (aA x + 1).toNat 0 0 else -1) = (if 0 ≤ x ∧ x < 4 then jl (mtb σ) x y (aA x + 1).toNat 0 0 else -1) := by
  by_cases hx : 0 ≤ x ∧ x < 4
  · have ha := aA_in x
    rw [if_pos hx, if_pos hx]
    exact jl_eq hx (fun r a b => (h.2.2.2.2.2.2.2.1 x r hx.1 hx.2 a b).symm) _ 0 0 (by decide) (by omega)
  · rw [if_neg hx, if_neg hx]
theorem uses_eq {σ : Sg} (h : Twin σ) (x y : Int) : (if (0 ≤ x ∧ x < 4) ∧ 0 ≤ y ∧ y < nA x then σ 18 (x * 3 + y) else -1) = (if (0 ≤ x ∧ x < 4) ∧ 0 ≤ y ∧ y < nA x then σ 38 (3 * x + y) else -1) := by
  by_cases hx : (0 ≤ x ∧ x < 4) ∧ 0 ≤ y ∧ y < nA x
  · rw [if_pos hx, if_pos hx]
    exact (h.2.2.2.2.2.2.2.2 x y hx.1.1 hx.1.2 hx.2.1 hx.2.2).symm
  · rw [if_neg hx, if_neg hx]
theorem node_eq {σ : Sg} (h : Twin σ) (x y k : Int) : vNode σ x y k = vNodeM σ x y k := by
  obtain ⟨q1, q2⟩ := h.2.2.2.2.2.2.1
  unfold vNode vNodeM
  by_cases hx : 0 ≤ x ∧ x < 4
  · rw [q1 x hx.1 hx.2]
    by_cases hy : (0 ≤ x ∧ x < 4) ∧ 0 ≤ y ∧ y < σ 6 x
    · rw [if_pos hy, if_pos hy]
      have h9 := q2 x (x * 30 + y) ⟨hx, by omega, by omega⟩
      rw [h9.1, h9.2.1, h9.2.2]
    · rw [if_neg hy, if_neg hy]
  · rw [if_neg (fun z => hx z.1), if_neg (fun z => hx z.1)]
theorem told_eq {σ : Sg} (h : Twin σ) (x : Int) : vTold σ x = (if 0 ≤ x ∧ x ≤ 4 then (if x = 0 then σ 34 4 else σ 34 (x - 1)) else -2) := by
  unfold vTold
  by_cases hx : 0 ≤ x ∧ x ≤ 4
  · rw [if_pos hx, if_pos hx]
    by_cases h0 : x = 0
    · rw [if_pos h0, if_pos h0]; exact h.2.2.2.2.2.1.1.symm
    · rw [if_neg h0, if_neg h0]; exact (h.2.2.2.2.2.2.1.1 (x - 1) (by omega) (by omega)).symm
  · rw [if_neg hx, if_neg hx]
theorem Twin.pv {σ : Sg} (h : Twin σ) {x : Int} (hx : 0 ≤ x ∧ x < 4) : PVok σ x (fun s p => bt (σ 13 p) s) := by
  intro s s0 s1
  have ha := aA_in x
  have h1 := h.2.1.2.2.2.1 x hx.1 hx.2 s s0 (by omega)
  have h2 := (h.2.2.2.2.2.2.1.same.sol (T := tbl σ) hx.1 hx.2 (h.wf x hx.1 hx.2)).mpr h1
  exact h2.tab (fun g r a b c d => (h.2.2.2.2.2.2.2.1 g r a b c d).symm)
theorem part_eq {σ : Sg} (h : Twin σ) (x y k : Int) : vPart σ x y k = vPartM σ (fun s p => bt (σ 13 p) s) x y k := by
  obtain ⟨q1, q2⟩ := h.2.2.2.2.2.2.1
  unfold vPart vPartM
  by_cases hx : 0 ≤ x ∧ x < 4
  · rw [q1 x hx.1 hx.2]
    by_cases hy : (0 ≤ x ∧ x < 4) ∧ 0 ≤ y ∧ y < σ 6 x
    · rw [if_pos hy, if_pos hy]
      by_cases k0 : k = 0
      · rw [if_pos k0, if_pos (by omega), if_pos k0]
      · rw [if_neg k0]
        by_cases k1 : k = 1
        · rw [if_pos k1, if_pos (by omega), if_neg k0]
        · rw [if_neg k1, if_neg (by omega)]
    · rw [if_neg hy, if_neg hy]
  · rw [if_neg (fun z => hx z.1), if_neg (fun z => hx z.1)]
theorem Twin.n6 {σ : Sg} (h : Twin σ) : ∀ f, 0 ≤ f → f < 4 → 0 ≤ σ 6 f ∧ σ 6 f ≤ 30 := fun f a b => by
  have := h.wf f a b
  have h1 := this.1
  have h2 := this.2.1
  omega
theorem Twin.n34 {σ : Sg} (h : Twin σ) : ∀ f, 0 ≤ f → f < 4 → 0 ≤ σ 34 f ∧ σ 34 f ≤ 30 := fun f a b => by
  rw [h.2.2.2.2.2.2.1.1 f a b]
  exact h.n6 f a b
theorem Twin.n4 {σ : Sg} (h : Twin σ) : 0 ≤ σ 34 4 ∧ σ 34 4 ≤ 30 := by rw [h.2.2.2.2.2.1.1]; exact h.1.1
theorem Twin.ff {σ : Sg} (h : Twin σ) (x : Int) : ffM σ x = ffP σ x := ffM_ffP h.2.2.2.2.2.1.1 h.2.2.2.2.2.1.2
