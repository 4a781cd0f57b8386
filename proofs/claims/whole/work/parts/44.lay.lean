/-! the reference's tables: the least as well -/
theorem mv_le2 {S Z D : Int → Int} {b n : Int} {T T' : TB} {V V' : Int → Bool} {s : Int} (hW : Wf S Z D b n) (hT : MonoT T') (hTT : leT T T') (hV : Sol S Z T V s b n) (hV' : Sol S Z T' V' s b n) :
    ∀ (k : Nat) (p : Int), b ≤ p → p < b + n → b + n - p ≤ k → V p = true → V' p = true := by
  intro k
  induction k with
  | zero => intro p h1 h2 h3; exfalso; omega
  | succ k ih =>
    intro p h1 h2 h3 h
    have hc : ∀ j, 0 ≤ j → j < tx (S p) → V (tp Z p j) = true → V' (tp Z p j) = true := by
      intro j hj0 hj1 hv
      have h4 := (hW.2.2.2.2 p h1 h2).2.1 j hj0 hj1
      exact ih _ (by omega) h4.2.1 (by omega) hv
    rw [hV p h1 h2] at h
    rw [hV' p h1 h2]
    unfold mvl at h ⊢
    by_cases k1 : kd (S p) = 1
    · rw [if_pos k1]
    rw [if_neg k1] at h ⊢
    by_cases k3 : kd (S p) = 3
    · rw [if_pos k3] at h ⊢
      exact h
    rw [if_neg k3] at h ⊢
    by_cases k4 : kd (S p) = 4
    · rw [if_pos k4] at h ⊢
      have h5 := tx_4 k4
      simp only [Bool.and_eq_true] at h ⊢
      exact ⟨hc 0 (by omega) (by omega) h.1, hc 1 (by omega) (by omega) h.2⟩
    rw [if_neg k4] at h ⊢
    by_cases k5 : kd (S p) = 5
    · rw [if_pos k5] at h ⊢
      have h5 := tx_5 k5
      simp only [Bool.and_eq_true, Bool.or_eq_true] at h ⊢
      exact ⟨hc 0 (by omega) (by omega) h.1, h.2.elim (fun z => Or.inl (hc 1 (by omega) (by omega) z)) (fun z => Or.inr (hc 2 (by omega) (by omega) z))⟩
    rw [if_neg k5] at h ⊢
    by_cases k6 : kd (S p) = 6
    · rw [if_pos k6] at h ⊢
      have h5 := tx_6 k6
      have h6 := wo_6 k6
      have h7 := nA_in (wo (S p))
      have i1 := c3_in (f := wo (S p)) (V (tp Z p 0)) (V (tp Z p 1)) (V (tp Z p 2))
      have i2 := c3_in (f := wo (S p)) (V' (tp Z p 0)) (V' (tp Z p 1)) (V' (tp Z p 2))
      refine hT _ _ _ h6.1 h6.2 i1.1 i1.2 i2.1 i2.2 (c3_sub h7 ?_ ?_ ?_) (hTT _ _ h6.1 h6.2 i1.1 i1.2 h)
      · intro z; exact hc 0 (by omega) (by omega)
      · intro z; exact hc 1 (by omega) (by omega)
      · intro z; exact hc 2 (by omega) (by omega)
    · rw [if_neg k6] at h; cases h
theorem Sol_ex {S Z D : Int → Int} {b n : Int} (hW : Wf S Z D b n) (T : TB) (s : Int) : ∃ V, Sol S Z T V s b n := by
  have key : ∀ k : Nat, ∃ V : Int → Bool, ∀ p, b ≤ p → b + n - k ≤ p → p < b + n → V p = mvl S Z T V s p := by
    intro k
    induction k with
    | zero => exact ⟨fun _ => false, fun p a c d => by exfalso; omega⟩
    | succ k ih =>
      obtain ⟨V, hV⟩ := ih
      refine ⟨fun p => if p = b + n - (k + 1) then mvl S Z T V s p else V p, ?_⟩
      intro p a c d
      have e : mvl S Z T V s p = mvl S Z T (fun p => if p = b + n - (k + 1) then mvl S Z T V s p else V p) s p := by
        apply mvl_congr
        intro j j0 j1
        have h7 := (hW.2.2.2.2 p a d).2.1 j j0 j1
        rw [if_neg (by omega)]
      rw [← e]
      dsimp only
      split
      · rfl
      · exact hV p a (by omega) d
  obtain ⟨V, hV⟩ := key n.toNat
  exact ⟨V, fun p a c => hV p a (by have := hW.1; omega) c⟩
theorem SolU_ex {S Z D : Int → Int} {b n : Int} (hW : Wf S Z D b n) {U : Int → Int → Int} (hU : inU U) (x : Int) : ∃ C, in2 C ∧ SolU S Z U C x b n := by
  have key : ∀ k : Nat, ∃ C : Int → Int, in2 C ∧ ∀ p, b ≤ p → b + n - k ≤ p → p < b + n → C p = ul S Z U C x p := by
    intro k
    induction k with
    | zero => exact ⟨fun _ => 0, fun p => by dsimp only; omega, fun p a c d => by exfalso; omega⟩
    | succ k ih =>
      obtain ⟨C, h2, hC⟩ := ih
      refine ⟨fun p => if p = b + n - (k + 1) then ul S Z U C x p else C p, ?_, ?_⟩
      · intro p
        dsimp only
        split
        · exact ul_in hU h2
        · exact h2 p
      intro p a c d
      have e : ul S Z U C x p = ul S Z U (fun p => if p = b + n - (k + 1) then ul S Z U C x p else C p) x p := by
        apply ul_congr
        intro j j0 j1
        have h7 := (hW.2.2.2.2 p a d).2.1 j j0 j1
        rw [if_neg (by omega)]
      rw [← e]
      dsimp only
      split
      · rfl
      · exact hC p a (by omega) d
  obtain ⟨C, h2, hC⟩ := key n.toNat
  exact ⟨C, h2, fun p a c => hC p a (by have := hW.1; omega) c⟩
theorem sub.trans {a b c : Int} (h : sub a b) (h' : sub b c) : sub a c := fun x x0 x1 z => h' x x0 x1 (h x x0 x1 z)
noncomputable def upT (T : TB) : TB := fun f s => @decide (∀ r, 0 ≤ r → r ≤ aA f → sub s r → T f r = true) (Classical.propDecidable _)
theorem upT_iff {T : TB} {f s : Int} : upT T f s = true ↔ ∀ r, 0 ≤ r → r ≤ aA f → sub s r → T f r = true := by
  unfold upT
  exact @decide_eq_true_iff _ (Classical.propDecidable _)
theorem lay_eq {N S Z D : Int → Int} {L T : TB} (hW : ∀ f, 0 ≤ f → f < 4 → Wf S Z D (f * 30) (N f)) (hL : LfpT N S Z L) (hle : leT T L) (hP : PreT N S Z T) (g r : Int) (g0 : 0 ≤ g) (g1 : g < 4) (r0 : 0 ≤ r) (r1 : r ≤ aA g) : T g r = L g r := by
  have hm : MonoT (upT T) := by
    intro g r r' _ _ _ _ _ _ hs h
    rw [upT_iff] at h ⊢
    exact fun s a b c => h s a b (hs.trans c)
  have hu : leT (upT T) T := fun g r _ _ a b h => upT_iff.mp h r a b (sub.refl _)
  have hp : PreT N S Z (upT T) := by
    intro f f0 f1 s s0 s1
    obtain ⟨V, hV⟩ := Sol_ex (hW f f0 f1) (upT T) s
    refine ⟨V, hV, fun h => ?_⟩
    rw [upT_iff]
    intro s' a b c
    obtain ⟨V', hV', e⟩ := hP f f0 f1 s' a b
    have hn := (hW f f0 f1).1
    exact e (hV.le (hW f f0 f1) hm hu c hV' (p := f * 30) (by omega) (by omega) h)
  have h1 := hL.2.2 _ hm hp g r g0 g1 r0 r1
  have h2 := hle g r g0 g1 r0 r1
  have h3 := hu g r g0 g1 r0 r1
  cases hT : T g r <;> cases hLL : L g r
  · rfl
  · rw [h3 (h1 hLL)] at hT; cases hT
  · rw [h2 hT] at hLL; cases hLL
  · rfl
theorem or_bit {t s : Int} (ht : 0 ≤ t ∧ t < 256) (hs : 0 ≤ s ∧ s < 8) (v : Bool) : (0 ≤ bOr t (bShl (b2 v) s) ∧ bOr t (bShl (b2 v) s) < 256) ∧ ∀ r, 0 ≤ r → bt (bOr t (bShl (b2 v) s)) r = (bt t r || (v && decide (r = s))) := by
  cases v with
  | false =>
    have e : bShl (b2 false) s = 0 := by rcases eight hs with rfl | rfl | rfl | rfl | rfl | rfl | rfl | rfl <;> decide
    rw [e]
    obtain ⟨a, b⟩ := or_in ht (b := 0) (by omega)
    exact ⟨a, fun r _ => by rw [b r, bt_0]; simp⟩
  | true =>
    obtain ⟨a, b⟩ := one_in hs
    obtain ⟨c, d⟩ := or_in ht a
    exact ⟨c, fun r hr => by show bt (bOr t (bShl 1 s)) r = _; rw [d r, b r hr]; simp⟩
def muM (τ : Sg) : Int := (pc8 (τ 37 0) + pc8 (τ 37 1) + pc8 (τ 37 2) + pc8 (τ 37 3)) + (τ 38 0 + τ 38 1 + τ 38 2 + τ 38 3 + τ 38 4 + τ 38 5 + τ 38 6 + τ 38 7 + τ 38 8 + τ 38 9 + τ 38 10 + τ 38 11)
theorem muM_in {τ : Sg} (h : UR τ) : 0 ≤ muM τ ∧ muM τ ≤ 56 := by
  have a0 := pc8_in (τ 37 0)
  have a1 := pc8_in (τ 37 1)
  have a2 := pc8_in (τ 37 2)
  have a3 := pc8_in (τ 37 3)
  have b0 := h 0
  have b1 := h 1
  have b2 := h 2
  have b3 := h 3
  have b4 := h 4
  have b5 := h 5
  have b6 := h 6
  have b7 := h 7
  have b8 := h 8
  have b9 := h 9
  have b10 := h 10
  have b11 := h 11
  unfold muM
  omega
theorem muM_rows {τ τ' : Sg} (h : τ' 37 = τ 37) (h' : τ' 38 = τ 38) : muM τ' = muM τ := by unfold muM; rw [h, h']
theorem muM_t {τ τ' : Sg} {f : Int} (hf : 0 ≤ f ∧ f < 4) (h38 : τ' 38 = τ 38) (ho : ∀ g, g ≠ f → τ' 37 g = τ 37 g) : muM τ' - muM τ = pc8 (τ' 37 f) - pc8 (τ 37 f) := by
  unfold muM
  rw [h38]
  rcases four hf with rfl | rfl | rfl | rfl
  · rw [ho 1 (by decide), ho 2 (by decide), ho 3 (by decide)]; omega
  · rw [ho 0 (by decide), ho 2 (by decide), ho 3 (by decide)]; omega
  · rw [ho 0 (by decide), ho 1 (by decide), ho 3 (by decide)]; omega
  · rw [ho 0 (by decide), ho 1 (by decide), ho 2 (by decide)]; omega
theorem muM_u {τ τ' : Sg} {j : Int} (hj : 0 ≤ j ∧ j < 12) (h37 : τ' 37 = τ 37) (ho : ∀ g, g ≠ j → τ' 38 g = τ 38 g) : muM τ' - muM τ = τ' 38 j - τ 38 j := by
  have e : ∀ g, g = j ∨ τ' 38 g = τ 38 g := fun g => by
    by_cases h : g = j
    · exact Or.inl h
    · exact Or.inr (ho g h)
  unfold muM
  rw [h37]
  have hc : j = 0 ∨ j = 1 ∨ j = 2 ∨ j = 3 ∨ j = 4 ∨ j = 5 ∨ j = 6 ∨ j = 7 ∨ j = 8 ∨ j = 9 ∨ j = 10 ∨ j = 11 := by omega
  have e0 := e 0
  have e1 := e 1
  have e2 := e 2
  have e3 := e 3
  have e4 := e 4
  have e5 := e 5
  have e6 := e 6
  have e7 := e 7
  have e8 := e 8
  have e9 := e 9
  have e10 := e 10
  have e11 := e 11
  clear e ho
  rcases hc with rfl | rfl | rfl | rfl | rfl | rfl | rfl | rfl | rfl | rfl | rfl | rfl <;> simp at e0 e1 e2 e3 e4 e5 e6 e7 e8 e9 e10 e11 <;> omega
/-- what holds of the tables all along -/
def LyI (σ τ : Sg) (L : TB) (U : Int → Int → Int) : Prop := Sm [37, 38, 39] σ τ ∧ MTR τ ∧ UR τ ∧ C2 τ ∧ leT (mtb τ) L ∧ leU (unM τ) U ∧ ∀ f a, 0 ≤ f → f < 4 → 0 ≤ a → a < nA f → ∀ C, in2 C → SolU (σ 31) (σ 32) (unM τ) C a (f * 30) (σ 34 f) → unM τ f a ≤ C (f * 30)
def bad (σ τ : Sg) : Prop := ∃ g s, 0 ≤ g ∧ g < 4 ∧ 0 ≤ s ∧ s ≤ aA g ∧ mtb τ g s = true ∧ ∃ V, Sol (σ 31) (σ 32) (mtb τ) V s (g * 30) (σ 34 g) ∧ V (g * 30) = false
def LyP (σ τ0 τ : Sg) (c : Int) (PT PU : Int → Int → Prop) : Prop := (c = 1 ∧ muM τ0 < muM τ) ∨ (τ 37 = τ0 37 ∧ τ 38 = τ0 38 ∧ (c = 0 ∨ (c = 1 ∧ bad σ τ)) ∧ (∀ g s, PT g s → ∃ V, Sol (σ 31) (σ 32) (mtb τ) V s (g * 30) (σ 34 g) ∧ (V (g * 30) = true → mtb τ g s = true)) ∧ ∀ g a, PU g a → ∃ C, in2 C ∧ SolU (σ 31) (σ 32) (unM τ) C a (g * 30) (σ 34 g) ∧ unM τ g a = C (g * 30))
theorem LyP.c01 {σ τ0 τ : Sg} {c : Int} {PT PU : Int → Int → Prop} (h : LyP σ τ0 τ c PT PU) : c = 0 ∨ c = 1 := by
  rcases h with h | h
  · exact Or.inr h.1
  · rcases h.2.2.1 with h | h
    · exact Or.inl h
    · exact Or.inr h.1
theorem LyP.wk {σ τ0 τ : Sg} {c : Int} {PT PU PT' PU' : Int → Int → Prop} (h : LyP σ τ0 τ c PT PU) (h1 : ∀ g r, PT' g r → PT g r) (h2 : ∀ g r, PU' g r → PU g r) : LyP σ τ0 τ c PT' PU' := by
  rcases h with h | ⟨a, b, d, e, f⟩
  · exact Or.inl h
  · exact Or.inr ⟨a, b, d, fun g s z => e g s (h1 g s z), fun g s z => f g s (h2 g s z)⟩
theorem Ly_t {σ τ0 τ τ1 : Sg} {L : TB} {U : Int → Int → Int} {c f s : Int} {PT PU : Int → Int → Prop} (hM : MOK σ) (hf : 0 ≤ f ∧ f < 4) (hs : 0 ≤ s ∧ s ≤ aA f) (hL : LfpT (σ 34) (σ 31) (σ 32) L) (hI : LyI σ τ L U) (hP : LyP σ τ0 τ c PT PU)
    (h1 : Sm [39] τ τ1) (hc2 : C2 τ1) (h01 : τ1 39 0 = 0 ∨ τ1 39 0 = 1) (hS : Sol (σ 31) (σ 32) (mtb τ) (Vb τ1 f) s (f * 30) (σ 34 f)) :
    LyI σ (up τ1 37 f (bOr (τ1 37 f) (bShl (τ1 39 0) s))) L U ∧ LyP σ τ0 (up τ1 37 f (bOr (τ1 37 f) (bShl (τ1 39 0) s))) (if c ≠ 0 ∨ b2 (mtb τ f s) ≠ τ1 39 0 then 1 else 0) (fun g r => PT g r ∨ (g = f ∧ r = s)) PU := by
  have ha := aA_in f
  have e0 : τ1 39 0 = b2 (Vb τ1 f (f * 30)) := by
    have := Vb_b2 (x := f) h01
    rw [show f * 30 + 0 = f * 30 by omega] at this
    exact this
  have e37 : τ1 37 = τ 37 := h1 37 (by decide)
  have e38 : τ1 38 = τ 38 := h1 38 (by decide)
  obtain ⟨v, ev⟩ : ∃ v, v = Vb τ1 f (f * 30) := ⟨_, rfl⟩
  rw [e0, ← ev, e37]
  obtain ⟨i1, i2, i3, i4, i5, i6, i7⟩ := hI
  obtain ⟨o1, o2⟩ := or_bit (i2 f) (s := s) (by omega) v
  obtain ⟨τ2, e2⟩ : ∃ τ2, τ2 = up τ1 37 f (bOr (τ 37 f) (bShl (b2 v) s)) := ⟨_, rfl⟩
  rw [← e2]
  have f37 : τ2 37 f = bOr (τ 37 f) (bShl (b2 v) s) := by rw [e2, up_same]
  have g37 : ∀ g, g ≠ f → τ2 37 g = τ 37 g := fun g hg => by rw [e2, up_other _ _ hg, e37]
  have g38 : τ2 38 = τ 38 := by rw [e2, up_ne _ (by decide), e38]
  have gun : unM τ2 = unM τ := by unfold unM; rw [g38]
  have hbit : ∀ g r, 0 ≤ r → mtb τ2 g r = (mtb τ g r || (decide (g = f) && (v && decide (r = s)))) := by
    intro g r r0
    unfold mtb
    by_cases e : g = f
    · rw [e, f37, o2 r r0]; simp
    · rw [g37 g e]; simp [e]
  have hn := (hM.1 f hf.1 hf.2).1.1
  have hnew : v = true → L f s = true := by
    intro hv
    obtain ⟨V', hV', eV⟩ := hL.2.1 f hf.1 hf.2 s hs.1 hs.2
    rw [eV]
    exact mv_le2 (hM.1 f hf.1 hf.2).1 hL.1 i5 hS hV' (σ 34 f).toNat (f * 30) (by omega) (by omega) (by omega) (by rw [← ev]; exact hv)
  have hmono : ∀ r, 0 ≤ r → r < 8 → bt (τ 37 f) r = true → bt (τ2 37 f) r = true := by
    intro r r0 r1 h
    rw [f37, o2 r r0, h]
    rfl
  have hmu := muM_t hf g38 g37
  have hpm := pc8_mono hmono
  refine ⟨⟨?_, ?_, ?_, ?_, ?_, ?_, ?_⟩, ?_⟩
  · rw [e2]
    exact (i1.trans (h1.wide (by decide))).up (by decide) _ _
  · intro g
    by_cases e : g = f
    · rw [e, f37]; exact o1
    · rw [g37 g e]; exact i2 g
  · intro j; rw [g38]; exact i3 j
  · intro j; rw [e2, up_ne _ (by decide)]; exact hc2 j
  · intro g r g0 g1 r0 r1 h
    rw [hbit g r r0] at h
    simp only [Bool.or_eq_true, Bool.and_eq_true, decide_eq_true_eq] at h
    rcases h with h | ⟨e, hv, er⟩
    · exact i5 g r g0 g1 r0 r1 h
    · rw [e, er]; exact hnew hv
  · rw [gun]; exact i6
  · rw [gun]; exact i7
  · rcases hP with ⟨p1, p2⟩ | ⟨p1, p2, p3, p4, p5⟩
    · exact Or.inl ⟨by rw [if_pos (Or.inl (by omega))], by omega⟩
    · by_cases hx : v = true ∧ mtb τ f s = false
      · left
        refine ⟨by rw [if_pos (Or.inr (by rw [hx.1, hx.2]; decide))], ?_⟩
        have hne : ¬ pc8 (τ2 37 f) ≤ pc8 (τ 37 f) := by
          intro z
          have e := pc8_eq (i2 f) (by rw [f37]; exact o1) hmono z
          have hb := o2 s hs.1
          rw [← f37, ← e] at hb
          have hx2 : bt (τ 37 f) s = false := hx.2
          rw [hx2, hx.1] at hb
          simp at hb
        rw [← muM_rows p1 p2]
        omega
      · have hsame : τ2 37 = τ 37 := by
          funext g
          by_cases e : g = f
          · rw [e, f37]
            apply ext8 o1 (i2 f)
            intro r r0 r1
            rw [o2 r r0]
            by_cases er : r = s
            · rw [er]
              have hx3 : v = true → bt (τ 37 f) s = true := fun hv => by
                cases hb : bt (τ 37 f) s
                · exact absurd ⟨hv, hb⟩ hx
                · rfl
              cases hv : v
              · simp
              · rw [hx3 hv]; rfl
            · simp [er]
          · exact g37 g e
        have emt : mtb τ2 = mtb τ := by unfold mtb; rw [hsame]
        right
        refine ⟨hsame.trans p1, g38.trans p2, ?_, ?_, ?_⟩
        · have ebad : bad σ τ2 = bad σ τ := by unfold bad; rw [emt]
          rw [ebad]
          by_cases hd : c ≠ 0 ∨ b2 (mtb τ f s) ≠ b2 v
          · rw [if_pos hd]
            right
            refine ⟨rfl, ?_⟩
            rcases p3 with p3 | p3
            · rcases hd with hd | hd
              · exact absurd p3 hd
              · refine ⟨f, s, hf.1, hf.2, hs.1, hs.2, ?_, Vb τ1 f, hS, ?_⟩
                · cases hb : mtb τ f s
                  · exfalso
                    apply hd
                    cases hv : v
                    · rw [hb]
                    · exact absurd ⟨hv, hb⟩ hx
                  · rfl
                · rw [← ev]
                  cases hv : v
                  · rfl
                  · exfalso
                    apply hd
                    cases hb : mtb τ f s
                    · exact absurd ⟨hv, hb⟩ hx
                    · rw [hv]
            · exact p3.2
          · rw [if_neg hd]; exact Or.inl rfl
        · intro g r hgr
          rw [emt]
          rcases hgr with hgr | ⟨e, er⟩
          · exact p4 g r hgr
          · rw [e, er]
            refine ⟨Vb τ1 f, hS, fun hv => ?_⟩
            rw [← ev] at hv
            cases hb : mtb τ f s
            · exact absurd ⟨hv, hb⟩ hx
            · rfl
        · rw [gun]; exact p5
theorem Ly_u {σ τ0 τ τ1 : Sg} {L : TB} {U : Int → Int → Int} {c f a : Int} {PT PU : Int → Int → Prop} (hM : MOK σ) (hf : 0 ≤ f ∧ f < 4) (ha : 0 ≤ a ∧ a < nA f) (hU : LfpU (σ 34) (σ 31) (σ 32) U) (hI : LyI σ τ L U) (hP : LyP σ τ0 τ c PT PU)
    (h1 : Sm [39] τ τ1) (hc2 : C2 τ1) (hS : SolU (σ 31) (σ 32) (unM τ) (Cu τ1 f) a (f * 30) (σ 34 f)) :
    LyI σ (up τ1 38 (3 * f + a) (Cu τ1 f (f * 30))) L U ∧ LyP σ τ0 (up τ1 38 (3 * f + a) (Cu τ1 f (f * 30))) (if c ≠ 0 ∨ unM τ f a ≠ Cu τ1 f (f * 30) then 1 else 0) PT (fun g r => PU g r ∨ (g = f ∧ r = a)) := by
  have hna := nA_in f
  have e37 : τ1 37 = τ 37 := h1 37 (by decide)
  have e38 : τ1 38 = τ 38 := h1 38 (by decide)
  obtain ⟨i1, i2, i3, i4, i5, i6, i7⟩ := hI
  obtain ⟨u, eu⟩ : ∃ u, u = Cu τ1 f (f * 30) := ⟨_, rfl⟩
  have hu2 := hc2.in2 f (f * 30)
  have hge := i7 f a hf.1 hf.2 ha.1 ha.2 _ (hc2.in2 f) hS
  rw [← eu] at hge hu2 ⊢
  obtain ⟨τ2, e2⟩ : ∃ τ2, τ2 = up τ1 38 (3 * f + a) u := ⟨_, rfl⟩
  rw [← e2]
  have f38 : τ2 38 (3 * f + a) = u := by rw [e2, up_same]
  have g38 : ∀ j, j ≠ 3 * f + a → τ2 38 j = τ 38 j := fun j hj => by rw [e2, up_other _ _ hj, e38]
  have g37 : τ2 37 = τ 37 := by rw [e2, up_ne _ (by decide), e37]
  have emt : mtb τ2 = mtb τ := by unfold mtb; rw [g37]
  have uf : unM τ2 f a = u := f38
  have uo : ∀ g b, 0 ≤ b → b < 3 → ¬ (g = f ∧ b = a) → unM τ2 g b = unM τ g b := fun g b b0 b1 h => g38 _ (by omega)
  have hn := (hM.1 f hf.1 hf.2).1.1
  have hle : leU (unM τ) (unM τ2) := by
    intro g b g0 g1 b0 b1
    have hb := nA_in g
    by_cases e : g = f ∧ b = a
    · rw [e.1, e.2, uf]; exact hge
    · rw [uo g b b0 (by omega) e]; exact Int.le_refl _
  have hUR : UR τ2 := by
    intro j
    by_cases e : j = 3 * f + a
    · rw [e, f38]; exact hu2
    · rw [g38 j e]; exact i3 j
  have hmu := muM_u (τ := τ) (τ' := τ2) (j := 3 * f + a) (by omega) g37 g38
  rw [f38] at hmu
  have hge2 : τ 38 (3 * f + a) ≤ u := hge
  refine ⟨⟨?_, ?_, hUR, ?_, ?_, ?_, ?_⟩, ?_⟩
  · rw [e2]
    exact (i1.trans (h1.wide (by decide))).up (by decide) _ _
  · intro g; rw [g37]; exact i2 g
  · intro j; rw [e2, up_ne _ (by decide)]; exact hc2 j
  · rw [emt]; exact i5
  · intro g b g0 g1 b0 b1
    have hb := nA_in g
    by_cases e : g = f ∧ b = a
    · rw [e.1, e.2, uf]
      obtain ⟨C', c1, c2, c3⟩ := hU.1.2 f hf.1 hf.2 a ha.1 ha.2
      rw [c3, eu]
      exact hS.le (hM.1 f hf.1 hf.2).1 i6 i3.U hU.1.1 (hc2.in2 f) c2 (by omega) (by omega)
    · rw [uo g b b0 (by omega) e]; exact i6 g b g0 g1 b0 b1
  · intro g b g0 g1 b0 b1 C hC hSC
    have hb := nA_in g
    have hn2 := (hM.1 g g0 g1).1.1
    by_cases e : g = f ∧ b = a
    · obtain ⟨e, e'⟩ := e
      rw [e, e', uf, eu]
      rw [e, e'] at hSC
      exact hS.le (hM.1 f hf.1 hf.2).1 hle i3.U hUR.U (hc2.in2 f) hSC (by omega) (by omega)
    · rw [uo g b b0 (by omega) e]
      obtain ⟨C0, z1, z2⟩ := SolU_ex (hM.1 g g0 g1).1 i3.U b
      have h9 := i7 g b g0 g1 b0 b1 C0 z1 z2
      have h8 := z2.le (hM.1 g g0 g1).1 hle i3.U hUR.U z1 hSC (p := g * 30) (by omega) (by omega)
      omega
  · rcases hP with ⟨p1, p2⟩ | ⟨p1, p2, p3, p4, p5⟩
    · exact Or.inl ⟨by rw [if_pos (Or.inl (by omega))], by omega⟩
    · by_cases hx : unM τ f a = u
      · have hx2 : τ 38 (3 * f + a) = u := hx
        have hsame : τ2 38 = τ 38 := by
          funext j
          by_cases e : j = 3 * f + a
          · rw [e, f38, hx2]
          · exact g38 j e
        have gun : unM τ2 = unM τ := by unfold unM; rw [hsame]
        right
        refine ⟨g37.trans p1, hsame.trans p2, ?_, ?_, ?_⟩
        · have ebad : bad σ τ2 = bad σ τ := by unfold bad; rw [emt]
          rw [ebad]
          rcases p3 with p3 | p3
          · rw [if_neg (by rintro (z | z); exact z p3; exact z hx)]; exact Or.inl rfl
          · rw [if_pos (Or.inl (by omega))]; exact Or.inr ⟨rfl, p3.2⟩
        · rw [emt]; exact p4
        · intro g r hgr
          rw [gun]
          rcases hgr with hgr | ⟨e, er⟩
          · exact p5 g r hgr
          · rw [e, er]
            exact ⟨Cu τ1 f, hc2.in2 f, hS, hx.trans eu⟩
      · left
        have hx2 : τ 38 (3 * f + a) ≠ u := hx
        refine ⟨by rw [if_pos (Or.inr hx)], ?_⟩
        rw [← muM_rows p1 p2]
        omega
def LyD (τ : Sg) (L : TB) (U : Int → Int → Int) : Prop := (∀ g r, 0 ≤ g → g < 4 → 0 ≤ r → r ≤ aA g → mtb τ g r = L g r) ∧ ∀ g a, 0 ≤ g → g < 4 → 0 ≤ a → a < nA g → unM τ g a = U g a
theorem Ly_end {σ τ0 τ : Sg} {L : TB} {U : Int → Int → Int} {c : Int} {PT PU : Int → Int → Prop} (hM : MOK σ) (hL : LfpT (σ 34) (σ 31) (σ 32) L) (hU : LfpU (σ 34) (σ 31) (σ 32) U) (hI : LyI σ τ L U) (hP : LyP σ τ0 τ c PT PU)
    (hT : ∀ g s, 0 ≤ g → g < 4 → 0 ≤ s → s ≤ aA g → PT g s) (hA : ∀ g a, 0 ≤ g → g < 4 → 0 ≤ a → a < nA g → PU g a) : (c = 1 ∧ muM τ0 < muM τ) ∨ (c = 0 ∧ muM τ0 = muM τ ∧ LyD τ L U) := by
  rcases hP with p | ⟨p1, p2, p3, p4, p5⟩
  · exact Or.inl p
  · obtain ⟨i1, i2, i3, i4, i5, i6, i7⟩ := hI
    have hW : ∀ f, 0 ≤ f → f < 4 → Wf (σ 31) (σ 32) (σ 33) (f * 30) (σ 34 f) := fun f a b => (hM.1 f a b).1
    have hTe := lay_eq hW hL i5 (fun f f0 f1 s s0 s1 => p4 f s (hT f s f0 f1 s0 s1))
    right
    refine ⟨?_, (muM_rows p1 p2).symm, hTe, ?_⟩
    · rcases p3 with p3 | ⟨_, g, s, g0, g1, s0, s1, b1, V, hV, hVf⟩
      · exact p3
      · exfalso
        obtain ⟨V', hV', e⟩ := hL.2.1 g g0 g1 s s0 s1
        have hn := (hW g g0 g1).1
        have := hV.eq (hW g g0 g1) hTe hV' (p := g * 30) (by omega) (by omega)
        rw [hTe g s g0 g1 s0 s1, e, ← this, hVf] at b1
        cases b1
    · intro g a g0 g1 a0 a1
      have hF : FixU (σ 34) (σ 31) (σ 32) (unM τ) := ⟨i3.U, fun f f0 f1 b b0 b1 => p5 f b (hA f b f0 f1 b0 b1)⟩
      have h1 := hU.2 _ hF g a g0 g1 a0 a1
      have h2 := i6 g a g0 g1 a0 a1
      omega
theorem LyI_0 {σ τ : Sg} {L : TB} {U : Int → Int → Int} (hm : Sm [37, 38, 39] σ τ) (hT : MTR τ) (hUR : UR τ) (hC : C2 τ) (hU : LfpU (σ 34) (σ 31) (σ 32) U) (h37 : ∀ f, 0 ≤ f → f < 4 → τ 37 f = 0) (h38 : ∀ j, 0 ≤ j → j < 12 → τ 38 j = 0) : LyI σ τ L U := by
  refine ⟨hm, hT, hUR, hC, ?_, ?_, ?_⟩
  · intro g r g0 g1 r0 r1 h
    unfold mtb at h
    rw [h37 g g0 g1, bt_0] at h
    cases h
  · intro g a g0 g1 a0 a1
    have hn := nA_in g
    unfold unM
    rw [h38 _ (by omega) (by omega)]
    exact (hU.1.1 g a).1
  · intro g a g0 g1 a0 a1 C hC _
    have hn := nA_in g
    unfold unM
    rw [h38 _ (by omega) (by omega)]
    exact (hC _).1
def pT (f s0 g s : Int) : Prop := 0 ≤ g ∧ g < 4 ∧ 0 ≤ s ∧ s ≤ aA g ∧ (g < f ∨ (g = f ∧ s < s0))
def pU (f s0 g s : Int) : Prop := 0 ≤ g ∧ g < 4 ∧ 0 ≤ s ∧ s < nA g ∧ (g < f ∨ (g = f ∧ s < s0))
theorem LyP_0 {σ τ : Sg} : LyP σ τ τ 0 (pT 0 0) (pU 0 0) := by
  refine Or.inr ⟨rfl, rfl, Or.inl rfl, ?_, ?_⟩
  · intro g s h; unfold pT at h; exfalso; omega
  · intro g s h; unfold pU at h; exfalso; omega
theorem pT_step {f s g r : Int} (h : pT f (s + 1) g r) : pT f s g r ∨ (g = f ∧ r = s) := by
  unfold pT at h ⊢; omega
theorem pU_step {f s g r : Int} (h : pU f (s + 1) g r) : pU f s g r ∨ (g = f ∧ r = s) := by
  unfold pU at h ⊢; omega
theorem pT_next {f s g r : Int} (hs : aA f < s) (h : pT (f + 1) 0 g r) : pT f s g r := by
  unfold pT at h ⊢
  obtain ⟨a, b, c, d, e⟩ := h
  refine ⟨a, b, c, d, ?_⟩
  by_cases z : g = f
  · rw [z] at d; omega
  · omega
theorem pU_next {f s g r : Int} (hs : nA f ≤ s) (h : pU (f + 1) 0 g r) : pU f s g r := by
  unfold pU at h ⊢
  obtain ⟨a, b, c, d, e⟩ := h
  refine ⟨a, b, c, d, ?_⟩
  by_cases z : g = f
  · rw [z] at d; omega
  · omega
