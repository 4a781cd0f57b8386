/-! Math.min, Math.max -/
theorem iI_min {a b : Int} (ha : rg a) (hb : rg b) : (if iI b < iI a then iI b else iI a) = iI (if b < a then b else a) := by
  by_cases h : b < a
  · rw [if_pos h, if_pos ((iI_lt hb ha).mpr h)]
  · rw [if_neg h, if_neg (fun z => h ((iI_lt hb ha).mp z))]
theorem iI_max {a b : Int} (ha : rg a) (hb : rg b) : (if iI a < iI b then iI b else iI a) = iI (if a < b then b else a) := by
  by_cases h : a < b
  · rw [if_pos h, if_pos ((iI_lt ha hb).mpr h)]
  · rw [if_neg h, if_neg (fun z => h ((iI_lt ha hb).mp z))]
theorem mmin_w : Cond.static Lib.Math.min.name ∈ lw_g ∧ Cond.initialized "java/lang/Math" ∈ lw_g ∧ Cond.code Lib.Math.min.name Lib.Math.min.code 2 (some .int) ∈ lw_g := ⟨mg 394 (by decide +kernel) rfl, mg 66 (by decide +kernel) rfl, mg 395 (by decide +kernel) rfl⟩
theorem g_mmin {X : Cx} {E : Ev} {l : Launch} {cc : ByteArray} {nL : Nat} {own : String} {rm : Room} {q : Nat → Nat} {sh : List Shp} {σ : Sg} {ck cs : Nat} {Q : State → Prop} {pc pc' : Nat} {lv : List (Nat × Value)} {st : List Value} (F : Fx X E l cc nL own rm) {idx : Nat} {a b : Int} (hl : Cond.methodLink own idx Lib.Math.min.name ∈ lw_g) (hfr : 1 ≤ rm.frames) (hlo : (st.map fun v => v.category).sum + 13 ≤ rm.locals) (hc : ck ≤ rm.cells ∧ cs ≤ rm.slots) (d : At cc pc (.invokestatic idx) 3 pc') (ha : rg a) (hb : rg b) (k : G X E nL q sh σ ck cs Q pc' lv (vI (if b < a then b else a) :: st)) : G X E nL q sh σ ck cs Q pc lv (vI b :: vI a :: st) := by
  intro hA H locs ls hP hS hl2
  obtain ⟨d, rfl⟩ := d
  have hr := F.2.2.2.2.2.2.2.1
  refine va_mmin F.1 F.2.1 (F.2.2.1.trans hl2.1.symm) F.2.2.2.1 (F.2.2.2.2.1 _ hl) (F.2.2.2.2.1 _ mmin_w.1) (F.2.2.2.2.1 _ mmin_w.2.1) (F.2.2.2.2.1 _ mmin_w.2.2) (by rw [hr]; exact hfr) (by rw [hr]; exact hlo) (by rw [hr]; exact hc.1) (by rw [hr]; exact hc.2) d ?_
  rw [iI_min ha hb]
  exact k hA H locs ls hP hS hl2
theorem mmax_w : Cond.static Lib.Math.max.name ∈ lw_g ∧ Cond.initialized "java/lang/Math" ∈ lw_g ∧ Cond.code Lib.Math.max.name Lib.Math.max.code 2 (some .int) ∈ lw_g := ⟨mg 397 (by decide +kernel) rfl, mg 66 (by decide +kernel) rfl, mg 398 (by decide +kernel) rfl⟩
theorem g_mmax {X : Cx} {E : Ev} {l : Launch} {cc : ByteArray} {nL : Nat} {own : String} {rm : Room} {q : Nat → Nat} {sh : List Shp} {σ : Sg} {ck cs : Nat} {Q : State → Prop} {pc pc' : Nat} {lv : List (Nat × Value)} {st : List Value} (F : Fx X E l cc nL own rm) {idx : Nat} {a b : Int} (hl : Cond.methodLink own idx Lib.Math.max.name ∈ lw_g) (hfr : 1 ≤ rm.frames) (hlo : (st.map fun v => v.category).sum + 13 ≤ rm.locals) (hc : ck ≤ rm.cells ∧ cs ≤ rm.slots) (d : At cc pc (.invokestatic idx) 3 pc') (ha : rg a) (hb : rg b) (k : G X E nL q sh σ ck cs Q pc' lv (vI (if a < b then b else a) :: st)) : G X E nL q sh σ ck cs Q pc lv (vI b :: vI a :: st) := by
  intro hA H locs ls hP hS hl2
  obtain ⟨d, rfl⟩ := d
  have hr := F.2.2.2.2.2.2.2.1
  refine va_mmax F.1 F.2.1 (F.2.2.1.trans hl2.1.symm) F.2.2.2.1 (F.2.2.2.2.1 _ hl) (F.2.2.2.2.1 _ mmax_w.1) (F.2.2.2.2.1 _ mmax_w.2.1) (F.2.2.2.2.1 _ mmax_w.2.2) (by rw [hr]; exact hfr) (by rw [hr]; exact hlo) (by rw [hr]; exact hc.1) (by rw [hr]; exact hc.2) d ?_
  rw [iI_max ha hb]
  exact k hA H locs ls hP hS hl2
/-! the USES, walked -/
def CR (σ : Sg) : Prop := in2 (σ 17)
def KR (σ : Sg) : Prop := in2 (σ 18)
def kn (σ : Sg) : Int → Int → Int := fun g j => σ 18 (g * 3 + j)
theorem KR.U {σ : Sg} (h : KR σ) : inU (kn σ) := fun g j => h (g * 3 + j)
theorem held_min (e : Int) : (if e < 2 then e else 2) = held e := by unfold held; split <;> split <;> omega
def sumK (σ : Sg) : Int := σ 18 0 + σ 18 1 + σ 18 2 + σ 18 3 + σ 18 4 + σ 18 5 + σ 18 6 + σ 18 7 + σ 18 8 + σ 18 9 + σ 18 10 + σ 18 11
theorem sumK_in {σ : Sg} (h : KR σ) : 0 ≤ sumK σ ∧ sumK σ ≤ 24 := by
  have h0 := h 0
  have h1 := h 1
  have h2 := h 2
  have h3 := h 3
  have h4 := h 4
  have h5 := h 5
  have h6 := h 6
  have h7 := h 7
  have h8 := h 8
  have h9 := h 9
  have h10 := h 10
  have h11 := h 11
  unfold sumK
  omega
def chgU (σ : Sg) : Prop := ∃ j, 0 ≤ j ∧ j < 12 ∧ σ 19 j ≠ σ 18 j
theorem twelve {j : Int} (h : 0 ≤ j ∧ j < 12) : j = 0 ∨ j = 1 ∨ j = 2 ∨ j = 3 ∨ j = 4 ∨ j = 5 ∨ j = 6 ∨ j = 7 ∨ j = 8 ∨ j = 9 ∨ j = 10 ∨ j = 11 := by omega
theorem sumK_step {σ τ : Sg} (h : ∀ j, 0 ≤ j → j < 12 → σ 18 j ≤ τ 18 j) (hc : ∃ j, 0 ≤ j ∧ j < 12 ∧ τ 18 j ≠ σ 18 j) : sumK σ + 1 ≤ sumK τ := by
  have h0 := h 0 (by decide) (by decide)
  have h1 := h 1 (by decide) (by decide)
  have h2 := h 2 (by decide) (by decide)
  have h3 := h 3 (by decide) (by decide)
  have h4 := h 4 (by decide) (by decide)
  have h5 := h 5 (by decide) (by decide)
  have h6 := h 6 (by decide) (by decide)
  have h7 := h 7 (by decide) (by decide)
  have h8 := h 8 (by decide) (by decide)
  have h9 := h 9 (by decide) (by decide)
  have h10 := h 10 (by decide) (by decide)
  have h11 := h 11 (by decide) (by decide)
  obtain ⟨j, j0, j1, j2⟩ := hc
  unfold sumK
  rcases twelve ⟨j0, j1⟩ with rfl | rfl | rfl | rfl | rfl | rfl | rfl | rfl | rfl | rfl | rfl | rfl <;> omega
/-- a slot's next count comes of the counts as they stand -/
def nextOk (σ τ : Sg) (j v : Int) : Prop := ∃ C, in2 C ∧ SolU (σ 7) (σ 10) (kn τ) C (j % 3) (j / 3 * 30) (σ 6 (j / 3)) ∧ v = C (j / 3 * 30)
def UI (σ τ : Sg) : Prop := (∀ L, FixU (σ 6) (σ 7) (σ 10) L → leU (kn τ) L) ∧ ∀ j, 0 ≤ j → j < 12 → ∀ C, in2 C → SolU (σ 7) (σ 10) (kn τ) C (j % 3) (j / 3 * 30) (σ 6 (j / 3)) → τ 18 j ≤ C (j / 3 * 30)
theorem UI_0 {σ τ : Sg} (h : ∀ j, 0 ≤ j → j < 12 → τ 18 j = 0) : UI σ τ := by
  refine ⟨fun L hL g a h0 h1 h2 h3 => ?_, fun j h0 h1 C hC _ => by rw [h j h0 h1]; exact (hC _).1⟩
  have ha := nA_in g
  show τ 18 (g * 3 + a) ≤ _
  rw [h _ (by omega) (by omega)]
  exact (hL.1 g a).1
theorem UI_step {σ τ τ3 : Sg} (hBO : BOK σ) (hK : KR τ) (hK3 : KR τ3) (h : UI σ τ) (h3 : ∀ j, 0 ≤ j → j < 12 → nextOk σ τ j (τ3 18 j)) : UI σ τ3 ∧ ∀ j, 0 ≤ j → j < 12 → τ 18 j ≤ τ3 18 j := by
  have hB : ∀ f, 0 ≤ f → f < 4 → Wf (σ 7) (σ 10) (σ 11) (f * 30) (σ 6 f) := fun f h0 h1 => (hBO f h0 h1).1
  have hle : ∀ j, 0 ≤ j → j < 12 → τ 18 j ≤ τ3 18 j := by
    intro j h0 h1
    obtain ⟨C, c1, c2, c3⟩ := h3 j h0 h1
    rw [c3]
    exact h.2 j h0 h1 C c1 c2
  have hleU : leU (kn τ) (kn τ3) := by
    intro g a h0 h1 h2 h4
    have ha := nA_in g
    exact hle (g * 3 + a) (by omega) (by omega)
  refine ⟨⟨?_, ?_⟩, hle⟩
  · intro L hL g a h0 h1 h2 h4
    have ha := nA_in g
    obtain ⟨C, c1, c2, c3⟩ := h3 (g * 3 + a) (by omega) (by omega)
    rw [show (g * 3 + a) % 3 = a by omega, show (g * 3 + a) / 3 = g by omega] at c2
    rw [show (g * 3 + a) / 3 = g by omega] at c3
    show τ3 18 (g * 3 + a) ≤ _
    rw [c3]
    obtain ⟨C', d1, d2, d3⟩ := hL.2 g h0 h1 a h2 h4
    rw [d3]
    have hn := (hB g h0 h1).1
    exact c2.le (hB g h0 h1) (h.1 L hL) hK.U hL.1 c1 d2 (by omega) (by omega)
  · intro j h0 h1 C' c1' c2'
    obtain ⟨C, c1, c2, c3⟩ := h3 j h0 h1
    rw [c3]
    have hn := (hB (j / 3) (by omega) (by omega)).1
    exact c2.le (hB (j / 3) (by omega) (by omega)) hleU hK.U hK3.U c1 c2' (by omega) (by omega)
/-- what renew leaves behind -/
def UOK (σ τ : Sg) : Prop := KR τ ∧ LfpU (σ 6) (σ 7) (σ 10) (kn τ)
set_option maxHeartbeats 1000000 in
theorem c_X1_countAt (l : Launch) (E : Ev) (q : Nat → Nat) (sh : List Shp) (σ : Sg) (hs : HsC sh) (p : Int) (hp : 0 ≤ p ∧ p < 120) : CI l E yX1_countAt cX1_countAt 2 .int ({ frames := 1, cells := 0, slots := 0, locals := 20 } : Room) q sh σ [.ref (q 16), vI p] (is (σ 17 p) σ) := by
  refine CI_of (own := RX1) (by decide) rfl (Nat.le_of_ble_eq_true rfl) (fun X Q F hQ => ?_)
  show G X E 2 q sh σ 0 0 Q 0 [(0, .ref (q 16)), (1, vI p)] []
  refine g_iload_n F 1 rfl rfl d_X1_countAt_0 ?_
  refine g_Ni F (own := RX1) (c_X8_isPlace l E q sh σ p ⟨by omega, by omega⟩) k_X1_87 [] d_X1_countAt_1 ⟨rfl, rfl, by decide, by decide⟩ ⟨Nat.zero_le _, Nat.zero_le _⟩ rfl (Nat.le_of_ble_eq_true rfl) ?_
  rintro _ _ ⟨rfl, rfl⟩
  refine g_b_eq F d_X1_countAt_4 (fun h4 => by exfalso; omega) (fun h4 => ?_)
  refine g_aload_n F 0 rfl rfl d_X1_countAt_7 ?_
  refine g_getR F f_X1_11 d_X1_countAt_8 (hsC_16 hs) rfl ?_
  refine g_iload_n F 1 rfl rfl d_X1_countAt_11 ?_
  refine g_iaload F d_X1_countAt_12 (hsC_17 hs) (by omega) (by omega) (by decide) ?_
  refine g_goto F d_X1_countAt_13 ?_
  exact hQ d_X1_countAt_17 (⟨by first | rfl | omega | (simp only [*]; done) | (simp [*]; done) | (split <;> omega), rfl⟩)
set_option maxHeartbeats 1000000 in
theorem c_X1_setCount (l : Launch) (E : Ev) (q : Nat → Nat) (sh : List Shp) (σ : Sg) (hs : HsC sh) (p v : Int) (hp : 0 ≤ p ∧ p < 120) : CV l E yX1_setCount cX1_setCount 3 ({ frames := 1, cells := 0, slots := 0, locals := 20 } : Room) q sh σ [.ref (q 16), vI p, vI v] (isS (up σ 17 p v)) := by
  refine CV_of (own := RX1) (by decide) rfl (Nat.le_of_ble_eq_true rfl) (fun X Q F hQ => ?_)
  show G X E 3 q sh σ 0 0 Q 0 [(0, .ref (q 16)), (1, vI p), (2, vI v)] []
  refine g_iload_n F 1 rfl rfl d_X1_setCount_0 ?_
  refine g_Ni F (own := RX1) (c_X8_isPlace l E q sh σ p ⟨by omega, by omega⟩) k_X1_87 [] d_X1_setCount_1 ⟨rfl, rfl, by decide, by decide⟩ ⟨Nat.zero_le _, Nat.zero_le _⟩ rfl (Nat.le_of_ble_eq_true rfl) ?_
  rintro _ _ ⟨rfl, rfl⟩
  refine g_b_eq F d_X1_setCount_4 (fun h4 => by exfalso; omega) (fun h4 => ?_)
  refine g_aload_n F 0 rfl rfl d_X1_setCount_7 ?_
  refine g_getR F f_X1_11 d_X1_setCount_8 (hsC_16 hs) rfl ?_
  refine g_iload_n F 1 rfl rfl d_X1_setCount_11 ?_
  refine g_iload_n F 2 rfl rfl d_X1_setCount_12 ?_
  refine g_iastore F d_X1_setCount_13 (hsC_17 hs) (by omega) (by omega) (by decide) ?_
  exact hQ d_X1_setCount_14 (rfl)
set_option maxHeartbeats 1000000 in
theorem c_X1_textCount (l : Launch) (E : Ev) (q : Nat → Nat) (sh : List Shp) (σ : Sg) (hs : HsC sh) (p t : Int) (hp : 0 ≤ p ∧ p < 120) (ht : 0 ≤ t ∧ t ≤ 3) (hh : ∀ j : Int, 0 ≤ j → j ≤ t → 0 ≤ tp (σ 10) p j ∧ tp (σ 10) p j < 120) : CI l E yX1_textCount cX1_textCount 4 .int ({ frames := 1, cells := 0, slots := 0, locals := 24 } : Room) q sh σ [.ref (q 16), vI p, vI t] (is (σ 17 (tp (σ 10) p t)) σ) := by
  have hh9 := hh t ht.1 (Int.le_refl _)
  refine CI_of (own := RX1) (by decide) rfl (Nat.le_of_ble_eq_true rfl) (fun X Q F hQ => ?_)
  show G X E 4 q sh σ 0 0 Q 0 [(0, .ref (q 16)), (1, vI p), (2, vI t)] []
  refine g_aload_n F 0 rfl rfl d_X1_textCount_0 ?_
  refine g_getR F f_X1_21 d_X1_textCount_1 (hsC_16 hs) rfl ?_
  refine g_iload_n F 1 rfl rfl d_X1_textCount_4 ?_
  refine g_iload_n F 2 rfl rfl d_X1_textCount_5 ?_
  refine g_Vi F (own := RX1) (c_X0_textPlace l E q sh σ hs.B p t hp ht (fun j h0 h1 => hh j h0 (by omega))) k_X1_84 (hsC_5 hs) rfl rfl [] d_X1_textCount_6 ⟨rfl, rfl, by decide, by decide⟩ ⟨Nat.zero_le _, Nat.zero_le _⟩ rfl (Nat.le_of_ble_eq_true rfl) ?_
  rintro _ _ ⟨rfl, rfl⟩
  refine g_istore_n F (lv' := [(3, vI (tp (σ 10) p t)), (0, .ref (q 16)), (1, vI p), (2, vI t)]) rfl (by decide) rfl d_X1_textCount_9 ?_
  refine g_iload_n F 0 rfl rfl d_X1_textCount_10 ?_
  refine g_Ni F (own := RX1) (c_X8_isPlace l E q sh σ (tp (σ 10) p t) ⟨by omega, by omega⟩) k_X1_87 [] d_X1_textCount_11 ⟨rfl, rfl, by decide, by decide⟩ ⟨Nat.zero_le _, Nat.zero_le _⟩ rfl (Nat.le_of_ble_eq_true rfl) ?_
  rintro _ _ ⟨rfl, rfl⟩
  refine g_b_eq F d_X1_textCount_14 (fun h14 => by exfalso; omega) (fun h14 => ?_)
  refine g_aload_n F 1 rfl rfl d_X1_textCount_17 ?_
  refine g_getR F f_X1_11 d_X1_textCount_18 (hsC_16 hs) rfl ?_
  refine g_iload_n F 0 rfl rfl d_X1_textCount_21 ?_
  refine g_iaload F d_X1_textCount_22 (hsC_17 hs) (by omega) (by omega) (by decide) ?_
  refine g_goto F d_X1_textCount_23 ?_
  exact hQ d_X1_textCount_27 (⟨by first | rfl | omega | (simp only [*]; done) | (simp [*]; done) | (split <;> omega), rfl⟩)
set_option maxHeartbeats 1000000 in
theorem c_X1_of (l : Launch) (E : Ev) (q : Nat → Nat) (sh : List Shp) (σ : Sg) (hs : HsC sh) (x y : Int) (hx : 0 ≤ x ∧ x < 4) (hy : 0 ≤ y ∧ y < nA x) : CI l E yX1_of cX1_of 3 .int ({ frames := 1, cells := 0, slots := 0, locals := 20 } : Room) q sh σ [.ref (q 16), vI x, vI y] (is (σ 18 (x * 3 + y)) σ) := by
  have hn := nA_in x
  refine CI_of (own := RX1) (by decide) rfl (Nat.le_of_ble_eq_true rfl) (fun X Q F hQ => ?_)
  show G X E 3 q sh σ 0 0 Q 0 [(0, .ref (q 16)), (1, vI x), (2, vI y)] []
  refine g_iload_n F 1 rfl rfl d_X1_of_0 ?_
  refine g_Ni F (own := RX1) (c_X8_isFunction l E q sh σ x ⟨by omega, by omega⟩) k_X1_91 [] d_X1_of_1 ⟨rfl, rfl, by decide, by decide⟩ ⟨Nat.zero_le _, Nat.zero_le _⟩ rfl (Nat.le_of_ble_eq_true rfl) ?_
  rintro _ _ ⟨rfl, rfl⟩
  refine g_b_eq F d_X1_of_4 (fun h4 => by exfalso; omega) (fun h4 => ?_)
  refine g_iload_n F 2 rfl rfl d_X1_of_7 ?_
  refine g_if_lt F d_X1_of_8 ⟨by omega, by omega⟩ (fun h8 => by exfalso; omega) (fun h8 => ?_)
  refine g_iload_n F 2 rfl rfl d_X1_of_11 ?_
  refine g_iconst F d_X1_of_12 ?_
  refine g_icmp_lt F d_X1_of_13 ⟨by omega, by omega⟩ ⟨by decide, by decide⟩ (fun h13 => ?_) (fun h13 => by exfalso; omega)
  refine g_aload_n F 0 rfl rfl d_X1_of_18 ?_
  refine g_getR F f_X1_15 d_X1_of_19 (hsC_16 hs) rfl ?_
  refine g_iload_n F 1 rfl rfl d_X1_of_22 ?_
  refine g_iconst F d_X1_of_23 ?_
  refine g_imul F d_X1_of_24 ?_
  refine g_iload_n F 2 rfl rfl d_X1_of_25 ?_
  refine g_iadd F d_X1_of_26 ?_
  refine g_iaload F d_X1_of_27 (hsC_18 hs) (by omega) (by omega) (by decide) ?_
  exact hQ d_X1_of_28 (⟨by first | rfl | omega | (simp only [*]; done) | (simp [*]; done) | (split <;> omega), rfl⟩)
set_option maxHeartbeats 1000000 in
theorem c_X1_callCount (l : Launch) (E : Ev) (q : Nat → Nat) (sh : List Shp) (σ : Sg) (hs : HsC sh) (p y : Int) (hp : 0 ≤ p ∧ p < 120) (hy : 0 ≤ y ∧ y < 4) (hh : ∀ j : Int, 0 ≤ j → j < nA y → 0 ≤ tp (σ 10) p j ∧ tp (σ 10) p j < 120) (hC : CR σ) (hK : KR σ) : CI l E yX1_callCount cX1_callCount 5 .int ({ frames := 2, cells := 0, slots := 0, locals := 47 } : Room) q sh σ [.ref (q 16), vI p, vI y] (is (held (u3 (nA y) (fun j => kn σ y j * σ 17 (tp (σ 10) p j)))) σ) := by
  have hn := nA_in y
  refine CI_of (own := RX1) (by decide) rfl (Nat.le_of_ble_eq_true rfl) (fun X Q F hQ => ?_)
  show G X E 5 q sh σ 0 0 Q 0 [(0, .ref (q 16)), (1, vI p), (2, vI y)] []
  refine g_iconst F d_X1_callCount_0 ?_
  refine g_istore_n F (lv' := [(3, vI 0), (0, .ref (q 16)), (1, vI p), (2, vI y)]) rfl (by decide) rfl d_X1_callCount_1 ?_
  refine g_iconst F d_X1_callCount_2 ?_
  refine g_istore F (lv' := [(4, vI 0), (3, vI 0), (0, .ref (q 16)), (1, vI p), (2, vI y)]) (by decide) rfl d_X1_callCount_3 ?_
  have loop5 : ∀ (nn : Nat) (w : Int) (t : Int), (0 ≤ t ∧ t ≤ nA y) → (w = u3 t (fun j => kn σ y j * σ 17 (tp (σ 10) p j))) → (nA y - t).toNat < nn → G X E 5 q sh σ 0 0 Q 5 [(0, .ref (q 16)), (1, vI p), (2, vI y), (3, vI w), (4, vI t)] [] := by
    intro n5
    induction n5 with
    | zero => intro w t ht hw hm5; exact absurd hm5 (Nat.not_lt_zero _)
    | succ n5 ih5 =>
      intro w t ht hw hm5
      refine g_iload F 4 rfl d_X1_callCount_5 ?_
      refine g_iload_n F 2 rfl rfl d_X1_callCount_7 ?_
      refine g_Ni F (own := RX1) (c_X8_argumentsOf l E q sh σ y ⟨by omega, by omega⟩) k_X1_78 [vI t] d_X1_callCount_8 ⟨rfl, rfl, by decide, by decide⟩ ⟨Nat.zero_le _, Nat.zero_le _⟩ rfl (Nat.le_of_ble_eq_true rfl) ?_
      rintro _ _ ⟨rfl, rfl⟩
      refine g_icmp_ge F d_X1_callCount_11 ⟨by omega, by omega⟩ ⟨by omega, by omega⟩ (fun h11 => ?_) (fun h11 => ?_)
      · have hwi := u3_in (n := t) (x := fun j => kn σ y j * σ 17 (tp (σ 10) p j)) (m := 4) (by decide) (fun j _ _ _ => mul_in2 (hK.U _ j) (hC _))
        rw [← hw] at hwi
        refine g_iconst F d_X1_callCount_38 ?_
        refine g_iload_n F 3 rfl rfl d_X1_callCount_39 ?_
        refine g_mmin F (own := RX1) (mg 393 (by decide +kernel) rfl) (by decide) (Nat.le_of_ble_eq_true rfl) ⟨Nat.zero_le _, Nat.zero_le _⟩ d_X1_callCount_40 ⟨by decide, by decide⟩ ⟨by omega, by omega⟩ ?_
        exact hQ d_X1_callCount_43 (⟨by rw [held_min, hw, show t = nA y by omega], rfl⟩)
      · refine g_iload_n F 3 rfl rfl d_X1_callCount_14 ?_
        refine g_aload_n F 0 rfl rfl d_X1_callCount_15 ?_
        refine g_iload_n F 2 rfl rfl d_X1_callCount_16 ?_
        refine g_iload F 4 rfl d_X1_callCount_17 ?_
        refine g_Vi F (own := RX1) (c_X1_of l E q sh σ hs y t hy (by omega)) k_X1_81 (hsC_16 hs) rfl rfl [vI w] d_X1_callCount_19 ⟨rfl, rfl, by decide, by decide⟩ ⟨Nat.zero_le _, Nat.zero_le _⟩ rfl (Nat.le_of_ble_eq_true rfl) ?_
        rintro _ _ ⟨rfl, rfl⟩
        refine g_aload_n F 0 rfl rfl d_X1_callCount_22 ?_
        refine g_iload_n F 1 rfl rfl d_X1_callCount_23 ?_
        refine g_iload F 4 rfl d_X1_callCount_24 ?_
        refine g_Vi F (own := RX1) (c_X1_textCount l E q sh σ hs p t hp (by omega) (fun j h0 h1 => hh j h0 (by omega))) k_X1_64 (hsC_16 hs) rfl rfl [vI (σ 18 (y * 3 + t)), vI w] d_X1_callCount_26 ⟨rfl, rfl, by decide, by decide⟩ ⟨Nat.zero_le _, Nat.zero_le _⟩ rfl (Nat.le_of_ble_eq_true rfl) ?_
        rintro _ _ ⟨rfl, rfl⟩
        refine g_imul F d_X1_callCount_29 ?_
        refine g_iadd F d_X1_callCount_30 ?_
        refine g_istore_n F (lv' := [(3, vI (w + ((σ 18 (y * 3 + t)) * (σ 17 (tp (σ 10) p t))))), (0, .ref (q 16)), (1, vI p), (2, vI y), (4, vI t)]) rfl (by decide) rfl d_X1_callCount_31 ?_
        refine g_iinc F (lv' := [(4, vI (t + 1)), (3, vI (w + ((σ 18 (y * 3 + t)) * (σ 17 (tp (σ 10) p t))))), (0, .ref (q 16)), (1, vI p), (2, vI y)]) 4 rfl rfl (by decide) rfl d_X1_callCount_32 ?_
        refine g_goto F d_X1_callCount_35 ?_
        refine G_sub (ks := [2, 3, 4, 1, 0]) rfl ?_
        exact ih5 (w + ((σ 18 (y * 3 + t)) * (σ 17 (tp (σ 10) p t)))) (t + 1) (by omega) (by rw [hw]; exact u3_step (by omega) (fun j => kn σ y j * σ 17 (tp (σ 10) p j))) (by omega)
  refine G_sub (ks := [2, 3, 4, 1, 0]) rfl ?_
  exact loop5 _ 0 0 (by omega) (u3_0 _).symm (Nat.lt_succ_self _)
set_option maxHeartbeats 1000000 in
theorem c_X1_countOf (l : Launch) (E : Ev) (q : Nat → Nat) (sh : List Shp) (σ : Sg) (hs : HsC sh) (p a f : Int) (hf : 0 ≤ f ∧ f < 4) (hp : f * 30 ≤ p ∧ p < f * 30 + σ 6 f) (ha : 0 ≤ a ∧ a < 3) (hBO : BOK σ) (hC : CR σ) (hK : KR σ) : CI l E yX1_countOf cX1_countOf 4 .int ({ frames := 3, cells := 0, slots := 0, locals := 71 } : Room) q sh σ [.ref (q 16), vI p, vI a] (is (ul (σ 7) (σ 10) (kn σ) (σ 17) a p) σ) := by
  have hB := (hBO f hf.1 hf.2).1
  have hn1 := hB.1
  have hn2 := hB.2.1
  have hKK := (hBO f hf.1 hf.2).2 p hp.1 hp.2
  have hc := (hB.2.2.2.2 p hp.1 hp.2).2.1
  have hkd := kd_in (σ 7 p)
  have c0 := hC (tp (σ 10) p 0)
  have c1 := hC (tp (σ 10) p 1)
  have c2 := hC (tp (σ 10) p 2)
  refine CI_of (own := RX1) (by decide) rfl (Nat.le_of_ble_eq_true rfl) (fun X Q F hQ => ?_)
  show G X E 4 q sh σ 0 0 Q 0 [(0, .ref (q 16)), (1, vI p), (2, vI a)] []
  refine g_aload_n F 0 rfl rfl d_X1_countOf_0 ?_
  refine g_getR F f_X1_21 d_X1_countOf_1 (hsC_16 hs) rfl ?_
  refine g_iload_n F 1 rfl rfl d_X1_countOf_4 ?_
  refine g_Vi F (own := RX1) (c_X0_kindAt l E q sh σ hs.B p (by omega)) k_X1_58 (hsC_5 hs) rfl rfl [] d_X1_countOf_5 ⟨rfl, rfl, by decide, by decide⟩ ⟨Nat.zero_le _, Nat.zero_le _⟩ rfl (Nat.le_of_ble_eq_true rfl) ?_
  rintro _ _ ⟨rfl, rfl⟩
  refine G_top (b := kd (σ 7 p)) (hKK.1) ?_
  have hcs : kd (σ 7 p) = 3 ∨ kd (σ 7 p) = 4 ∨ kd (σ 7 p) = 5 ∨ kd (σ 7 p) = 6 ∨ (kd (σ 7 p) < 3 ∨ 6 < kd (σ 7 p)) := by omega
  rcases hcs with hk | hk | hk | hk | hk
  · have h3 := kd_3.mp hk
    have h4 := wo_3 hk
    refine g_tabIn F d_X1_countOf_8 ⟨by omega, by omega⟩ 0 (tgt := 40) (by omega) (by decide) rfl rfl ?_
    refine g_aload_n F 0 rfl rfl d_X1_countOf_40 ?_
    refine g_getR F f_X1_21 d_X1_countOf_41 (hsC_16 hs) rfl ?_
    refine g_iload_n F 1 rfl rfl d_X1_countOf_44 ?_
    refine g_Vi F (own := RX1) (c_X0_worthAt l E q sh σ hs.B p (by omega)) k_X1_61 (hsC_5 hs) rfl rfl [] d_X1_countOf_45 ⟨rfl, rfl, by decide, by decide⟩ ⟨Nat.zero_le _, Nat.zero_le _⟩ rfl (Nat.le_of_ble_eq_true rfl) ?_
    rintro _ _ ⟨rfl, rfl⟩
    refine G_top (b := wo (σ 7 p)) (hKK.2.1) ?_
    refine g_iload_n F 2 rfl rfl d_X1_countOf_48 ?_
    refine g_icmp_ne F d_X1_countOf_49 ⟨by omega, by omega⟩ ⟨by omega, by omega⟩ (fun h49 => ?_) (fun h49 => ?_)
    · refine g_iconst F d_X1_countOf_56 ?_
      exact hQ d_X1_countOf_57 (⟨by simp [ul, hk]; omega, rfl⟩)
    · refine g_iconst F d_X1_countOf_52 ?_
      refine g_goto F d_X1_countOf_53 ?_
      exact hQ d_X1_countOf_57 (⟨by simp [ul, hk]; omega, rfl⟩)
  · have ht9 := tx_4 hk
    refine g_tabIn F d_X1_countOf_8 ⟨by omega, by omega⟩ 1 (tgt := 58) (by omega) (by decide) rfl rfl ?_
    refine g_iconst F d_X1_countOf_58 ?_
    refine g_aload_n F 0 rfl rfl d_X1_countOf_59 ?_
    refine g_iload_n F 1 rfl rfl d_X1_countOf_60 ?_
    refine g_iconst F d_X1_countOf_61 ?_
    refine g_Vi F (own := RX1) (c_X1_textCount l E q sh σ hs p 0 (by omega) (by omega) (fun j h0 h1 => by have h9 := hc j h0 (by omega); omega)) k_X1_64 (hsC_16 hs) rfl rfl [vI 2] d_X1_countOf_62 ⟨rfl, rfl, by decide, by decide⟩ ⟨Nat.zero_le _, Nat.zero_le _⟩ rfl (Nat.le_of_ble_eq_true rfl) ?_
    rintro _ _ ⟨rfl, rfl⟩
    refine g_aload_n F 0 rfl rfl d_X1_countOf_65 ?_
    refine g_iload_n F 1 rfl rfl d_X1_countOf_66 ?_
    refine g_iconst F d_X1_countOf_67 ?_
    refine g_Vi F (own := RX1) (c_X1_textCount l E q sh σ hs p 1 (by omega) (by omega) (fun j h0 h1 => by have h9 := hc j h0 (by omega); omega)) k_X1_64 (hsC_16 hs) rfl rfl [vI (σ 17 (tp (σ 10) p 0)), vI 2] d_X1_countOf_68 ⟨rfl, rfl, by decide, by decide⟩ ⟨Nat.zero_le _, Nat.zero_le _⟩ rfl (Nat.le_of_ble_eq_true rfl) ?_
    rintro _ _ ⟨rfl, rfl⟩
    refine g_iadd F d_X1_countOf_71 ?_
    refine g_mmin F (own := RX1) (mg 393 (by decide +kernel) rfl) (by decide) (Nat.le_of_ble_eq_true rfl) ⟨Nat.zero_le _, Nat.zero_le _⟩ d_X1_countOf_72 ⟨by decide, by decide⟩ ⟨by omega, by omega⟩ ?_
    exact hQ d_X1_countOf_75 (⟨by rw [held_min]; simp [ul, hk], rfl⟩)
  · have ht9 := tx_5 hk
    refine g_tabIn F d_X1_countOf_8 ⟨by omega, by omega⟩ 2 (tgt := 76) (by omega) (by decide) rfl rfl ?_
    refine g_aload_n F 0 rfl rfl d_X1_countOf_76 ?_
    refine g_iload_n F 1 rfl rfl d_X1_countOf_77 ?_
    refine g_iconst F d_X1_countOf_78 ?_
    refine g_Vi F (own := RX1) (c_X1_textCount l E q sh σ hs p 1 (by omega) (by omega) (fun j h0 h1 => by have h9 := hc j h0 (by omega); omega)) k_X1_64 (hsC_16 hs) rfl rfl [] d_X1_countOf_79 ⟨rfl, rfl, by decide, by decide⟩ ⟨Nat.zero_le _, Nat.zero_le _⟩ rfl (Nat.le_of_ble_eq_true rfl) ?_
    rintro _ _ ⟨rfl, rfl⟩
    refine g_aload_n F 0 rfl rfl d_X1_countOf_82 ?_
    refine g_iload_n F 1 rfl rfl d_X1_countOf_83 ?_
    refine g_iconst F d_X1_countOf_84 ?_
    refine g_Vi F (own := RX1) (c_X1_textCount l E q sh σ hs p 2 (by omega) (by omega) (fun j h0 h1 => by have h9 := hc j h0 (by omega); omega)) k_X1_64 (hsC_16 hs) rfl rfl [vI (σ 17 (tp (σ 10) p 1))] d_X1_countOf_85 ⟨rfl, rfl, by decide, by decide⟩ ⟨Nat.zero_le _, Nat.zero_le _⟩ rfl (Nat.le_of_ble_eq_true rfl) ?_
    rintro _ _ ⟨rfl, rfl⟩
    refine g_mmax F (own := RX1) (mg 396 (by decide +kernel) rfl) (by decide) (Nat.le_of_ble_eq_true rfl) ⟨Nat.zero_le _, Nat.zero_le _⟩ d_X1_countOf_88 ⟨by omega, by omega⟩ ⟨by omega, by omega⟩ ?_
    refine g_istore_n F (lv' := [(3, vI (if (σ 17 (tp (σ 10) p 1)) < (σ 17 (tp (σ 10) p 2)) then (σ 17 (tp (σ 10) p 2)) else (σ 17 (tp (σ 10) p 1)))), (0, .ref (q 16)), (1, vI p), (2, vI a)]) rfl (by decide) rfl d_X1_countOf_91 ?_
    refine g_iconst F d_X1_countOf_92 ?_
    refine g_aload_n F 1 rfl rfl d_X1_countOf_93 ?_
    refine g_iload_n F 2 rfl rfl d_X1_countOf_94 ?_
    refine g_iconst F d_X1_countOf_95 ?_
    refine g_Vi F (own := RX1) (c_X1_textCount l E q sh σ hs p 0 (by omega) (by omega) (fun j h0 h1 => by have h9 := hc j h0 (by omega); omega)) k_X1_64 (hsC_16 hs) rfl rfl [vI 2] d_X1_countOf_96 ⟨rfl, rfl, by decide, by decide⟩ ⟨Nat.zero_le _, Nat.zero_le _⟩ rfl (Nat.le_of_ble_eq_true rfl) ?_
    rintro _ _ ⟨rfl, rfl⟩
    refine g_iload_n F 0 rfl rfl d_X1_countOf_99 ?_
    refine g_iadd F d_X1_countOf_100 ?_
    refine g_mmin F (own := RX1) (mg 393 (by decide +kernel) rfl) (by decide) (Nat.le_of_ble_eq_true rfl) ⟨Nat.zero_le _, Nat.zero_le _⟩ d_X1_countOf_101 ⟨by decide, by decide⟩ ⟨by omega, by omega⟩ ?_
    exact hQ d_X1_countOf_104 (⟨by rw [held_min]; simp [ul, hk, most], rfl⟩)
  · have ht9 := tx_6 hk
    have hw6 := wo_6 hk
    refine g_tabIn F d_X1_countOf_8 ⟨by omega, by omega⟩ 3 (tgt := 105) (by omega) (by decide) rfl rfl ?_
    refine g_aload_n F 0 rfl rfl d_X1_countOf_105 ?_
    refine g_iload_n F 1 rfl rfl d_X1_countOf_106 ?_
    refine g_aload_n F 0 rfl rfl d_X1_countOf_107 ?_
    refine g_getR F f_X1_21 d_X1_countOf_108 (hsC_16 hs) rfl ?_
    refine g_iload_n F 1 rfl rfl d_X1_countOf_111 ?_
    refine g_Vi F (own := RX1) (c_X0_worthAt l E q sh σ hs.B p (by omega)) k_X1_61 (hsC_5 hs) rfl rfl [vI p, .ref (q 16)] d_X1_countOf_112 ⟨rfl, rfl, by decide, by decide⟩ ⟨Nat.zero_le _, Nat.zero_le _⟩ rfl (Nat.le_of_ble_eq_true rfl) ?_
    rintro _ _ ⟨rfl, rfl⟩
    refine G_top (b := wo (σ 7 p)) (hKK.2.1) ?_
    refine g_Vi F (own := RX1) (c_X1_callCount l E q sh σ hs p (wo (σ 7 p)) (by omega) hw6 (fun j h0 h1 => by have h9 := hc j h0 (by omega); omega) hC hK) k_X1_75 (hsC_16 hs) rfl rfl [] d_X1_countOf_115 ⟨rfl, rfl, by decide, by decide⟩ ⟨Nat.zero_le _, Nat.zero_le _⟩ rfl (Nat.le_of_ble_eq_true rfl) ?_
    rintro _ _ ⟨rfl, rfl⟩
    exact hQ d_X1_countOf_118 (⟨by simp [ul, hk], rfl⟩)
  · refine g_tabOut F d_X1_countOf_8 ⟨by omega, by omega⟩ (tgt := 119) (by omega) rfl ?_
    refine g_iconst F d_X1_countOf_119 ?_
    exact hQ d_X1_countOf_120 (⟨by unfold ul; rw [if_neg (by omega), if_neg (by omega), if_neg (by omega), if_neg (by omega)], rfl⟩)
set_option maxHeartbeats 1000000 in
theorem c_X1_countIn (l : Launch) (E : Ev) (q : Nat → Nat) (sh : List Shp) (σ : Sg) (hs : HsC sh) (x a : Int) (hx : 0 ≤ x ∧ x < 4) (ha : 0 ≤ a ∧ a < 3) (hBO : BOK σ) (hC : CR σ) (hK : KR σ) : CI l E yX1_countIn cX1_countIn 5 .int ({ frames := 4, cells := 0, slots := 0, locals := 94 } : Room) q sh σ [.ref (q 16), vI x, vI a] (fun z τ => Sm [17] σ τ ∧ CR τ ∧ SolU (σ 7) (σ 10) (kn σ) (τ 17) a (x * 30) (σ 6 x) ∧ z = τ 17 (x * 30)) := by
  have hB := (hBO x hx.1 hx.2).1
  have hn1 := hB.1
  have hn2 := hB.2.1
  refine CI_of (own := RX1) (by decide) rfl (Nat.le_of_ble_eq_true rfl) (fun X Q F hQ => ?_)
  show G X E 5 q sh σ 0 0 Q 0 [(0, .ref (q 16)), (1, vI x), (2, vI a)] []
  refine g_aload_n F 0 rfl rfl d_X1_countIn_0 ?_
  refine g_getR F f_X1_21 d_X1_countIn_1 (hsC_16 hs) rfl ?_
  refine g_iload_n F 1 rfl rfl d_X1_countIn_4 ?_
  refine g_Vi F (own := RX1) (c_X0_root l E q sh σ hs.B x hx) k_X1_39 (hsC_5 hs) rfl rfl [] d_X1_countIn_5 ⟨rfl, rfl, by decide, by decide⟩ ⟨Nat.zero_le _, Nat.zero_le _⟩ rfl (Nat.le_of_ble_eq_true rfl) ?_
  rintro _ _ ⟨rfl, rfl⟩
  refine g_istore_n F (lv' := [(3, vI (x * 30)), (0, .ref (q 16)), (1, vI x), (2, vI a)]) rfl (by decide) rfl d_X1_countIn_8 ?_
  refine g_iload_n F 0 rfl rfl d_X1_countIn_9 ?_
  refine g_aload_n F 1 rfl rfl d_X1_countIn_10 ?_
  refine g_getR F f_X1_21 d_X1_countIn_11 (hsC_16 hs) rfl ?_
  refine g_iload_n F 2 rfl rfl d_X1_countIn_14 ?_
  refine g_Vi F (own := RX1) (c_X0_count l E q sh σ hs.B x hx) k_X1_45 (hsC_5 hs) rfl rfl [vI (x * 30)] d_X1_countIn_15 ⟨rfl, rfl, by decide, by decide⟩ ⟨Nat.zero_le _, Nat.zero_le _⟩ rfl (Nat.le_of_ble_eq_true rfl) ?_
  rintro _ _ ⟨rfl, rfl⟩
  refine g_iadd F d_X1_countIn_18 ?_
  refine g_iconst F d_X1_countIn_19 ?_
  refine g_isub F d_X1_countIn_20 ?_
  refine g_istore F (lv' := [(4, vI (((x * 30) + (σ 6 x)) - 1)), (3, vI (x * 30)), (0, .ref (q 16)), (1, vI x), (2, vI a)]) (by decide) rfl d_X1_countIn_21 ?_
  have loop23 : ∀ (nn : Nat) (i : Int) (τ : Sg), (x * 30 - 1 ≤ i ∧ i ≤ x * 30 + σ 6 x - 1) → (Sm [17] σ τ) → (CR τ) → (∀ p, i < p → p < x * 30 + σ 6 x → τ 17 p = ul (σ 7) (σ 10) (kn σ) (τ 17) a p) → (i - x * 30 + 1).toNat < nn → G X E 5 q sh τ 0 0 Q 23 [(0, .ref (q 16)), (1, vI x), (2, vI a), (3, vI (x * 30)), (4, vI i)] [] := by
    intro n23
    induction n23 with
    | zero => intro i τ hi hm hC1 hin hm23; exact absurd hm23 (Nat.not_lt_zero _)
    | succ n23 ih23 =>
      intro i τ hi hm hC1 hin hm23
      have g6 : τ 6 = σ 6 := hm 6 (by decide)
      have g7 : τ 7 = σ 7 := hm 7 (by decide)
      have g8 : τ 8 = σ 8 := hm 8 (by decide)
      have g9 : τ 9 = σ 9 := hm 9 (by decide)
      have g10 : τ 10 = σ 10 := hm 10 (by decide)
      have g11 : τ 11 = σ 11 := hm 11 (by decide)
      have g18 : τ 18 = σ 18 := hm 18 (by decide)
      have gk : kn τ = kn σ := by unfold kn; rw [g18]
      refine g_iload F 4 rfl d_X1_countIn_23 ?_
      refine g_iload_n F 3 rfl rfl d_X1_countIn_25 ?_
      refine g_icmp_lt F d_X1_countIn_26 ⟨by omega, by omega⟩ ⟨by omega, by omega⟩ (fun h26 => ?_) (fun h26 => ?_)
      · refine g_aload_n F 0 rfl rfl d_X1_countIn_48 ?_
        refine g_iload_n F 3 rfl rfl d_X1_countIn_49 ?_
        refine g_Vi F (own := RX1) (c_X1_countAt l E q sh τ hs (x * 30) (by omega)) k_X1_55 (hsC_16 hs) rfl rfl [] d_X1_countIn_50 ⟨rfl, rfl, by decide, by decide⟩ ⟨Nat.zero_le _, Nat.zero_le _⟩ rfl (Nat.le_of_ble_eq_true rfl) ?_
        rintro _ _ ⟨rfl, rfl⟩
        exact hQ d_X1_countIn_53 (⟨hm, hC1, fun p h1 h2 => hin p (by omega) h2, rfl⟩)
      · have hBO2 : BOK τ := by
          intro g h0 h1
          rw [g6, g7, g8, g9, g10, g11]
          exact hBO g h0 h1
        refine g_aload_n F 0 rfl rfl d_X1_countIn_29 ?_
        refine g_iload F 4 rfl d_X1_countIn_30 ?_
        refine g_aload_n F 0 rfl rfl d_X1_countIn_32 ?_
        refine g_iload F 4 rfl d_X1_countIn_33 ?_
        refine g_iload_n F 2 rfl rfl d_X1_countIn_35 ?_
        refine g_Vi F (own := RX1) (c_X1_countOf l E q sh τ hs i a x hx ⟨by omega, by rw [g6]; omega⟩ ha hBO2 hC1 (fun j => by rw [g18]; exact hK j)) k_X1_48 (hsC_16 hs) rfl rfl [vI i, .ref (q 16)] d_X1_countIn_36 ⟨rfl, rfl, by decide, by decide⟩ ⟨Nat.zero_le _, Nat.zero_le _⟩ rfl (Nat.le_of_ble_eq_true rfl) ?_
        rintro _ _ ⟨rfl, rfl⟩
        refine G_top (b := ul (σ 7) (σ 10) (kn σ) (τ 17) a i) (by rw [g7, g10, gk]) ?_
        refine g_Vv F (own := RX1) (c_X1_setCount l E q sh τ hs i (ul (σ 7) (σ 10) (kn σ) (τ 17) a i) (by omega)) k_X1_51 (hsC_16 hs) rfl rfl [] d_X1_countIn_39 ⟨rfl, rfl, by decide, by decide⟩ ⟨Nat.zero_le _, Nat.zero_le _⟩ rfl (Nat.le_of_ble_eq_true rfl) ?_
        rintro _ rfl
        refine g_iinc F (lv' := [(4, vI (i + (-1))), (0, .ref (q 16)), (1, vI x), (2, vI a), (3, vI (x * 30))]) 4 rfl rfl (by decide) rfl d_X1_countIn_42 ?_
        refine g_goto F d_X1_countIn_45 ?_
        have hv := ul_in (S := σ 7) (Z := σ 10) (a := a) (p := i) hK.U hC1
        have q1 : CR (up τ 17 i (ul (σ 7) (σ 10) (kn σ) (τ 17) a i)) := by
          intro p
          rw [up_at]
          split
          · exact hv
          · exact hC1 p
        have q2 : ∀ p, i + (-1) < p → p < x * 30 + σ 6 x → (up τ 17 i (ul (σ 7) (σ 10) (kn σ) (τ 17) a i)) 17 p = ul (σ 7) (σ 10) (kn σ) ((up τ 17 i (ul (σ 7) (σ 10) (kn σ) (τ 17) a i)) 17) a p := by
          intro p h4 h5
          have key : ul (σ 7) (σ 10) (kn σ) (τ 17) a p = ul (σ 7) (σ 10) (kn σ) ((up τ 17 i (ul (σ 7) (σ 10) (kn σ) (τ 17) a i)) 17) a p := by
            apply ul_congr
            intro j hj0 hj1
            have h7 := (hB.2.2.2.2 p (by omega) h5).2.1 j hj0 hj1
            rw [up_other _ _ (show tp (σ 10) p j ≠ i by omega)]
          rw [← key]
          by_cases hp : p = i
          · subst hp
            rw [up_same]
          · rw [up_other _ _ hp]
            exact hin p (by omega) h5
        refine G_sub (ks := [1, 2, 3, 4, 0]) rfl ?_
        exact ih23 (i + (-1)) (up τ 17 i (ul (σ 7) (σ 10) (kn σ) (τ 17) a i)) (by omega) (hm.up (by decide) _ _) q1 q2 (by omega)
  refine G_sub (ks := [2, 3, 4, 1, 0]) rfl ?_
  exact loop23 _ (((x * 30) + (σ 6 x)) - 1) σ (by omega) (Sm.refl _ _) hC (fun p h1 h2 => by exfalso; omega) (Nat.lt_succ_self _)
