/-! the reference, its small methods -/
def cmpL (a b : Int) : Int := if b < a then 1 else if a = b then 0 else -1
theorem cmpL_rg (a b : Int) : rg (cmpL a b) := by unfold cmpL; split <;> (try split) <;> exact ⟨by decide, by decide⟩
theorem cmpL_lt {a b : Int} : cmpL a b < 0 ↔ a < b := by unfold cmpL; split <;> (try split) <;> omega
theorem cmpL_gt {a b : Int} : 0 < cmpL a b ↔ b < a := by unfold cmpL; split <;> (try split) <;> omega
theorem lg_iL {a b : Int} (ha : rg a) (hb : rg b) : lg_cmp (iL a) (iL b) = iI (cmpL a b) := by
  unfold lg_cmp cmpL
  by_cases h : b < a
  · rw [if_pos ((iL_lt hb ha).mpr h), if_pos h]; rfl
  · rw [if_neg (fun z => h ((iL_lt hb ha).mp z)), if_neg h]
    by_cases e : a = b
    · rw [if_pos e, e, if_pos rfl]; rfl
    · rw [if_neg e, if_neg (fun z => e (by have := congrArg Int64.toInt z; rw [iL_toInt ha, iL_toInt hb] at this; exact this))]; rfl
theorem g_lcmp {X : Cx} {E : Ev} {l : Launch} {cc : ByteArray} {nL : Nat} {own : String} {rm : Room} {q : Nat → Nat} {sh : List Shp} {σ : Sg} {ck cs : Nat} {Q : State → Prop} {pc pc' : Nat} {lv : List (Nat × Value)} {st : List Value} (F : Fx X E l cc nL own rm) {a b : Int} (d : At cc pc .lcmp 1 pc') (ha : rg a) (hb : rg b) (k : G X E nL q sh σ ck cs Q pc' lv (vI (cmpL a b) :: st)) : G X E nL q sh σ ck cs Q pc lv (vL b :: vL a :: st) := by
  intro hA H locs ls hP hS hl
  obtain ⟨d, rfl⟩ := d
  refine W.lcmp F.1 F.2.1 d ?_
  rw [lg_iL ha hb]
  exact k hA H locs ls hP hS hl
def cb (c : Int) : Int := if c = 102 then 0 else if c = 103 then 1 else if c = 104 then 2 else if c = 107 then 3 else -6
theorem cb_6 {c : Int} (h : kd c = 6) : cb c = wo c := by
  rcases kd_6.mp h with rfl | rfl | rfl | rfl <;> decide
theorem cb_n {c : Int} (h : kd c ≠ 6) : cb c = -6 := by
  have h2 : ¬ (c = 102 ∨ c = 103 ∨ c = 104 ∨ c = 107) := fun z => h (kd_6.mpr z)
  unfold cb
  rw [if_neg (by omega), if_neg (by omega), if_neg (by omega), if_neg (by omega)]
theorem cb_in (c : Int) : -6 ≤ cb c ∧ cb c ≤ 3 := by unfold cb; split <;> (try split) <;> (try split) <;> (try split) <;> omega
theorem cb_iff {c : Int} : 0 ≤ cb c ↔ kd c = 6 := by
  by_cases h : kd c = 6
  · rw [cb_6 h]; exact ⟨fun _ => h, fun _ => (wo_6 h).1⟩
  · rw [cb_n h]; exact ⟨fun z => by exfalso; omega, fun z => absurd z h⟩
/-- how many texts a sign takes in a text of a FUNCTION; -1: it can't stand -/
def pts (c f : Int) : Int := if kd c = 0 ∨ (kd c = 3 ∧ ¬ wo c < nA f) then -1 else tx c
def mtb (σ : Sg) : TB := fun g r => bt (σ 37 g) r
def MTR (σ : Sg) : Prop := ∀ f, 0 ≤ σ 37 f ∧ σ 37 f < 256
theorem c3_or0 {n : Int} (hn : 0 ≤ n ∧ n < 3) {v0 v1 v2 : Bool} : bOr (c3 n v0 v1 v2) 0 = c3 n v0 v1 v2 := by
  have h1 : n = 0 ∨ n = 1 ∨ n = 2 := by omega
  rcases h1 with rfl | rfl | rfl <;> cases v0 <;> cases v1 <;> cases v2 <;> decide
def JI (T : TB) (f s j r : Int) : Prop := (j = 1 ∧ T f (cutA f s) = false ∧ ∀ k, 0 ≤ k → k < r → bAnd k (bXor s (-1)) = 0 → T f (cutA f k) = true) ∨ (j = 0 ∧ ¬ isJ T f s)
theorem JI.b {T : TB} {f s j r : Int} (h : JI T f s j r) : j = 0 ∨ j = 1 := h.elim (fun z => Or.inr z.1) (fun z => Or.inl z.1)
theorem JI.fin {T : TB} {f s j r : Int} (h : JI T f s j r) (hr : s ≤ r ∨ j = 0) : (j = 1 ∧ isJ T f s) ∨ (j = 0 ∧ ¬ isJ T f s) := by
  rcases h with ⟨h1, h2, h3⟩ | h
  · rcases hr with hr | hr
    · exact Or.inl ⟨h1, h2, fun k a b c => h3 k a (by omega) c⟩
    · exfalso; omega
  · exact Or.inr h
theorem JI.init {T : TB} {f s : Int} : JI T f s (if T f (cutA f s) = false then 1 else 0) 0 := by
  by_cases h : T f (cutA f s) = false
  · rw [if_pos h]; exact Or.inl ⟨rfl, h, fun k a b => by exfalso; omega⟩
  · rw [if_neg h]; exact Or.inr ⟨rfl, fun z => h z.1⟩
theorem JI.yes {T : TB} {f s j r : Int} (h : JI T f s j r) (hj : j ≠ 0) (hr : 0 ≤ r) (hc : bAnd r (bXor s (-1)) ≠ 0 ∨ T f (cutA f r) = true) : JI T f s 1 (r + 1) := by
  rcases h with ⟨h1, h2, h3⟩ | h
  · refine Or.inl ⟨rfl, h2, fun k a b c => ?_⟩
    by_cases e : k = r
    · rw [e] at c ⊢
      rcases hc with hc | hc
      · exact absurd c hc
      · exact hc
    · exact h3 k a (by omega) c
  · exact absurd h.1 hj
theorem JI.no {T : TB} {f s r : Int} (hr : 0 ≤ r) (hs : r < s) (hc : bAnd r (bXor s (-1)) = 0) (ht : ¬ T f (cutA f r) = true) : JI T f s 0 (r + 1) := Or.inr ⟨rfl, fun z => ht (z.2 r hr hs hc)⟩
set_option maxHeartbeats 1000000 in
theorem c_X9_in (l : Launch) (E : Ev) (q : Nat → Nat) (sh : List Shp) (σ : Sg) (a b c : Int) (ra : rg a) (rb : rg b) (rc : rg c) : CI l E yX9_in cX9_in 6 .boolean ({ frames := 0, cells := 0, slots := 0, locals := 0 } : Room) q sh σ [vL (a), vL (b), vL (c)] (is (if b ≤ a ∧ a ≤ c then 1 else 0) σ) := by
  refine CB_of (own := RX9) (by decide) rfl (Nat.le_of_ble_eq_true rfl) (fun X Q F hQ => ?_)
  show G X E 6 q sh σ 0 0 Q 0 [(0, vL (a)), (2, vL (b)), (4, vL (c))] []
  refine g_lload_n F 0 rfl rfl d_X9_in_0 ?_
  refine g_lload_n F 1 rfl rfl d_X9_in_1 ?_
  refine g_lcmp F d_X9_in_2 ra rb ?_
  refine g_if_lt F d_X9_in_3 (cmpL_rg _ _) (fun h3 => ?_) (fun h3 => ?_)
  · refine g_iconst F d_X9_in_17 ?_
    exact hQ d_X9_in_18 (Or.inl rfl) (⟨by first | (rw [if_pos (by omega)]; done) | (rw [if_neg (by have h33 := cmpL_lt.mp h3; omega)]; done) | (rw [if_neg (by have h33 := cmpL_gt.mp h10; omega)]; done), rfl⟩)
  · rw [cmpL_lt] at h3
    refine g_lload_n F 0 rfl rfl d_X9_in_6 ?_
    refine g_lload F 2 rfl d_X9_in_7 ?_
    refine g_lcmp F d_X9_in_9 ra rc ?_
    refine g_if_gt F d_X9_in_10 (cmpL_rg _ _) (fun h10 => ?_) (fun h10 => ?_)
    · refine g_iconst F d_X9_in_17 ?_
      exact hQ d_X9_in_18 (Or.inl rfl) (⟨by first | (rw [if_pos (by omega)]; done) | (rw [if_neg (by have h33 := cmpL_lt.mp h3; omega)]; done) | (rw [if_neg (by have h33 := cmpL_gt.mp h10; omega)]; done), rfl⟩)
    · rw [cmpL_gt] at h10
      refine g_iconst F d_X9_in_13 ?_
      refine g_goto F d_X9_in_14 ?_
      exact hQ d_X9_in_18 (Or.inr rfl) (⟨by first | (rw [if_pos (by omega)]; done) | (rw [if_neg (by have h33 := cmpL_lt.mp h3; omega)]; done) | (rw [if_neg (by have h33 := cmpL_gt.mp h10; omega)]; done), rfl⟩)
set_option maxHeartbeats 1000000 in
theorem c_X9_isFunction (l : Launch) (E : Ev) (q : Nat → Nat) (sh : List Shp) (σ : Sg) (x : Int) (rx : rg x) : CI l E yX9_isFunction cX9_isFunction 1 .boolean ({ frames := 1, cells := 0, slots := 0, locals := 25 } : Room) q sh σ [vI x] (is (if 0 ≤ x ∧ x < 4 then 1 else 0) σ) := by
  have rx1 := rx.1
  have rx2 := rx.2
  refine CB_of (own := RX9) (by decide) rfl (Nat.le_of_ble_eq_true rfl) (fun X Q F hQ => ?_)
  show G X E 1 q sh σ 0 0 Q 0 [(0, vI x)] []
  refine g_iload_n F 0 rfl rfl d_X9_isFunction_0 ?_
  refine g_i2l F ⟨by omega, by omega⟩ d_X9_isFunction_1 ?_
  refine g_lconst F (z := 0) rfl d_X9_isFunction_2 ?_
  refine g_ldc2 F (z := 3) (mg 844 (by decide +kernel) rfl) d_X9_isFunction_3 ?_
  refine g_Si F (own := RX9) (c_X9_in l E q sh σ x 0 3 rx ⟨by decide, by decide⟩ ⟨by decide, by decide⟩) k_X9_69 [] d_X9_isFunction_6 ⟨rfl, rfl, by decide, by decide⟩ ⟨Nat.zero_le _, Nat.zero_le _⟩ rfl (Nat.le_of_ble_eq_true rfl) ?_
  rintro _ _ ⟨rfl, rfl⟩
  exact hQ d_X9_isFunction_9 (by first | (split <;> simp) | omega) (⟨by split <;> split <;> omega, rfl⟩)
set_option maxHeartbeats 1000000 in
theorem c_X9_isWay (l : Launch) (E : Ev) (q : Nat → Nat) (sh : List Shp) (σ : Sg) (x : Int) (rx : rg x) : CI l E yX9_isWay cX9_isWay 1 .boolean ({ frames := 1, cells := 0, slots := 0, locals := 25 } : Room) q sh σ [vI x] (is (if 0 ≤ x ∧ x < 4 then 1 else 0) σ) := by
  have rx1 := rx.1
  have rx2 := rx.2
  refine CB_of (own := RX9) (by decide) rfl (Nat.le_of_ble_eq_true rfl) (fun X Q F hQ => ?_)
  show G X E 1 q sh σ 0 0 Q 0 [(0, vI x)] []
  refine g_iload_n F 0 rfl rfl d_X9_isWay_0 ?_
  refine g_i2l F ⟨by omega, by omega⟩ d_X9_isWay_1 ?_
  refine g_lconst F (z := 0) rfl d_X9_isWay_2 ?_
  refine g_ldc2 F (z := 3) (mg 844 (by decide +kernel) rfl) d_X9_isWay_3 ?_
  refine g_Si F (own := RX9) (c_X9_in l E q sh σ x 0 3 rx ⟨by decide, by decide⟩ ⟨by decide, by decide⟩) k_X9_69 [] d_X9_isWay_6 ⟨rfl, rfl, by decide, by decide⟩ ⟨Nat.zero_le _, Nat.zero_le _⟩ rfl (Nat.le_of_ble_eq_true rfl) ?_
  rintro _ _ ⟨rfl, rfl⟩
  exact hQ d_X9_isWay_9 (by first | (split <;> simp) | omega) (⟨by split <;> split <;> omega, rfl⟩)
set_option maxHeartbeats 1000000 in
theorem c_X9_argumentsOf (l : Launch) (E : Ev) (q : Nat → Nat) (sh : List Shp) (σ : Sg) (x : Int) (hx : 0 ≤ x ∧ x < 4) : CI l E yX9_argumentsOf cX9_argumentsOf 1 .int ({ frames := 0, cells := 0, slots := 0, locals := 0 } : Room) q sh σ [vI x] (is (nA x) σ) := by
  refine CI_of (own := RX9) (by decide) rfl (Nat.le_of_ble_eq_true rfl) (fun X Q F hQ => ?_)
  show G X E 1 q sh σ 0 0 Q 0 [(0, vI x)] []
  refine g_iload_n F 0 rfl rfl d_X9_argumentsOf_0 ?_
  refine g_if_ne F d_X9_argumentsOf_1 ⟨by omega, by omega⟩ (fun h1 => ?_) (fun h1 => ?_)
  · refine g_iload_n F 0 rfl rfl d_X9_argumentsOf_8 ?_
    refine g_iconst F d_X9_argumentsOf_9 ?_
    refine g_icmp_ne F d_X9_argumentsOf_10 ⟨by omega, by omega⟩ ⟨by decide, by decide⟩ (fun h10 => ?_) (fun h10 => ?_)
    · refine g_iconst F d_X9_argumentsOf_17 ?_
      exact hQ d_X9_argumentsOf_18 (⟨by unfold nA; rcases four hx with e | e | e | e <;> subst e <;> simp at *, rfl⟩)
    · refine g_iconst F d_X9_argumentsOf_13 ?_
      refine g_goto F d_X9_argumentsOf_14 ?_
      exact hQ d_X9_argumentsOf_18 (⟨by unfold nA; rcases four hx with e | e | e | e <;> subst e <;> simp at *, rfl⟩)
  · refine g_iconst F d_X9_argumentsOf_4 ?_
    refine g_goto F d_X9_argumentsOf_5 ?_
    exact hQ d_X9_argumentsOf_18 (⟨by unfold nA; rcases four hx with e | e | e | e <;> subst e <;> simp at *, rfl⟩)
set_option maxHeartbeats 1000000 in
theorem c_X9_calledBy (l : Launch) (E : Ev) (q : Nat → Nat) (sh : List Shp) (σ : Sg) (x : Int) (rx : rg x) : CI l E yX9_calledBy cX9_calledBy 1 .int ({ frames := 0, cells := 0, slots := 0, locals := 0 } : Room) q sh σ [vI x] (is (cb x) σ) := by
  have rx1 := rx.1
  have rx2 := rx.2
  refine CI_of (own := RX9) (by decide) rfl (Nat.le_of_ble_eq_true rfl) (fun X Q F hQ => ?_)
  show G X E 1 q sh σ 0 0 Q 0 [(0, vI x)] []
  refine g_iload_n F 0 rfl rfl d_X9_calledBy_0 ?_
  refine g_bipush F (by decide) d_X9_calledBy_1 ?_
  refine g_icmp_ne F d_X9_calledBy_3 ⟨by omega, by omega⟩ ⟨by decide, by decide⟩ (fun h3 => ?_) (fun h3 => ?_)
  · refine g_iload_n F 0 rfl rfl d_X9_calledBy_10 ?_
    refine g_bipush F (by decide) d_X9_calledBy_11 ?_
    refine g_icmp_ne F d_X9_calledBy_13 ⟨by omega, by omega⟩ ⟨by decide, by decide⟩ (fun h13 => ?_) (fun h13 => ?_)
    · refine g_iload_n F 0 rfl rfl d_X9_calledBy_20 ?_
      refine g_bipush F (by decide) d_X9_calledBy_21 ?_
      refine g_icmp_ne F d_X9_calledBy_23 ⟨by omega, by omega⟩ ⟨by decide, by decide⟩ (fun h23 => ?_) (fun h23 => ?_)
      · refine g_iload_n F 0 rfl rfl d_X9_calledBy_30 ?_
        refine g_bipush F (by decide) d_X9_calledBy_31 ?_
        refine g_icmp_ne F d_X9_calledBy_33 ⟨by omega, by omega⟩ ⟨by decide, by decide⟩ (fun h33 => ?_) (fun h33 => ?_)
        · refine g_bipush F (by decide) d_X9_calledBy_40 ?_
          exact hQ d_X9_calledBy_42 (⟨by unfold cb; simp [*], rfl⟩)
        · refine g_iconst F d_X9_calledBy_36 ?_
          refine g_goto F d_X9_calledBy_37 ?_
          exact hQ d_X9_calledBy_42 (⟨by unfold cb; simp [*], rfl⟩)
      · refine g_iconst F d_X9_calledBy_26 ?_
        refine g_goto F d_X9_calledBy_27 ?_
        exact hQ d_X9_calledBy_42 (⟨by unfold cb; simp [*], rfl⟩)
    · refine g_iconst F d_X9_calledBy_16 ?_
      refine g_goto F d_X9_calledBy_17 ?_
      exact hQ d_X9_calledBy_42 (⟨by unfold cb; simp [*], rfl⟩)
  · refine g_iconst F d_X9_calledBy_6 ?_
    refine g_goto F d_X9_calledBy_7 ?_
    exact hQ d_X9_calledBy_42 (⟨by unfold cb; simp [*], rfl⟩)
set_option maxHeartbeats 1000000 in
theorem c_X9_isAct (l : Launch) (E : Ev) (q : Nat → Nat) (sh : List Shp) (σ : Sg) (x : Int) (rx : rg x) : CI l E yX9_isAct cX9_isAct 1 .boolean ({ frames := 0, cells := 0, slots := 0, locals := 0 } : Room) q sh σ [vI x] (is (if kd x = 4 then 1 else 0) σ) := by
  have rx1 := rx.1
  have rx2 := rx.2
  have h4 : kd x = 4 ↔ x = 42 ∨ x = 43 ∨ x = 45 ∨ x = 109 := kd_4
  refine CB_of (own := RX9) (by decide) rfl (Nat.le_of_ble_eq_true rfl) (fun X Q F hQ => ?_)
  show G X E 1 q sh σ 0 0 Q 0 [(0, vI x)] []
  refine g_iload_n F 0 rfl rfl d_X9_isAct_0 ?_
  refine g_bipush F (by decide) d_X9_isAct_1 ?_
  refine g_icmp_eq F d_X9_isAct_3 ⟨by omega, by omega⟩ ⟨by decide, by decide⟩ (fun h3 => ?_) (fun h3 => ?_)
  · refine g_iconst F d_X9_isAct_24 ?_
    refine g_goto F d_X9_isAct_25 ?_
    exact hQ d_X9_isAct_29 (Or.inr rfl) (⟨by first | (rw [if_pos (h4.mpr (by omega))]; done) | (rw [if_neg (fun z => by have := h4.mp z; omega)]; done), rfl⟩)
  · refine g_iload_n F 0 rfl rfl d_X9_isAct_6 ?_
    refine g_bipush F (by decide) d_X9_isAct_7 ?_
    refine g_icmp_eq F d_X9_isAct_9 ⟨by omega, by omega⟩ ⟨by decide, by decide⟩ (fun h9 => ?_) (fun h9 => ?_)
    · refine g_iconst F d_X9_isAct_24 ?_
      refine g_goto F d_X9_isAct_25 ?_
      exact hQ d_X9_isAct_29 (Or.inr rfl) (⟨by first | (rw [if_pos (h4.mpr (by omega))]; done) | (rw [if_neg (fun z => by have := h4.mp z; omega)]; done), rfl⟩)
    · refine g_iload_n F 0 rfl rfl d_X9_isAct_12 ?_
      refine g_bipush F (by decide) d_X9_isAct_13 ?_
      refine g_icmp_eq F d_X9_isAct_15 ⟨by omega, by omega⟩ ⟨by decide, by decide⟩ (fun h15 => ?_) (fun h15 => ?_)
      · refine g_iconst F d_X9_isAct_24 ?_
        refine g_goto F d_X9_isAct_25 ?_
        exact hQ d_X9_isAct_29 (Or.inr rfl) (⟨by first | (rw [if_pos (h4.mpr (by omega))]; done) | (rw [if_neg (fun z => by have := h4.mp z; omega)]; done), rfl⟩)
      · refine g_iload_n F 0 rfl rfl d_X9_isAct_18 ?_
        refine g_bipush F (by decide) d_X9_isAct_19 ?_
        refine g_icmp_ne F d_X9_isAct_21 ⟨by omega, by omega⟩ ⟨by decide, by decide⟩ (fun h21 => ?_) (fun h21 => ?_)
        · refine g_iconst F d_X9_isAct_28 ?_
          exact hQ d_X9_isAct_29 (Or.inl rfl) (⟨by first | (rw [if_pos (h4.mpr (by omega))]; done) | (rw [if_neg (fun z => by have := h4.mp z; omega)]; done), rfl⟩)
        · refine g_iconst F d_X9_isAct_24 ?_
          refine g_goto F d_X9_isAct_25 ?_
          exact hQ d_X9_isAct_29 (Or.inr rfl) (⟨by first | (rw [if_pos (h4.mpr (by omega))]; done) | (rw [if_neg (fun z => by have := h4.mp z; omega)]; done), rfl⟩)
set_option maxHeartbeats 1000000 in
theorem c_X9_isArgument (l : Launch) (E : Ev) (q : Nat → Nat) (sh : List Shp) (σ : Sg) (x : Int) (rx : rg x) : CI l E yX9_isArgument cX9_isArgument 1 .boolean ({ frames := 1, cells := 0, slots := 0, locals := 25 } : Room) q sh σ [vI x] (is (if kd x = 3 then 1 else 0) σ) := by
  have rx1 := rx.1
  have rx2 := rx.2
  have h3 : kd x = 3 ↔ 120 ≤ x ∧ x ≤ 122 := kd_3
  refine CB_of (own := RX9) (by decide) rfl (Nat.le_of_ble_eq_true rfl) (fun X Q F hQ => ?_)
  show G X E 1 q sh σ 0 0 Q 0 [(0, vI x)] []
  refine g_iload_n F 0 rfl rfl d_X9_isArgument_0 ?_
  refine g_i2l F ⟨by omega, by omega⟩ d_X9_isArgument_1 ?_
  refine g_ldc2 F (z := 120) (mg 736 (by decide +kernel) rfl) d_X9_isArgument_2 ?_
  refine g_ldc2 F (z := 122) (mg 737 (by decide +kernel) rfl) d_X9_isArgument_5 ?_
  refine g_Si F (own := RX9) (c_X9_in l E q sh σ x 120 122 rx ⟨by decide, by decide⟩ ⟨by decide, by decide⟩) k_X9_69 [] d_X9_isArgument_8 ⟨rfl, rfl, by decide, by decide⟩ ⟨Nat.zero_le _, Nat.zero_le _⟩ rfl (Nat.le_of_ble_eq_true rfl) ?_
  rintro _ _ ⟨rfl, rfl⟩
  exact hQ d_X9_isArgument_11 (by first | (split <;> simp) | omega) (⟨by split <;> split <;> omega, rfl⟩)
set_option maxHeartbeats 1000000 in
theorem c_X9_partsOf (l : Launch) (E : Ev) (q : Nat → Nat) (sh : List Shp) (σ : Sg) (x y : Int) (rx : rg x) (hy : 0 ≤ y ∧ y < 4) : CI l E yX9_partsOf cX9_partsOf 2 .int ({ frames := 2, cells := 0, slots := 0, locals := 45 } : Room) q sh σ [vI x, vI y] (is (pts x y) σ) := by
  have rx1 := rx.1
  have rx2 := rx.2
  have hn := nA_in y
  have hk := kd_in x
  have hcb := cb_in x
  have k1 : kd x = 1 ↔ _ := kd_1
  have k2 : kd x = 2 ↔ _ := kd_2
  have k5 : kd x = 5 ↔ _ := kd_5
  refine CI_of (own := RX9) (by decide) rfl (Nat.le_of_ble_eq_true rfl) (fun X Q F hQ => ?_)
  show G X E 2 q sh σ 0 0 Q 0 [(0, vI x), (1, vI y)] []
  refine g_iload_n F 0 rfl rfl d_X9_partsOf_0 ?_
  refine g_Si F (own := RX9) (c_X9_calledBy l E q sh σ x ⟨by omega, by omega⟩) k_X9_81 [] d_X9_partsOf_1 ⟨rfl, rfl, by decide, by decide⟩ ⟨Nat.zero_le _, Nat.zero_le _⟩ rfl (Nat.le_of_ble_eq_true rfl) ?_
  rintro _ _ ⟨rfl, rfl⟩
  refine g_if_lt F d_X9_partsOf_4 ⟨by omega, by omega⟩ (fun h4 => ?_) (fun h4 => ?_)
  · have n6 : kd x ≠ 6 := fun z => by have := cb_iff.mpr z; omega
    refine g_iload_n F 0 rfl rfl d_X9_partsOf_15 ?_
    refine g_Si F (own := RX9) (c_X9_isAct l E q sh σ x ⟨by omega, by omega⟩) k_X9_88 [] d_X9_partsOf_16 ⟨rfl, rfl, by decide, by decide⟩ ⟨Nat.zero_le _, Nat.zero_le _⟩ rfl (Nat.le_of_ble_eq_true rfl) ?_
    rintro _ _ ⟨rfl, rfl⟩
    refine g_b_eq F d_X9_partsOf_19 (fun h19 => ?_) (fun h19 => ?_)
    · refine g_iload_n F 0 rfl rfl d_X9_partsOf_24 ?_
      refine g_Si F (own := RX9) (c_X9_isArgument l E q sh σ x ⟨by omega, by omega⟩) k_X9_92 [] d_X9_partsOf_25 ⟨rfl, rfl, by decide, by decide⟩ ⟨Nat.zero_le _, Nat.zero_le _⟩ rfl (Nat.le_of_ble_eq_true rfl) ?_
      rintro _ _ ⟨rfl, rfl⟩
      refine g_b_eq F d_X9_partsOf_28 (fun h28 => ?_) (fun h28 => ?_)
      · refine g_iload_n F 0 rfl rfl d_X9_partsOf_48 ?_
        refine g_bipush F (by decide) d_X9_partsOf_49 ?_
        refine g_icmp_ne F d_X9_partsOf_51 ⟨by omega, by omega⟩ ⟨by decide, by decide⟩ (fun h51 => ?_) (fun h51 => ?_)
        · refine g_iload_n F 0 rfl rfl d_X9_partsOf_58 ?_
          refine g_bipush F (by decide) d_X9_partsOf_59 ?_
          refine g_icmp_eq F d_X9_partsOf_61 ⟨by omega, by omega⟩ ⟨by decide, by decide⟩ (fun h61 => ?_) (fun h61 => ?_)
          · refine g_iconst F d_X9_partsOf_78 ?_
            refine g_goto F d_X9_partsOf_79 ?_
            exact hQ d_X9_partsOf_83 (⟨by unfold pts; first | (rw [if_neg (by omega), tx_5 (k5.mpr h51)]; done) | (rw [if_neg (by omega)]; unfold tx; rw [if_neg (by omega), if_neg (by omega), if_neg (by omega)]; done) | (rw [if_pos (by omega)]; done), rfl⟩)
          · refine g_iload_n F 0 rfl rfl d_X9_partsOf_64 ?_
            refine g_i2l F ⟨by omega, by omega⟩ d_X9_partsOf_65 ?_
            refine g_ldc2 F (z := 48) (mg 848 (by decide +kernel) rfl) d_X9_partsOf_66 ?_
            refine g_ldc2 F (z := 55) (mg 849 (by decide +kernel) rfl) d_X9_partsOf_69 ?_
            refine g_Si F (own := RX9) (c_X9_in l E q sh σ x 48 55 rx ⟨by decide, by decide⟩ ⟨by decide, by decide⟩) k_X9_69 [] d_X9_partsOf_72 ⟨rfl, rfl, by decide, by decide⟩ ⟨Nat.zero_le _, Nat.zero_le _⟩ rfl (Nat.le_of_ble_eq_true rfl) ?_
            rintro _ _ ⟨rfl, rfl⟩
            refine g_b_eq F d_X9_partsOf_75 (fun h75 => ?_) (fun h75 => ?_)
            · refine g_iconst F d_X9_partsOf_82 ?_
              exact hQ d_X9_partsOf_83 (⟨by unfold pts; first | (rw [if_neg (by omega), tx_5 (k5.mpr h51)]; done) | (rw [if_neg (by omega)]; unfold tx; rw [if_neg (by omega), if_neg (by omega), if_neg (by omega)]; done) | (rw [if_pos (by omega)]; done), rfl⟩)
            · refine g_iconst F d_X9_partsOf_78 ?_
              refine g_goto F d_X9_partsOf_79 ?_
              exact hQ d_X9_partsOf_83 (⟨by unfold pts; first | (rw [if_neg (by omega), tx_5 (k5.mpr h51)]; done) | (rw [if_neg (by omega)]; unfold tx; rw [if_neg (by omega), if_neg (by omega), if_neg (by omega)]; done) | (rw [if_pos (by omega)]; done), rfl⟩)
        · refine g_iconst F d_X9_partsOf_54 ?_
          refine g_goto F d_X9_partsOf_55 ?_
          exact hQ d_X9_partsOf_83 (⟨by unfold pts; first | (rw [if_neg (by omega), tx_5 (k5.mpr h51)]; done) | (rw [if_neg (by omega)]; unfold tx; rw [if_neg (by omega), if_neg (by omega), if_neg (by omega)]; done) | (rw [if_pos (by omega)]; done), rfl⟩)
      · have w3 := wo_3 h28
        have b3 := kd_3.mp h28
        refine g_iload_n F 0 rfl rfl d_X9_partsOf_31 ?_
        refine g_bipush F (by decide) d_X9_partsOf_32 ?_
        refine g_isub F d_X9_partsOf_34 ?_
        refine g_iload_n F 1 rfl rfl d_X9_partsOf_35 ?_
        refine g_Si F (own := RX9) (c_X9_argumentsOf l E q sh σ y (by omega)) k_X9_85 [vI (x - 120)] d_X9_partsOf_36 ⟨rfl, rfl, by decide, by decide⟩ ⟨Nat.zero_le _, Nat.zero_le _⟩ rfl (Nat.le_of_ble_eq_true rfl) ?_
        rintro _ _ ⟨rfl, rfl⟩
        refine g_icmp_ge F d_X9_partsOf_39 ⟨by omega, by omega⟩ ⟨by omega, by omega⟩ (fun h39 => ?_) (fun h39 => ?_)
        · refine g_iconst F d_X9_partsOf_46 ?_
          exact hQ d_X9_partsOf_47 (⟨by unfold pts; first | (rw [if_neg (by omega), tx_3 h28]; done) | (rw [if_pos (by omega)]; done), rfl⟩)
        · refine g_iconst F d_X9_partsOf_42 ?_
          refine g_goto F d_X9_partsOf_43 ?_
          exact hQ d_X9_partsOf_47 (⟨by unfold pts; first | (rw [if_neg (by omega), tx_3 h28]; done) | (rw [if_pos (by omega)]; done), rfl⟩)
    · refine g_iconst F d_X9_partsOf_22 ?_
      exact hQ d_X9_partsOf_23 (⟨by unfold pts; rw [if_neg (by omega), tx_4 h19], rfl⟩)
  · have h6 := cb_iff.mp (by omega : 0 ≤ cb x)
    have hw := wo_6 h6
    have e6 := cb_6 h6
    refine g_iload_n F 0 rfl rfl d_X9_partsOf_7 ?_
    refine g_Si F (own := RX9) (c_X9_calledBy l E q sh σ x ⟨by omega, by omega⟩) k_X9_81 [] d_X9_partsOf_8 ⟨rfl, rfl, by decide, by decide⟩ ⟨Nat.zero_le _, Nat.zero_le _⟩ rfl (Nat.le_of_ble_eq_true rfl) ?_
    rintro _ _ ⟨rfl, rfl⟩
    refine g_Si F (own := RX9) (c_X9_argumentsOf l E q sh σ (cb x) (by omega)) k_X9_85 [] d_X9_partsOf_11 ⟨rfl, rfl, by decide, by decide⟩ ⟨Nat.zero_le _, Nat.zero_le _⟩ rfl (Nat.le_of_ble_eq_true rfl) ?_
    rintro _ _ ⟨rfl, rfl⟩
    exact hQ d_X9_partsOf_14 (⟨by unfold pts; rw [if_neg (by omega), tx_6 h6, e6], rfl⟩)
set_option maxHeartbeats 1000000 in
theorem c_X9_most (l : Launch) (E : Ev) (q : Nat → Nat) (sh : List Shp) (σ : Sg) (x y : Int) (rx : rg x) (ry : rg y) : CI l E yX9_most cX9_most 2 .int ({ frames := 0, cells := 0, slots := 0, locals := 0 } : Room) q sh σ [vI x, vI y] (is (most x y) σ) := by
  have rx1 := rx.1
  have rx2 := rx.2
  have ry1 := ry.1
  have ry2 := ry.2
  refine CI_of (own := RX9) (by decide) rfl (Nat.le_of_ble_eq_true rfl) (fun X Q F hQ => ?_)
  show G X E 2 q sh σ 0 0 Q 0 [(0, vI x), (1, vI y)] []
  refine g_iload_n F 0 rfl rfl d_X9_most_0 ?_
  refine g_iload_n F 1 rfl rfl d_X9_most_1 ?_
  refine g_icmp_le F d_X9_most_2 ⟨by omega, by omega⟩ ⟨by omega, by omega⟩ (fun h2 => ?_) (fun h2 => ?_)
  · refine g_iload_n F 1 rfl rfl d_X9_most_9 ?_
    exact hQ d_X9_most_10 (⟨by unfold most; split <;> omega, rfl⟩)
  · refine g_iload_n F 0 rfl rfl d_X9_most_5 ?_
    refine g_goto F d_X9_most_6 ?_
    exact hQ d_X9_most_10 (⟨by unfold most; split <;> omega, rfl⟩)
set_option maxHeartbeats 1000000 in
theorem c_X9_held (l : Launch) (E : Ev) (q : Nat → Nat) (sh : List Shp) (σ : Sg) (x : Int) (rx : rg x) : CI l E yX9_held cX9_held 1 .int ({ frames := 0, cells := 0, slots := 0, locals := 0 } : Room) q sh σ [vI x] (is (held x) σ) := by
  have rx1 := rx.1
  have rx2 := rx.2
  refine CI_of (own := RX9) (by decide) rfl (Nat.le_of_ble_eq_true rfl) (fun X Q F hQ => ?_)
  show G X E 1 q sh σ 0 0 Q 0 [(0, vI x)] []
  refine g_iload_n F 0 rfl rfl d_X9_held_0 ?_
  refine g_iconst F d_X9_held_1 ?_
  refine g_icmp_le F d_X9_held_2 ⟨by omega, by omega⟩ ⟨by decide, by decide⟩ (fun h2 => ?_) (fun h2 => ?_)
  · refine g_iload_n F 0 rfl rfl d_X9_held_9 ?_
    exact hQ d_X9_held_10 (⟨by unfold held; split <;> omega, rfl⟩)
  · refine g_iconst F d_X9_held_5 ?_
    refine g_goto F d_X9_held_6 ?_
    exact hQ d_X9_held_10 (⟨by unfold held; split <;> omega, rfl⟩)
set_option maxHeartbeats 1000000 in
theorem c_X9_allOf (l : Launch) (E : Ev) (q : Nat → Nat) (sh : List Shp) (σ : Sg) (x : Int) (hx : 0 ≤ x ∧ x < 4) : CI l E yX9_allOf cX9_allOf 1 .int ({ frames := 1, cells := 0, slots := 0, locals := 20 } : Room) q sh σ [vI x] (is (aA x) σ) := by
  refine CI_of (own := RX9) (by decide) rfl (Nat.le_of_ble_eq_true rfl) (fun X Q F hQ => ?_)
  show G X E 1 q sh σ 0 0 Q 0 [(0, vI x)] []
  refine g_iconst F d_X9_allOf_0 ?_
  refine g_iload_n F 0 rfl rfl d_X9_allOf_1 ?_
  refine g_Si F (own := RX9) (c_X9_argumentsOf l E q sh σ x (by omega)) k_X9_85 [vI 1] d_X9_allOf_2 ⟨rfl, rfl, by decide, by decide⟩ ⟨Nat.zero_le _, Nat.zero_le _⟩ rfl (Nat.le_of_ble_eq_true rfl) ?_
  rintro _ _ ⟨rfl, rfl⟩
  refine g_ishl F d_X9_allOf_5 ?_
  refine g_iconst F d_X9_allOf_6 ?_
  refine g_isub F d_X9_allOf_7 ?_
  exact hQ d_X9_allOf_8 (⟨(aA_eq x).symm, rfl⟩)
set_option maxHeartbeats 1000000 in
theorem c_X9_isOf (l : Launch) (E : Ev) (q : Nat → Nat) (sh : List Shp) (σ : Sg) (x y : Int) (rx : rg x) (ry : rg y) : CI l E yX9_isOf cX9_isOf 2 .boolean ({ frames := 2, cells := 0, slots := 0, locals := 45 } : Room) q sh σ [vI x, vI y] (is (if (0 ≤ x ∧ x < 4) ∧ 0 ≤ y ∧ y < nA x then 1 else 0) σ) := by
  have rx1 := rx.1
  have rx2 := rx.2
  have ry1 := ry.1
  have ry2 := ry.2
  have hn := nA_in x
  refine CB_of (own := RX9) (by decide) rfl (Nat.le_of_ble_eq_true rfl) (fun X Q F hQ => ?_)
  show G X E 2 q sh σ 0 0 Q 0 [(0, vI x), (1, vI y)] []
  refine g_iload_n F 0 rfl rfl d_X9_isOf_0 ?_
  refine g_Si F (own := RX9) (c_X9_isFunction l E q sh σ x ⟨by omega, by omega⟩) k_X9_99 [] d_X9_isOf_1 ⟨rfl, rfl, by decide, by decide⟩ ⟨Nat.zero_le _, Nat.zero_le _⟩ rfl (Nat.le_of_ble_eq_true rfl) ?_
  rintro _ _ ⟨rfl, rfl⟩
  refine g_b_eq F d_X9_isOf_4 (fun h4 => ?_) (fun h4 => ?_)
  · refine g_iconst F d_X9_isOf_27 ?_
    exact hQ d_X9_isOf_28 (Or.inl rfl) (⟨by first | (rw [if_neg (by omega)]; done) | (rw [if_pos (by omega)]; done), rfl⟩)
  · refine g_iload_n F 1 rfl rfl d_X9_isOf_7 ?_
    refine g_i2l F ⟨by omega, by omega⟩ d_X9_isOf_8 ?_
    refine g_lconst F (z := 0) rfl d_X9_isOf_9 ?_
    refine g_iload_n F 0 rfl rfl d_X9_isOf_10 ?_
    refine g_Si F (own := RX9) (c_X9_argumentsOf l E q sh σ x (by omega)) k_X9_85 [vL (0), vL (y)] d_X9_isOf_11 ⟨rfl, rfl, by decide, by decide⟩ ⟨Nat.zero_le _, Nat.zero_le _⟩ rfl (Nat.le_of_ble_eq_true rfl) ?_
    rintro _ _ ⟨rfl, rfl⟩
    refine g_iconst F d_X9_isOf_14 ?_
    refine g_isub F d_X9_isOf_15 ?_
    refine g_i2l F ⟨by omega, by omega⟩ d_X9_isOf_16 ?_
    refine g_Si F (own := RX9) (c_X9_in l E q sh σ y 0 ((nA x) - 1) ry ⟨by decide, by decide⟩ ⟨by omega, by omega⟩) k_X9_69 [] d_X9_isOf_17 ⟨rfl, rfl, by decide, by decide⟩ ⟨Nat.zero_le _, Nat.zero_le _⟩ rfl (Nat.le_of_ble_eq_true rfl) ?_
    rintro _ _ ⟨rfl, rfl⟩
    refine g_b_eq F d_X9_isOf_20 (fun h20 => ?_) (fun h20 => ?_)
    · refine g_iconst F d_X9_isOf_27 ?_
      exact hQ d_X9_isOf_28 (Or.inl rfl) (⟨by first | (rw [if_neg (by omega)]; done) | (rw [if_pos (by omega)]; done), rfl⟩)
    · refine g_iconst F d_X9_isOf_23 ?_
      refine g_goto F d_X9_isOf_24 ?_
      exact hQ d_X9_isOf_28 (Or.inr rfl) (⟨by first | (rw [if_neg (by omega)]; done) | (rw [if_pos (by omega)]; done), rfl⟩)
set_option maxHeartbeats 1000000 in
theorem c_X9_act (l : Launch) (E : Ev) (q : Nat → Nat) (sh : List Shp) (σ : Sg) (x a b : Int) (rx : rg x) (ha : 0 ≤ a ∧ a < 8) (hb : 0 ≤ b ∧ b < 8) : CI l E yX9_act cX9_act 3 .int ({ frames := 0, cells := 0, slots := 0, locals := 0 } : Room) q sh σ [vI x, vI a, vI b] (is (ac x a b) σ) := by
  have rx1 := rx.1
  have rx2 := rx.2
  refine CI_of (own := RX9) (by decide) rfl (Nat.le_of_ble_eq_true rfl) (fun X Q F hQ => ?_)
  show G X E 3 q sh σ 0 0 Q 0 [(0, vI x), (1, vI a), (2, vI b)] []
  refine g_iload_n F 0 rfl rfl d_X9_act_0 ?_
  refine g_bipush F (by decide) d_X9_act_1 ?_
  refine g_icmp_ne F d_X9_act_3 ⟨by omega, by omega⟩ ⟨by decide, by decide⟩ (fun h3 => ?_) (fun h3 => ?_)
  · refine g_iload_n F 0 rfl rfl d_X9_act_15 ?_
    refine g_bipush F (by decide) d_X9_act_16 ?_
    refine g_icmp_ne F d_X9_act_18 ⟨by omega, by omega⟩ ⟨by decide, by decide⟩ (fun h18 => ?_) (fun h18 => ?_)
    · refine g_iload_n F 0 rfl rfl d_X9_act_30 ?_
      refine g_bipush F (by decide) d_X9_act_31 ?_
      refine g_icmp_ne F d_X9_act_33 ⟨by omega, by omega⟩ ⟨by decide, by decide⟩ (fun h33 => ?_) (fun h33 => ?_)
      · refine g_iload_n F 1 rfl rfl d_X9_act_45 ?_
        refine g_iload_n F 2 rfl rfl d_X9_act_46 ?_
        refine g_icmp_ge F d_X9_act_47 ⟨by omega, by omega⟩ ⟨by omega, by omega⟩ (fun h47 => ?_) (fun h47 => ?_)
        · refine g_iload_n F 2 rfl rfl d_X9_act_54 ?_
          exact hQ d_X9_act_55 (⟨by unfold ac; first | (rw [if_pos h3]; done) | (rw [if_neg h3, if_pos h18]; done) | (rw [if_neg h3, if_neg h18, if_pos h33]; done) | (rw [if_neg h3, if_neg h18, if_neg h33]; split <;> omega), rfl⟩)
        · refine g_iload_n F 1 rfl rfl d_X9_act_50 ?_
          refine g_goto F d_X9_act_51 ?_
          exact hQ d_X9_act_55 (⟨by unfold ac; first | (rw [if_pos h3]; done) | (rw [if_neg h3, if_pos h18]; done) | (rw [if_neg h3, if_neg h18, if_pos h33]; done) | (rw [if_neg h3, if_neg h18, if_neg h33]; split <;> omega), rfl⟩)
      · refine g_iload_n F 1 rfl rfl d_X9_act_36 ?_
        refine g_iload_n F 2 rfl rfl d_X9_act_37 ?_
        refine g_imul F d_X9_act_38 ?_
        refine g_bipush F (by decide) d_X9_act_39 ?_
        refine g_iand F d_X9_act_41 ?_
        refine g_goto F d_X9_act_42 ?_
        exact hQ d_X9_act_55 (⟨by unfold ac; first | (rw [if_pos h3]; done) | (rw [if_neg h3, if_pos h18]; done) | (rw [if_neg h3, if_neg h18, if_pos h33]; done) | (rw [if_neg h3, if_neg h18, if_neg h33]; split <;> omega), rfl⟩)
    · refine g_iload_n F 1 rfl rfl d_X9_act_21 ?_
      refine g_iload_n F 2 rfl rfl d_X9_act_22 ?_
      refine g_isub F d_X9_act_23 ?_
      refine g_bipush F (by decide) d_X9_act_24 ?_
      refine g_iand F d_X9_act_26 ?_
      refine g_goto F d_X9_act_27 ?_
      exact hQ d_X9_act_55 (⟨by unfold ac; first | (rw [if_pos h3]; done) | (rw [if_neg h3, if_pos h18]; done) | (rw [if_neg h3, if_neg h18, if_pos h33]; done) | (rw [if_neg h3, if_neg h18, if_neg h33]; split <;> omega), rfl⟩)
  · refine g_iload_n F 1 rfl rfl d_X9_act_6 ?_
    refine g_iload_n F 2 rfl rfl d_X9_act_7 ?_
    refine g_iadd F d_X9_act_8 ?_
    refine g_bipush F (by decide) d_X9_act_9 ?_
    refine g_iand F d_X9_act_11 ?_
    refine g_goto F d_X9_act_12 ?_
    exact hQ d_X9_act_55 (⟨by unfold ac; first | (rw [if_pos h3]; done) | (rw [if_neg h3, if_pos h18]; done) | (rw [if_neg h3, if_neg h18, if_pos h33]; done) | (rw [if_neg h3, if_neg h18, if_neg h33]; split <;> omega), rfl⟩)
set_option maxHeartbeats 1000000 in
theorem c_X9_rowsOf (l : Launch) (E : Ev) (q : Nat → Nat) (sh : List Shp) (σ : Sg) (x : Int) (hx : 0 ≤ x ∧ x < 4) : CI l E yX9_rowsOf cX9_rowsOf 1 .int ({ frames := 1, cells := 0, slots := 0, locals := 20 } : Room) q sh σ [vI x] (is (stV 1 x) σ) := by
  have hn := nA_in x
  refine CI_of (own := RX9) (by decide) rfl (Nat.le_of_ble_eq_true rfl) (fun X Q F hQ => ?_)
  show G X E 1 q sh σ 0 0 Q 0 [(0, vI x)] []
  refine g_iload_n F 0 rfl rfl d_X9_rowsOf_0 ?_
  refine g_Si F (own := RX9) (c_X9_argumentsOf l E q sh σ x (by omega)) k_X9_85 [] d_X9_rowsOf_1 ⟨rfl, rfl, by decide, by decide⟩ ⟨Nat.zero_le _, Nat.zero_le _⟩ rfl (Nat.le_of_ble_eq_true rfl) ?_
  rintro _ _ ⟨rfl, rfl⟩
  refine g_iconst F d_X9_rowsOf_4 ?_
  refine g_icmp_ne F d_X9_rowsOf_5 ⟨by omega, by omega⟩ ⟨by decide, by decide⟩ (fun h5 => ?_) (fun h5 => ?_)
  · refine g_iload_n F 0 rfl rfl d_X9_rowsOf_13 ?_
    refine g_Si F (own := RX9) (c_X9_argumentsOf l E q sh σ x (by omega)) k_X9_85 [] d_X9_rowsOf_14 ⟨rfl, rfl, by decide, by decide⟩ ⟨Nat.zero_le _, Nat.zero_le _⟩ rfl (Nat.le_of_ble_eq_true rfl) ?_
    rintro _ _ ⟨rfl, rfl⟩
    refine g_iconst F d_X9_rowsOf_17 ?_
    refine g_icmp_ne F d_X9_rowsOf_18 ⟨by omega, by omega⟩ ⟨by decide, by decide⟩ (fun h18 => ?_) (fun h18 => ?_)
    · refine g_sipush F (by decide) d_X9_rowsOf_26 ?_
      exact hQ d_X9_rowsOf_29 (⟨by rcases four hx with e | e | e | e <;> subst e <;> first | rfl | (simp [nA] at *), rfl⟩)
    · refine g_bipush F (by decide) d_X9_rowsOf_21 ?_
      refine g_goto F d_X9_rowsOf_23 ?_
      exact hQ d_X9_rowsOf_29 (⟨by rcases four hx with e | e | e | e <;> subst e <;> first | rfl | (simp [nA] at *), rfl⟩)
  · refine g_bipush F (by decide) d_X9_rowsOf_8 ?_
    refine g_goto F d_X9_rowsOf_10 ?_
    exact hQ d_X9_rowsOf_29 (⟨by rcases four hx with e | e | e | e <;> subst e <;> first | rfl | (simp [nA] at *), rfl⟩)
set_option maxHeartbeats 1000000 in
theorem c_X9_wipe (l : Launch) (E : Ev) (q : Nat → Nat) (sh : List Shp) (σ : Sg) (hs : HsM sh) : CI l E yX9_wipe cX9_wipe 2 .int ({ frames := 0, cells := 0, slots := 0, locals := 0 } : Room) q sh σ [.ref (q 30)] (is (σ 34 4) (up σ 34 4 0)) := by
  refine CI_of (own := RX9) (by decide) rfl (Nat.le_of_ble_eq_true rfl) (fun X Q F hQ => ?_)
  show G X E 2 q sh σ 0 0 Q 0 [(0, .ref (q 30))] []
  refine g_aload_n F 0 rfl rfl d_X9_wipe_0 ?_
  refine g_getR F f_X9_19 d_X9_wipe_1 (hsM_30 hs) rfl ?_
  refine g_iconst F d_X9_wipe_4 ?_
  refine g_iaload F d_X9_wipe_5 (hsM_34 hs) (by omega) (by omega) (by decide) ?_
  refine g_istore_n F (lv' := [(1, vI (σ 34 4)), (0, .ref (q 30))]) rfl (by decide) rfl d_X9_wipe_6 ?_
  refine g_aload_n F 1 rfl rfl d_X9_wipe_7 ?_
  refine g_getR F f_X9_19 d_X9_wipe_8 (hsM_30 hs) rfl ?_
  refine g_iconst F d_X9_wipe_11 ?_
  refine g_iconst F d_X9_wipe_12 ?_
  refine g_iastore F d_X9_wipe_13 (hsM_34 hs) (by omega) (by omega) (by decide) ?_
  refine g_iload_n F 0 rfl rfl d_X9_wipe_14 ?_
  exact hQ d_X9_wipe_15 (⟨by first | rfl | omega | (simp only [*]; done) | (simp [*]; done) | (split <;> omega), rfl⟩)
set_option maxHeartbeats 1000000 in
theorem c_X9_told (l : Launch) (E : Ev) (q : Nat → Nat) (sh : List Shp) (σ : Sg) (hs : HsM sh) (x : Int) (rx : rg x) : CI l E yX9_told cX9_told 2 .int ({ frames := 1, cells := 0, slots := 0, locals := 25 } : Room) q sh σ [.ref (q 30), vI x] (is (if 0 ≤ x ∧ x ≤ 4 then (if x = 0 then σ 34 4 else σ 34 (x - 1)) else -2) σ) := by
  have rx1 := rx.1
  have rx2 := rx.2
  refine CI_of (own := RX9) (by decide) rfl (Nat.le_of_ble_eq_true rfl) (fun X Q F hQ => ?_)
  show G X E 2 q sh σ 0 0 Q 0 [(0, .ref (q 30)), (1, vI x)] []
  refine g_iload_n F 1 rfl rfl d_X9_told_0 ?_
  refine g_if_ne F d_X9_told_1 ⟨by omega, by omega⟩ (fun h1 => ?_) (fun h1 => ?_)
  · refine g_iload_n F 1 rfl rfl d_X9_told_13 ?_
    refine g_i2l F ⟨by omega, by omega⟩ d_X9_told_14 ?_
    refine g_lconst F (z := 1) rfl d_X9_told_15 ?_
    refine g_ldc2 F (z := 4) (mg 977 (by decide +kernel) rfl) d_X9_told_16 ?_
    refine g_Si F (own := RX9) (c_X9_in l E q sh σ x 1 4 rx ⟨by decide, by decide⟩ ⟨by decide, by decide⟩) k_X9_69 [] d_X9_told_19 ⟨rfl, rfl, by decide, by decide⟩ ⟨Nat.zero_le _, Nat.zero_le _⟩ rfl (Nat.le_of_ble_eq_true rfl) ?_
    rintro _ _ ⟨rfl, rfl⟩
    refine g_b_eq F d_X9_told_22 (fun h22 => ?_) (fun h22 => ?_)
    · refine g_bipush F (by decide) d_X9_told_36 ?_
      exact hQ d_X9_told_38 (⟨by first | (rw [if_pos (by omega), if_pos h1]; done) | (rw [if_pos (by omega), if_neg h1]; done) | (rw [if_neg (by omega)]; done), rfl⟩)
    · refine g_aload_n F 0 rfl rfl d_X9_told_25 ?_
      refine g_getR F f_X9_19 d_X9_told_26 (hsM_30 hs) rfl ?_
      refine g_iload_n F 1 rfl rfl d_X9_told_29 ?_
      refine g_iconst F d_X9_told_30 ?_
      refine g_isub F d_X9_told_31 ?_
      refine g_iaload F d_X9_told_32 (hsM_34 hs) (by omega) (by omega) (by decide) ?_
      refine g_goto F d_X9_told_33 ?_
      exact hQ d_X9_told_38 (⟨by first | (rw [if_pos (by omega), if_pos h1]; done) | (rw [if_pos (by omega), if_neg h1]; done) | (rw [if_neg (by omega)]; done), rfl⟩)
  · refine g_aload_n F 0 rfl rfl d_X9_told_4 ?_
    refine g_getR F f_X9_19 d_X9_told_5 (hsM_30 hs) rfl ?_
    refine g_iconst F d_X9_told_8 ?_
    refine g_iaload F d_X9_told_9 (hsM_34 hs) (by omega) (by omega) (by decide) ?_
    refine g_goto F d_X9_told_10 ?_
    exact hQ d_X9_told_38 (⟨by first | (rw [if_pos (by omega), if_pos h1]; done) | (rw [if_pos (by omega), if_neg h1]; done) | (rw [if_neg (by omega)]; done), rfl⟩)
set_option maxHeartbeats 1000000 in
theorem c_X9_mayCome (l : Launch) (E : Ev) (q : Nat → Nat) (sh : List Shp) (σ : Sg) (hs : HsM sh) (x y : Int) (hx : 0 ≤ x ∧ x < 4) (hy : 0 ≤ y ∧ y < 8) (hT : MTR σ) : CI l E yX9_mayCome cX9_mayCome 3 .boolean ({ frames := 0, cells := 0, slots := 0, locals := 0 } : Room) q sh σ [.ref (q 30), vI x, vI y] (is (if mtb σ x y = true then 1 else 0) σ) := by
  refine CB_of (own := RX9) (by decide) rfl (Nat.le_of_ble_eq_true rfl) (fun X Q F hQ => ?_)
  show G X E 3 q sh σ 0 0 Q 0 [(0, .ref (q 30)), (1, vI x), (2, vI y)] []
  refine g_aload_n F 0 rfl rfl d_X9_mayCome_0 ?_
  refine g_getR F f_X9_28 d_X9_mayCome_1 (hsM_30 hs) rfl ?_
  refine g_iload_n F 1 rfl rfl d_X9_mayCome_4 ?_
  refine g_iaload F d_X9_mayCome_5 (hsM_37 hs) (by omega) (by omega) (by decide) ?_
  refine g_iload_n F 2 rfl rfl d_X9_mayCome_6 ?_
  refine g_ishr F d_X9_mayCome_7 ?_
  refine g_iconst F d_X9_mayCome_8 ?_
  refine g_iand F d_X9_mayCome_9 ?_
  refine G_top (b := b2 (mtb σ x y)) (bit_eq (hT x) hy) ?_
  refine g_iconst F d_X9_mayCome_10 ?_
  have hb := b2_in (mtb σ x y)
  refine g_icmp_ne F d_X9_mayCome_11 ⟨by omega, by omega⟩ ⟨by decide, by decide⟩ (fun h11 => ?_) (fun h11 => ?_)
  · refine g_iconst F d_X9_mayCome_18 ?_
    exact hQ d_X9_mayCome_19 (Or.inl rfl) (⟨by first | (rw [if_pos (b2_t.mp h11)]; done) | (rw [if_neg (fun h => h11 (b2_t.mpr h))]; done), rfl⟩)
  · refine g_iconst F d_X9_mayCome_14 ?_
    refine g_goto F d_X9_mayCome_15 ?_
    exact hQ d_X9_mayCome_19 (Or.inr rfl) (⟨by first | (rw [if_pos (b2_t.mp h11)]; done) | (rw [if_neg (fun h => h11 (b2_t.mpr h))]; done), rfl⟩)
set_option maxHeartbeats 1000000 in
theorem c_X9_isMust (l : Launch) (E : Ev) (q : Nat → Nat) (sh : List Shp) (σ : Sg) (hs : HsM sh) (x y : Int) (hx : 0 ≤ x ∧ x < 4) (hy : 0 ≤ y ∧ y < 3) (hT : MTR σ) : CI l E yX9_isMust cX9_isMust 3 .boolean ({ frames := 2, cells := 0, slots := 0, locals := 40 } : Room) q sh σ [.ref (q 30), vI x, vI y] (is (if mtb σ x (cutA x (bShl 1 y)) = false then 1 else 0) σ) := by
  have hs3 := shl3 hy
  have hc := cutA_in hx hs3
  have haa := aA_in x
  refine CB_of (own := RX9) (by decide) rfl (Nat.le_of_ble_eq_true rfl) (fun X Q F hQ => ?_)
  show G X E 3 q sh σ 0 0 Q 0 [(0, .ref (q 30)), (1, vI x), (2, vI y)] []
  refine g_aload_n F 0 rfl rfl d_X9_isMust_0 ?_
  refine g_iload_n F 1 rfl rfl d_X9_isMust_1 ?_
  refine g_iload_n F 1 rfl rfl d_X9_isMust_2 ?_
  refine g_Si F (own := RX9) (c_X9_allOf l E q sh σ x (by omega)) k_X9_130 [vI x, .ref (q 30)] d_X9_isMust_3 ⟨rfl, rfl, by decide, by decide⟩ ⟨Nat.zero_le _, Nat.zero_le _⟩ rfl (Nat.le_of_ble_eq_true rfl) ?_
  rintro _ _ ⟨rfl, rfl⟩
  refine g_iconst F d_X9_isMust_6 ?_
  refine g_iload_n F 2 rfl rfl d_X9_isMust_7 ?_
  refine g_ishl F d_X9_isMust_8 ?_
  refine g_iconst F d_X9_isMust_9 ?_
  refine g_ixor F d_X9_isMust_10 ?_
  refine g_iand F d_X9_isMust_11 ?_
  refine G_top (b := cutA x (bShl 1 y)) (rfl) ?_
  refine g_Vi F (own := RX9) (c_X9_mayCome l E q sh σ hs x (cutA x (bShl 1 y)) hx (by omega) hT) k_X9_133 (hsM_30 hs) rfl rfl [] d_X9_isMust_12 ⟨rfl, rfl, by decide, by decide⟩ ⟨Nat.zero_le _, Nat.zero_le _⟩ rfl (Nat.le_of_ble_eq_true rfl) ?_
  rintro _ _ ⟨rfl, rfl⟩
  refine g_b_ne F d_X9_isMust_15 (fun h15 => ?_) (fun h15 => ?_)
  · refine g_iconst F d_X9_isMust_22 ?_
    exact hQ d_X9_isMust_23 (Or.inl rfl) (⟨by first | (rw [if_pos (by simpa using h15)]; done) | (rw [if_neg (by simp [h15])]; done), rfl⟩)
  · refine g_iconst F d_X9_isMust_18 ?_
    refine g_goto F d_X9_isMust_19 ?_
    exact hQ d_X9_isMust_23 (Or.inr rfl) (⟨by first | (rw [if_pos (by simpa using h15)]; done) | (rw [if_neg (by simp [h15])]; done), rfl⟩)
set_option maxHeartbeats 1000000 in
theorem c_X9_may (l : Launch) (E : Ev) (q : Nat → Nat) (sh : List Shp) (σ : Sg) (hs : HsM sh) (x y : Int) (rx : rg x) (ry : rg y) (hT : MTR σ) : CI l E yX9_may cX9_may 3 .int ({ frames := 2, cells := 0, slots := 0, locals := 45 } : Room) q sh σ [.ref (q 30), vI x, vI y] (is (if 0 ≤ x ∧ x < 4 then (if 0 ≤ y ∧ y ≤ aA x then b2 (mtb σ x y) else -2) else -1) σ) := by
  have rx1 := rx.1
  have rx2 := rx.2
  have ry1 := ry.1
  have ry2 := ry.2
  have ha := aA_in x
  refine CI_of (own := RX9) (by decide) rfl (Nat.le_of_ble_eq_true rfl) (fun X Q F hQ => ?_)
  show G X E 3 q sh σ 0 0 Q 0 [(0, .ref (q 30)), (1, vI x), (2, vI y)] []
  refine g_iload_n F 1 rfl rfl d_X9_may_0 ?_
  refine g_Si F (own := RX9) (c_X9_isFunction l E q sh σ x ⟨by omega, by omega⟩) k_X9_99 [] d_X9_may_1 ⟨rfl, rfl, by decide, by decide⟩ ⟨Nat.zero_le _, Nat.zero_le _⟩ rfl (Nat.le_of_ble_eq_true rfl) ?_
  rintro _ _ ⟨rfl, rfl⟩
  refine g_b_ne F d_X9_may_4 (fun h4 => ?_) (fun h4 => ?_)
  · refine g_iload_n F 2 rfl rfl d_X9_may_9 ?_
    refine g_i2l F ⟨by omega, by omega⟩ d_X9_may_10 ?_
    refine g_lconst F (z := 0) rfl d_X9_may_11 ?_
    refine g_iload_n F 1 rfl rfl d_X9_may_12 ?_
    refine g_Si F (own := RX9) (c_X9_allOf l E q sh σ x (by omega)) k_X9_130 [vL (0), vL (y)] d_X9_may_13 ⟨rfl, rfl, by decide, by decide⟩ ⟨Nat.zero_le _, Nat.zero_le _⟩ rfl (Nat.le_of_ble_eq_true rfl) ?_
    rintro _ _ ⟨rfl, rfl⟩
    refine g_i2l F ⟨by omega, by omega⟩ d_X9_may_16 ?_
    refine g_Si F (own := RX9) (c_X9_in l E q sh σ y 0 (aA x) ry ⟨by decide, by decide⟩ ⟨by omega, by omega⟩) k_X9_69 [] d_X9_may_17 ⟨rfl, rfl, by decide, by decide⟩ ⟨Nat.zero_le _, Nat.zero_le _⟩ rfl (Nat.le_of_ble_eq_true rfl) ?_
    rintro _ _ ⟨rfl, rfl⟩
    refine g_b_eq F d_X9_may_20 (fun h20 => ?_) (fun h20 => ?_)
    · refine g_bipush F (by decide) d_X9_may_36 ?_
      exact hQ d_X9_may_38 (⟨by first | (rw [if_neg h4]; done) | (rw [if_pos h4, if_neg h20]; done) | (rw [if_pos h4, if_pos h20]; done), rfl⟩)
    · refine g_aload_n F 0 rfl rfl d_X9_may_23 ?_
      refine g_getR F f_X9_28 d_X9_may_24 (hsM_30 hs) rfl ?_
      refine g_iload_n F 1 rfl rfl d_X9_may_27 ?_
      refine g_iaload F d_X9_may_28 (hsM_37 hs) (by omega) (by omega) (by decide) ?_
      refine g_iload_n F 2 rfl rfl d_X9_may_29 ?_
      refine g_ishr F d_X9_may_30 ?_
      refine g_iconst F d_X9_may_31 ?_
      refine g_iand F d_X9_may_32 ?_
      refine G_top (b := b2 (mtb σ x y)) (bit_eq (hT x) (by omega)) ?_
      refine g_goto F d_X9_may_33 ?_
      exact hQ d_X9_may_38 (⟨by first | (rw [if_neg h4]; done) | (rw [if_pos h4, if_neg h20]; done) | (rw [if_pos h4, if_pos h20]; done), rfl⟩)
  · refine g_iconst F d_X9_may_7 ?_
    exact hQ d_X9_may_8 (⟨by first | (rw [if_neg h4]; done) | (rw [if_pos h4, if_neg h20]; done) | (rw [if_pos h4, if_pos h20]; done), rfl⟩)
set_option maxHeartbeats 1000000 in
theorem c_X9_must (l : Launch) (E : Ev) (q : Nat → Nat) (sh : List Shp) (σ : Sg) (hs : HsM sh) (x : Int) (rx : rg x) (hT : MTR σ) : CI l E yX9_must cX9_must 4 .int ({ frames := 3, cells := 0, slots := 0, locals := 62 } : Room) q sh σ [.ref (q 30), vI x] (is (if 0 ≤ x ∧ x < 4 then need3 (fun s => mtb σ x s) x else -1) σ) := by
  have rx1 := rx.1
  have rx2 := rx.2
  have hn := nA_in x
  refine CI_of (own := RX9) (by decide) rfl (Nat.le_of_ble_eq_true rfl) (fun X Q F hQ => ?_)
  show G X E 4 q sh σ 0 0 Q 0 [(0, .ref (q 30)), (1, vI x)] []
  refine g_iload_n F 1 rfl rfl d_X9_must_0 ?_
  refine g_Si F (own := RX9) (c_X9_isFunction l E q sh σ x ⟨by omega, by omega⟩) k_X9_99 [] d_X9_must_1 ⟨rfl, rfl, by decide, by decide⟩ ⟨Nat.zero_le _, Nat.zero_le _⟩ rfl (Nat.le_of_ble_eq_true rfl) ?_
  rintro _ _ ⟨rfl, rfl⟩
  refine g_b_ne F d_X9_must_4 (fun h4 => ?_) (fun h4 => ?_)
  · refine g_iconst F d_X9_must_9 ?_
    refine g_istore_n F (lv' := [(2, vI 0), (0, .ref (q 30)), (1, vI x)]) rfl (by decide) rfl d_X9_must_10 ?_
    refine g_iconst F d_X9_must_11 ?_
    refine g_istore_n F (lv' := [(3, vI 0), (2, vI 0), (0, .ref (q 30)), (1, vI x)]) rfl (by decide) rfl d_X9_must_12 ?_
    have loop13 : ∀ (nn : Nat) (w : Int) (a : Int), (0 ≤ a ∧ a ≤ nA x) → (w = c3 a (!mtb σ x (cutA x 1)) (!mtb σ x (cutA x 2)) (!mtb σ x (cutA x 4))) → (nA x - a).toNat < nn → G X E 4 q sh σ 0 0 Q 13 [(0, .ref (q 30)), (1, vI x), (2, vI w), (3, vI a)] [] := by
      intro n13
      induction n13 with
      | zero => intro w a ha hw hm13; exact absurd hm13 (Nat.not_lt_zero _)
      | succ n13 ih13 =>
        intro w a ha hw hm13
        refine g_iload_n F 3 rfl rfl d_X9_must_13 ?_
        refine g_iload_n F 1 rfl rfl d_X9_must_14 ?_
        refine g_Si F (own := RX9) (c_X9_argumentsOf l E q sh σ x (by omega)) k_X9_85 [vI a] d_X9_must_15 ⟨rfl, rfl, by decide, by decide⟩ ⟨Nat.zero_le _, Nat.zero_le _⟩ rfl (Nat.le_of_ble_eq_true rfl) ?_
        rintro _ _ ⟨rfl, rfl⟩
        refine g_icmp_ge F d_X9_must_18 ⟨by omega, by omega⟩ ⟨by omega, by omega⟩ (fun h18 => ?_) (fun h18 => ?_)
        · refine g_iload_n F 2 rfl rfl d_X9_must_46 ?_
          exact hQ d_X9_must_47 (⟨by rw [if_pos h4, hw, show a = nA x by omega]; rfl, rfl⟩)
        · refine g_iload_n F 2 rfl rfl d_X9_must_21 ?_
          refine g_aload_n F 0 rfl rfl d_X9_must_22 ?_
          refine g_iload_n F 1 rfl rfl d_X9_must_23 ?_
          refine g_iload_n F 3 rfl rfl d_X9_must_24 ?_
          refine g_Vi F (own := RX9) (c_X9_isMust l E q sh σ hs x a h4 (by omega) hT) k_X9_136 (hsM_30 hs) rfl rfl [vI w] d_X9_must_25 ⟨rfl, rfl, by decide, by decide⟩ ⟨Nat.zero_le _, Nat.zero_le _⟩ rfl (Nat.le_of_ble_eq_true rfl) ?_
          rintro _ _ ⟨rfl, rfl⟩
          refine g_b_eq F d_X9_must_28 (fun h28 => ?_) (fun h28 => ?_)
          · refine g_iconst F d_X9_must_37 ?_
            refine g_ior F d_X9_must_38 ?_
            refine g_istore_n F (lv' := [(2, vI (bOr w 0)), (0, .ref (q 30)), (1, vI x), (3, vI a)]) rfl (by decide) rfl d_X9_must_39 ?_
            refine g_iinc F (lv' := [(3, vI (a + 1)), (2, vI (bOr w 0)), (0, .ref (q 30)), (1, vI x)]) 3 rfl rfl (by decide) rfl d_X9_must_40 ?_
            refine g_goto F d_X9_must_43 ?_
            have hw2 : (bOr w 0) = c3 (a + 1) (!mtb σ x (cutA x 1)) (!mtb σ x (cutA x 2)) (!mtb σ x (cutA x 4)) := by
              rw [hw]
              first
                | (apply c3_with (by omega); rw [sel3 (by omega) (fun s => mtb σ x s) x]; simp; exact h28)
                | (rw [c3_or0 (by omega)]; apply c3_skip (by omega); rw [sel3 (by omega) (fun s => mtb σ x s) x]; simp; simpa using h28)
            refine G_sub (ks := [2, 3, 1, 0]) rfl ?_
            exact ih13 (bOr w 0) (a + 1) (by omega) hw2 (by omega)
          · refine g_iconst F d_X9_must_31 ?_
            refine g_iload_n F 3 rfl rfl d_X9_must_32 ?_
            refine g_ishl F d_X9_must_33 ?_
            refine g_goto F d_X9_must_34 ?_
            refine g_ior F d_X9_must_38 ?_
            refine g_istore_n F (lv' := [(2, vI (bOr w (bShl 1 a))), (0, .ref (q 30)), (1, vI x), (3, vI a)]) rfl (by decide) rfl d_X9_must_39 ?_
            refine g_iinc F (lv' := [(3, vI (a + 1)), (2, vI (bOr w (bShl 1 a))), (0, .ref (q 30)), (1, vI x)]) 3 rfl rfl (by decide) rfl d_X9_must_40 ?_
            refine g_goto F d_X9_must_43 ?_
            have hw2 : (bOr w (bShl 1 a)) = c3 (a + 1) (!mtb σ x (cutA x 1)) (!mtb σ x (cutA x 2)) (!mtb σ x (cutA x 4)) := by
              rw [hw]
              first
                | (apply c3_with (by omega); rw [sel3 (by omega) (fun s => mtb σ x s) x]; simp; exact h28)
                | (rw [c3_or0 (by omega)]; apply c3_skip (by omega); rw [sel3 (by omega) (fun s => mtb σ x s) x]; simp; simpa using h28)
            refine G_sub (ks := [2, 3, 1, 0]) rfl ?_
            exact ih13 (bOr w (bShl 1 a)) (a + 1) (by omega) hw2 (by omega)
    refine G_sub (ks := [2, 3, 1, 0]) rfl ?_
    exact loop13 _ 0 0 (by omega) (c3_0 _ _ _).symm (Nat.lt_succ_self _)
  · refine g_iconst F d_X9_must_7 ?_
    exact hQ d_X9_must_8 (⟨by rw [if_neg h4], rfl⟩)
set_option maxHeartbeats 1000000 in
theorem c_X9_uses (l : Launch) (E : Ev) (q : Nat → Nat) (sh : List Shp) (σ : Sg) (hs : HsM sh) (x y : Int) (rx : rg x) (ry : rg y) : CI l E yX9_uses cX9_uses 3 .int ({ frames := 3, cells := 0, slots := 0, locals := 66 } : Room) q sh σ [.ref (q 30), vI x, vI y] (is (if (0 ≤ x ∧ x < 4) ∧ 0 ≤ y ∧ y < nA x then σ 38 (3 * x + y) else -1) σ) := by
  have rx1 := rx.1
  have rx2 := rx.2
  have ry1 := ry.1
  have ry2 := ry.2
  have hn := nA_in x
  refine CI_of (own := RX9) (by decide) rfl (Nat.le_of_ble_eq_true rfl) (fun X Q F hQ => ?_)
  show G X E 3 q sh σ 0 0 Q 0 [(0, .ref (q 30)), (1, vI x), (2, vI y)] []
  refine g_iload_n F 1 rfl rfl d_X9_uses_0 ?_
  refine g_iload_n F 2 rfl rfl d_X9_uses_1 ?_
  refine g_Si F (own := RX9) (c_X9_isOf l E q sh σ x y ⟨by omega, by omega⟩ ⟨by omega, by omega⟩) k_X9_142 [] d_X9_uses_2 ⟨rfl, rfl, by decide, by decide⟩ ⟨Nat.zero_le _, Nat.zero_le _⟩ rfl (Nat.le_of_ble_eq_true rfl) ?_
  rintro _ _ ⟨rfl, rfl⟩
  refine g_b_eq F d_X9_uses_5 (fun h5 => ?_) (fun h5 => ?_)
  · refine g_iconst F d_X9_uses_21 ?_
    exact hQ d_X9_uses_22 (⟨by first | (rw [if_neg h5]; done) | (rw [if_pos h5]; done), rfl⟩)
  · refine g_aload_n F 0 rfl rfl d_X9_uses_8 ?_
    refine g_getR F f_X9_31 d_X9_uses_9 (hsM_30 hs) rfl ?_
    refine g_iconst F d_X9_uses_12 ?_
    refine g_iload_n F 1 rfl rfl d_X9_uses_13 ?_
    refine g_imul F d_X9_uses_14 ?_
    refine g_iload_n F 2 rfl rfl d_X9_uses_15 ?_
    refine g_iadd F d_X9_uses_16 ?_
    refine g_iaload F d_X9_uses_17 (hsM_38 hs) (by omega) (by omega) (by decide) ?_
    refine g_goto F d_X9_uses_18 ?_
    exact hQ d_X9_uses_22 (⟨by first | (rw [if_neg h5]; done) | (rw [if_pos h5]; done), rfl⟩)
set_option maxHeartbeats 1000000 in
theorem c_X9_isJoint (l : Launch) (E : Ev) (q : Nat → Nat) (sh : List Shp) (σ : Sg) (hs : HsM sh) (x y : Int) (hx : 0 ≤ x ∧ x < 4) (hy : 0 ≤ y ∧ y < 8) (hT : MTR σ) : CI l E yX9_isJoint cX9_isJoint 5 .boolean ({ frames := 2, cells := 0, slots := 0, locals := 40 } : Room) q sh σ [.ref (q 30), vI x, vI y] (fun z τ => σ = τ ∧ ((z = 1 ∧ isJ (mtb σ) x y) ∨ (z = 0 ∧ ¬ isJ (mtb σ) x y))) := by
  have hc := cutA_in hx hy
  have haa := aA_in x
  have hI := JI.init (T := mtb σ) (f := x) (s := y)
  refine CB_of (own := RX9) (by decide) rfl (Nat.le_of_ble_eq_true rfl) (fun X Q F hQ => ?_)
  show G X E 5 q sh σ 0 0 Q 0 [(0, .ref (q 30)), (1, vI x), (2, vI y)] []
  refine g_aload_n F 0 rfl rfl d_X9_isJoint_0 ?_
  refine g_iload_n F 1 rfl rfl d_X9_isJoint_1 ?_
  refine g_iload_n F 1 rfl rfl d_X9_isJoint_2 ?_
  refine g_Si F (own := RX9) (c_X9_allOf l E q sh σ x (by omega)) k_X9_130 [vI x, .ref (q 30)] d_X9_isJoint_3 ⟨rfl, rfl, by decide, by decide⟩ ⟨Nat.zero_le _, Nat.zero_le _⟩ rfl (Nat.le_of_ble_eq_true rfl) ?_
  rintro _ _ ⟨rfl, rfl⟩
  refine g_iload_n F 2 rfl rfl d_X9_isJoint_6 ?_
  refine g_iconst F d_X9_isJoint_7 ?_
  refine g_ixor F d_X9_isJoint_8 ?_
  refine g_iand F d_X9_isJoint_9 ?_
  refine G_top (b := cutA x y) (rfl) ?_
  refine g_Vi F (own := RX9) (c_X9_mayCome l E q sh σ hs x (cutA x y) hx (by omega) hT) k_X9_133 (hsM_30 hs) rfl rfl [] d_X9_isJoint_10 ⟨rfl, rfl, by decide, by decide⟩ ⟨Nat.zero_le _, Nat.zero_le _⟩ rfl (Nat.le_of_ble_eq_true rfl) ?_
  rintro _ _ ⟨rfl, rfl⟩
  refine g_b_ne F d_X9_isJoint_13 (fun h13 => ?_) (fun h13 => ?_)
  · refine g_iconst F d_X9_isJoint_20 ?_
    refine g_istore_n F (lv' := [(3, vI 0), (0, .ref (q 30)), (1, vI x), (2, vI y)]) rfl (by decide) rfl d_X9_isJoint_21 ?_
    refine g_iconst F d_X9_isJoint_22 ?_
    refine g_istore F (lv' := [(4, vI 0), (3, vI 0), (0, .ref (q 30)), (1, vI x), (2, vI y)]) (by decide) rfl d_X9_isJoint_23 ?_
    have loop25 : ∀ (nn : Nat) (j : Int) (r : Int), (0 ≤ r ∧ r ≤ y) → (JI (mtb σ) x y j r) → (y - r).toNat < nn → G X E 5 q sh σ 0 0 Q 25 [(0, .ref (q 30)), (1, vI x), (2, vI y), (3, vI j), (4, vI r)] [] := by
      intro n25
      induction n25 with
      | zero => intro j r hr hJ hm25; exact absurd hm25 (Nat.not_lt_zero _)
      | succ n25 ih25 =>
        intro j r hr hJ hm25
        have hj01 := hJ.b
        refine g_iload F 4 rfl d_X9_isJoint_25 ?_
        refine g_iload_n F 2 rfl rfl d_X9_isJoint_27 ?_
        refine g_icmp_ge F d_X9_isJoint_28 ⟨by omega, by omega⟩ ⟨by omega, by omega⟩ (fun h28 => ?_) (fun h28 => ?_)
        · refine g_iload_n F 3 rfl rfl d_X9_isJoint_73 ?_
          exact hQ d_X9_isJoint_74 hj01 (⟨rfl, hJ.fin (by omega)⟩)
        · refine g_iload_n F 3 rfl rfl d_X9_isJoint_31 ?_
          refine g_if_eq F d_X9_isJoint_32 ⟨by omega, by omega⟩ (fun h32 => ?_) (fun h32 => ?_)
          · refine g_iload_n F 3 rfl rfl d_X9_isJoint_73 ?_
            exact hQ d_X9_isJoint_74 hj01 (⟨rfl, hJ.fin (by omega)⟩)
          · refine g_iload F 4 rfl d_X9_isJoint_35 ?_
            refine g_iload_n F 2 rfl rfl d_X9_isJoint_37 ?_
            refine g_iconst F d_X9_isJoint_38 ?_
            refine g_ixor F d_X9_isJoint_39 ?_
            refine g_iand F d_X9_isJoint_40 ?_
            refine g_if_ne F d_X9_isJoint_41 (rg_of _) (fun h41 => ?_) (fun h41 => ?_)
            · refine g_iconst F d_X9_isJoint_61 ?_
              refine g_goto F d_X9_isJoint_62 ?_
              refine g_istore_n F (lv' := [(3, vI 1), (0, .ref (q 30)), (1, vI x), (2, vI y), (4, vI r)]) rfl (by decide) rfl d_X9_isJoint_66 ?_
              refine g_iinc F (lv' := [(4, vI (r + 1)), (3, vI 1), (0, .ref (q 30)), (1, vI x), (2, vI y)]) 4 rfl rfl (by decide) rfl d_X9_isJoint_67 ?_
              refine g_goto F d_X9_isJoint_70 ?_
              refine G_sub (ks := [2, 3, 4, 1, 0]) rfl ?_
              exact ih25 1 (r + 1) (by omega) (by first | exact hJ.yes h32 hr.1 (Or.inl h41) | exact hJ.yes h32 hr.1 (Or.inr h58) | exact JI.no hr.1 (by omega) h41 h58) (by omega)
            · have hcr := cutA_in hx (s := r) (by omega)
              refine g_aload_n F 0 rfl rfl d_X9_isJoint_44 ?_
              refine g_iload_n F 1 rfl rfl d_X9_isJoint_45 ?_
              refine g_iload_n F 1 rfl rfl d_X9_isJoint_46 ?_
              refine g_Si F (own := RX9) (c_X9_allOf l E q sh σ x (by omega)) k_X9_130 [vI x, .ref (q 30)] d_X9_isJoint_47 ⟨rfl, rfl, by decide, by decide⟩ ⟨Nat.zero_le _, Nat.zero_le _⟩ rfl (Nat.le_of_ble_eq_true rfl) ?_
              rintro _ _ ⟨rfl, rfl⟩
              refine g_iload F 4 rfl d_X9_isJoint_50 ?_
              refine g_iconst F d_X9_isJoint_52 ?_
              refine g_ixor F d_X9_isJoint_53 ?_
              refine g_iand F d_X9_isJoint_54 ?_
              refine G_top (b := cutA x r) (rfl) ?_
              refine g_Vi F (own := RX9) (c_X9_mayCome l E q sh σ hs x (cutA x r) hx (by omega) hT) k_X9_133 (hsM_30 hs) rfl rfl [] d_X9_isJoint_55 ⟨rfl, rfl, by decide, by decide⟩ ⟨Nat.zero_le _, Nat.zero_le _⟩ rfl (Nat.le_of_ble_eq_true rfl) ?_
              rintro _ _ ⟨rfl, rfl⟩
              refine g_b_eq F d_X9_isJoint_58 (fun h58 => ?_) (fun h58 => ?_)
              · refine g_iconst F d_X9_isJoint_65 ?_
                refine g_istore_n F (lv' := [(3, vI 0), (0, .ref (q 30)), (1, vI x), (2, vI y), (4, vI r)]) rfl (by decide) rfl d_X9_isJoint_66 ?_
                refine g_iinc F (lv' := [(4, vI (r + 1)), (3, vI 0), (0, .ref (q 30)), (1, vI x), (2, vI y)]) 4 rfl rfl (by decide) rfl d_X9_isJoint_67 ?_
                refine g_goto F d_X9_isJoint_70 ?_
                refine G_sub (ks := [2, 3, 4, 1, 0]) rfl ?_
                exact ih25 0 (r + 1) (by omega) (by first | exact hJ.yes h32 hr.1 (Or.inl h41) | exact hJ.yes h32 hr.1 (Or.inr h58) | exact JI.no hr.1 (by omega) h41 h58) (by omega)
              · refine g_iconst F d_X9_isJoint_61 ?_
                refine g_goto F d_X9_isJoint_62 ?_
                refine g_istore_n F (lv' := [(3, vI 1), (0, .ref (q 30)), (1, vI x), (2, vI y), (4, vI r)]) rfl (by decide) rfl d_X9_isJoint_66 ?_
                refine g_iinc F (lv' := [(4, vI (r + 1)), (3, vI 1), (0, .ref (q 30)), (1, vI x), (2, vI y)]) 4 rfl rfl (by decide) rfl d_X9_isJoint_67 ?_
                refine g_goto F d_X9_isJoint_70 ?_
                refine G_sub (ks := [2, 3, 4, 1, 0]) rfl ?_
                exact ih25 1 (r + 1) (by omega) (by first | exact hJ.yes h32 hr.1 (Or.inl h41) | exact hJ.yes h32 hr.1 (Or.inr h58) | exact JI.no hr.1 (by omega) h41 h58) (by omega)
    have hJ0 : JI (mtb σ) x y 0 0 := by
      first
        | (rw [if_neg (by simp [h13])] at hI; exact hI)
        | (rw [if_pos (by simpa using h13)] at hI; exact hI)
    refine G_sub (ks := [2, 3, 4, 1, 0]) rfl ?_
    exact loop25 _ 0 0 (by omega) hJ0 (Nat.lt_succ_self _)
  · refine g_iconst F d_X9_isJoint_16 ?_
    refine g_goto F d_X9_isJoint_17 ?_
    refine g_istore_n F (lv' := [(3, vI 1), (0, .ref (q 30)), (1, vI x), (2, vI y)]) rfl (by decide) rfl d_X9_isJoint_21 ?_
    refine g_iconst F d_X9_isJoint_22 ?_
    refine g_istore F (lv' := [(4, vI 0), (3, vI 1), (0, .ref (q 30)), (1, vI x), (2, vI y)]) (by decide) rfl d_X9_isJoint_23 ?_
    have loop25 : ∀ (nn : Nat) (j : Int) (r : Int), (0 ≤ r ∧ r ≤ y) → (JI (mtb σ) x y j r) → (y - r).toNat < nn → G X E 5 q sh σ 0 0 Q 25 [(0, .ref (q 30)), (1, vI x), (2, vI y), (3, vI j), (4, vI r)] [] := by
      intro n25
      induction n25 with
      | zero => intro j r hr hJ hm25; exact absurd hm25 (Nat.not_lt_zero _)
      | succ n25 ih25 =>
        intro j r hr hJ hm25
        have hj01 := hJ.b
        refine g_iload F 4 rfl d_X9_isJoint_25 ?_
        refine g_iload_n F 2 rfl rfl d_X9_isJoint_27 ?_
        refine g_icmp_ge F d_X9_isJoint_28 ⟨by omega, by omega⟩ ⟨by omega, by omega⟩ (fun h28 => ?_) (fun h28 => ?_)
        · refine g_iload_n F 3 rfl rfl d_X9_isJoint_73 ?_
          exact hQ d_X9_isJoint_74 hj01 (⟨rfl, hJ.fin (by omega)⟩)
        · refine g_iload_n F 3 rfl rfl d_X9_isJoint_31 ?_
          refine g_if_eq F d_X9_isJoint_32 ⟨by omega, by omega⟩ (fun h32 => ?_) (fun h32 => ?_)
          · refine g_iload_n F 3 rfl rfl d_X9_isJoint_73 ?_
            exact hQ d_X9_isJoint_74 hj01 (⟨rfl, hJ.fin (by omega)⟩)
          · refine g_iload F 4 rfl d_X9_isJoint_35 ?_
            refine g_iload_n F 2 rfl rfl d_X9_isJoint_37 ?_
            refine g_iconst F d_X9_isJoint_38 ?_
            refine g_ixor F d_X9_isJoint_39 ?_
            refine g_iand F d_X9_isJoint_40 ?_
            refine g_if_ne F d_X9_isJoint_41 (rg_of _) (fun h41 => ?_) (fun h41 => ?_)
            · refine g_iconst F d_X9_isJoint_61 ?_
              refine g_goto F d_X9_isJoint_62 ?_
              refine g_istore_n F (lv' := [(3, vI 1), (0, .ref (q 30)), (1, vI x), (2, vI y), (4, vI r)]) rfl (by decide) rfl d_X9_isJoint_66 ?_
              refine g_iinc F (lv' := [(4, vI (r + 1)), (3, vI 1), (0, .ref (q 30)), (1, vI x), (2, vI y)]) 4 rfl rfl (by decide) rfl d_X9_isJoint_67 ?_
              refine g_goto F d_X9_isJoint_70 ?_
              refine G_sub (ks := [2, 3, 4, 1, 0]) rfl ?_
              exact ih25 1 (r + 1) (by omega) (by first | exact hJ.yes h32 hr.1 (Or.inl h41) | exact hJ.yes h32 hr.1 (Or.inr h58) | exact JI.no hr.1 (by omega) h41 h58) (by omega)
            · have hcr := cutA_in hx (s := r) (by omega)
              refine g_aload_n F 0 rfl rfl d_X9_isJoint_44 ?_
              refine g_iload_n F 1 rfl rfl d_X9_isJoint_45 ?_
              refine g_iload_n F 1 rfl rfl d_X9_isJoint_46 ?_
              refine g_Si F (own := RX9) (c_X9_allOf l E q sh σ x (by omega)) k_X9_130 [vI x, .ref (q 30)] d_X9_isJoint_47 ⟨rfl, rfl, by decide, by decide⟩ ⟨Nat.zero_le _, Nat.zero_le _⟩ rfl (Nat.le_of_ble_eq_true rfl) ?_
              rintro _ _ ⟨rfl, rfl⟩
              refine g_iload F 4 rfl d_X9_isJoint_50 ?_
              refine g_iconst F d_X9_isJoint_52 ?_
              refine g_ixor F d_X9_isJoint_53 ?_
              refine g_iand F d_X9_isJoint_54 ?_
              refine G_top (b := cutA x r) (rfl) ?_
              refine g_Vi F (own := RX9) (c_X9_mayCome l E q sh σ hs x (cutA x r) hx (by omega) hT) k_X9_133 (hsM_30 hs) rfl rfl [] d_X9_isJoint_55 ⟨rfl, rfl, by decide, by decide⟩ ⟨Nat.zero_le _, Nat.zero_le _⟩ rfl (Nat.le_of_ble_eq_true rfl) ?_
              rintro _ _ ⟨rfl, rfl⟩
              refine g_b_eq F d_X9_isJoint_58 (fun h58 => ?_) (fun h58 => ?_)
              · refine g_iconst F d_X9_isJoint_65 ?_
                refine g_istore_n F (lv' := [(3, vI 0), (0, .ref (q 30)), (1, vI x), (2, vI y), (4, vI r)]) rfl (by decide) rfl d_X9_isJoint_66 ?_
                refine g_iinc F (lv' := [(4, vI (r + 1)), (3, vI 0), (0, .ref (q 30)), (1, vI x), (2, vI y)]) 4 rfl rfl (by decide) rfl d_X9_isJoint_67 ?_
                refine g_goto F d_X9_isJoint_70 ?_
                refine G_sub (ks := [2, 3, 4, 1, 0]) rfl ?_
                exact ih25 0 (r + 1) (by omega) (by first | exact hJ.yes h32 hr.1 (Or.inl h41) | exact hJ.yes h32 hr.1 (Or.inr h58) | exact JI.no hr.1 (by omega) h41 h58) (by omega)
              · refine g_iconst F d_X9_isJoint_61 ?_
                refine g_goto F d_X9_isJoint_62 ?_
                refine g_istore_n F (lv' := [(3, vI 1), (0, .ref (q 30)), (1, vI x), (2, vI y), (4, vI r)]) rfl (by decide) rfl d_X9_isJoint_66 ?_
                refine g_iinc F (lv' := [(4, vI (r + 1)), (3, vI 1), (0, .ref (q 30)), (1, vI x), (2, vI y)]) 4 rfl rfl (by decide) rfl d_X9_isJoint_67 ?_
                refine g_goto F d_X9_isJoint_70 ?_
                refine G_sub (ks := [2, 3, 4, 1, 0]) rfl ?_
                exact ih25 1 (r + 1) (by omega) (by first | exact hJ.yes h32 hr.1 (Or.inl h41) | exact hJ.yes h32 hr.1 (Or.inr h58) | exact JI.no hr.1 (by omega) h41 h58) (by omega)
    have hJ0 : JI (mtb σ) x y 1 0 := by
      first
        | (rw [if_neg (by simp [h13])] at hI; exact hI)
        | (rw [if_pos (by simpa using h13)] at hI; exact hI)
    refine G_sub (ks := [2, 3, 4, 1, 0]) rfl ?_
    exact loop25 _ 1 0 (by omega) hJ0 (Nat.lt_succ_self _)
set_option maxHeartbeats 1000000 in
theorem c_X9_joint (l : Launch) (E : Ev) (q : Nat → Nat) (sh : List Shp) (σ : Sg) (hs : HsM sh) (x y : Int) (rx : rg x) (ry : rg y) (hT : MTR σ) : CI l E yX9_joint cX9_joint 5 .int ({ frames := 3, cells := 0, slots := 0, locals := 64 } : Room) q sh σ [.ref (q 30), vI x, vI y] (is (if 0 ≤ x ∧ x < 4 then jl (mtb σ) x y (aA x + 1).toNat 0 0 else -1) σ) := by
  have rx1 := rx.1
  have rx2 := rx.2
  have ry1 := ry.1
  have ry2 := ry.2
  have ha := aA_in x
  refine CI_of (own := RX9) (by decide) rfl (Nat.le_of_ble_eq_true rfl) (fun X Q F hQ => ?_)
  show G X E 5 q sh σ 0 0 Q 0 [(0, .ref (q 30)), (1, vI x), (2, vI y)] []
  refine g_iload_n F 1 rfl rfl d_X9_joint_0 ?_
  refine g_Si F (own := RX9) (c_X9_isFunction l E q sh σ x ⟨by omega, by omega⟩) k_X9_99 [] d_X9_joint_1 ⟨rfl, rfl, by decide, by decide⟩ ⟨Nat.zero_le _, Nat.zero_le _⟩ rfl (Nat.le_of_ble_eq_true rfl) ?_
  rintro _ _ ⟨rfl, rfl⟩
  refine g_b_ne F d_X9_joint_4 (fun h4 => ?_) (fun h4 => ?_)
  · refine g_iconst F d_X9_joint_9 ?_
    refine g_istore_n F (lv' := [(3, vI 0), (0, .ref (q 30)), (1, vI x), (2, vI y)]) rfl (by decide) rfl d_X9_joint_10 ?_
    refine g_iconst F d_X9_joint_11 ?_
    refine g_istore F (lv' := [(4, vI 0), (3, vI 0), (0, .ref (q 30)), (1, vI x), (2, vI y)]) (by decide) rfl d_X9_joint_12 ?_
    have loop14 : ∀ (nn : Nat) (n : Int) (s : Int), (0 ≤ s ∧ s ≤ aA x + 1) → (0 ≤ n ∧ n ≤ s) → (jl (mtb σ) x y (aA x + 1 - s).toNat s n = jl (mtb σ) x y (aA x + 1).toNat 0 0) → (aA x + 1 - s).toNat < nn → G X E 5 q sh σ 0 0 Q 14 [(0, .ref (q 30)), (1, vI x), (2, vI y), (3, vI n), (4, vI s)] [] := by
      intro n14
      induction n14 with
      | zero => intro n s hs0 hn hj hm14; exact absurd hm14 (Nat.not_lt_zero _)
      | succ n14 ih14 =>
        intro n s hs0 hn hj hm14
        refine g_iload F 4 rfl d_X9_joint_14 ?_
        refine g_iload_n F 1 rfl rfl d_X9_joint_16 ?_
        refine g_Si F (own := RX9) (c_X9_allOf l E q sh σ x (by omega)) k_X9_130 [vI s] d_X9_joint_17 ⟨rfl, rfl, by decide, by decide⟩ ⟨Nat.zero_le _, Nat.zero_le _⟩ rfl (Nat.le_of_ble_eq_true rfl) ?_
        rintro _ _ ⟨rfl, rfl⟩
        refine g_icmp_gt F d_X9_joint_20 ⟨by omega, by omega⟩ ⟨by omega, by omega⟩ (fun h20 => ?_) (fun h20 => ?_)
        · refine g_iload_n F 2 rfl rfl d_X9_joint_50 ?_
          refine g_iconst F d_X9_joint_51 ?_
          refine g_icmp_ne F d_X9_joint_52 ⟨by omega, by omega⟩ ⟨by decide, by decide⟩ (fun h52 => ?_) (fun h52 => ?_)
          · refine g_bipush F (by decide) d_X9_joint_59 ?_
            exact hQ d_X9_joint_61 (⟨by rw [if_pos h4, ← hj, show (aA x + 1 - s).toNat = 0 by omega, jl]; first | (rw [if_pos h52]; done) | (rw [if_neg h52]; done), rfl⟩)
          · refine g_iload_n F 3 rfl rfl d_X9_joint_55 ?_
            refine g_goto F d_X9_joint_56 ?_
            exact hQ d_X9_joint_61 (⟨by rw [if_pos h4, ← hj, show (aA x + 1 - s).toNat = 0 by omega, jl]; first | (rw [if_pos h52]; done) | (rw [if_neg h52]; done), rfl⟩)
        · refine g_aload_n F 0 rfl rfl d_X9_joint_23 ?_
          refine g_iload_n F 1 rfl rfl d_X9_joint_24 ?_
          refine g_iload F 4 rfl d_X9_joint_25 ?_
          refine g_Vi F (own := RX9) (c_X9_isJoint l E q sh σ hs x s h4 (by omega) hT) k_X9_139 (hsM_30 hs) rfl rfl [] d_X9_joint_27 ⟨rfl, rfl, by decide, by decide⟩ ⟨Nat.zero_le _, Nat.zero_le _⟩ rfl (Nat.le_of_ble_eq_true rfl) ?_
          intro z τ hz
          obtain ⟨rfl, hz⟩ := hz
          have hz01 : z = 0 ∨ z = 1 := hz.elim (fun h => Or.inr h.1) (fun h => Or.inl h.1)
          refine g_if_eq F d_X9_joint_30 ⟨by omega, by omega⟩ (fun h30 => ?_) (fun h30 => ?_)
          · refine g_iinc F (lv' := [(4, vI (s + 1)), (0, .ref (q 30)), (1, vI x), (2, vI y), (3, vI n)]) 4 rfl rfl (by decide) rfl d_X9_joint_44 ?_
            refine g_goto F d_X9_joint_47 ?_
            have hj2 : jl (mtb σ) x y (aA x + 1 - (s + 1)).toNat (s + 1) n = jl (mtb σ) x y (aA x + 1).toNat 0 0 := by
              rw [← hj, show (aA x + 1 - s).toNat = (aA x + 1 - (s + 1)).toNat + 1 by omega, jl]
              rcases hz with ⟨z1, z2⟩ | ⟨z1, z2⟩
              · first
                  | (rw [if_pos (jB_t z2), if_neg h35]; done)
                  | (exfalso; omega)
              · first
                  | (rw [if_neg (by rw [jB_f z2]; simp)]; done)
                  | (exfalso; omega)
            refine G_sub (ks := [1, 2, 3, 4, 0]) rfl ?_
            exact ih14 n (s + 1) (by omega) (by omega) hj2 (by omega)
          · refine g_iload_n F 3 rfl rfl d_X9_joint_33 ?_
            refine g_iload_n F 2 rfl rfl d_X9_joint_34 ?_
            refine g_icmp_ne F d_X9_joint_35 ⟨by omega, by omega⟩ ⟨by omega, by omega⟩ (fun h35 => ?_) (fun h35 => ?_)
            · refine g_iinc F (lv' := [(3, vI (n + 1)), (0, .ref (q 30)), (1, vI x), (2, vI y), (4, vI s)]) 3 rfl rfl (by decide) rfl d_X9_joint_41 ?_
              refine g_iinc F (lv' := [(4, vI (s + 1)), (3, vI (n + 1)), (0, .ref (q 30)), (1, vI x), (2, vI y)]) 4 rfl rfl (by decide) rfl d_X9_joint_44 ?_
              refine g_goto F d_X9_joint_47 ?_
              have hj2 : jl (mtb σ) x y (aA x + 1 - (s + 1)).toNat (s + 1) (n + 1) = jl (mtb σ) x y (aA x + 1).toNat 0 0 := by
                rw [← hj, show (aA x + 1 - s).toNat = (aA x + 1 - (s + 1)).toNat + 1 by omega, jl]
                rcases hz with ⟨z1, z2⟩ | ⟨z1, z2⟩
                · first
                    | (rw [if_pos (jB_t z2), if_neg h35]; done)
                    | (exfalso; omega)
                · first
                    | (rw [if_neg (by rw [jB_f z2]; simp)]; done)
                    | (exfalso; omega)
              refine G_sub (ks := [2, 3, 4, 1, 0]) rfl ?_
              exact ih14 (n + 1) (s + 1) (by omega) (by omega) hj2 (by omega)
            · refine g_iload F 4 rfl d_X9_joint_38 ?_
              exact hQ d_X9_joint_40 (⟨by rw [if_pos h4, ← hj, show (aA x + 1 - s).toNat = (aA x - s).toNat + 1 by omega, jl, if_pos (jB_t (hz.elim (fun h => h.2) (fun h => absurd h.1 h30))), if_pos h35], rfl⟩)
    refine G_sub (ks := [2, 3, 4, 1, 0]) rfl ?_
    exact loop14 _ 0 0 (by omega) (by omega) (by rw [Int.sub_zero]) (Nat.lt_succ_self _)
  · refine g_iconst F d_X9_joint_7 ?_
    exact hQ d_X9_joint_8 (⟨by rw [if_neg h4], rfl⟩)
