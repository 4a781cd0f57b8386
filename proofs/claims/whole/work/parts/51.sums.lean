/-! rows of eight and rows of nine -/
def lsum : List Int → Int
  | [] => 0
  | a :: l => a + lsum l
theorem lsum_app : ∀ l m : List Int, lsum (l ++ m) = lsum l + lsum m
  | [], m => by show lsum m = 0 + lsum m; omega
  | a :: l, m => by
    show a + lsum (l ++ m) = a + lsum l + lsum m
    rw [lsum_app l m]; omega
theorem smF_list (P : Int → Int) : ∀ k : Nat, smF P k = lsum (((List.range k).map (fun i : Nat => (i : Int))).map P)
  | 0 => rfl
  | k + 1 => by
    rw [smF, smF_list P k, List.range_succ, List.map_append, List.map_append, lsum_app]
    show _ + P k = _ + (P k + 0)
    omega
theorem lsum_filter (P : Int → Int) (q : Int → Bool) : ∀ l : List Int, lsum (l.map (fun a => if q a = true then P a else 0)) = lsum ((l.filter q).map P)
  | [] => rfl
  | a :: l => by
    have ih := lsum_filter P q l
    cases h : q a
    · rw [List.filter_cons_of_neg (by rw [h]; simp), List.map_cons]
      show (if q a = true then P a else 0) + lsum _ = _
      rw [if_neg (by rw [h]; simp), ih]; omega
    · rw [List.filter_cons_of_pos h, List.map_cons, List.map_cons]
      show (if q a = true then P a else 0) + lsum _ = P a + lsum _
      rw [if_pos h, ih]
theorem rows_0 : ((List.range 8).map (fun i : Nat => (i : Int))).map (ntF 0) = ((List.range 9).map (fun i : Nat => (i : Int))).filter (fun a => arN 0 a 1) := by decide +kernel
theorem rows_1 : ((List.range 64).map (fun i : Nat => (i : Int))).map (ntF 1) = ((List.range 81).map (fun i : Nat => (i : Int))).filter (fun a => arN 1 a 2) := by decide +kernel
theorem rows_2 : ((List.range 512).map (fun i : Nat => (i : Int))).map (ntF 2) = ((List.range 729).map (fun i : Nat => (i : Int))).filter (fun a => arN 2 a 3) := by decide +kernel
theorem rows_3 : ((List.range 64).map (fun i : Nat => (i : Int))).map (ntF 3) = ((List.range 81).map (fun i : Nat => (i : Int))).filter (fun a => arN 3 a 2) := by decide +kernel
theorem rows_f {f : Int} (hf : 0 ≤ f ∧ f < 4) : ((List.range (stV 2 f).toNat).map (fun i : Nat => (i : Int))).map (ntF f) = ((List.range (stV 1 f).toNat).map (fun i : Nat => (i : Int))).filter (fun a => arN f a (nA f).toNat) := by
  rcases four hf with rfl | rfl | rfl | rfl
  · exact rows_0
  · exact rows_1
  · exact rows_2
  · exact rows_3
theorem rows_sum {f : Int} (hf : 0 ≤ f ∧ f < 4) (P : Int → Int) : smF (fun r => P (ntF f r)) (stV 2 f).toNat = smF (fun a => if arN f a (nA f).toNat = true then P a else 0) (stV 1 f).toNat := by
  rw [smF_list, smF_list, lsum_filter P (fun a => arN f a (nA f).toNat), ← rows_f hf, List.map_map (g := P)]
  rfl
theorem rows_to {f r : Int} (hf : 0 ≤ f ∧ f < 4) (hr : 0 ≤ r ∧ r < stV 2 f) : (0 ≤ ntF f r ∧ ntF f r < stV 1 f) ∧ arN f (ntF f r) (nA f).toNat = true := by
  have h : ntF f r ∈ ((List.range (stV 2 f).toNat).map (fun i : Nat => (i : Int))).map (ntF f) :=
    List.mem_map.mpr ⟨r, List.mem_map.mpr ⟨r.toNat, List.mem_range.mpr (by omega), by omega⟩, rfl⟩
  rw [rows_f hf] at h
  exact ⟨ntF_in hf r, (List.mem_filter.mp h).2⟩
theorem rows_of {f a : Int} (hf : 0 ≤ f ∧ f < 4) (ha : 0 ≤ a ∧ a < stV 1 f) (hn : arN f a (nA f).toNat = true) : ∃ r, (0 ≤ r ∧ r < stV 2 f) ∧ ntF f r = a := by
  have h : a ∈ ((List.range (stV 1 f).toNat).map (fun i : Nat => (i : Int))).filter (fun a => arN f a (nA f).toNat) :=
    List.mem_filter.mpr ⟨List.mem_map.mpr ⟨a.toNat, List.mem_range.mpr (by omega), by omega⟩, hn⟩
  rw [← rows_f hf] at h
  obtain ⟨r, h1, h2⟩ := List.mem_map.mp h
  obtain ⟨i, h3, h4⟩ := List.mem_map.mp h1
  have := List.mem_range.mp h3
  exact ⟨r, by omega, h2⟩
theorem srt_eq {e : Int} (h : 0 ≤ e ∧ e ≤ 9) : srt e = srM e := by
  unfold srt srM
  split
  · rfl
  · split <;> omega
theorem smF_congr {P Q : Int → Int} : ∀ k : Nat, (∀ j : Int, 0 ≤ j → j < k → P j = Q j) → smF P k = smF Q k
  | 0, _ => rfl
  | k + 1, h => by rw [smF, smF, smF_congr k (fun j a b => h j a (by omega)), h k (by omega) (by omega)]
def reOk (re : RF) : Prop := ∀ f a w, inRun f a w → 0 ≤ re f a w ∧ re f a w ≤ 9
theorem ends_eq {re : RF} (h : reOk re) (x k : Int) : vEnds re x k = vEndsM re x k := by
  unfold vEnds vEndsM
  by_cases hx : 0 ≤ x ∧ x < 4
  · rw [if_pos hx, if_pos hx]
    by_cases hk : 0 ≤ k ∧ k ≤ 2
    · rw [if_pos hk, if_pos hk]
      show smF (fun r => (fun a => if srt (re x a 1) = k then (1 : Int) else 0) (ntF x r)) _ = _
      rw [rows_sum hx (fun a => if srt (re x a 1) = k then (1 : Int) else 0)]
      apply smF_congr
      intro a a0 a1
      have hs := srt_eq (h x a 1 ⟨hx, ⟨a0, by omega⟩, by decide, by decide⟩)
      unfold pEndsM
      rw [hs]
      by_cases c : arN x a (nA x).toNat = true
      · rw [if_pos c]
        by_cases d : srM (re x a 1) = k
        · rw [if_pos d, if_pos ⟨c, d⟩]
        · rw [if_neg d, if_neg (fun z => d z.2)]
      · rw [if_neg c, if_neg (fun z => c z.1)]
    · rw [if_neg hk, if_neg hk]
  · rw [if_neg hx, if_neg hx]
theorem steps_eq {re : RF} (rt : RF) (x w : Int) : vSteps re rt x w = vStepsM re rt x w := by
  unfold vSteps vStepsM
  by_cases hx : 0 ≤ x ∧ x < 4
  · rw [if_pos hx, if_pos hx]
    by_cases hk : 0 ≤ w ∧ w < 4
    · rw [if_pos hk, if_pos hk]
      show smF (fun r => (fun a => if re x a 1 < 8 then rt x a w else 0) (ntF x r)) _ = _
      rw [rows_sum hx (fun a => if re x a 1 < 8 then rt x a w else 0)]
      apply smF_congr
      intro a a0 a1
      unfold pStepsM
      by_cases c : arN x a (nA x).toNat = true
      · rw [if_pos c]
        by_cases d : re x a 1 < 8
        · rw [if_pos d, if_pos ⟨c, d⟩]
        · rw [if_neg d, if_neg (fun z => d z.2)]
      · rw [if_neg c, if_neg (fun z => c z.1)]
    · rw [if_neg hk, if_neg hk]
  · rw [if_neg hx, if_neg hx]
/-! one ARGUMENT changed -/
theorem down_0 : ∀ a : Nat, a < 9 → ∀ y : Nat, y < 1 → arN 0 a 1 = true → 0 < tdo 0 a y → byM 0 y ≤ (a : Int) ∧ arN 0 ((a : Int) - byM 0 y) 1 = true ∧ tdo 0 ((a : Int) - byM 0 y) y = tdo 0 a y - 1 := by decide +kernel
theorem down_1 : ∀ a : Nat, a < 81 → ∀ y : Nat, y < 2 → arN 1 a 2 = true → 0 < tdo 1 a y → byM 1 y ≤ (a : Int) ∧ arN 1 ((a : Int) - byM 1 y) 2 = true ∧ tdo 1 ((a : Int) - byM 1 y) y = tdo 1 a y - 1 := by decide +kernel
theorem down_2 : ∀ a : Nat, a < 729 → ∀ y : Nat, y < 3 → arN 2 a 3 = true → 0 < tdo 2 a y → byM 2 y ≤ (a : Int) ∧ arN 2 ((a : Int) - byM 2 y) 3 = true ∧ tdo 2 ((a : Int) - byM 2 y) y = tdo 2 a y - 1 := by decide +kernel
theorem down_3 : ∀ a : Nat, a < 81 → ∀ y : Nat, y < 2 → arN 3 a 2 = true → 0 < tdo 3 a y → byM 3 y ≤ (a : Int) ∧ arN 3 ((a : Int) - byM 3 y) 2 = true ∧ tdo 3 ((a : Int) - byM 3 y) y = tdo 3 a y - 1 := by decide +kernel
theorem up_0 : ∀ a : Nat, a < 9 → ∀ y : Nat, y < 1 → arN 0 a 1 = true → tdo 0 a y < 7 → (a : Int) + byM 0 y < 9 ∧ arN 0 ((a : Int) + byM 0 y) 1 = true ∧ tdo 0 ((a : Int) + byM 0 y) y = tdo 0 a y + 1 := by decide +kernel
theorem up_1 : ∀ a : Nat, a < 81 → ∀ y : Nat, y < 2 → arN 1 a 2 = true → tdo 1 a y < 7 → (a : Int) + byM 1 y < 81 ∧ arN 1 ((a : Int) + byM 1 y) 2 = true ∧ tdo 1 ((a : Int) + byM 1 y) y = tdo 1 a y + 1 := by decide +kernel
theorem up_2 : ∀ a : Nat, a < 729 → ∀ y : Nat, y < 3 → arN 2 a 3 = true → tdo 2 a y < 7 → (a : Int) + byM 2 y < 729 ∧ arN 2 ((a : Int) + byM 2 y) 3 = true ∧ tdo 2 ((a : Int) + byM 2 y) y = tdo 2 a y + 1 := by decide +kernel
theorem up_3 : ∀ a : Nat, a < 81 → ∀ y : Nat, y < 2 → arN 3 a 2 = true → tdo 3 a y < 7 → (a : Int) + byM 3 y < 81 ∧ arN 3 ((a : Int) + byM 3 y) 2 = true ∧ tdo 3 ((a : Int) + byM 3 y) y = tdo 3 a y + 1 := by decide +kernel
theorem zer_0 : ∀ r : Nat, r < 8 → ∀ y : Nat, y < 1 → ntF 0 (bAnd r (dig 0 y)) = ntF 0 r - tdo 0 (ntF 0 r) y * byM 0 y := by decide +kernel
theorem zer_1 : ∀ r : Nat, r < 64 → ∀ y : Nat, y < 2 → ntF 1 (bAnd r (dig 1 y)) = ntF 1 r - tdo 1 (ntF 1 r) y * byM 1 y := by decide +kernel
theorem zer_2 : ∀ r : Nat, r < 512 → ∀ y : Nat, y < 3 → ntF 2 (bAnd r (dig 2 y)) = ntF 2 r - tdo 2 (ntF 2 r) y * byM 2 y := by decide +kernel
theorem zer_3 : ∀ r : Nat, r < 64 → ∀ y : Nat, y < 2 → ntF 3 (bAnd r (dig 3 y)) = ntF 3 r - tdo 3 (ntF 3 r) y * byM 3 y := by decide +kernel
theorem down_f {f a y : Int} (hf : 0 ≤ f ∧ f < 4) (hy : 0 ≤ y ∧ y < nA f) (ha : 0 ≤ a ∧ a < stV 1 f) (hn : arN f a (nA f).toNat = true) (hd : 0 < tdo f a y) : byM f y ≤ a ∧ arN f (a - byM f y) (nA f).toNat = true ∧ tdo f (a - byM f y) y = tdo f a y - 1 := by
  obtain ⟨i, rfl⟩ : ∃ i : Nat, a = i := ⟨a.toNat, by omega⟩
  obtain ⟨j, rfl⟩ : ∃ j : Nat, y = j := ⟨y.toNat, by omega⟩
  have h1 := ha.2
  have h2 := hy.2
  rcases four hf with rfl | rfl | rfl | rfl
  · exact down_0 i (Int.ofNat_lt.mp h1) j (Int.ofNat_lt.mp h2) hn hd
  · exact down_1 i (Int.ofNat_lt.mp h1) j (Int.ofNat_lt.mp h2) hn hd
  · exact down_2 i (Int.ofNat_lt.mp h1) j (Int.ofNat_lt.mp h2) hn hd
  · exact down_3 i (Int.ofNat_lt.mp h1) j (Int.ofNat_lt.mp h2) hn hd
theorem up_f {f a y : Int} (hf : 0 ≤ f ∧ f < 4) (hy : 0 ≤ y ∧ y < nA f) (ha : 0 ≤ a ∧ a < stV 1 f) (hn : arN f a (nA f).toNat = true) (hd : tdo f a y < 7) : a + byM f y < stV 1 f ∧ arN f (a + byM f y) (nA f).toNat = true ∧ tdo f (a + byM f y) y = tdo f a y + 1 := by
  obtain ⟨i, rfl⟩ : ∃ i : Nat, a = i := ⟨a.toNat, by omega⟩
  obtain ⟨j, rfl⟩ : ∃ j : Nat, y = j := ⟨y.toNat, by omega⟩
  have h1 := ha.2
  have h2 := hy.2
  rcases four hf with rfl | rfl | rfl | rfl
  · exact up_0 i (Int.ofNat_lt.mp h1) j (Int.ofNat_lt.mp h2) hn hd
  · exact up_1 i (Int.ofNat_lt.mp h1) j (Int.ofNat_lt.mp h2) hn hd
  · exact up_2 i (Int.ofNat_lt.mp h1) j (Int.ofNat_lt.mp h2) hn hd
  · exact up_3 i (Int.ofNat_lt.mp h1) j (Int.ofNat_lt.mp h2) hn hd
theorem zer_f {f r y : Int} (hf : 0 ≤ f ∧ f < 4) (hy : 0 ≤ y ∧ y < nA f) (hr : 0 ≤ r ∧ r < stV 2 f) : ntF f (bAnd r (dig f y)) = ntF f r - tdo f (ntF f r) y * byM f y := by
  obtain ⟨i, rfl⟩ : ∃ i : Nat, r = i := ⟨r.toNat, by omega⟩
  obtain ⟨j, rfl⟩ : ∃ j : Nat, y = j := ⟨y.toNat, by omega⟩
  have h1 := hr.2
  have h2 := hy.2
  rcases four hf with rfl | rfl | rfl | rfl
  · exact zer_0 i (Int.ofNat_lt.mp h1) j (Int.ofNat_lt.mp h2)
  · exact zer_1 i (Int.ofNat_lt.mp h1) j (Int.ofNat_lt.mp h2)
  · exact zer_2 i (Int.ofNat_lt.mp h1) j (Int.ofNat_lt.mp h2)
  · exact zer_3 i (Int.ofNat_lt.mp h1) j (Int.ofNat_lt.mp h2)
theorem byM_0 (f y : Int) : 0 ≤ byM f y := by
  unfold byM
  have h : ∀ k : Nat, 0 ≤ pw9 k := fun k => by
    induction k with
    | zero => decide
    | succ k ih => unfold pw9; omega
  exact h _
theorem fMat_1 (re : RF) (x y : Int) : ∀ (n : Nat) (r : Int), (fMat re x y n r = 1 ∧ ∃ i, r ≤ i ∧ i < r + n ∧ ¬ re x (ntF x i) 1 = re x (ntF x (bAnd i (dig x y))) 1) ∨ (fMat re x y n r = 0 ∧ ∀ i, r ≤ i → i < r + n → re x (ntF x i) 1 = re x (ntF x (bAnd i (dig x y))) 1)
  | 0, r => Or.inr ⟨rfl, fun i a b => by exfalso; omega⟩
  | n + 1, r => by
    unfold fMat
    by_cases h : re x (ntF x r) 1 = re x (ntF x (bAnd r (dig x y))) 1
    · rw [if_pos h]
      rcases fMat_1 re x y n (r + 1) with ⟨a, i, b, c, d⟩ | ⟨a, b⟩
      · exact Or.inl ⟨a, i, by omega, by omega, d⟩
      · refine Or.inr ⟨a, fun i c d => ?_⟩
        by_cases e : i = r
        · rw [e]; exact h
        · exact b i (by omega) (by omega)
    · rw [if_neg h]
      exact Or.inl ⟨rfl, r, by omega, by omega, h⟩
theorem fMatM_1 (re : RF) (x y : Int) : ∀ (n : Nat) (r : Int), (fMatM re x y n r = 1 ∧ ∃ i, r ≤ i ∧ i < r + n ∧ (arN x i (nA x).toNat = true ∧ tdo x i y < 7) ∧ ¬ re x i 1 = re x (i + byM x y) 1) ∨ (fMatM re x y n r = 0 ∧ ∀ i, r ≤ i → i < r + n → ¬ ((arN x i (nA x).toNat = true ∧ tdo x i y < 7) ∧ ¬ re x i 1 = re x (i + byM x y) 1))
  | 0, r => Or.inr ⟨rfl, fun i a b => by exfalso; omega⟩
  | n + 1, r => by
    unfold fMatM
    by_cases h : (arN x r (nA x).toNat = true ∧ tdo x r y < 7) ∧ ¬ re x r 1 = re x (r + byM x y) 1
    · rw [if_pos h]
      exact Or.inl ⟨rfl, r, by omega, by omega, h⟩
    · rw [if_neg h]
      rcases fMatM_1 re x y n (r + 1) with ⟨a, i, b, c, d⟩ | ⟨a, b⟩
      · exact Or.inl ⟨a, i, by omega, by omega, d⟩
      · refine Or.inr ⟨a, fun i c d => ?_⟩
        by_cases e : i = r
        · rw [e]; exact h
        · exact b i (by omega) (by omega)
theorem tdo_7 {f a y : Int} (hy : 0 ≤ y ∧ y < nA f) (hn : arN f a (nA f).toNat = true) : tdo f a y ≤ 7 := by
  have h : ∀ k : Nat, y < k → arN f a k = true → tdo f a y < 8 := by
    intro k
    induction k with
    | zero => intro h; exfalso; omega
    | succ k ih =>
      intro h hk
      unfold arN at hk
      rw [Bool.and_eq_true] at hk
      by_cases e : y = k
      · rw [e]; exact of_decide_eq_true hk.2
      · exact ih (by omega) hk.1
  have := h (nA f).toNat (by omega) hn
  omega
theorem chain {re : RF} {x y : Int} (hx : 0 ≤ x ∧ x < 4) (hy : 0 ≤ y ∧ y < nA x) (hadj : ∀ i, 0 ≤ i → i < stV 1 x → arN x i (nA x).toNat = true → tdo x i y < 7 → re x i 1 = re x (i + byM x y) 1) :
    ∀ (d : Nat) (a : Int), 0 ≤ a → a < stV 1 x → arN x a (nA x).toNat = true → tdo x a y = d → re x a 1 = re x (a - d * byM x y) 1
  | 0, a, _, _, _, _ => by rw [show a - ((0 : Nat) : Int) * byM x y = a by simp]
  | d + 1, a, a0, a1, hn, hd => by
    have h7 := tdo_7 hy hn
    obtain ⟨e1, e2, e3⟩ := down_f hx hy ⟨a0, a1⟩ hn (by omega)
    have hb := byM_0 x y
    have ih := chain hx hy hadj d (a - byM x y) (by omega) (by omega) e2 (by omega)
    have h2 := hadj (a - byM x y) (by omega) (by omega) e2 (by omega)
    rw [show a - byM x y + byM x y = a by omega] at h2
    rw [← h2, ih, show a - byM x y - (d : Int) * byM x y = a - ((d + 1 : Nat) : Int) * byM x y by rw [show ((d + 1 : Nat) : Int) = (d : Int) + 1 by omega, Int.add_mul]; omega]
theorem mat_eq (re : RF) (x y : Int) : vMat re x y = vMatM re x y := by
  unfold vMat vMatM
  by_cases hx : (0 ≤ x ∧ x < 4) ∧ 0 ≤ y ∧ y < nA x
  · rw [if_pos hx, if_pos hx]
    obtain ⟨hf, hy⟩ := hx
    have s1 := stV1_in hf
    have s2 := stV2_in hf
    have hb := byM_0 x y
    rcases fMat_1 re x y (stV 2 x).toNat 0 with ⟨e, i, i0, i1, hi⟩ | ⟨e, hall⟩
    · rcases fMatM_1 re x y (stV 1 x).toNat 0 with ⟨e', _⟩ | ⟨e', hall'⟩
      · rw [e, e']
      · exfalso
        apply hi
        obtain ⟨t1, t2⟩ := rows_to hf (r := i) ⟨i0, by omega⟩
        rw [zer_f hf hy ⟨i0, by omega⟩]
        have hd := tdo_in x (ntF x i) y
        have := chain (re := re) hf hy (fun j a b c d => Decidable.byContradiction (fun z => hall' j a (by omega) ⟨⟨c, d⟩, z⟩)) (tdo x (ntF x i) y).toNat (ntF x i) t1.1 t1.2 t2 (by omega)
        rw [show (((tdo x (ntF x i) y).toNat : Nat) : Int) = tdo x (ntF x i) y by omega] at this
        exact this
    · rcases fMatM_1 re x y (stV 1 x).toNat 0 with ⟨e', a, a0, a1, ⟨hn, h7⟩, hne⟩ | ⟨e', _⟩
      · exfalso
        apply hne
        obtain ⟨u1, u2, u3⟩ := up_f hf hy (a := a) ⟨a0, by omega⟩ hn h7
        obtain ⟨r1, r2, r3⟩ := rows_of hf (a := a) ⟨a0, by omega⟩ hn
        obtain ⟨q1, q2, q3⟩ := rows_of hf (a := a + byM x y) ⟨by omega, u1⟩ u2
        have h1 := hall r1 r2.1 (by omega)
        have h2 := hall q1 q2.1 (by omega)
        rw [zer_f hf hy r2, r3] at h1
        rw [zer_f hf hy q2, q3, u3, Int.add_mul, Int.one_mul, show a + byM x y - (tdo x a y * byM x y + byM x y) = a - tdo x a y * byM x y by omega] at h2
        rw [h1, h2]
      · rw [e, e']
  · rw [if_neg hx, if_neg hx]
