/-! for the law: the script, answers held side by side -/
def xv (xs : Nat → Int32) (j : Int) : Int := (xs j.toNat).toInt
theorem xv_rg (xs : Nat → Int32) (j : Int) : rg (xv xs j) := by
  have h1 := Int32.le_toInt (xs j.toNat)
  have h2 := Int32.toInt_lt (xs j.toNat)
  unfold xv
  exact ⟨by omega, by omega⟩
theorem bAnd15 (z : Int) : 0 ≤ bAnd z 15 ∧ bAnd z 15 < 16 := by
  have h := pk_andIn (iI z) (m := 15) 4 (by decide) (by decide)
  rw [vp_in_iff] at h
  exact h
section Law
variable {X : Cx} {E : Ev} {l : Launch} {cc : ByteArray} {nL : Nat} {own : String} {rm : Room} {q : Nat → Nat} {sh : List Shp} {σ : Sg} {ck cs : Nat} {Q : State → Prop} {pc pc' tgt : Nat} {lv : List (Nat × Value)} {st : List Value}
/-- the script -/
def Scr (X : Cx) (E : Ev) (b L : Nat) (xs : Nat → Int32) : Prop := va_X b L xs X.2.2.2.2.1 X.2.2.2.2.1.heap ∧ b < X.2.2.2.2.1.heap.size ∧ ¬ E.2.2.1 b ∧ L ≤ 2560
theorem g_sld (F : Fx X E l cc nL own rm) {b L : Nat} {xs : Nat → Int32} (hX : Scr X E b L xs) {z : Int} (d : At cc pc .iaload 1 pc') (h0 : 0 ≤ z) (h1 : z < (L : Int)) (k : G X E nL q sh σ ck cs Q pc' lv (vI (xv xs z) :: st)) : G X E nL q sh σ ck cs Q pc lv (vI z :: .ref b :: st) := by
  intro hA H locs ls hP hS hl
  obtain ⟨d, rfl⟩ := d
  obtain ⟨x1, x2, x3, x4⟩ := hX
  refine va_sld F.1 F.2.1 x1 x2 x3 hS (iI_in h0 h1 (by omega)) d ?_
  rw [iI_clamp ⟨by omega, by omega⟩, ← iI_of (xs z.toNat)]
  exact k hA H locs ls hP hS hl
theorem g_slen (F : Fx X E l cc nL own rm) {b L : Nat} {xs : Nat → Int32} (hX : Scr X E b L xs) (d : At cc pc .arraylength 1 pc') (k : G X E nL q sh σ ck cs Q pc' lv (vI (L : Int) :: st)) : G X E nL q sh σ ck cs Q pc lv (.ref b :: st) := by
  intro hA H locs ls hP hS hl
  obtain ⟨d, rfl⟩ := d
  obtain ⟨x1, x2, x3, x4⟩ := hX
  refine va_slen F.1 F.2.1 x1 x2 x3 hS d ?_
  rw [← iI_nat L]
  exact k hA H locs ls hP hS hl
theorem g_same (F : Fx X E l cc nL own rm) {a b off : Int} (d : Br cc pc (.if_icmp .eq off) off pc' tgt) (h : a = b) (k : G X E nL q sh σ ck cs Q tgt lv st) : G X E nL q sh σ ck cs Q pc lv (vI b :: vI a :: st) := by
  intro hA H locs ls hP hS hl
  obtain ⟨d, rfl, ht⟩ := d
  exact lv_icmp_eq F.1 F.2.1 d ht (fun _ => k hA H locs ls hP hS hl) (fun z => absurd (by rw [h]) z)
end Law
def LINV (σ : Sg) : Prop := ∃ re rt, INV σ re rt
theorem say_34 (σ : Sg) (x : Int) : sSay σ x 34 = σ 34 := by
  unfold sSay
  split
  · rw [up_ne _ (by decide), up_ne _ (by decide)]
  · rfl
theorem ffM_rows {σ τ : Sg} (e1 : τ 31 = σ 31) (e2 : τ 34 = σ 34) (x : Int) : ffM τ x = ffM σ x := by unfold ffM; rw [e1, e2]
theorem fault_eq {σ τ : Sg} {x z1 z2 : Int} (h : Twin σ) (m : Sm [3, 4] σ τ) (h1 : z1 = if 0 ≤ x ∧ x < 4 then ffP σ x else -1) (h2 : z2 = if 0 ≤ x ∧ x < 4 then ffM τ x else -1) : z1 = z2 := by
  rw [h1, h2, ffM_rows (m 31 (by decide)) (m 34 (by decide)), h.ff]
theorem body_ZD {σ : Sg} (h : Twin σ) (x : Int) : ∃ Z D, ffP σ x = -6 → Wf (σ 2) Z D 0 (σ 1 1) ∧ sgOk (σ 2) (σ 1 1) x := by
  by_cases c : ffP σ x = -6
  · obtain ⟨Z, D, hw⟩ := ffP_Wf h.1.1 h.1.2.2.1 c
    exact ⟨Z, D, fun _ => hw⟩
  · exact ⟨fun _ => 0, fun _ => 0, fun z => absurd z c⟩
def bodyC (σ τ : Sg) (x z : Int) (Z D : Int → Int) : Prop := (¬ (0 ≤ x ∧ x < 4) → z = -1 ∧ τ = σ) ∧ ((0 ≤ x ∧ x < 4) → (ffP σ x ≠ -6 → z = -5 ∧ Sm [3, 4] σ τ ∧ ∀ j, 0 ≤ τ 4 j ∧ τ 4 j ≤ 3) ∧ (ffP σ x = -6 → z = σ 1 1 ∧ bodyQ σ τ x Z D ∧ Sm byrows σ τ))
theorem bodyC.rows {σ τ : Sg} {x z : Int} {Z D : Int → Int} (h : bodyC σ τ x z Z D) : ∀ k, 30 ≤ k → τ k = σ k := by
  intro k hk
  by_cases hx : 0 ≤ x ∧ x < 4
  · by_cases c : ffP σ x = -6
    · exact ((h.2 hx).2 c).2.2 k (by simp; omega)
    · exact ((h.2 hx).1 c).2.1 k (by simp; omega)
  · rw [(h.1 hx).2]
theorem body_pre {σ τ : Sg} {x z : Int} {Z D : Int → Int} (h : Twin σ) (hF : ffP σ x = -6 → Wf (σ 2) Z D 0 (σ 1 1) ∧ sgOk (σ 2) (σ 1 1) x) (hc : bodyC σ τ x z Z D) :
    ffM τ x = ffP σ x ∧ (0 ≤ τ 34 4 ∧ τ 34 4 ≤ 30) ∧ MOK τ ∧ MTR τ ∧ UR τ ∧ C2 τ ∧ (ffM τ x = -6 → Wf (fun i => τ 31 (120 + i)) Z D 0 (τ 34 4) ∧ sgOk (fun i => τ 31 (120 + i)) (τ 34 4) x) ∧ ((0 ≤ x ∧ x < 4) → ffM τ x = -6 → ∀ υ : Sg, putM τ υ x Z D → LfpT (υ 34) (υ 31) (υ 32) (tbl τ) ∧ LfpU (υ 34) (υ 31) (υ 32) (kn τ)) := by
  have e := hc.rows
  have ef : ffM τ x = ffP σ x := by rw [ffM_rows (e 31 (by decide)) (e 34 (by decide)), h.ff]
  obtain ⟨m1, m2, m3, m4⟩ := h.2.2.2.2.1
  have hn := h.n4
  obtain ⟨p1, p2⟩ := h.2.2.2.2.2.1
  refine ⟨ef, by rw [e 34 (by decide)]; exact hn, MOK_rows m1 (fun k hk => e k (by revert k; decide)), fun f => by rw [e 37 (by decide)]; exact m2 f, fun f => by rw [e 38 (by decide)]; exact m3 f, fun f => by rw [e 39 (by decide)]; exact m4 f, fun z => ?_, fun hx z => ?_⟩
  · obtain ⟨w1, w2⟩ := hF (by rw [← ef]; exact z)
    rw [e 31 (by decide), e 34 (by decide), p1]
    refine ⟨w1.congr (fun p p0 p9 => ⟨p2 p (by omega) (by omega), rfl, rfl⟩), fun i i0 i1 => ?_⟩
    have h9 := w2 i i0 i1
    show kd (σ 31 (120 + i)) ≠ 0 ∧ (kd (σ 31 (120 + i)) = 3 → wo (σ 31 (120 + i)) < nA x)
    rw [p2 i i0 i1]
    exact h9
  · obtain ⟨_, b1, b2⟩ := (hc.2 hx).2 (by rw [← ef]; exact z)
    exact body_lfp h hx b1 b2
theorem body_end {σ τ υ : Sg} {re rt : RF} {x z1 z2 : Int} {Z D : Int → Int} (h : INV σ re rt) (hc : bodyC σ τ x z1 Z D) (ef : ffM τ x = ffP σ x)
    (hz : (¬ (0 ≤ x ∧ x < 4) → z2 = -1 ∧ υ = τ) ∧ ((0 ≤ x ∧ x < 4) → (ffM τ x ≠ -6 → z2 = -5 ∧ Sm [35] τ υ) ∧ (ffM τ x = -6 → z2 = τ 34 4 ∧ putM τ υ x Z D ∧ MOK υ ∧ MTR υ ∧ UR υ ∧ C2 υ ∧ LyD υ (tbl τ) (kn τ) ∧ Sm bmrows τ υ))) : z1 = z2 ∧ LINV υ := by
  by_cases hx : 0 ≤ x ∧ x < 4
  · by_cases c : ffP σ x = -6
    · obtain ⟨a1, a2, a3⟩ := (hc.2 hx).2 c
      obtain ⟨b1, b2, b3, b4, b5, b6, b7, b8⟩ := (hz.2 hx).2 (ef.trans c)
      refine ⟨?_, INV.body h.1 hx a2 a3 b2 b3 b4 b5 b6 b7 b8⟩
      rw [a1, b1, hc.rows 34 (by decide)]
      exact h.1.2.2.2.2.2.1.1.symm
    · obtain ⟨a1, a2, a3⟩ := (hc.2 hx).1 c
      obtain ⟨b1, b2⟩ := (hz.2 hx).1 (by rw [ef]; exact c)
      exact ⟨by rw [a1, b1], re, rt, (h.c34 a2 a3).m35 b2⟩
  · obtain ⟨a1, a2⟩ := hc.1 hx
    obtain ⟨b1, b2⟩ := hz.1 hx
    exact ⟨by rw [a1, b1], re, rt, by rw [b2, a2]; exact h⟩
