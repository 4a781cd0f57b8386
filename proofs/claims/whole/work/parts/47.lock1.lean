/-! lockstep: the Machine and the reference's machine -/
def inB (ρ : Sg) (f p : Int) : Prop := (0 ≤ f ∧ f < 4) ∧ f * 30 ≤ p ∧ p < f * 30 + ρ 6 f
def Stt (ρ τ : Sg) (w : Int) : Prop := BOK ρ ∧ AH ρ ∧ MOK τ ∧ MTR τ ∧ (0 ≤ w ∧ w < 4) ∧ (∀ f, 0 ≤ f → f < 4 → τ 34 f = ρ 6 f) ∧ (∀ f p, inB ρ f p → τ 31 p = ρ 7 p ∧ τ 32 p = ρ 10 p) ∧ (∀ f j, 0 ≤ f → f < 4 → 0 ≤ j → j < nA f → bt (ρ 28 f) j = amB τ w f j)
theorem BOK_rows {ρ ρ' : Sg} (h : BOK ρ) (e : ∀ k, k ∈ [6, 7, 8, 9, 10, 11] → ρ' k = ρ k) : BOK ρ' := by
  unfold BOK at h ⊢
  rw [e 6 (by decide), e 7 (by decide), e 8 (by decide), e 9 (by decide), e 10 (by decide), e 11 (by decide)]
  exact h
theorem MOK_rows {ρ ρ' : Sg} (h : MOK ρ) (e : ∀ k, k ∈ [31, 32, 33, 34] → ρ' k = ρ k) : MOK ρ' := by
  unfold MOK at h ⊢
  rw [e 31 (by decide), e 32 (by decide), e 33 (by decide), e 34 (by decide)]
  exact h
theorem Stt.rows {ρ τ ρ' τ' : Sg} {w : Int} (h : Stt ρ τ w) (h1 : ∀ k, k ∈ [6, 7, 8, 9, 10, 11, 28] → ρ' k = ρ k) (h2 : ∀ k, k ∈ [31, 32, 33, 34, 37] → τ' k = τ k) : Stt ρ' τ' w := by
  obtain ⟨a, b, c, d, e, f, g, i⟩ := h
  refine ⟨BOK_rows a (fun k hk => h1 k (by revert k; decide)), fun z => by rw [h1 28 (by decide)]; exact b z, MOK_rows c (fun k hk => h2 k (by revert k; decide)), fun z => by rw [h2 37 (by decide)]; exact d z, e, ?_, ?_, ?_⟩
  · rw [h2 34 (by decide), h1 6 (by decide)]; exact f
  · intro x p hp
    unfold inB at hp
    rw [h1 6 (by decide)] at hp
    rw [h2 31 (by decide), h2 32 (by decide), h1 7 (by decide), h1 10 (by decide)]
    exact g x p hp
  · intro x j x0 x1 j0 j1
    rw [h1 28 (by decide), amB_row (h2 37 (by decide))]
    exact i x j x0 x1 j0 j1
theorem Stt.sm {ρ τ ρ' τ' : Sg} {w : Int} (h : Stt ρ τ w) (h1 : Sm trows ρ ρ') (h2 : Sm nrows τ τ') : Stt ρ' τ' w :=
  h.rows (fun k hk => h1 k (by revert k; decide)) (fun k hk => h2 k (by revert k; decide))
theorem Stt.ch {ρ τ : Sg} {w f p j : Int} (h : Stt ρ τ w) (hp : inB ρ f p) (j0 : 0 ≤ j) (j1 : j < tx (ρ 7 p)) : p < tp (ρ 10) p j ∧ inB ρ f (tp (ρ 10) p j) := by
  obtain ⟨a, b, c⟩ := hp
  have h1 := ((h.1 f a.1 a.2).1.2.2.2.2 p b c).2.1 j j0 j1
  exact ⟨h1.1, a, by omega, by omega⟩
theorem Stt.tp {ρ τ : Sg} {w f p j : Int} (h : Stt ρ τ w) (hp : inB ρ f p) (j0 : 0 ≤ j) (j1 : j ≤ tx (ρ 7 p)) : tp (τ 32) p j = tp (ρ 10) p j := by
  refine tp_congr' (e := f * 30 + ρ 6 f) (t := tx (ρ 7 p)) (fun q a b => ?_) (fun i a b => ?_) j0 j1
  · exact (h.2.2.2.2.2.2.1 f q ⟨hp.1, by have := hp.2.1; omega, b⟩).2
  · have := h.ch hp a b
    exact ⟨this.1, this.2.2.2⟩
def Txt (n5 : Int) (N F : Int → Int) (p d n : Int) : Prop := (0 ≤ d ∧ d < n5) ∧ p = F d * 30 + n ∧ 0 ≤ n ∧ n < N (F d)
def SlW (n5 : Int) (N F : Int → Int) (c a22 a41 a23 a24 a42 a43 : Int) : Prop := a22 = a41 ∧ (-1 ≤ a41 ∧ a41 ≤ 8) ∧ (c = 0 → 0 ≤ a41) ∧ (1 ≤ c → Txt n5 N F a23 a24 a42 ∧ a24 = a43)
def EntV (n5 : Int) (N S F : Int → Int) (w P C H K Nn D M : Int) : Prop := (0 ≤ C ∧ C < n5) ∧
  ((K = 1 ∧ kd (S P) = 4 ∧ H = -1 ∧ D = C ∧ Txt n5 N F P C Nn) ∨ (K = 2 ∧ kd (S P) = 4 ∧ (0 ≤ H ∧ H < 8) ∧ M = H ∧ D = C ∧ Txt n5 N F P C Nn) ∨ (K = 3 ∧ kd (S P) = 5 ∧ H = -1 ∧ D = C ∧ Txt n5 N F P C Nn) ∨
   (K = 4 ∧ kd (S P) = 3 ∧ H = -1 ∧ D = 0 ∧ M = 3 * C + wo (S P) ∧ ∃ n, Txt n5 N F P C n) ∨ (K = 5 ∧ kd (S P) = 6 ∧ (0 ≤ H ∧ H < nA (F C)) ∧ Nn = H ∧ D = C ∧ M = w ∧ 1 ≤ C ∧ wo (S P) = F C ∧ ∃ f, (0 ≤ f ∧ f < 4) ∧ f * 30 ≤ P ∧ P < f * 30 + N f))
def Base (ρ τ : Sg) (w : Int) : Prop := Stt ρ τ w ∧ (ρ 21 10 = w ∧ τ 30 19 = ρ 21 13 ∧ τ 30 18 = ρ 21 9 ∧ τ 30 13 = ρ 21 5 ∧ τ 30 20 = ρ 21 12) ∧ ((0 ≤ ρ 21 13 ∧ ρ 21 13 ≤ 300) ∧ (0 ≤ ρ 21 9 ∧ ρ 21 9 ≤ ρ 21 13) ∧ (1 ≤ ρ 21 5 ∧ ρ 21 5 ≤ ρ 21 13 + 1) ∧ (-1 ≤ ρ 21 12 ∧ ρ 21 12 ≤ 9)) ∧
  (∀ c, 0 ≤ c → c < ρ 21 5 → 0 ≤ τ 40 c ∧ τ 40 c < 4) ∧
  (∀ c j, 0 ≤ c → c < ρ 21 5 → 0 ≤ j → j < nA (τ 40 c) → SlW (ρ 21 5) (ρ 6) (τ 40) c (ρ 22 (c * 3 + j)) (τ 41 (3 * c + j)) (ρ 23 (c * 3 + j)) (ρ 24 (c * 3 + j)) (τ 42 (3 * c + j)) (τ 43 (3 * c + j))) ∧
  (∀ i, 0 ≤ i → i < ρ 21 9 → EntV (ρ 21 5) (ρ 6) (ρ 7) (τ 40) w (ρ 25 i) (ρ 26 i) (ρ 27 i) (τ 44 i) (τ 45 i) (τ 46 i) (τ 47 i))
def Cur (ρ τ : Sg) : Prop := (ρ 21 16 = 0 ∧ ρ 21 15 = τ 30 22 ∧ Txt (ρ 21 5) (ρ 6) (τ 40) (ρ 21 14) (τ 30 22) (τ 30 21)) ∨ (ρ 21 16 = 1 ∧ τ 30 21 = -1 ∧ ρ 21 17 = τ 30 23 ∧ 0 ≤ ρ 21 17 ∧ ρ 21 17 < 8)
def Rel (ρ τ : Sg) (w φ : Int) : Prop := Base ρ τ w ∧ (ρ 21 12 = -1 → Cur ρ τ ∧ 3 * (301 - ρ 21 13) + ρ 21 9 + ρ 21 16 ≤ φ)
theorem Base.cg {ρ τ ρ' τ' : Sg} {w : Int} (h : Base ρ τ w) (h1 : ∀ k, k ≠ 21 → ρ' k = ρ k) (h2 : ∀ j : Int, j ∈ [5, 9, 10, 12, 13] → ρ' 21 j = ρ 21 j) (h3 : ∀ k, k ≠ 30 → τ' k = τ k) (h4 : ∀ j : Int, j ∈ [13, 18, 19, 20] → τ' 30 j = τ 30 j) : Base ρ' τ' w := by
  have hs : Stt ρ' τ' w := h.1.rows (fun k hk => h1 k (by revert k; decide)) (fun k hk => h3 k (by revert k; decide))
  unfold Base at h ⊢
  rw [h2 5 (by decide), h2 9 (by decide), h2 10 (by decide), h2 12 (by decide), h2 13 (by decide), h4 13 (by decide), h4 18 (by decide), h4 19 (by decide), h4 20 (by decide), h1 6 (by decide), h1 7 (by decide), h1 22 (by decide), h1 23 (by decide), h1 24 (by decide), h1 25 (by decide), h1 26 (by decide), h1 27 (by decide), h3 40 (by decide), h3 41 (by decide), h3 42 (by decide), h3 43 (by decide), h3 44 (by decide), h3 45 (by decide), h3 46 (by decide), h3 47 (by decide)]
  exact ⟨hs, h.2⟩
/-! rows of the small steps -/
theorem mGo_r {σ : Sg} {p c : Int} {k : Nat} (h : k ≠ 21) : mGo σ p c k = σ k := by unfold mGo; rw [up_ne _ h, up_ne _ h, up_ne _ h]
theorem mGo_21 {σ : Sg} {p c j : Int} (h1 : j ≠ 14) (h2 : j ≠ 15) (h3 : j ≠ 16) : mGo σ p c 21 j = σ 21 j := by unfold mGo; rw [up_other _ _ h2, up_other _ _ h1, up_other _ _ h3]
theorem mGo_14 (σ : Sg) (p c : Int) : mGo σ p c 21 14 = p := by unfold mGo; rw [up_other _ _ (by decide), up_same]
theorem mGo_15 (σ : Sg) (p c : Int) : mGo σ p c 21 15 = c := by unfold mGo; rw [up_same]
theorem mGo_16 (σ : Sg) (p c : Int) : mGo σ p c 21 16 = 0 := by unfold mGo; rw [up_other _ _ (by decide), up_other _ _ (by decide), up_same]
theorem nGo_r {σ : Sg} {n c : Int} {k : Nat} (h : k ≠ 30) : nGo σ n c k = σ k := by unfold nGo; rw [up_ne _ h, up_ne _ h]
theorem nGo_30 {σ : Sg} {n c j : Int} (h1 : j ≠ 21) (h2 : j ≠ 22) : nGo σ n c 30 j = σ 30 j := by unfold nGo; rw [up_other _ _ h2, up_other _ _ h1]
theorem nGo_21 (σ : Sg) (n c : Int) : nGo σ n c 30 21 = n := by unfold nGo; rw [up_other _ _ (by decide), up_same]
theorem nGo_22 (σ : Sg) (n c : Int) : nGo σ n c 30 22 = c := by unfold nGo; rw [up_same]
theorem mGive_r {σ : Sg} {v : Int} {k : Nat} (h : k ≠ 21) : mGive σ v k = σ k := by unfold mGive; rw [up_ne _ h, up_ne _ h]
theorem mGive_21 {σ : Sg} {v j : Int} (h1 : j ≠ 16) (h2 : j ≠ 17) : mGive σ v 21 j = σ 21 j := by unfold mGive; rw [up_other _ _ h2, up_other _ _ h1]
theorem mGive_16 (σ : Sg) (v : Int) : mGive σ v 21 16 = 1 := by unfold mGive; rw [up_other _ _ (by decide), up_same]
theorem mGive_17 (σ : Sg) (v : Int) : mGive σ v 21 17 = v := by unfold mGive; rw [up_same]
theorem nCome_r {σ : Sg} {v : Int} {k : Nat} (h : k ≠ 30) : nCome σ v k = σ k := by unfold nCome; rw [up_ne _ h, up_ne _ h]
theorem nCome_30 {σ : Sg} {v j : Int} (h1 : j ≠ 21) (h2 : j ≠ 23) : nCome σ v 30 j = σ 30 j := by unfold nCome; rw [up_other _ _ h2, up_other _ _ h1]
theorem nCome_21 (σ : Sg) (v : Int) : nCome σ v 30 21 = -1 := by unfold nCome; rw [up_other _ _ (by decide), up_same]
theorem nCome_23 (σ : Sg) (v : Int) : nCome σ v 30 23 = v := by unfold nCome; rw [up_same]
theorem mWait_r {σ : Sg} {p c h : Int} {k : Nat} (hk : k ∉ [21, 25, 26, 27]) : mWait σ p c h k = σ k := by
  simp at hk
  unfold mWait
  rw [up_ne _ (by omega), up_ne _ (by omega), up_ne _ (by omega), up_ne _ (by omega)]
theorem mWait_21 {σ : Sg} {p c h j : Int} (hj : j ≠ 9) : mWait σ p c h 21 j = σ 21 j := by
  unfold mWait
  rw [up_other _ _ hj, up_ne _ (by decide), up_ne _ (by decide), up_ne _ (by decide)]
theorem mWait_9 (σ : Sg) (p c h : Int) : mWait σ p c h 21 9 = σ 21 9 + 1 := by unfold mWait; rw [up_same]
theorem mWait_25 (σ : Sg) (p c h i : Int) : mWait σ p c h 25 i = if i = σ 21 9 then p else σ 25 i := by
  unfold mWait
  rw [up_ne _ (by decide), up_ne _ (by decide), up_ne _ (by decide), up_at]
theorem mWait_26 (σ : Sg) (p c h i : Int) : mWait σ p c h 26 i = if i = σ 21 9 then c else σ 26 i := by
  unfold mWait
  rw [up_ne _ (by decide), up_ne _ (by decide), up_at, up_ne _ (by decide)]
theorem mWait_27 (σ : Sg) (p c h i : Int) : mWait σ p c h 27 i = if i = σ 21 9 then h else σ 27 i := by
  unfold mWait
  rw [up_ne _ (by decide), up_at, up_ne _ (by decide), up_ne _ (by decide)]
theorem nWait_30 {σ : Sg} {k n c m j : Int} (hj : j ≠ 18) : nWait σ k n c m 30 j = σ 30 j := by
  unfold nWait
  rw [up_other _ _ hj, up_ne _ (by decide), up_ne _ (by decide), up_ne _ (by decide), up_ne _ (by decide)]
theorem nWait_18 (σ : Sg) (k n c m : Int) : nWait σ k n c m 30 18 = σ 30 18 + 1 := by unfold nWait; rw [up_same]
theorem nWait_44 (σ : Sg) (k n c m i : Int) : nWait σ k n c m 44 i = if i = σ 30 18 then k else σ 44 i := by
  unfold nWait
  rw [up_ne _ (by decide), up_ne _ (by decide), up_ne _ (by decide), up_ne _ (by decide), up_at]
theorem nWait_45 (σ : Sg) (k n c m i : Int) : nWait σ k n c m 45 i = if i = σ 30 18 then n else σ 45 i := by
  unfold nWait
  rw [up_ne _ (by decide), up_ne _ (by decide), up_ne _ (by decide), up_at, up_ne _ (by decide)]
theorem nWait_46 (σ : Sg) (k n c m i : Int) : nWait σ k n c m 46 i = if i = σ 30 18 then c else σ 46 i := by
  unfold nWait
  rw [up_ne _ (by decide), up_ne _ (by decide), up_at, up_ne _ (by decide), up_ne _ (by decide)]
theorem nWait_47 (σ : Sg) (k n c m i : Int) : nWait σ k n c m 47 i = if i = σ 30 18 then m else σ 47 i := by
  unfold nWait
  rw [up_ne _ (by decide), up_at, up_ne _ (by decide), up_ne _ (by decide), up_ne _ (by decide)]
theorem nGo_id {σ : Sg} {n c : Int} (h : σ 30 22 = c) : up σ 30 21 n = nGo σ n c := by
  unfold nGo
  funext k j
  by_cases hk : k = 30
  · subst hk
    rw [up_at (up σ 30 21 n)]
    split
    · rename_i e
      rw [e, up_other _ _ (by decide), h]
    · rfl
  · rw [up_ne (up σ 30 21 n) hk]
/-! the steps keep step -/
theorem Base.go {ρ τ : Sg} {w φ p c n : Int} (h : Base ρ τ w) (ht : Txt (ρ 21 5) (ρ 6) (τ 40) p c n) (hφ : 3 * (301 - ρ 21 13) + ρ 21 9 ≤ φ) : Rel (mGo ρ p c) (nGo τ n c) w φ := by
  refine ⟨h.cg (fun k hk => mGo_r hk) (fun j hj => mGo_21 (by rintro rfl; revert hj; decide) (by rintro rfl; revert hj; decide) (by rintro rfl; revert hj; decide)) (fun k hk => nGo_r hk) (fun j hj => nGo_30 (by rintro rfl; revert hj; decide) (by rintro rfl; revert hj; decide)), fun _ => ⟨Or.inl ?_, ?_⟩⟩
  · rw [mGo_16, mGo_15, nGo_22, mGo_21 (by decide) (by decide) (by decide), mGo_r (by decide), nGo_r (by decide), mGo_14, nGo_21]
    exact ⟨rfl, rfl, ht⟩
  · rw [mGo_16, mGo_21 (by decide) (by decide) (by decide), mGo_21 (by decide) (by decide) (by decide)]
    omega
theorem Base.give {ρ τ : Sg} {w φ v : Int} (h : Base ρ τ w) (hv : 0 ≤ v ∧ v < 8) (hφ : 3 * (301 - ρ 21 13) + ρ 21 9 + 1 ≤ φ) : Rel (mGive ρ v) (nCome τ v) w φ := by
  refine ⟨h.cg (fun k hk => mGive_r hk) (fun j hj => mGive_21 (by rintro rfl; revert hj; decide) (by rintro rfl; revert hj; decide)) (fun k hk => nCome_r hk) (fun j hj => nCome_30 (by rintro rfl; revert hj; decide) (by rintro rfl; revert hj; decide)), fun _ => ⟨Or.inr ?_, ?_⟩⟩
  · rw [mGive_16, nCome_21, mGive_17, nCome_23]
    exact ⟨rfl, rfl, rfl, hv.1, hv.2⟩
  · rw [mGive_16, mGive_21 (by decide) (by decide), mGive_21 (by decide) (by decide)]
    omega
theorem Base.stop {ρ τ : Sg} {w φ e : Int} (h : Base ρ τ w) (he : 0 ≤ e ∧ e ≤ 9) : Rel (up ρ 21 12 e) (up τ 30 20 e) w φ := by
  refine ⟨?_, fun z => ?_⟩
  · have hs : Stt (up ρ 21 12 e) (up τ 30 20 e) w := h.1.sm ((Sm.refl _ _).up (by decide) _ _) ((Sm.refl _ _).up (by decide) _ _)
    obtain ⟨a, ⟨b1, b2, b3, b4, b5⟩, ⟨c1, c2, c3, c4⟩, d, e1, f⟩ := h
    have o : ∀ j : Int, j ≠ 12 → up ρ 21 12 e 21 j = ρ 21 j := fun j hj => up_other _ _ hj _
    have o2 : ∀ j : Int, j ≠ 20 → up τ 30 20 e 30 j = τ 30 j := fun j hj => up_other _ _ hj _
    have r : ∀ k, k ≠ 21 → up ρ 21 12 e k = ρ k := fun k hk => up_ne _ hk _ _
    have r2 : ∀ k, k ≠ 30 → up τ 30 20 e k = τ k := fun k hk => up_ne _ hk _ _
    unfold Base
    rw [o 5 (by decide), o 9 (by decide), o 10 (by decide), o 13 (by decide), up_same, o2 13 (by decide), o2 18 (by decide), o2 19 (by decide), up_same, r 6 (by decide), r 7 (by decide), r 22 (by decide), r 23 (by decide), r 24 (by decide), r 25 (by decide), r 26 (by decide), r 27 (by decide), r2 40 (by decide), r2 41 (by decide), r2 42 (by decide), r2 43 (by decide), r2 44 (by decide), r2 45 (by decide), r2 46 (by decide), r2 47 (by decide)]
    exact ⟨hs, ⟨b1, b2, b3, b4, rfl⟩, ⟨c1, c2, c3, by omega⟩, d, e1, f⟩
  · rw [up_same] at z
    exfalso; omega
theorem Base.tick {ρ τ : Sg} {w : Int} (h : Base ρ τ w) (hn : ρ 21 13 < 300) : Base (up ρ 21 13 (ρ 21 13 + 1)) (up τ 30 19 (τ 30 19 + 1)) w := by
  have hs : Stt (up ρ 21 13 (ρ 21 13 + 1)) (up τ 30 19 (τ 30 19 + 1)) w := h.1.sm ((Sm.refl _ _).up (by decide) _ _) ((Sm.refl _ _).up (by decide) _ _)
  obtain ⟨a, ⟨b1, b2, b3, b4, b5⟩, ⟨c1, c2, c3, c4⟩, d, e1, f⟩ := h
  have o : ∀ j : Int, j ≠ 13 → up ρ 21 13 (ρ 21 13 + 1) 21 j = ρ 21 j := fun j hj => up_other _ _ hj _
  have o2 : ∀ j : Int, j ≠ 19 → up τ 30 19 (τ 30 19 + 1) 30 j = τ 30 j := fun j hj => up_other _ _ hj _
  have r : ∀ k, k ≠ 21 → up ρ 21 13 (ρ 21 13 + 1) k = ρ k := fun k hk => up_ne _ hk _ _
  have r2 : ∀ k, k ≠ 30 → up τ 30 19 (τ 30 19 + 1) k = τ k := fun k hk => up_ne _ hk _ _
  unfold Base
  rw [o 5 (by decide), o 9 (by decide), o 10 (by decide), o 12 (by decide), up_same, o2 13 (by decide), o2 18 (by decide), o2 20 (by decide), up_same, r 6 (by decide), r 7 (by decide), r 22 (by decide), r 23 (by decide), r 24 (by decide), r 25 (by decide), r 26 (by decide), r 27 (by decide), r2 40 (by decide), r2 41 (by decide), r2 42 (by decide), r2 43 (by decide), r2 44 (by decide), r2 45 (by decide), r2 46 (by decide), r2 47 (by decide)]
  exact ⟨hs, ⟨b1, by omega, b3, b4, b5⟩, ⟨by omega, by omega, by omega, c4⟩, d, e1, f⟩
theorem Base.pop {ρ τ : Sg} {w : Int} (h : Base ρ τ w) (hn : 1 ≤ ρ 21 9) : Base (up ρ 21 9 (ρ 21 9 - 1)) (up τ 30 18 (τ 30 18 - 1)) w := by
  have hs : Stt (up ρ 21 9 (ρ 21 9 - 1)) (up τ 30 18 (τ 30 18 - 1)) w := h.1.sm ((Sm.refl _ _).up (by decide) _ _) ((Sm.refl _ _).up (by decide) _ _)
  obtain ⟨a, ⟨b1, b2, b3, b4, b5⟩, ⟨c1, c2, c3, c4⟩, d, e1, f⟩ := h
  have o : ∀ j : Int, j ≠ 9 → up ρ 21 9 (ρ 21 9 - 1) 21 j = ρ 21 j := fun j hj => up_other _ _ hj _
  have o2 : ∀ j : Int, j ≠ 18 → up τ 30 18 (τ 30 18 - 1) 30 j = τ 30 j := fun j hj => up_other _ _ hj _
  have r : ∀ k, k ≠ 21 → up ρ 21 9 (ρ 21 9 - 1) k = ρ k := fun k hk => up_ne _ hk _ _
  have r2 : ∀ k, k ≠ 30 → up τ 30 18 (τ 30 18 - 1) k = τ k := fun k hk => up_ne _ hk _ _
  unfold Base
  rw [o 5 (by decide), o 13 (by decide), o 10 (by decide), o 12 (by decide), up_same, o2 13 (by decide), o2 19 (by decide), o2 20 (by decide), up_same, r 6 (by decide), r 7 (by decide), r 22 (by decide), r 23 (by decide), r 24 (by decide), r 25 (by decide), r 26 (by decide), r 27 (by decide), r2 40 (by decide), r2 41 (by decide), r2 42 (by decide), r2 43 (by decide), r2 44 (by decide), r2 45 (by decide), r2 46 (by decide), r2 47 (by decide)]
  exact ⟨hs, ⟨b1, b2, by omega, b4, b5⟩, ⟨c1, by omega, c3, c4⟩, d, e1, fun i i0 i1 => f i i0 (by omega)⟩
theorem Base.push {ρ τ : Sg} {w P C H K N D M : Int} (h : Base ρ τ w) (hn : ρ 21 9 < ρ 21 13) (he : EntV (ρ 21 5) (ρ 6) (ρ 7) (τ 40) w P C H K N D M) : Base (mWait ρ P C H) (nWait τ K N D M) w := by
  have hs : Stt (mWait ρ P C H) (nWait τ K N D M) w := h.1.sm (mWait_Sm (Sm.refl _ _) _ _ _) (nWait_Sm (Sm.refl _ _) _ _ _ _)
  obtain ⟨a, ⟨b1, b2, b3, b4, b5⟩, ⟨c1, c2, c3, c4⟩, d, e1, f⟩ := h
  unfold Base
  rw [mWait_21 (j := 5) (by decide), mWait_21 (j := 13) (by decide), mWait_21 (j := 10) (by decide), mWait_21 (j := 12) (by decide), mWait_9, nWait_30 (j := 13) (by decide), nWait_30 (j := 19) (by decide), nWait_30 (j := 20) (by decide), nWait_18, mWait_r (k := 6) (by decide), mWait_r (k := 7) (by decide), mWait_r (k := 22) (by decide), mWait_r (k := 23) (by decide), mWait_r (k := 24) (by decide), nWait_row (r := 40) (by decide), nWait_row (r := 41) (by decide), nWait_row (r := 42) (by decide), nWait_row (r := 43) (by decide)]
  refine ⟨hs, ⟨b1, b2, by omega, b4, b5⟩, ⟨c1, by omega, c3, c4⟩, d, e1, ?_⟩
  intro i i0 i1
  rw [mWait_25, mWait_26, mWait_27, nWait_44, nWait_45, nWait_46, nWait_47, b3]
  by_cases z : i = ρ 21 9
  · rw [if_pos z, if_pos z, if_pos z, if_pos z, if_pos z, if_pos z, if_pos z]
    exact he
  · rw [if_neg z, if_neg z, if_neg z, if_neg z, if_neg z, if_neg z, if_neg z]
    exact f i i0 (by omega)
theorem Base.set {ρ τ : Sg} {w c j v s t : Int} (h : Base ρ τ w) (hc : 0 ≤ c ∧ c < ρ 21 5) (hj : 0 ≤ j ∧ j < nA (τ 40 c)) (hv : 0 ≤ v ∧ v < 8) (es : s = c * 3 + j) (et : t = 3 * c + j) : Base (up ρ 22 s v) (up τ 41 t v) w := by
  have hs : Stt (up ρ 22 s v) (up τ 41 t v) w := h.1.sm ((Sm.refl _ _).up (by decide) _ _) ((Sm.refl _ _).up (by decide) _ _)
  obtain ⟨a, b, cc, d, e1, f⟩ := h
  have r : ∀ k, k ≠ 22 → up ρ 22 s v k = ρ k := fun k hk => up_ne _ hk _ _
  have r2 : ∀ k, k ≠ 41 → up τ 41 t v k = τ k := fun k hk => up_ne _ hk _ _
  unfold Base
  rw [r 21 (by decide), r2 30 (by decide), r 6 (by decide), r 7 (by decide), r 23 (by decide), r 24 (by decide), r 25 (by decide), r 26 (by decide), r 27 (by decide), r2 40 (by decide), r2 42 (by decide), r2 43 (by decide), r2 44 (by decide), r2 45 (by decide), r2 46 (by decide), r2 47 (by decide)]
  refine ⟨hs, b, cc, d, ?_, f⟩
  intro x y x0 x1 y0 y1
  have hn := nA_in (τ 40 x)
  have hn2 := nA_in (τ 40 c)
  obtain ⟨g1, g2, g3, g4⟩ := e1 x y x0 x1 y0 y1
  rw [up_at, up_at]
  by_cases z : x * 3 + y = s
  · rw [if_pos z, if_pos (by omega)]
    exact ⟨rfl, by omega, fun _ => hv.1, g4⟩
  · rw [if_neg z, if_neg (by omega)]
    exact ⟨g1, g2, g3, g4⟩
theorem Base.slot {ρ τ : Sg} {w φ c j : Int} (h : Base ρ τ w) (hc : 1 ≤ c ∧ c < ρ 21 5) (hj : 0 ≤ j ∧ j < nA (τ 40 c)) (hφ : 3 * (301 - ρ 21 13) + ρ 21 9 ≤ φ) : Rel (mSlot ρ (c * 3 + j)) (nGo τ (τ 42 (3 * c + j)) (τ 43 (3 * c + j))) w φ := by
  obtain ⟨g1, g2⟩ := (h.2.2.2.2.1 c j (by omega) hc.2 hj.1 hj.2).2.2.2 hc.1
  unfold mSlot
  rw [← g2]
  exact h.go g1 hφ
theorem nx_eq {ah n : Int} {P : Int → Bool} (h : ∀ j, 0 ≤ j → j < n → bt ah j = P j) : ∀ (m : Nat) (k : Int), 0 ≤ k → k + m ≤ n → nxA ah n m k = nxP P m k
  | 0, _, _, _ => rfl
  | m + 1, k, k0, k1 => by
    unfold nxA nxP
    rw [h k k0 (by omega), nx_eq h m (k + 1) (by omega) (by omega)]
theorem nxP_in (P : Int → Bool) : ∀ (m : Nat) (k : Int), k ≤ nxP P m k ∧ nxP P m k ≤ k + m
  | 0, k => by unfold nxP; omega
  | m + 1, k => by
    have ih := nxP_in P m (k + 1)
    unfold nxP
    split <;> omega
theorem Base.calling {ρ τ : Sg} {w φ P C k : Int} (h : Base ρ τ w) (hn : ρ 21 9 < ρ 21 13) (hP : ∃ f, inB ρ f P) (hk : kd (ρ 7 P) = 6) (hC : 1 ≤ C ∧ C < ρ 21 5) (hg : wo (ρ 7 P) = τ 40 C) (hk0 : 0 ≤ k ∧ k ≤ nA (τ 40 C)) (hφ : 3 * (301 - ρ 21 13) + ρ 21 9 + 1 ≤ φ) : Rel (mCalling ρ P C k) (nAh τ C k w) w φ := by
  obtain ⟨f, hf⟩ := hP
  have hst := h.1
  have h9 : ρ 9 P = τ 40 C := by rw [((hst.1 f hf.1.1 hf.1.2).2 P hf.2.1 hf.2.2).2.1]; exact hg
  have hF := h.2.2.2.1 C (by omega) hC.2
  have hx : nx (ρ 28 (τ 40 C)) (nA (τ 40 C)) k = nAt τ C k w := by
    unfold nx nAt
    exact nx_eq (fun j a b => hst.2.2.2.2.2.2.2 _ j hF.1 hF.2 a b) _ k hk0.1 (by omega)
  have hi : k ≤ nAt τ C k w ∧ nAt τ C k w ≤ nA (τ 40 C) := by
    have := nxP_in (amB τ w (τ 40 C)) (nA (τ 40 C) - k).toNat k
    unfold nAt
    omega
  unfold mCalling nAh
  rw [h9, hx]
  by_cases z : nAt τ C k w < nA (τ 40 C)
  · rw [if_pos z, if_pos z]
    have he : EntV (ρ 21 5) (ρ 6) (ρ 7) (τ 40) w P C (nAt τ C k w) 5 (nAt τ C k w) C w := ⟨by omega, Or.inr (Or.inr (Or.inr (Or.inr ⟨rfl, hk, by omega, rfl, rfl, rfl, hC.1, hg, f, hf⟩)))⟩
    have hp := h.push hn he
    have hr := hp.slot (c := C) (j := nAt τ C k w) (φ := φ) (by rw [mWait_21 (by decide)]; exact hC) (by rw [nWait_row (by decide)]; omega) (by rw [mWait_21 (by decide), mWait_9]; omega)
    rw [nWait_row (r := 42) (by decide), nWait_row (r := 43) (by decide)] at hr
    exact hr
  · rw [if_neg z, if_neg z]
    have hN := (hst.1 (τ 40 C) hF.1 hF.2).1.1
    exact h.go ⟨by omega, by omega, by omega, by omega⟩ (by omega)
theorem Base.arg {ρ τ : Sg} {w φ P C n : Int} (h : Base ρ τ w) (hn : ρ 21 9 < ρ 21 13) (eP : ρ 21 14 = P) (eC : ρ 21 15 = C) (ht : Txt (ρ 21 5) (ρ 6) (τ 40) P C n) (hk : kd (ρ 7 P) = 3) (hφ : 3 * (301 - ρ 21 13) + ρ 21 9 + 1 ≤ φ) : Rel (mArg ρ (C * 3 + wo (ρ 7 P))) (nArg τ (3 * C + wo (ρ 7 P)) w) w φ := by
  have hst := h.1
  have hF := h.2.2.2.1 C ht.1.1 ht.1.2
  obtain ⟨t1, t2, t3, t4⟩ := id ht
  have h3 := kd_3.mp hk
  have hw3 := wo_3 hk
  have hwa := ((hst.1 (τ 40 C) hF.1 hF.2).2 P (by omega) (by omega)).2.2 hk
  obtain ⟨g1, g2, g3, g4⟩ := h.2.2.2.2.1 C (wo (ρ 7 P)) t1.1 t1.2 (by omega) hwa
  unfold mArg nArg
  rw [g1, h.2.1.1]
  by_cases z : τ 41 (3 * C + wo (ρ 7 P)) = 8
  · rw [if_pos z, if_pos z]
    exact h.stop (by omega)
  rw [if_neg z, if_neg z]
  by_cases y : τ 41 (3 * C + wo (ρ 7 P)) = -1
  · have hc1 : 1 ≤ C := by
      rcases Int.lt_or_le C 1 with q | q
      · have := g3 (by omega); omega
      · exact q
    rw [if_pos y, if_neg (show ¬ 0 ≤ τ 41 (3 * C + wo (ρ 7 P)) by omega)]
    by_cases x : w = 0
    · rw [if_pos x, if_pos x]
      exact h.slot ⟨hc1, t1.2⟩ ⟨by omega, hwa⟩ (by omega)
    · rw [if_neg x, if_neg x, eP, eC]
      have he : EntV (ρ 21 5) (ρ 6) (ρ 7) (τ 40) w P C (-1) 4 0 0 (3 * C + wo (ρ 7 P)) := ⟨t1, Or.inr (Or.inr (Or.inr (Or.inl ⟨rfl, hk, rfl, rfl, rfl, n, ht⟩)))⟩
      have hp := h.push hn he
      have hr := hp.slot (c := C) (j := wo (ρ 7 P)) (φ := φ) (by rw [mWait_21 (by decide)]; omega) (by rw [nWait_row (by decide)]; omega) (by rw [mWait_21 (by decide), mWait_9]; omega)
      rw [nWait_row (r := 42) (by decide), nWait_row (r := 43) (by decide)] at hr
      exact hr
  · rw [if_neg y, if_pos (show 0 ≤ τ 41 (3 * C + wo (ρ 7 P)) by omega)]
    exact h.give (by omega) (by omega)
