/-! reading: a text without a fault, what its nodes span -/
def lvs (M : Int → Int) : Nat → List Int
  | 0 => []
  | n + 1 => List.replicate (M n).toNat (n : Int) ++ lvs M n
theorem lvs_succ (M : Int → Int) (n : Nat) : lvs M (n + 1) = List.replicate (M n).toNat (n : Int) ++ lvs M n := rfl
theorem lvs_congr {M M' : Int → Int} : ∀ n : Nat, (∀ j : Int, 0 ≤ j → j < n → M j = M' j) → lvs M n = lvs M' n
  | 0, _ => rfl
  | n + 1, h => by
    unfold lvs
    rw [h n (by omega) (by omega), lvs_congr n (fun j h0 h1 => h j h0 (by omega))]
theorem lvs_pop (M : Int → Int) : ∀ n : Nat, lvs M (popN M n + 1).toNat = lvs M n
  | 0 => rfl
  | n + 1 => by
    unfold popN
    split
    · rename_i e
      rw [lvs_pop M n]
      conv => rhs; unfold lvs
      rw [e]
      rfl
    · rw [show ((n : Int) + 1).toNat = n + 1 by omega]
def rdL (S : Int → Int) : Nat → Int → List Int → Prop
  | 0, _, P => P = []
  | k + 1, i, P => ∃ L P', P = L :: P' ∧ (0 ≤ L ∧ L ≤ 9) ∧ rdL S k (i + 1) (List.replicate (tx (S i)).toNat (L + 1) ++ P')
theorem lvs_step {M : Int → Int} {t : Int} (l : Nat) (ht : 0 ≤ t) (h9 : (l : Int) < 9 ∨ t = 0) : lvs (passM l M t) (passL l M t + 1).toNat = List.replicate t.toNat ((l : Int) + 1) ++ (List.replicate (M l - 1).toNat (l : Int) ++ lvs M l) := by
  unfold passL
  rw [lvs_pop]
  have hb : lvs (passM l M t) l = lvs M l := lvs_congr l (fun j a b => by unfold passM; rw [if_neg (by omega), if_neg (by omega)])
  have hl : passM l M t l = M l - 1 := by unfold passM; rw [if_neg (by omega), if_pos rfl]
  by_cases hc : 0 < t ∧ (l : Int) < 9
  · rw [if_pos hc, show ((l : Int) + 2).toNat = l + 1 + 1 by omega]
    have h1 : passM l M t ((l + 1 : Nat) : Int) = t := by unfold passM; rw [if_pos (by omega)]
    rw [lvs_succ, h1, lvs_succ, hb, hl]
    rfl
  · rw [if_neg hc, show ((l : Int) + 1).toNat = l + 1 by omega, show t.toNat = 0 by omega, lvs_succ, hb, hl]
    rfl
theorem ff_rdL {S : Int → Int} {n f : Int} (hn : 0 ≤ n) : ∀ (k : Nat) (i L : Int) (M : Int → Int), 0 ≤ i → (-1 ≤ L ∧ L ≤ 9) → (∀ j, 0 ≤ M j ∧ M j ≤ 3) → (0 ≤ L → 1 ≤ M L) → ffun S n f k i L M = -6 →
    rdL S k i (lvs M (L + 1).toNat) ∧ ∀ p, i ≤ p → p < i + k → kd (S p) ≠ 0 ∧ (kd (S p) = 3 → wo (S p) < nA f)
  | 0, i, L, M, hi, hL, hM, h1, h => by
    unfold ffun at h
    by_cases c : L < 0
    · rw [show (L + 1).toNat = 0 by omega]
      exact ⟨rfl, fun p a b => by exfalso; omega⟩
    · rw [if_neg c] at h; exfalso; omega
  | k + 1, i, L, M, hi, hL, hM, h1, h => by
    unfold ffun at h
    by_cases c : canSt L (S i) f = true
    · rw [if_pos c] at h
      obtain ⟨c1, c2, c3, c4⟩ := canSt_iff.mp c
      have ht := tx_in (S i)
      have hMp := passM_in hM (h1 c1) ht
      obtain ⟨r1, r2⟩ := ff_rdL hn k (i + 1) _ _ (by omega) (passL_in M (tx (S i)) ⟨c1, hL.2⟩) hMp (fun z => passL_1 hMp z) h
      refine ⟨?_, ?_⟩
      · obtain ⟨l, rfl⟩ : ∃ l : Nat, L = l := ⟨L.toNat, by omega⟩
        have h9 : (l : Int) < 9 ∨ tx (S i) = 0 := by
          by_cases k3 : kd (S i) = 3
          · exact Or.inr (tx_3 k3)
          · exact c4 k3
        rw [lvs_step l ht.1 h9] at r1
        refine ⟨(l : Int), _, ?_, ⟨c1, hL.2⟩, r1⟩
        have hm := h1 c1
        rw [show ((l : Int) + 1).toNat = l + 1 by omega, lvs_succ, show (M (l : Int)).toNat = (M (l : Int) - 1).toNat + 1 by omega, List.replicate_succ]
        rfl
      · intro p a b
        by_cases e : p = i
        · rw [e]; exact ⟨c2, c3⟩
        · exact r2 p (by omega) (by omega)
    · rw [if_neg c] at h
      exfalso
      omega
def RQ (S Z D : Int → Int) (k : Nat) (i : Int) (P : List Int) : Prop :=
  (∀ p, i ≤ p → p < i + k → (Z p = tp Z p (tx (S p)) - p ∧ p + Z p ≤ i + k ∧ 1 ≤ Z p ∧ 0 ≤ D p ∧ D p ≤ 9) ∧ (∀ j, 0 ≤ j → j < tx (S p) → p < tp Z p j ∧ tp Z p j < i + k ∧ D (tp Z p j) = D p + 1) ∧ ((∃ r j, i ≤ r ∧ r < p ∧ 0 ≤ j ∧ j < tx (S r) ∧ p = tp Z r j) ∨ ∃ m : Nat, m < P.length ∧ p = hop Z i m)) ∧
  (∀ m : Nat, m < P.length → i ≤ hop Z i m ∧ hop Z i m < i + k ∧ P[m]? = some (D (hop Z i m))) ∧ hop Z i P.length = i + k
theorem hop_succ (Z : Int → Int) (a : Int) (k : Nat) : hop Z a (k + 1) = hop Z a k + Z (hop Z a k) := rfl
theorem rdL_ex {S : Int → Int} : ∀ (k : Nat) (i : Int) (P : List Int), rdL S k i P → ∃ Z D, RQ S Z D k i P
  | 0, i, P, h => by
    have h : P = [] := h
    subst h
    exact ⟨fun _ => 0, fun _ => 0, fun p a b => by exfalso; omega, fun m hm => absurd hm (Nat.not_lt_zero _), by show i = _; omega⟩
  | k + 1, i, P, h => by
    obtain ⟨L, P', rfl, hL, h⟩ := h
    obtain ⟨Z, D, q1, q2, q3⟩ := rdL_ex k (i + 1) _ h
    have ht := tx_in (S i)
    obtain ⟨t, et⟩ : ∃ t : Nat, tx (S i) = t := ⟨(tx (S i)).toNat, by omega⟩
    rw [et, show ((t : Nat) : Int).toNat = t by omega] at q1 q2 q3
    have hQ : (List.replicate t (L + 1) ++ P').length = t + P'.length := by simp
    rw [hQ] at q1 q2 q3
    obtain ⟨Z', eZ⟩ : ∃ Z' : Int → Int, Z' = fun p => if p = i then hop Z (i + 1) t - i else Z p := ⟨_, rfl⟩
    obtain ⟨D', eD⟩ : ∃ D' : Int → Int, D' = fun p => if p = i then L else D p := ⟨_, rfl⟩
    have Zi : Z' i = hop Z (i + 1) t - i := by rw [eZ]; simp
    have Zo : ∀ p, p ≠ i → Z' p = Z p := fun p hp => by rw [eZ]; simp [hp]
    have Di : D' i = L := by rw [eD]; simp
    have Do : ∀ p, p ≠ i → D' p = D p := fun p hp => by rw [eD]; simp [hp]
    have inb : ∀ m : Nat, m ≤ t + P'.length → i + 1 ≤ hop Z (i + 1) m ∧ hop Z (i + 1) m ≤ i + 1 + k := by
      intro m hm
      by_cases e : m = t + P'.length
      · rw [e, q3]; omega
      · have := q2 m (by omega); omega
    have hA : ∀ m : Nat, m ≤ t + P'.length → hop Z' (i + 1) m = hop Z (i + 1) m := by
      intro m
      induction m with
      | zero => intro _; rfl
      | succ m ih =>
        intro hm
        have := q2 m (by omega)
        rw [hop_succ, hop_succ, ih (by omega), Zo _ (by omega)]
    have hB : ∀ m : Nat, t + m ≤ t + P'.length → hop Z' i (m + 1) = hop Z (i + 1) (t + m) := by
      intro m
      induction m with
      | zero =>
        intro _
        rw [hop_succ]
        show i + Z' i = _
        rw [Zi]
        show _ = hop Z (i + 1) t
        omega
      | succ m ih =>
        intro hm
        have := q2 (t + m) (by omega)
        rw [hop_succ, ih (by omega), Zo _ (by omega), ← Nat.add_assoc, hop_succ]
    have tpo : ∀ p, i < p → p < i + 1 + k → ∀ j, 0 ≤ j → j ≤ tx (S p) → tp Z' p j = tp Z p j := by
      intro p a b j j0 j1
      exact tp_congr' (e := i + 1 + k) (fun r x y => Zo r (by omega)) (fun j x y => ⟨((q1 p (by omega) b).2.1 j x y).1, ((q1 p (by omega) b).2.1 j x y).2.1⟩) j0 j1
    have tpi : ∀ j, 0 ≤ j → j ≤ (t : Int) → tp Z' i j = hop Z (i + 1) j.toNat := by
      intro j j0 j1
      unfold tp
      exact hA _ (by omega)
    refine ⟨Z', D', ?_, ?_, ?_⟩
    · intro p a b
      by_cases e : p = i
      · subst e
        rw [et, Zi, Di]
        have it := inb t (by omega)
        refine ⟨⟨by rw [tpi t (by omega) (by omega)]; rfl, by omega, by omega, hL.1, hL.2⟩, ?_, Or.inr ⟨0, Nat.succ_pos _, rfl⟩⟩
        intro j j0 j1
        rw [tpi j j0 (by omega)]
        obtain ⟨u1, u2, u3⟩ := q2 j.toNat (by omega)
        refine ⟨by omega, by omega, ?_⟩
        rw [Do _ (by omega)]
        rw [List.getElem?_append_left (by simp; omega), List.getElem?_replicate, if_pos (by omega)] at u3
        exact (Option.some.inj u3).symm
      · obtain ⟨⟨a1, a2, a3, a4, a5⟩, b1, c1⟩ := q1 p (by omega) (by omega)
        have htp := tx_in (S p)
        rw [Zo p e, Do p e]
        refine ⟨⟨by rw [tpo p (by omega) (by omega) _ htp.1 (Int.le_refl _)]; exact a1, by omega, a3, a4, a5⟩, ?_, ?_⟩
        · intro j j0 j1
          obtain ⟨d1, d2, d3⟩ := b1 j j0 j1
          rw [tpo p (by omega) (by omega) j j0 (by omega)]
          exact ⟨d1, by omega, by rw [Do _ (by omega)]; exact d3⟩
        · rcases c1 with ⟨r, j, f1, f2, f3, f4, f5⟩ | ⟨m, m1, m2⟩
          · exact Or.inl ⟨r, j, by omega, f2, f3, f4, by rw [tpo r (by omega) (by omega) j f3 (by omega)]; exact f5⟩
          · by_cases hm : m < t
            · exact Or.inl ⟨i, m, by omega, by omega, by omega, by omega, by rw [tpi m (by omega) (by omega)]; exact m2⟩
            · refine Or.inr ⟨m - t + 1, by simp; omega, ?_⟩
              rw [hB (m - t) (by omega), show t + (m - t) = m by omega]
              exact m2
    · intro m hm
      cases m with
      | zero => exact ⟨Int.le_refl _, by show i < _; omega, by show some L = some (D' i); rw [Di]⟩
      | succ m =>
        have hm2 : m < P'.length := by simp at hm; omega
        obtain ⟨u1, u2, u3⟩ := q2 (t + m) (by omega)
        rw [hB m (by omega)]
        refine ⟨by omega, by omega, ?_⟩
        rw [Do _ (by omega), ← u3, List.getElem?_append_right (by simp), List.getElem?_cons_succ]
        simp
    · rw [List.length_cons, hB _ (by omega), q3]
      omega
theorem ff_Wf {S : Int → Int} {n f : Int} {M : Int → Int} (hn : 0 ≤ n ∧ n ≤ 30) (hM : ∀ j, 0 ≤ M j ∧ M j ≤ 3) (h1 : M 0 = 1) (h : ffun S n f n.toNat 0 0 M = -6) : ∃ Z D, Wf S Z D 0 n ∧ sgOk S n f := by
  obtain ⟨r1, r2⟩ := ff_rdL hn.1 n.toNat 0 0 M (Int.le_refl _) (by omega) hM (by omega) h
  have e : lvs M (0 + 1 : Int).toNat = [0] := by
    show List.replicate (M 0).toNat (0 : Int) ++ [] = [0]
    rw [h1]; rfl
  rw [e] at r1
  obtain ⟨Z, D, q1, q2, q3⟩ := rdL_ex _ _ _ r1
  have hz : Z 0 = n := by
    have : hop Z 0 1 = 0 + (n.toNat : Int) := q3
    have h2 : hop Z 0 1 = 0 + Z 0 := rfl
    omega
  have hd : D 0 = 0 := by
    have := (q2 0 (by decide)).2.2
    exact (Option.some.inj this).symm
  have hn1 : 1 ≤ n := by
    rcases Int.lt_or_le n 1 with c | c
    · rw [show n.toNat = 0 by omega] at r1
      exact absurd r1 (by intro z; cases z)
    · exact c
  refine ⟨Z, D, ⟨hn1, hn.2, hz, hd, ?_⟩, fun i a b => r2 i a (by omega)⟩
  intro p a b
  obtain ⟨⟨a1, a2, a3, a4, a5⟩, b1, c1⟩ := q1 p a (by omega)
  refine ⟨⟨a1, by omega, a3, a4, a5⟩, fun j x y => ?_, fun hp => ?_⟩
  · obtain ⟨d1, d2, d3⟩ := b1 j x y
    exact ⟨d1, by omega, d3⟩
  · rcases c1 with c1 | ⟨m, m1, m2⟩
    · exact c1
    · have hm0 : m = 0 := by simp at m1; exact m1
      rw [hm0] at m2
      have h2 : hop Z 0 0 = 0 := rfl
      omega
theorem ffun_in (S : Int → Int) {n f : Int} (hn : 0 ≤ n) : ∀ (k : Nat) (i L : Int) (M : Int → Int), 0 ≤ i → i + k ≤ n → -6 ≤ ffun S n f k i L M ∧ ffun S n f k i L M ≤ n
  | 0, i, L, M, hi, h => by unfold ffun; split <;> omega
  | k + 1, i, L, M, hi, h => by
    have ih := ffun_in S (f := f) hn k (i + 1) (passL L M (tx (S i))) (passM L M (tx (S i))) (by omega) (by omega)
    unfold ffun
    split
    · exact ih
    · omega
theorem passL_lt {L : Int} (M : Int → Int) {t : Int} (h : 0 ≤ L) : passL L M t < (if 0 < t ∧ L < 9 then L + 2 else L + 1) := by
  unfold passL
  have h2 := popN_in (passM L M t) (if 0 < t ∧ L < 9 then (L + 2).toNat else (L + 1).toNat)
  split at h2 <;> rename_i hc
  · rw [if_pos hc, if_pos hc]; omega
  · rw [if_neg hc, if_neg hc]; omega
theorem pass_congr {L : Int} {M M' : Int → Int} (t : Int) (h : 0 ≤ L) (hM : ∀ j, 0 ≤ j → j ≤ L → M j = M' j) : passL L M t = passL L M' t ∧ ∀ j, 0 ≤ j → j ≤ passL L M t → passM L M t j = passM L M' t j := by
  have hin : ∀ j, 0 ≤ j → j < (if 0 < t ∧ L < 9 then L + 2 else L + 1) → passM L M t j = passM L M' t j := by
    intro j a b
    unfold passM
    by_cases c : 0 < t ∧ L < 9 ∧ j = L + 1
    · rw [if_pos c, if_pos c]
    · rw [if_neg c, if_neg c]
      have hj : j ≤ L := by
        by_cases d : 0 < t ∧ L < 9
        · rw [if_pos d] at b; omega
        · rw [if_neg d] at b; omega
      rw [hM j a hj]
  have h9 := passL_lt M (t := t) h
  refine ⟨?_, fun j a b => hin j a (by omega)⟩
  unfold passL
  apply popN_congr
  intro j a b
  apply hin j a
  by_cases d : 0 < t ∧ L < 9
  · rw [if_pos d] at b ⊢; omega
  · rw [if_neg d] at b ⊢; omega
theorem ffun_congr {S S' : Int → Int} {n f : Int} : ∀ (k : Nat) (i L : Int) (M M' : Int → Int), (∀ p, i ≤ p → p < i + k → S p = S' p) → (∀ j, 0 ≤ j → j ≤ L → M j = M' j) → ffun S n f k i L M = ffun S' n f k i L M'
  | 0, i, L, M, M', _, _ => rfl
  | k + 1, i, L, M, M', hS, hM => by
    unfold ffun
    rw [← hS i (by omega) (by omega)]
    by_cases c : canSt L (S i) f = true
    · have h0 := (canSt_iff.mp c).1
      obtain ⟨p1, p2⟩ := pass_congr (M := M) (M' := M') (tx (S i)) h0 hM
      rw [if_pos c, if_pos c, ← p1]
      exact ffun_congr k (i + 1) _ _ _ (fun p a b => hS p (by omega) (by omega)) p2
    · rw [if_neg c, if_neg c]
theorem ffP_Wf {σ : Sg} {f : Int} (hn : 0 ≤ σ 1 1 ∧ σ 1 1 ≤ 30) (hB : ∀ j, 0 ≤ σ 4 j ∧ σ 4 j ≤ 3) (h : ffP σ f = -6) : ∃ Z D, Wf (σ 2) Z D 0 (σ 1 1) ∧ sgOk (σ 2) (σ 1 1) f :=
  ff_Wf hn (fun j => by have := hB j; split <;> omega) (by simp) h
theorem ffP_rg {σ : Sg} {f : Int} (hn : 0 ≤ σ 1 1 ∧ σ 1 1 ≤ 30) : rg (ffP σ f) := by
  have h := ffun_in (σ 2) (f := f) hn.1 (σ 1 1).toNat 0 0 (fun j => if j = 0 then 1 else σ 4 j) (Int.le_refl _) (by omega)
  unfold ffP
  exact ⟨by omega, by omega⟩
/-! the reference's reading against the reader's -/
def ffM (σ : Sg) (f : Int) : Int := ffun (fun i => σ 31 (120 + i)) (σ 34 4) f (σ 34 4).toNat 0 0 (fun j => if j = 0 then 1 else 0)
theorem ffM_ffP {σ : Sg} {f : Int} (hn : σ 34 4 = σ 1 1) (hS : ∀ i, 0 ≤ i → i < σ 1 1 → σ 31 (120 + i) = σ 2 i) : ffM σ f = ffP σ f := by
  unfold ffM ffP
  rw [hn]
  exact ffun_congr _ 0 0 _ _ (fun p a b => hS p a (by omega)) (fun j a b => by rw [show j = 0 by omega]; rfl)
theorem ffM_rg {σ : Sg} {f : Int} (hn : 0 ≤ σ 34 4 ∧ σ 34 4 ≤ 30) : rg (ffM σ f) := by
  have h := ffun_in (fun i => σ 31 (120 + i)) (f := f) hn.1 (σ 34 4).toNat 0 0 (fun j => if j = 0 then 1 else 0) (Int.le_refl _) (by omega)
  unfold ffM
  exact ⟨by omega, by omega⟩
def FRel (d o L : Int) (M D : Int → Int) : Prop := (d = 0 ∧ L = o ∧ 0 ≤ o ∧ o ≤ 9 ∧ (o = 0 → M 0 = 1) ∧ (1 ≤ o → M 0 = 0 ∧ D o = M o) ∧ ∀ j, 1 ≤ j → j < o → D j = M j + 1) ∨ (d = 1 ∧ L = -1 ∧ o = 0)
theorem FRel.d {d o L : Int} {M D : Int → Int} (h : FRel d o L M D) : (d = 0 ∧ L = o ∧ 0 ≤ o ∧ o ≤ 9) ∨ (d = 1 ∧ L = -1 ∧ o = 0) := by
  rcases h with h | h
  · exact Or.inl ⟨h.1, h.2.1, h.2.2.1, h.2.2.2.1⟩
  · exact Or.inr h
def M2 (L : Int) (M : Int → Int) (t : Int) : Int → Int := fun j => if j = L + 1 then t else if j = L then M j - 1 else M j
def FIn (o L : Int) (M : Int → Int) (t : Int) (D : Int → Int) : Prop := (0 ≤ o ∧ o ≤ L + 1) ∧ (∀ j, 1 ≤ j → j < o → D j = M2 L M t j + 1) ∧ (1 ≤ o → D o = M2 L M t o) ∧ popN (M2 L M t) (o + 1).toNat = passL L M t
theorem FIn.init {L : Int} {M D D' : Int → Int} {t : Int} (hL : 0 ≤ L ∧ L ≤ 9) (ht : 0 ≤ t) (h9 : 0 < t → L < 9) (h : FRel 0 L L M D) (hD : ∀ j, j ≠ L + 1 → D' j = D j) (hD1 : D' (L + 1) = t) : FIn (L + 1) L M t D' := by
  have h1 : (1 ≤ L → M 0 = 0 ∧ D L = M L) ∧ ∀ j, 1 ≤ j → j < L → D j = M j + 1 := by
    rcases h with h | h
    · exact ⟨h.2.2.2.2.2.1, h.2.2.2.2.2.2⟩
    · exfalso; omega
  refine ⟨by omega, ?_, ?_, ?_⟩
  · intro j a b
    rw [hD j (by omega)]
    unfold M2
    rw [if_neg (by omega)]
    by_cases e : j = L
    · rw [if_pos e, e, (h1.1 (by omega)).2]; omega
    · rw [if_neg e]; exact h1.2 j a (by omega)
  · intro _
    rw [hD1]; unfold M2; rw [if_pos rfl]
  · unfold passL
    by_cases c : 0 < t ∧ L < 9
    · rw [if_pos c, show (L + 1 + 1).toNat = (L + 2).toNat by omega]
      apply popN_congr
      intro j a b
      unfold M2 passM
      by_cases e : j = L + 1
      · rw [if_pos e, if_pos (show 0 < t ∧ L < 9 ∧ j = L + 1 by omega)]
      · rw [if_neg e, if_neg (show ¬ (0 < t ∧ L < 9 ∧ j = L + 1) by omega)]
    · rw [if_neg c, show (L + 1 + 1).toNat = (L + 1).toNat + 1 by omega, popN, if_pos (by rw [show (((L + 1).toNat : Nat) : Int) = L + 1 by omega]; unfold M2; rw [if_pos rfl]; omega)]
      apply popN_congr
      intro j a b
      unfold M2 passM
      rw [if_neg (show ¬ j = L + 1 by omega), if_neg (show ¬ (0 < t ∧ L < 9 ∧ j = L + 1) by omega)]
theorem FIn.step {o L : Int} {M D D' : Int → Int} {t : Int} (h : FIn o L M t D) (ho : 1 ≤ o) (h0 : D o = 0) (hD : ∀ j, j ≠ o - 1 → D' j = D j) (hD1 : D' (o - 1) = D (o - 1) - 1) : FIn (o - 1) L M t D' := by
  obtain ⟨a, b, c, d⟩ := h
  refine ⟨by omega, fun j x y => by rw [hD j (by omega)]; exact b j x (by omega), fun x => by rw [hD1, b (o - 1) x (by omega)]; omega, ?_⟩
  rw [← d, show (o + 1).toNat = (o - 1 + 1).toNat + 1 by omega]
  conv => rhs; unfold popN
  rw [if_pos (by rw [show (((o - 1 + 1).toNat : Nat) : Int) = o by omega, ← c ho]; exact h0)]
theorem FIn.fin {o L : Int} {M D : Int → Int} {t d' : Int} (hL : 0 ≤ L ∧ L ≤ 9) (ht : 0 ≤ t) (h9 : 0 < t → L < 9) (hM : (L = 0 → M 0 = 1) ∧ (1 ≤ L → M 0 = 0)) (h : FIn o L M t D) (hx : o = 0 ∨ D o ≠ 0) (hd : d' = if o = 0 then 1 else 0) : FRel d' o (passL L M t) (passM L M t) D := by
  obtain ⟨a, b, c, d⟩ := h
  have hin := passL_in M t hL
  by_cases e : o = 0
  · rw [if_pos e] at hd
    refine Or.inr ⟨hd, ?_, e⟩
    rw [← d, e]
    show popN _ 1 = -1
    have h0 : M2 L M t ((0 : Nat) : Int) = 0 := by
      unfold M2
      rw [if_neg (by omega)]
      by_cases e0 : L = 0
      · rw [if_pos (by omega)]; have := hM.1 e0; show M 0 - 1 = 0; omega
      · rw [if_neg (by omega)]; exact hM.2 (by omega)
    unfold popN
    rw [if_pos h0]
    rfl
  · rw [if_neg e] at hd
    have hne : M2 L M t o ≠ 0 := by rw [← c (by omega)]; omega
    have hp : passL L M t = o := by
      rw [← d, show (o + 1).toNat = o.toNat + 1 by omega, popN, if_neg (by rw [show ((o.toNat : Nat) : Int) = o by omega]; exact hne)]
      omega
    have hoL : ¬ (0 < t ∧ L < 9) → o ≤ L := by
      intro cc
      rcases Int.lt_or_le L o with z | z
      · exfalso
        apply hne
        unfold M2
        rw [if_pos (by omega)]
        omega
      · exact z
    have hpm : ∀ j, j ≤ o → passM L M t j = M2 L M t j := by
      intro j hj
      unfold passM M2
      by_cases cc : 0 < t ∧ L < 9
      · by_cases e2 : j = L + 1
        · rw [if_pos (show 0 < t ∧ L < 9 ∧ j = L + 1 by omega), if_pos e2]
        · rw [if_neg (show ¬ (0 < t ∧ L < 9 ∧ j = L + 1) by omega), if_neg e2]
      · have := hoL cc
        rw [if_neg (show ¬ (0 < t ∧ L < 9 ∧ j = L + 1) by omega), if_neg (show ¬ j = L + 1 by omega)]
    refine Or.inl ⟨hd, hp, by omega, by omega, fun z => absurd z e, fun _ => ⟨?_, by rw [hpm o (Int.le_refl _)]; exact c (by omega)⟩, fun j x y => by rw [hpm j (by omega)]; exact b j x y⟩
    rw [hpm 0 (by omega)]
    unfold M2
    rw [if_neg (by omega)]
    by_cases e0 : L = 0
    · rw [if_pos e0.symm]; have := hM.1 e0; omega
    · rw [if_neg (fun z => e0 z.symm)]; exact hM.2 (by omega)
theorem pts_neg {c f L : Int} (h : pts c f < 0) : ¬ canSt L c f = true := by
  intro z
  obtain ⟨a, b, d, e⟩ := canSt_iff.mp z
  unfold pts at h
  have ht := tx_in c
  rw [if_neg (fun y => y.elim b (fun y => y.2 (d y.1)))] at h
  omega
theorem pts_pos {c f : Int} (h : ¬ pts c f < 0) : pts c f = tx c ∧ kd c ≠ 0 ∧ (kd c = 3 → wo c < nA f) := by
  unfold pts at h ⊢
  by_cases z : kd c = 0 ∨ (kd c = 3 ∧ ¬ wo c < nA f)
  · rw [if_pos z] at h; omega
  · rw [if_neg z]
    exact ⟨rfl, fun y => z (Or.inl y), fun y => Decidable.byContradiction (fun w => z (Or.inr ⟨y, w⟩))⟩
theorem pts_can {c f L : Int} (h : ¬ pts c f < 0) (hL : 0 ≤ L) (h9 : pts c f ≤ 0 ∨ L < 9) : canSt L c f = true := by
  obtain ⟨a, b, d⟩ := pts_pos h
  have ht := tx_in c
  exact canSt_iff.mpr ⟨hL, b, d, fun _ => by omega⟩
theorem pts_full {c f L : Int} (h : ¬ pts c f < 0) (h0 : ¬ pts c f ≤ 0) (hL : ¬ L < 9) : ¬ canSt L c f = true := by
  intro z
  obtain ⟨a, b, d⟩ := pts_pos h
  obtain ⟨_, _, _, e⟩ := canSt_iff.mp z
  by_cases k3 : kd c = 3
  · have := tx_3 k3; omega
  · have := e k3; omega
