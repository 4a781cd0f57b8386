/-! the world: cells by number, their shapes; the ints that they hold are one table of numbers -/
/-- a cell's shape: an int array of a length, or an object of a class with its fields: none: an int; some k: the cell k; some none: null -/
abbrev Shp : Type := Nat ⊕ (Nat × List (Option (Option Nat)))
def fVal (q : Nat → Nat) (s : Int → Int) (i : Nat) : Option (Option Nat) → Value
  | none => .int (iI (s i))
  | some (some k) => .ref (q k)
  | some none => .null
def flds (q : Nat → Nat) (s : Int → Int) : Nat → List (Option (Option Nat)) → List Value
  | _, [] => []
  | i, f :: fs => fVal q s i f :: flds q s (i + 1) fs
def cellOf (cI : ClassId) (q : Nat → Nat) (s : Int → Int) : Shp → va_E
  | .inl n => .inl (cI, n, .inl (fun j => iI (s (j : Int))))
  | .inr o => .inr (o.1, flds q s 0 o.2)
def wdF (cI : ClassId) (q : Nat → Nat) (σ : Sg) : Nat → List Shp → va_W
  | _, [] => []
  | k, s :: ss => (q k, cellOf cI q (σ k) s) :: wdF cI q σ (k + 1) ss
def wd (cI : ClassId) (q : Nat → Nat) (sh : List Shp) (σ : Sg) : va_W := wdF cI q σ 0 sh
theorem wdF_get (cI : ClassId) (q : Nat → Nat) (σ : Sg) : ∀ (sh : List Shp) (b k : Nat), (wdF cI q σ b sh)[k]? = (sh[k]?).map (fun s => (q (b + k), cellOf cI q (σ (b + k)) s))
  | [], b, k => by simp [wdF]
  | s :: ss, b, 0 => by simp [wdF]
  | s :: ss, b, k + 1 => by
    have h := wdF_get cI q σ ss (b + 1) k
    simp only [wdF, List.getElem?_cons_succ]
    rw [h, show b + 1 + k = b + (k + 1) by omega]
theorem wd_get (cI : ClassId) (q : Nat → Nat) (sh : List Shp) (σ : Sg) (k : Nat) : (wd cI q sh σ)[k]? = (sh[k]?).map (fun s => (q k, cellOf cI q (σ k) s)) := by
  have h := wdF_get cI q σ sh 0 k
  rw [Nat.zero_add] at h
  exact h
theorem wd_at {cI : ClassId} {q : Nat → Nat} {sh : List Shp} {σ : Sg} {k : Nat} {s : Shp} (h : sh[k]? = some s) : (wd cI q sh σ)[k]? = some (q k, cellOf cI q (σ k) s) := by
  rw [wd_get, h]; rfl
theorem wd_len (cI : ClassId) (q : Nat → Nat) (sh : List Shp) (σ : Sg) : (wd cI q sh σ).length = sh.length := by
  have key : ∀ (sh : List Shp) (b : Nat), (wdF cI q σ b sh).length = sh.length := by
    intro sh
    induction sh with
    | nil => intro b; rfl
    | cons s ss ih => intro b; simp [wdF, ih]
  exact key sh 0
/-- a number changes -/
theorem wd_set {cI : ClassId} {q : Nat → Nat} {sh : List Shp} {σ : Sg} {k : Nat} {s : Shp} (h : sh[k]? = some s) (i v : Int) : (wd cI q sh σ).set k (q k, cellOf cI q (up σ k i v k) s) = wd cI q sh (up σ k i v) := by
  have hk := (List.getElem?_eq_some_iff.mp h).1
  apply List.ext_getElem?
  intro j
  by_cases hj : j = k
  · subst hj
    rw [List.getElem?_set_self (by rw [wd_len]; exact hk), wd_at h]
  · rw [List.getElem?_set_ne (Ne.symm hj), wd_get, wd_get, up_ne σ hj]
/-- a cell comes -/
theorem wd_push (cI : ClassId) (q : Nat → Nat) (sh : List Shp) (σ : Sg) (s : Shp) : wd cI q (sh ++ [s]) σ = wd cI q sh σ ++ [(q sh.length, cellOf cI q (σ sh.length) s)] := by
  apply List.ext_getElem?
  intro j
  rw [wd_get]
  rcases Nat.lt_trichotomy j sh.length with h | h | h
  · rw [List.getElem?_append_left h, List.getElem?_append_left (by rw [wd_len]; exact h), wd_get]
  · subst h
    rw [List.getElem?_append_right (Nat.le_refl _), List.getElem?_append_right (by rw [wd_len]; exact Nat.le_refl _), wd_len, Nat.sub_self]
    rfl
  · rw [List.getElem?_append_right (Nat.le_of_lt h), List.getElem?_append_right (by rw [wd_len]; exact Nat.le_of_lt h), wd_len]
    have : j - sh.length = (j - sh.length - 1) + 1 := by omega
    rw [this]
    rfl
theorem flds_get (q : Nat → Nat) (s : Int → Int) : ∀ (fs : List (Option (Option Nat))) (b i : Nat), (flds q s b fs)[i]? = (fs[i]?).map (fVal q s (b + i))
  | [], b, i => by simp [flds]
  | f :: fs, b, 0 => by simp [flds]
  | f :: fs, b, i + 1 => by
    have h := flds_get q s fs (b + 1) i
    simp only [flds, List.getElem?_cons_succ]
    rw [h, show b + 1 + i = b + (i + 1) by omega]
theorem flds_len (q : Nat → Nat) (s : Int → Int) : ∀ (fs : List (Option (Option Nat))) (b : Nat), (flds q s b fs).length = fs.length
  | [], _ => rfl
  | _ :: fs, b => by simp [flds, flds_len q s fs]
theorem flds_at {q : Nat → Nat} {s : Int → Int} {fs : List (Option (Option Nat))} {i : Nat} {f : Option (Option Nat)} (h : fs[i]? = some f) : (flds q s 0 fs)[i]? = some (fVal q s i f) := by
  rw [flds_get, h, Nat.zero_add]; rfl
/-- an int field changes -/
theorem flds_set {q : Nat → Nat} {σ : Sg} {k : Nat} {fs : List (Option (Option Nat))} {i : Nat} (h : fs[i]? = some none) (v : Int) : (flds q (σ k) 0 fs).set i (.int (iI v)) = flds q (up σ k (i : Int) v k) 0 fs := by
  have hi := (List.getElem?_eq_some_iff.mp h).1
  apply List.ext_getElem?
  intro j
  by_cases hj : j = i
  · subst hj
    rw [List.getElem?_set_self (by rw [flds_len]; exact hi), flds_at h]
    simp [fVal, up_same]
  · rw [List.getElem?_set_ne (Ne.symm hj), flds_get, flds_get, Nat.zero_add]
    cases fs[j]? with
    | none => rfl
    | some f =>
      cases f with
      | none =>
        have h2 : ((j : Nat) : Int) ≠ (i : Int) := by omega
        simp [fVal, up_other σ k h2]
      | some g => cases g <;> rfl
/-- a reference field is put -/
theorem flds_setR {q : Nat → Nat} {s : Int → Int} {fs : List (Option (Option Nat))} {i : Nat} (hi : i < fs.length) (c : Nat) : (flds q s 0 fs).set i (.ref (q c)) = flds q s 0 (fs.set i (some (some c))) := by
  apply List.ext_getElem?
  intro j
  by_cases hj : j = i
  · subst hj
    rw [List.getElem?_set_self (by rw [flds_len]; exact hi), flds_get, List.getElem?_set_self hi]
    rfl
  · rw [List.getElem?_set_ne (Ne.symm hj), flds_get, flds_get, List.getElem?_set_ne (Ne.symm hj)]
theorem wd_setS {cI : ClassId} {q : Nat → Nat} {sh : List Shp} {σ : Sg} {k : Nat} (hk : k < sh.length) (s' : Shp) : (wd cI q sh σ).set k (q k, cellOf cI q (σ k) s') = wd cI q (sh.set k s') σ := by
  apply List.ext_getElem?
  intro j
  by_cases hj : j = k
  · subst hj
    rw [List.getElem?_set_self (by rw [wd_len]; exact hk), wd_get, List.getElem?_set_self hk]
    rfl
  · rw [List.getElem?_set_ne (Ne.symm hj), wd_get, wd_get, List.getElem?_set_ne (Ne.symm hj)]
/-- the addresses: apart, and in A -/
def AD (A : Nat → Prop) (q : Nat → Nat) (n : Nat) : Prop := (∀ i j : Nat, i < n → j < n → q i = q j → i = j) ∧ ∀ i : Nat, i < n → A (q i)
theorem AD.D {A : Nat → Prop} {q : Nat → Nat} {sh : List Shp} (h : AD A q sh.length) (cI : ClassId) (σ : Sg) : va_D A (wd cI q sh σ) := by
  have key : ∀ (k : Nat) (p : Nat × va_E), (wd cI q sh σ)[k]? = some p → k < sh.length ∧ p.1 = q k := by
    intro k p hp
    rw [wd_get] at hp
    cases hs : sh[k]? with
    | none => rw [hs] at hp; cases hp
    | some s =>
      rw [hs] at hp
      cases hp
      exact ⟨(List.getElem?_eq_some_iff.mp hs).1, rfl⟩
  refine ⟨fun i j p p' hi hj e => ?_, fun k p hk => ?_⟩
  · obtain ⟨a, b⟩ := key i p hi
    obtain ⟨a', b'⟩ := key j p' hj
    exact h.1 i j a a' (by rw [← b, ← b', e])
  · obtain ⟨a, b⟩ := key k p hk
    rw [b]
    exact h.2 k a
