/-! the walk: one judgement over the world, a row an instruction -/
theorem goodW : ∀ w ∈ lw_tbl.filter goodWord, goodWord w = true := fun w h => (List.mem_filter.mp h).2
def lw_g : List Cond := lw_tbl.filter goodWord
theorem mg {w : Cond} (i : Nat) (h : lw_tbl[i]? = some w) (hg : goodWord w = true) : w ∈ lw_g := List.mem_filter.mpr ⟨List.mem_of_getElem? h, hg⟩
def tw (y : MethodName) (cc : ByteArray) (n : Nat) (ret : Option FieldType) : List Cond := Cond.code y cc n ret :: lw_g
theorem tw_good {y : MethodName} {cc : ByteArray} {n : Nat} {ret : Option FieldType} (h : Cond.code y cc n ret ∈ lw_g) : GoodIn lw_g (tw y cc n ret) := by
  intro w hw
  have h1 : w ∈ lw_g := by
    rcases List.mem_cons.mp hw with e | e
    · rw [e]; exact h
    · exact e
  exact ⟨h1, good_of_word (goodW w h1)⟩
def nws : List Cond := [.methodLinkNest RX8 11 yX4_init "NeedTables", .methodLinkNest RX8 18 yX5_init "NeedTables", .methodLinkNest RX0 42 yX8_isFunction "NeedTables", .methodLinkNest RX0 55 yX8_isPlace "NeedTables", .methodLinkNest RX6 16 yX8_argumentsOf "NeedTables", .methodLinkNest RX7 86 yX8_isPlace "NeedTables", .methodLinkNest RX7 76 yX8_argumentsOf "NeedTables", .methodLinkNest RX7 93 yX8_isFunction "NeedTables", .methodLinkNest RX7 96 yX8_allArguments "NeedTables", .methodLinkNest RX1 87 yX8_isPlace "NeedTables", .methodLinkNest RX1 78 yX8_argumentsOf "NeedTables", .methodLinkNest RX1 91 yX8_isFunction "NeedTables", .methodLinkNest RX5 48 yX8_hasArgument "NeedTables", .methodLinkNest RX3 25 yX8_isFunction "NeedTables", .fieldLinkNest RX3 32 "NeedTables" "TOLD_ROWS" "[I" "NeedTables", .methodLinkNest RX2 83 yX8_allArguments "NeedTables", .methodLinkNest RX2 91 yX8_argumentsOf "NeedTables", .methodLinkNest RX2 104 yX8_isFunction "NeedTables"]
theorem nws_tbl : ∀ w ∈ nws, w ∈ lw_tbl := by decide +kernel
theorem nws_on : ∀ w ∈ nws, w.onTables = true := by decide +kernel
def nestW : Cond → Bool
  | .methodLinkNest _ _ _ _ => true
  | .fieldLinkNest _ _ _ _ _ _ => true
  | _ => false
theorem nws_nest : ∀ w ∈ nws, nestW w = true := by decide +kernel
theorem nws_warm {s U : State} (hW : s.WarmedH U.vm) (h : ∀ w ∈ nws, va_Nw w s) : ∀ w ∈ nws, va_Nw w U := by
  intro w hw
  have h1 := h w hw
  have h2 := nws_nest w hw
  cases w <;> first | exact va_Nw.warmM hW h1 | exact va_Nw.warmF hW h1 | (exact absurd h2 (by simp [nestW]))
theorem nws_same {s U : State} (hW : s.vm = U.vm) (h : ∀ w ∈ nws, va_Nw w s) : ∀ w ∈ nws, va_Nw w U := fun w hw => va_Nw.same (nws_on w hw) hW (h w hw)
/-- the static rows -/
def stN (i : Nat) : String × String := match i with
  | 0 => ("NeedTables", "ARGUMENTS_OF")
  | 1 => ("NeedTables", "TOLD_ROWS")
  | 2 => ("NeedTables", "NUMBER_ROWS")
  | 3 => ("NeedTables$Tables", "SETS_WITH")
  | _ => ("NeedTables$Outcomes", "FIRST")
def stLen (i : Nat) : Nat := match i with
  | 3 => 3
  | _ => 4
def stT (i : Nat) : List Int := match i with
  | 0 => [1, 2, 3, 2]
  | 1 => [9, 81, 729, 81]
  | 2 => [8, 64, 512, 64]
  | 3 => [170, 204, 240]
  | _ => [0, 36, 360, 3276]
def stV (i : Nat) (j : Int) : Int := (stT i).getD j.toNat 0
abbrev Cx : Type := Program × Launch × Env × Room × State × MethodId × Array Value × List Frame × Method × Code
/-- what the classes are, the class of int rows, the cells that may change, where the static rows lie -/
abbrev Ev : Type := va_G × ClassId × (Nat → Prop) × (Nat → Nat)
def KK (E : Ev) (U : State) (H : Heap) : Prop := va_K E.1 vwCl [(E.2.1, .int)] U ∧ (∀ w ∈ nws, va_Nw w U) ∧ ∀ i : Nat, i < 5 → va_Z (stN i).1 (stN i).2 "[I" (.ref (E.2.2.2 i)) E.2.2.1 U H ∧ va_T .int (E.2.2.2 i) (stLen i) (fun j => .int (iI (stV i j))) E.2.2.1 U H
theorem KK.call {E : Ev} {U : State} {g : JFrame} {mk : MethodId} {a : Array Value} (h : KK E U U.heap) : KK E (U.calling g mk a) (U.calling g mk a).heap :=
  ⟨va_K.moved (u := U) (U := U.calling g mk a) (Vm.Alike.refl U.vm) h.1, nws_same (s := U) (U := U.calling g mk a) rfl h.2.1, fun i hi => ⟨va_Z.moved (u := U) (U := U.calling g mk a) (Vm.Alike.refl U.vm) (h.2.2 i hi).1, va_T.moved (u := U) (U := U.calling g mk a) (Vm.Alike.refl U.vm) (h.2.2 i hi).2⟩⟩
theorem KK.move {E : Ev} {s U : State} {H : Heap} {locs : List Loc} (hS : va_S E.2.2.1 s.heap H locs) (hU : U.heap = H) (hW : s.WarmedH U.vm) (h : KK E s s.heap) : KK E U U.heap := by
  rw [hU]
  exact ⟨va_K.moved hW.alike h.1, nws_warm hW h.2.1, fun i hi => ⟨va_Z.moved hW.alike (va_Z.kept (h.2.2 i hi).1 hS.2.1), va_T.moved hW.alike (va_T.kept (h.2.2 i hi).2 hS.2.1)⟩⟩
def Fx (X : Cx) (E : Ev) (l : Launch) (cc : ByteArray) (nL : Nat) (own : String) (rm : Room) : Prop :=
  X.1.tables.exec = Jvm.exec ∧ X.2.2.2.2.2.2.2.2.2.code = cc ∧ X.2.2.2.2.2.2.2.2.2.maxLocals = nL ∧ X.2.2.2.2.1.vm.findClass own = some X.2.2.2.2.2.1.cls ∧ (∀ w ∈ lw_g, w.before X.2.2.2.2.2.2.1 X.2.2.2.2.1 = true) ∧ KK E X.2.2.2.2.1 X.2.2.2.2.1.heap ∧ X.2.1 = l ∧ X.2.2.2.1 = rm ∧ ∀ a : Nat, X.2.2.2.2.1.heap.size ≤ a → E.2.2.1 a
def G (X : Cx) (E : Ev) (nL : Nat) (q : Nat → Nat) (sh : List Shp) (σ : Sg) (ck cs : Nat) (Q : State → Prop) (pc : Nat) (lv : List (Nat × Value)) (st : List Value) : Prop :=
  AD E.2.2.1 q sh.length → ∀ (H : Heap) (locs : List Loc) (ls : Array Slot), va_P E.1 vwCl (wd E.2.1 q sh σ) H → va_S E.2.2.1 X.2.2.2.2.1.heap H locs → lv_has ls nL lv →
    W X.1 X.2.1 X.2.2.1 X.2.2.2.1 X.2.2.2.2.1 X.2.2.2.2.2.1 X.2.2.2.2.2.2.1 X.2.2.2.2.2.2.2.1 X.2.2.2.2.2.2.2.2.1 X.2.2.2.2.2.2.2.2.2 H locs ck cs Q (F0 X.2.2.2.2.2.1 pc ls st)
abbrev vI (z : Int) : Value := .int (iI z)
abbrev vL (z : Int) : Value := .long (iL z)
def At (cc : ByteArray) (pc : Nat) (i : Instr) (n pc' : Nat) : Prop := decode cc pc = .ok (i, n) ∧ pc + n = pc'
def Br (cc : ByteArray) (pc : Nat) (i : Instr) (off : Int) (pc' tgt : Nat) : Prop := decode cc pc = .ok (i, 3) ∧ pc + 3 = pc' ∧ (pc : Int) + off = (tgt : Int)
def Go (cc : ByteArray) (pc : Nat) (i : Instr) (n : Nat) : Prop := decode cc pc = .ok (i, n)
def stL (lv : List (Nat × Value)) (i : Nat) (v : Value) : List (Nat × Value) := (i, v) :: lv.filter (fun q => !(q.1 == i) && !(q.1 + 1 == i && q.2.category == 2))
section Rows
variable {X : Cx} {E : Ev} {l : Launch} {cc : ByteArray} {nL : Nat} {own : String} {rm : Room} {q : Nat → Nat} {sh : List Shp} {σ : Sg} {ck cs : Nat} {Q : State → Prop} {pc pc' tgt : Nat} {lv lv' : List (Nat × Value)} {st : List Value}
theorem g_iconst (F : Fx X E l cc nL own rm) {n : Int} (d : At cc pc (.iconst n) 1 pc') (k : G X E nL q sh σ ck cs Q pc' lv (vI n :: st)) : G X E nL q sh σ ck cs Q pc lv (st) := by
  intro hA H locs ls hP hS hl
  obtain ⟨d, rfl⟩ := d
  refine lv_iconst F.1 F.2.1 d rfl ?_
  exact k hA H locs ls hP hS hl
theorem g_bipush (F : Fx X E l cc nL own rm) {n : Int} (hn : (Int8.ofInt n).toInt32 = iI n) (d : At cc pc (.bipush n) 2 pc') (k : G X E nL q sh σ ck cs Q pc' lv (vI n :: st)) : G X E nL q sh σ ck cs Q pc lv (st) := by
  intro hA H locs ls hP hS hl
  obtain ⟨d, rfl⟩ := d
  refine lv_bipush F.1 F.2.1 d hn ?_
  exact k hA H locs ls hP hS hl
theorem g_sipush (F : Fx X E l cc nL own rm) {n : Int} (hn : (Int16.ofInt n).toInt32 = iI n) (d : At cc pc (.sipush n) 3 pc') (k : G X E nL q sh σ ck cs Q pc' lv (vI n :: st)) : G X E nL q sh σ ck cs Q pc lv (st) := by
  intro hA H locs ls hP hS hl
  obtain ⟨d, rfl⟩ := d
  refine lv_sipush F.1 F.2.1 d hn ?_
  exact k hA H locs ls hP hS hl
theorem g_lconst (F : Fx X E l cc nL own rm) {n : Fin 2} {z : Int} (hz : Int64.ofNat (n : Nat) = iL z) (d : At cc pc (.lconst n) 1 pc') (k : G X E nL q sh σ ck cs Q pc' lv (vL z :: st)) : G X E nL q sh σ ck cs Q pc lv (st) := by
  intro hA H locs ls hP hS hl
  obtain ⟨d, rfl⟩ := d
  refine lv_lconst F.1 F.2.1 d hz ?_
  exact k hA H locs ls hP hS hl
theorem g_ldc2 (F : Fx X E l cc nL own rm) {idx : Nat} {z : Int} (hw : Cond.constantLong own idx (iL z) ∈ lw_g) (d : At cc pc (.ldc2_w idx) 3 pc') (k : G X E nL q sh σ ck cs Q pc' lv (vL z :: st)) : G X E nL q sh σ ck cs Q pc lv (st) := by
  intro hA H locs ls hP hS hl
  obtain ⟨d, rfl⟩ := d
  refine lv_ldc2 F.1 F.2.1 F.2.2.2.1 (F.2.2.2.2.1 _ hw) d ?_
  exact k hA H locs ls hP hS hl
theorem g_iload_n (F : Fx X E l cc nL own rm) {n : Fin 4} {i : Nat} (j : Nat) {z : Int} (hi : (n : Nat) = i) (hv : lv[j]? = some (i, vI z)) (d : At cc pc (.iload_n n) 1 pc') (k : G X E nL q sh σ ck cs Q pc' lv (vI z :: st)) : G X E nL q sh σ ck cs Q pc lv (st) := by
  intro hA H locs ls hP hS hl
  obtain ⟨d, rfl⟩ := d
  refine lv_iload_n F.1 F.2.1 d hi (lv_at hl j hv) ?_
  exact k hA H locs ls hP hS hl
theorem g_iload (F : Fx X E l cc nL own rm) {i : Nat} (j : Nat) {z : Int} (hv : lv[j]? = some (i, vI z)) (d : At cc pc (.iload i) 2 pc') (k : G X E nL q sh σ ck cs Q pc' lv (vI z :: st)) : G X E nL q sh σ ck cs Q pc lv (st) := by
  intro hA H locs ls hP hS hl
  obtain ⟨d, rfl⟩ := d
  refine lv_iload F.1 F.2.1 d (lv_at hl j hv) ?_
  exact k hA H locs ls hP hS hl
theorem g_lload_n (F : Fx X E l cc nL own rm) {n : Fin 4} {i : Nat} (j : Nat) {z : Int} (hi : (n : Nat) = i) (hv : lv[j]? = some (i, vL z)) (d : At cc pc (.lload_n n) 1 pc') (k : G X E nL q sh σ ck cs Q pc' lv (vL z :: st)) : G X E nL q sh σ ck cs Q pc lv (st) := by
  intro hA H locs ls hP hS hl
  obtain ⟨d, rfl⟩ := d
  refine lv_lload_n F.1 F.2.1 d hi (lv_at hl j hv) ?_
  exact k hA H locs ls hP hS hl
theorem g_lload (F : Fx X E l cc nL own rm) {i : Nat} (j : Nat) {z : Int} (hv : lv[j]? = some (i, vL z)) (d : At cc pc (.lload i) 2 pc') (k : G X E nL q sh σ ck cs Q pc' lv (vL z :: st)) : G X E nL q sh σ ck cs Q pc lv (st) := by
  intro hA H locs ls hP hS hl
  obtain ⟨d, rfl⟩ := d
  refine lv_lload F.1 F.2.1 d (lv_at hl j hv) ?_
  exact k hA H locs ls hP hS hl
theorem g_aload_n (F : Fx X E l cc nL own rm) {n : Fin 4} {i : Nat} (j : Nat) {z : Nat} (hi : (n : Nat) = i) (hv : lv[j]? = some (i, .ref z)) (d : At cc pc (.aload_n n) 1 pc') (k : G X E nL q sh σ ck cs Q pc' lv (.ref z :: st)) : G X E nL q sh σ ck cs Q pc lv (st) := by
  intro hA H locs ls hP hS hl
  obtain ⟨d, rfl⟩ := d
  refine lv_aload_n F.1 F.2.1 d hi (lv_at hl j hv) ?_
  exact k hA H locs ls hP hS hl
theorem g_iadd (F : Fx X E l cc nL own rm) {a b : Int} (d : At cc pc .iadd 1 pc') (k : G X E nL q sh σ ck cs Q pc' lv (vI (a + b) :: st)) : G X E nL q sh σ ck cs Q pc lv (vI b :: vI a :: st) := by
  intro hA H locs ls hP hS hl
  obtain ⟨d, rfl⟩ := d
  refine lv_iadd F.1 F.2.1 d ?_
  rw [iI_add]; exact k hA H locs ls hP hS hl
theorem g_isub (F : Fx X E l cc nL own rm) {a b : Int} (d : At cc pc .isub 1 pc') (k : G X E nL q sh σ ck cs Q pc' lv (vI (a - b) :: st)) : G X E nL q sh σ ck cs Q pc lv (vI b :: vI a :: st) := by
  intro hA H locs ls hP hS hl
  obtain ⟨d, rfl⟩ := d
  refine lv_isub F.1 F.2.1 d ?_
  rw [iI_sub]; exact k hA H locs ls hP hS hl
theorem g_imul (F : Fx X E l cc nL own rm) {a b : Int} (d : At cc pc .imul 1 pc') (k : G X E nL q sh σ ck cs Q pc' lv (vI (a * b) :: st)) : G X E nL q sh σ ck cs Q pc lv (vI b :: vI a :: st) := by
  intro hA H locs ls hP hS hl
  obtain ⟨d, rfl⟩ := d
  refine lv_imul F.1 F.2.1 d ?_
  rw [iI_mul]; exact k hA H locs ls hP hS hl
theorem g_iand (F : Fx X E l cc nL own rm) {a b : Int} (d : At cc pc .iand 1 pc') (k : G X E nL q sh σ ck cs Q pc' lv (vI (bAnd a b) :: st)) : G X E nL q sh σ ck cs Q pc lv (vI b :: vI a :: st) := by
  intro hA H locs ls hP hS hl
  obtain ⟨d, rfl⟩ := d
  refine lv_iand F.1 F.2.1 d ?_
  rw [← iI_bAnd]; exact k hA H locs ls hP hS hl
theorem g_ior (F : Fx X E l cc nL own rm) {a b : Int} (d : At cc pc .ior 1 pc') (k : G X E nL q sh σ ck cs Q pc' lv (vI (bOr a b) :: st)) : G X E nL q sh σ ck cs Q pc lv (vI b :: vI a :: st) := by
  intro hA H locs ls hP hS hl
  obtain ⟨d, rfl⟩ := d
  refine lv_ior F.1 F.2.1 d ?_
  rw [← iI_bOr]; exact k hA H locs ls hP hS hl
theorem g_ixor (F : Fx X E l cc nL own rm) {a b : Int} (d : At cc pc .ixor 1 pc') (k : G X E nL q sh σ ck cs Q pc' lv (vI (bXor a b) :: st)) : G X E nL q sh σ ck cs Q pc lv (vI b :: vI a :: st) := by
  intro hA H locs ls hP hS hl
  obtain ⟨d, rfl⟩ := d
  refine lv_ixor F.1 F.2.1 d ?_
  rw [← iI_bXor]; exact k hA H locs ls hP hS hl
theorem g_ishl (F : Fx X E l cc nL own rm) {a b : Int} (d : At cc pc .ishl 1 pc') (k : G X E nL q sh σ ck cs Q pc' lv (vI (bShl a b) :: st)) : G X E nL q sh σ ck cs Q pc lv (vI b :: vI a :: st) := by
  intro hA H locs ls hP hS hl
  obtain ⟨d, rfl⟩ := d
  refine lv_ishl F.1 F.2.1 d ?_
  rw [← iI_bShl]; exact k hA H locs ls hP hS hl
theorem g_ishr (F : Fx X E l cc nL own rm) {a b : Int} (d : At cc pc .ishr 1 pc') (k : G X E nL q sh σ ck cs Q pc' lv (vI (bShr a b) :: st)) : G X E nL q sh σ ck cs Q pc lv (vI b :: vI a :: st) := by
  intro hA H locs ls hP hS hl
  obtain ⟨d, rfl⟩ := d
  refine lv_ishr F.1 F.2.1 d ?_
  rw [← iI_bShr]; exact k hA H locs ls hP hS hl
theorem g_idiv (F : Fx X E l cc nL own rm) {a b : Int} (h : 0 ≤ a ∧ a < 2147483648 ∧ 0 < b ∧ b < 2147483648) (d : At cc pc .idiv 1 pc') (k : G X E nL q sh σ ck cs Q pc' lv (vI (a / b) :: st)) : G X E nL q sh σ ck cs Q pc lv (vI b :: vI a :: st) := by
  intro hA H locs ls hP hS hl
  obtain ⟨d, rfl⟩ := d
  refine lv_idiv F.1 F.2.1 d (iI_ne0 h.2.2.1 h.2.2.2) ?_
  rw [iI_div h.1 h.2.1 h.2.2.1 h.2.2.2]; exact k hA H locs ls hP hS hl
theorem g_irem (F : Fx X E l cc nL own rm) {a b : Int} (h : 0 ≤ a ∧ a < 2147483648 ∧ 0 < b ∧ b < 2147483648) (d : At cc pc .irem 1 pc') (k : G X E nL q sh σ ck cs Q pc' lv (vI (a % b) :: st)) : G X E nL q sh σ ck cs Q pc lv (vI b :: vI a :: st) := by
  intro hA H locs ls hP hS hl
  obtain ⟨d, rfl⟩ := d
  refine lv_irem F.1 F.2.1 d (iI_ne0 h.2.2.1 h.2.2.2) ?_
  rw [iI_rem h.1 h.2.1 h.2.2.1 h.2.2.2]; exact k hA H locs ls hP hS hl
theorem g_i2l (F : Fx X E l cc nL own rm) {a : Int} (h : rg a) (d : At cc pc .i2l 1 pc') (k : G X E nL q sh σ ck cs Q pc' lv (vL a :: st)) : G X E nL q sh σ ck cs Q pc lv (vI a :: st) := by
  intro hA H locs ls hP hS hl
  obtain ⟨d, rfl⟩ := d
  refine lv_i2l F.1 F.2.1 d (iI_wide h) ?_
  exact k hA H locs ls hP hS hl
theorem g_dup (F : Fx X E l cc nL own rm) {v : Value} (hv : v.category = 1) (d : At cc pc .dup 1 pc') (k : G X E nL q sh σ ck cs Q pc' lv (v :: v :: st)) : G X E nL q sh σ ck cs Q pc lv (v :: st) := by
  intro hA H locs ls hP hS hl
  obtain ⟨d, rfl⟩ := d
  refine lv_dup F.1 F.2.1 d hv ?_
  exact k hA H locs ls hP hS hl
theorem g_pop (F : Fx X E l cc nL own rm) {v : Value} (hv : v.category = 1) (d : At cc pc .pop 1 pc') (k : G X E nL q sh σ ck cs Q pc' lv (st)) : G X E nL q sh σ ck cs Q pc lv (v :: st) := by
  intro hA H locs ls hP hS hl
  obtain ⟨d, rfl⟩ := d
  refine lv_pop F.1 F.2.1 d hv ?_
  exact k hA H locs ls hP hS hl
theorem g_dup2 (F : Fx X E l cc nL own rm) {v w : Value} (hv : v.category = 1) (hw : w.category = 1) (d : At cc pc .dup2 1 pc') (k : G X E nL q sh σ ck cs Q pc' lv (v :: w :: v :: w :: st)) : G X E nL q sh σ ck cs Q pc lv (v :: w :: st) := by
  intro hA H locs ls hP hS hl
  obtain ⟨d, rfl⟩ := d
  refine lv_dup2_11 F.1 F.2.1 d hv hw ?_
  exact k hA H locs ls hP hS hl
theorem g_istore_n (F : Fx X E l cc nL own rm) {n : Fin 4} {i : Nat} {z : Int} (hi : (n : Nat) = i) (hn : i < nL) (hv : stL lv i (vI z) = lv') (d : At cc pc (.istore_n n) 1 pc') (k : G X E nL q sh σ ck cs Q pc' lv' st) : G X E nL q sh σ ck cs Q pc lv (vI z :: st) := by
  intro hA H locs ls hP hS hl
  obtain ⟨d, rfl⟩ := d
  exact lv_istore_n F.1 F.2.1 d hi hl hn hv (fun ls' hl' => k hA H locs ls' hP hS hl')
theorem g_istore (F : Fx X E l cc nL own rm) {i : Nat} {z : Int} (hn : i < nL) (hv : stL lv i (vI z) = lv') (d : At cc pc (.istore i) 2 pc') (k : G X E nL q sh σ ck cs Q pc' lv' st) : G X E nL q sh σ ck cs Q pc lv (vI z :: st) := by
  intro hA H locs ls hP hS hl
  obtain ⟨d, rfl⟩ := d
  exact lv_istore F.1 F.2.1 d hl hn hv (fun ls' hl' => k hA H locs ls' hP hS hl')
theorem g_astore_n (F : Fx X E l cc nL own rm) {n : Fin 4} {i : Nat} {z : Nat} (hi : (n : Nat) = i) (hn : i < nL) (hv : stL lv i (.ref z) = lv') (d : At cc pc (.astore_n n) 1 pc') (k : G X E nL q sh σ ck cs Q pc' lv' st) : G X E nL q sh σ ck cs Q pc lv (.ref z :: st) := by
  intro hA H locs ls hP hS hl
  obtain ⟨d, rfl⟩ := d
  exact lv_astore_n F.1 F.2.1 d hi hl hn hv (fun ls' hl' => k hA H locs ls' hP hS hl')
theorem g_iinc (F : Fx X E l cc nL own rm) {i : Nat} {n z w : Int} (j : Nat) (hz : lv[j]? = some (i, vI z)) (hw : z + n = w) (hn : i < nL) (hv : stL lv i (vI w) = lv') (d : At cc pc (.iinc i n) 3 pc') (k : G X E nL q sh σ ck cs Q pc' lv' st) : G X E nL q sh σ ck cs Q pc lv (st) := by
  intro hA H locs ls hP hS hl
  obtain ⟨d, rfl⟩ := d
  exact lv_iinc F.1 F.2.1 d hl hz (by rw [← hw]; exact iI_add z n) hn hv (fun ls' hl' => k hA H locs ls' hP hS hl')
theorem g_icmp_eq (F : Fx X E l cc nL own rm) {a b off : Int} (d : Br cc pc (.if_icmp .eq off) off pc' tgt) (ha : rg a) (hb : rg b) (kt : a = b → G X E nL q sh σ ck cs Q tgt lv st) (kf : ¬ (a = b) → G X E nL q sh σ ck cs Q pc' lv st) : G X E nL q sh σ ck cs Q pc lv (vI b :: vI a :: st) := by
  intro hA H locs ls hP hS hl
  obtain ⟨d, rfl, ht⟩ := d
  exact lv_icmp_eq F.1 F.2.1 d ht (fun h => kt ((iI_eq ha hb).mp h) hA H locs ls hP hS hl) (fun h => kf (fun z => h ((iI_eq ha hb).mpr z)) hA H locs ls hP hS hl)
theorem g_if_eq (F : Fx X E l cc nL own rm) {a off : Int} (d : Br cc pc (.ifCond .eq off) off pc' tgt) (ha : rg a) (kt : a = 0 → G X E nL q sh σ ck cs Q tgt lv st) (kf : ¬ (a = 0) → G X E nL q sh σ ck cs Q pc' lv st) : G X E nL q sh σ ck cs Q pc lv (vI a :: st) := by
  intro hA H locs ls hP hS hl
  obtain ⟨d, rfl, ht⟩ := d
  have r0 : rg 0 := ⟨by decide, by decide⟩
  exact lv_if_eq F.1 F.2.1 d ht (fun h => kt ((iI_eq ha r0).mp h) hA H locs ls hP hS hl) (fun h => kf (fun z => h ((iI_eq ha r0).mpr z)) hA H locs ls hP hS hl)
theorem g_icmp_ne (F : Fx X E l cc nL own rm) {a b off : Int} (d : Br cc pc (.if_icmp .ne off) off pc' tgt) (ha : rg a) (hb : rg b) (kt : ¬ a = b → G X E nL q sh σ ck cs Q tgt lv st) (kf : a = b → G X E nL q sh σ ck cs Q pc' lv st) : G X E nL q sh σ ck cs Q pc lv (vI b :: vI a :: st) := by
  intro hA H locs ls hP hS hl
  obtain ⟨d, rfl, ht⟩ := d
  exact lv_icmp_ne F.1 F.2.1 d ht (fun h => kt (fun z => h ((iI_eq ha hb).mpr z)) hA H locs ls hP hS hl) (fun h => kf ((iI_eq ha hb).mp h) hA H locs ls hP hS hl)
theorem g_if_ne (F : Fx X E l cc nL own rm) {a off : Int} (d : Br cc pc (.ifCond .ne off) off pc' tgt) (ha : rg a) (kt : ¬ a = 0 → G X E nL q sh σ ck cs Q tgt lv st) (kf : a = 0 → G X E nL q sh σ ck cs Q pc' lv st) : G X E nL q sh σ ck cs Q pc lv (vI a :: st) := by
  intro hA H locs ls hP hS hl
  obtain ⟨d, rfl, ht⟩ := d
  have r0 : rg 0 := ⟨by decide, by decide⟩
  exact lv_if_ne F.1 F.2.1 d ht (fun h => kt (fun z => h ((iI_eq ha r0).mpr z)) hA H locs ls hP hS hl) (fun h => kf ((iI_eq ha r0).mp h) hA H locs ls hP hS hl)
theorem g_icmp_lt (F : Fx X E l cc nL own rm) {a b off : Int} (d : Br cc pc (.if_icmp .lt off) off pc' tgt) (ha : rg a) (hb : rg b) (kt : a < b → G X E nL q sh σ ck cs Q tgt lv st) (kf : ¬ (a < b) → G X E nL q sh σ ck cs Q pc' lv st) : G X E nL q sh σ ck cs Q pc lv (vI b :: vI a :: st) := by
  intro hA H locs ls hP hS hl
  obtain ⟨d, rfl, ht⟩ := d
  exact lv_icmp_lt F.1 F.2.1 d ht (fun h => kt ((iI_lt ha hb).mp h) hA H locs ls hP hS hl) (fun h => kf (fun z => h ((iI_lt ha hb).mpr z)) hA H locs ls hP hS hl)
theorem g_if_lt (F : Fx X E l cc nL own rm) {a off : Int} (d : Br cc pc (.ifCond .lt off) off pc' tgt) (ha : rg a) (kt : a < 0 → G X E nL q sh σ ck cs Q tgt lv st) (kf : ¬ (a < 0) → G X E nL q sh σ ck cs Q pc' lv st) : G X E nL q sh σ ck cs Q pc lv (vI a :: st) := by
  intro hA H locs ls hP hS hl
  obtain ⟨d, rfl, ht⟩ := d
  have r0 : rg 0 := ⟨by decide, by decide⟩
  exact lv_if_lt F.1 F.2.1 d ht (fun h => kt ((iI_lt ha r0).mp h) hA H locs ls hP hS hl) (fun h => kf (fun z => h ((iI_lt ha r0).mpr z)) hA H locs ls hP hS hl)
theorem g_icmp_ge (F : Fx X E l cc nL own rm) {a b off : Int} (d : Br cc pc (.if_icmp .ge off) off pc' tgt) (ha : rg a) (hb : rg b) (kt : b ≤ a → G X E nL q sh σ ck cs Q tgt lv st) (kf : ¬ (b ≤ a) → G X E nL q sh σ ck cs Q pc' lv st) : G X E nL q sh σ ck cs Q pc lv (vI b :: vI a :: st) := by
  intro hA H locs ls hP hS hl
  obtain ⟨d, rfl, ht⟩ := d
  exact lv_icmp_ge F.1 F.2.1 d ht (fun h => kt ((iI_le hb ha).mp h) hA H locs ls hP hS hl) (fun h => kf (fun z => h ((iI_le hb ha).mpr z)) hA H locs ls hP hS hl)
theorem g_if_ge (F : Fx X E l cc nL own rm) {a off : Int} (d : Br cc pc (.ifCond .ge off) off pc' tgt) (ha : rg a) (kt : 0 ≤ a → G X E nL q sh σ ck cs Q tgt lv st) (kf : ¬ (0 ≤ a) → G X E nL q sh σ ck cs Q pc' lv st) : G X E nL q sh σ ck cs Q pc lv (vI a :: st) := by
  intro hA H locs ls hP hS hl
  obtain ⟨d, rfl, ht⟩ := d
  have r0 : rg 0 := ⟨by decide, by decide⟩
  exact lv_if_ge F.1 F.2.1 d ht (fun h => kt ((iI_le r0 ha).mp h) hA H locs ls hP hS hl) (fun h => kf (fun z => h ((iI_le r0 ha).mpr z)) hA H locs ls hP hS hl)
theorem g_icmp_gt (F : Fx X E l cc nL own rm) {a b off : Int} (d : Br cc pc (.if_icmp .gt off) off pc' tgt) (ha : rg a) (hb : rg b) (kt : b < a → G X E nL q sh σ ck cs Q tgt lv st) (kf : ¬ (b < a) → G X E nL q sh σ ck cs Q pc' lv st) : G X E nL q sh σ ck cs Q pc lv (vI b :: vI a :: st) := by
  intro hA H locs ls hP hS hl
  obtain ⟨d, rfl, ht⟩ := d
  exact lv_icmp_gt F.1 F.2.1 d ht (fun h => kt ((iI_lt hb ha).mp h) hA H locs ls hP hS hl) (fun h => kf (fun z => h ((iI_lt hb ha).mpr z)) hA H locs ls hP hS hl)
theorem g_if_gt (F : Fx X E l cc nL own rm) {a off : Int} (d : Br cc pc (.ifCond .gt off) off pc' tgt) (ha : rg a) (kt : 0 < a → G X E nL q sh σ ck cs Q tgt lv st) (kf : ¬ (0 < a) → G X E nL q sh σ ck cs Q pc' lv st) : G X E nL q sh σ ck cs Q pc lv (vI a :: st) := by
  intro hA H locs ls hP hS hl
  obtain ⟨d, rfl, ht⟩ := d
  have r0 : rg 0 := ⟨by decide, by decide⟩
  exact lv_if_gt F.1 F.2.1 d ht (fun h => kt ((iI_lt r0 ha).mp h) hA H locs ls hP hS hl) (fun h => kf (fun z => h ((iI_lt r0 ha).mpr z)) hA H locs ls hP hS hl)
theorem g_icmp_le (F : Fx X E l cc nL own rm) {a b off : Int} (d : Br cc pc (.if_icmp .le off) off pc' tgt) (ha : rg a) (hb : rg b) (kt : a ≤ b → G X E nL q sh σ ck cs Q tgt lv st) (kf : ¬ (a ≤ b) → G X E nL q sh σ ck cs Q pc' lv st) : G X E nL q sh σ ck cs Q pc lv (vI b :: vI a :: st) := by
  intro hA H locs ls hP hS hl
  obtain ⟨d, rfl, ht⟩ := d
  exact lv_icmp_le F.1 F.2.1 d ht (fun h => kt ((iI_le ha hb).mp h) hA H locs ls hP hS hl) (fun h => kf (fun z => h ((iI_le ha hb).mpr z)) hA H locs ls hP hS hl)
theorem g_if_le (F : Fx X E l cc nL own rm) {a off : Int} (d : Br cc pc (.ifCond .le off) off pc' tgt) (ha : rg a) (kt : a ≤ 0 → G X E nL q sh σ ck cs Q tgt lv st) (kf : ¬ (a ≤ 0) → G X E nL q sh σ ck cs Q pc' lv st) : G X E nL q sh σ ck cs Q pc lv (vI a :: st) := by
  intro hA H locs ls hP hS hl
  obtain ⟨d, rfl, ht⟩ := d
  have r0 : rg 0 := ⟨by decide, by decide⟩
  exact lv_if_le F.1 F.2.1 d ht (fun h => kt ((iI_le ha r0).mp h) hA H locs ls hP hS hl) (fun h => kf (fun z => h ((iI_le ha r0).mpr z)) hA H locs ls hP hS hl)
theorem g_b_eq (F : Fx X E l cc nL own rm) {P : Prop} {hd : Decidable P} {off : Int} (d : Br cc pc (.ifCond .eq off) off pc' tgt) (kt : ¬ P → G X E nL q sh σ ck cs Q tgt lv st) (kf : P → G X E nL q sh σ ck cs Q pc' lv st) : G X E nL q sh σ ck cs Q pc lv (vI (@ite Int P hd 1 0) :: st) := by
  refine g_if_eq F d (by by_cases h : P <;> simp [h, rg]) (fun h => kt (fun z => by simp [z] at h)) (fun h => kf ?_)
  by_cases z : P
  · exact z
  · simp [z] at h
theorem g_b_ne (F : Fx X E l cc nL own rm) {P : Prop} {hd : Decidable P} {off : Int} (d : Br cc pc (.ifCond .ne off) off pc' tgt) (kt : P → G X E nL q sh σ ck cs Q tgt lv st) (kf : ¬ P → G X E nL q sh σ ck cs Q pc' lv st) : G X E nL q sh σ ck cs Q pc lv (vI (@ite Int P hd 1 0) :: st) := by
  refine g_if_ne F d (by by_cases h : P <;> simp [h, rg]) (fun h => kt ?_) (fun h => kf (fun z => by simp [z] at h))
  by_cases z : P
  · exact z
  · simp [z] at h
theorem g_goto (F : Fx X E l cc nL own rm) {off : Int} (d : Br cc pc (.goto off) off pc' tgt) (k : G X E nL q sh σ ck cs Q tgt lv st) : G X E nL q sh σ ck cs Q pc lv st := by
  intro hA H locs ls hP hS hl
  obtain ⟨d, rfl, ht⟩ := d
  exact lv_goto F.1 F.2.1 d ht (k hA H locs ls hP hS hl)
theorem g_tabOut (F : Fx X E l cc nL own rm) {a dflt lo hi : Int} {offs : Array Int} {len : Nat} (d : Go cc pc (.tableswitch dflt lo hi offs) len) (ha : rg a) (h : a < lo ∨ hi < a) (ht : (pc : Int) + dflt = (tgt : Int)) (k : G X E nL q sh σ ck cs Q tgt lv st) : G X E nL q sh σ ck cs Q pc lv (vI a :: st) := by
  intro hA H locs ls hP hS hl
  exact lv_tableOut F.1 F.2.1 d (by rw [iI_toInt ha]; exact h) ht (k hA H locs ls hP hS hl)
theorem g_tabIn (F : Fx X E l cc nL own rm) {a dflt lo hi off : Int} {offs : Array Int} {len : Nat} (d : Go cc pc (.tableswitch dflt lo hi offs) len) (ha : rg a) (j : Nat) (hj : a = lo + j) (hh : lo + j ≤ hi) (ho : offs[j]? = some off) (ht : (pc : Int) + off = (tgt : Int)) (k : G X E nL q sh σ ck cs Q tgt lv st) : G X E nL q sh σ ck cs Q pc lv (vI a :: st) := by
  intro hA H locs ls hP hS hl
  refine lv_tableIn F.1 F.2.1 d (by rw [iI_toInt ha]; omega) (by rw [iI_toInt ha]; omega) (off := off) ?_ ht (k hA H locs ls hP hS hl)
  rw [iI_toInt ha, hj, show (lo + (j : Int) - lo).toNat = j by omega]
  exact ho
theorem g_look (F : Fx X E l cc nL own rm) {a dflt off : Int} {ps : Array (Int × Int)} {len : Nat} (d : Go cc pc (.lookupswitch dflt ps) len) (ha : rg a) (hp : (ps.toList.zip (ps.toList.drop 1)).all (fun (a, next) => a.1 < next.1) = true) (ho : Op.lookupswitch.offset ps.toList dflt a = off) (ht : (pc : Int) + off = (tgt : Int)) (k : G X E nL q sh σ ck cs Q tgt lv st) : G X E nL q sh σ ck cs Q pc lv (vI a :: st) := by
  intro hA H locs ls hP hS hl
  exact lv_lookup F.1 F.2.1 d hp (by rw [iI_toInt ha]; exact ho) ht (k hA H locs ls hP hS hl)
/-- arrays -/
theorem g_iaload (F : Fx X E l cc nL own rm) {c n : Nat} {z : Int} (d : At cc pc .iaload 1 pc') (hc : sh[c]? = some (.inl n)) (h0 : 0 ≤ z) (h1 : z < (n : Int)) (hn : n < 2147483648) (k : G X E nL q sh σ ck cs Q pc' lv (vI (σ c z) :: st)) : G X E nL q sh σ ck cs Q pc lv (vI z :: .ref (q c) :: st) := by
  intro hA H locs ls hP hS hl
  obtain ⟨d, rfl⟩ := d
  refine va_iald F.1 F.2.1 F.2.2.2.2.2.1.1 hP c 0 (wd_at hc) rfl (iI_in h0 h1 hn) d ?_
  rw [iI_clamp ⟨by omega, by omega⟩, Int.toNat_of_nonneg h0]
  exact k hA H locs ls hP hS hl
theorem g_iastore (F : Fx X E l cc nL own rm) {c n : Nat} {z v : Int} (d : At cc pc .iastore 1 pc') (hc : sh[c]? = some (.inl n)) (h0 : 0 ≤ z) (h1 : z < (n : Int)) (hn : n < 2147483648) (k : G X E nL q sh (up σ c z v) ck cs Q pc' lv st) : G X E nL q sh σ ck cs Q pc lv (vI v :: vI z :: .ref (q c) :: st) := by
  intro hA H locs ls hP hS hl
  obtain ⟨d, rfl⟩ := d
  refine va_iast F.1 F.2.1 F.2.2.2.2.2.1.1 hP (hA.D E.2.1 σ) hS c 0 (wd_at hc) rfl (iI_in h0 h1 hn) d (fun H1 locs1 hP1 _ hS1 => k hA H1 locs1 ls ?_ hS1 hl)
  rw [iI_clamp ⟨by omega, by omega⟩] at hP1
  rw [← wd_set hc]
  have e : upd (fun j : Nat => iI (σ c (j : Int))) z.toNat (iI v) = fun j : Nat => iI (up σ c z v c (j : Int)) := by
    funext j
    by_cases hj : j = z.toNat
    · subst hj
      simp [upd, up, Int.toNat_of_nonneg h0]
    · have h2 : ((j : Nat) : Int) ≠ z := by omega
      simp [upd, up, hj, h2]
  rw [e] at hP1
  exact hP1
theorem g_alen (F : Fx X E l cc nL own rm) {c n : Nat} (d : At cc pc .arraylength 1 pc') (hc : sh[c]? = some (.inl n)) (k : G X E nL q sh σ ck cs Q pc' lv (vI (n : Int) :: st)) : G X E nL q sh σ ck cs Q pc lv (.ref (q c) :: st) := by
  intro hA H locs ls hP hS hl
  obtain ⟨d, rfl⟩ := d
  exact va_alen F.1 F.2.1 F.2.2.2.2.2.1.1 hP c 0 (wd_at hc) rfl (iI_nat n).symm d (k hA H locs ls hP hS hl)
/-- static rows -/
theorem g_gets (F : Fx X E l cc nL own rm) (i : Nat) {idx : Nat} {C n : String} (hi : i < 5) (hC : stN i = (C, n)) (hw : Cond.fieldLink own idx C n "[I" ∈ lw_g) (d : At cc pc (.getstatic idx) 3 pc') (k : G X E nL q sh σ ck cs Q pc' lv (.ref (E.2.2.2 i) :: st)) : G X E nL q sh σ ck cs Q pc lv st := by
  intro hA H locs ls hP hS hl
  obtain ⟨d, rfl⟩ := d
  have hz := (F.2.2.2.2.2.1.2.2 i hi).1
  rw [hC] at hz
  exact va_gets F.1 F.2.1 hz hS F.2.2.2.1 (F.2.2.2.2.1 _ hw) (fun _ h => h) d (k hA H locs ls hP hS hl)
theorem g_getsN (F : Fx X E l cc nL own rm) (i : Nat) {idx : Nat} {C n host : String} (hi : i < 5) (hC : stN i = (C, n)) (hw : Cond.fieldLinkNest own idx C n "[I" host ∈ nws) (d : At cc pc (.getstatic idx) 3 pc') (k : G X E nL q sh σ ck cs Q pc' lv (.ref (E.2.2.2 i) :: st)) : G X E nL q sh σ ck cs Q pc lv st := by
  intro hA H locs ls hP hS hl
  obtain ⟨d, rfl⟩ := d
  have hz := (F.2.2.2.2.2.1.2.2 i hi).1
  rw [hC] at hz
  exact va_getsN F.1 F.2.1 hz hS F.2.2.2.1 (va_Nw.use (nws_on _ hw) (F.2.2.2.2.2.1.2.1 _ hw)) (fun _ h => h) d (k hA H locs ls hP hS hl)
theorem g_sald (F : Fx X E l cc nL own rm) (i : Nat) {z : Int} (hi : i < 5) (h0 : 0 ≤ z) (h1 : z < (stLen i : Int)) (d : At cc pc .iaload 1 pc') (k : G X E nL q sh σ ck cs Q pc' lv (vI (stV i z) :: st)) : G X E nL q sh σ ck cs Q pc lv (vI z :: .ref (E.2.2.2 i) :: st) := by
  intro hA H locs ls hP hS hl
  obtain ⟨d, rfl⟩ := d
  have hn : stLen i < 2147483648 := by
    unfold stLen
    split <;> decide
  refine va_ti F.1 F.2.1 (F.2.2.2.2.2.1.2.2 i hi).2 hS (iI_in h0 h1 hn) ?_ d (k hA H locs ls hP hS hl)
  rw [iI_clamp ⟨by omega, by omega⟩, Int.toNat_of_nonneg h0]
/-- fields -/
def Kl (ci : Nat) (C : String) (T : u_T) (N : Nat) (ty : Nat → FieldType) : Prop := vwCl[ci]? = some (C, T, N) ∧ (∀ w ∈ u_ws C T N, w ∈ lw_g) ∧ (∀ k, k < N → parseFieldDescriptor (T k).2.2.1 = some (ty k)) ∧ (∀ a, a < N → ∀ b, b < N → a ≠ b → (T a).2.1 ≠ (T b).2.1)
/-- a link of a field: its place in the class -/
def Fl (own : String) (idx ci i : Nat) (C : String) (T : u_T) (N : Nat) (ty : Nat → FieldType) : Prop := Kl ci C T N ty ∧ i < N ∧ Cond.fieldLink own idx (T i).1 (T i).2.1 (T i).2.2.1 ∈ lw_g
theorem g_getI (F : Fx X E l cc nL own rm) {c idx ci i N : Nat} {C : String} {T : u_T} {ty : Nat → FieldType} {fs : List (Option (Option Nat))} (j : Int) (L : Fl own idx ci i C T N ty) (d : At cc pc (.getfield idx) 3 pc') (hc : sh[c]? = some (.inr (ci, fs))) (hf : fs[i]? = some none) (hj : (i : Int) = j) (k : G X E nL q sh σ ck cs Q pc' lv (vI (σ c j) :: st)) : G X E nL q sh σ ck cs Q pc lv (.ref (q c) :: st) := by
  intro hA H locs ls hP hS hl
  obtain ⟨d, rfl⟩ := d
  subst hj
  exact va_get F.1 F.2.1 F.2.2.2.2.1 L.1.2.1 F.2.2.2.1 F.2.2.2.2.2.1.1 hP c (wd_at hc) L.1.1 i L.2.1 (F.2.2.2.2.1 _ L.2.2) (fun _ h => h) (flds_at hf) d (k hA H locs ls hP hS hl)
theorem g_getR (F : Fx X E l cc nL own rm) {c idx ci i N c' : Nat} {C : String} {T : u_T} {ty : Nat → FieldType} {fs : List (Option (Option Nat))} (L : Fl own idx ci i C T N ty) (d : At cc pc (.getfield idx) 3 pc') (hc : sh[c]? = some (.inr (ci, fs))) (hf : fs[i]? = some (some (some c'))) (k : G X E nL q sh σ ck cs Q pc' lv (.ref (q c') :: st)) : G X E nL q sh σ ck cs Q pc lv (.ref (q c) :: st) := by
  intro hA H locs ls hP hS hl
  obtain ⟨d, rfl⟩ := d
  exact va_get F.1 F.2.1 F.2.2.2.2.1 L.1.2.1 F.2.2.2.1 F.2.2.2.2.2.1.1 hP c (wd_at hc) L.1.1 i L.2.1 (F.2.2.2.2.1 _ L.2.2) (fun _ h => h) (flds_at hf) d (k hA H locs ls hP hS hl)
theorem g_putI (F : Fx X E l cc nL own rm) {c idx ci i N : Nat} {C : String} {T : u_T} {ty : Nat → FieldType} {fs : List (Option (Option Nat))} {v : Int} (j : Int) (L : Fl own idx ci i C T N ty) (d : At cc pc (.putfield idx) 3 pc') (hc : sh[c]? = some (.inr (ci, fs))) (hf : fs[i]? = some none) (hj : (i : Int) = j) (hfin : (T i).2.2.2 = false) (hn : narrow (ty i) (vI v) = vI v) (hfit : fits (ty i) (vI v) = true) (k : G X E nL q sh (up σ c j v) ck cs Q pc' lv st) : G X E nL q sh σ ck cs Q pc lv (vI v :: .ref (q c) :: st) := by
  intro hA H locs ls hP hS hl
  obtain ⟨d, rfl⟩ := d
  subst hj
  refine va_put F.1 F.2.1 F.2.2.2.2.1 L.1.2.1 ty L.1.2.2.1 L.1.2.2.2 F.2.2.2.1 F.2.2.2.2.2.1.1 hP (hA.D E.2.1 σ) hS c (wd_at hc) L.1.1 i L.2.1 (F.2.2.2.2.1 _ L.2.2) (fun _ h => h) hfin (L.1.2.2.1 i L.2.1) hn hfit (by rw [flds_len]; exact (List.getElem?_eq_some_iff.mp hf).1) d (fun H1 locs1 hP1 _ hS1 => k hA H1 locs1 ls ?_ hS1 hl)
  rw [← wd_set hc]
  rw [flds_set hf] at hP1
  exact hP1
end Rows
