/-! contracts over the world, and calls -/
def PreC (E : Ev) (q : Nat → Nat) (sh : List Shp) (σ : Sg) (As : List Value) : Array Value → State → Prop := va_Pc As (fun U => va_P E.1 vwCl (wd E.2.1 q sh σ) U.heap ∧ AD E.2.2.1 q sh.length ∧ KK E U U.heap ∧ ∀ a : Nat, U.heap.size ≤ a → E.2.2.1 a)
theorem PreC.blind {E : Ev} {q : Nat → Nat} {sh : List Shp} {σ : Sg} {As : List Value} : FrameBlind (PreC E q sh σ As) := fun _ _ _ _ h => ⟨h.1, h.2.1, h.2.2.1, h.2.2.2.1.call, h.2.2.2.2⟩
def QI (E : Ev) (q : Nat → Nat) (sh : List Shp) (post : Int → Sg → Prop) : Array Value → State → Outcome → State → Prop := va_Qi (S := Sg) (fun r τ => ∃ z : Int, r = iI z ∧ post z τ) (fun τ t => va_P E.1 vwCl (wd E.2.1 q sh τ) t.heap) E.2.2.1
def QV (E : Ev) (q : Nat → Nat) (sh : List Shp) (post : Sg → Prop) : Array Value → State → Outcome → State → Prop := va_Qv (S := Sg) post (fun τ t => va_P E.1 vwCl (wd E.2.1 q sh τ) t.heap) E.2.2.1
def CI (l : Launch) (E : Ev) (y : MethodName) (cc : ByteArray) (n : Nat) (ret : FieldType) (rm : Room) (q : Nat → Nat) (sh : List Shp) (σ : Sg) (As : List Value) (post : Int → Sg → Prop) : Prop :=
  Met l y (tw y cc n (some ret)) rm (PreC E q sh σ As) (QI E q sh post) 0 0 E.2.2.1
def CV (l : Launch) (E : Ev) (y : MethodName) (cc : ByteArray) (n : Nat) (rm : Room) (q : Nat → Nat) (sh : List Shp) (σ : Sg) (As : List Value) (post : Sg → Prop) : Prop :=
  Met l y (tw y cc n none) rm (PreC E q sh σ As) (QV E q sh post) 0 0 E.2.2.1
abbrev is (v : Int) (σ' : Sg) : Int → Sg → Prop := fun z τ => v = z ∧ σ' = τ
abbrev isS (σ' : Sg) : Sg → Prop := fun τ => σ' = τ
theorem CI_of {l : Launch} {E : Ev} {y : MethodName} {cc : ByteArray} {n : Nat} {rm : Room} {q : Nat → Nat} {sh : List Shp} {σ : Sg} {As : List Value} {post : Int → Sg → Prop} {own : String} (hy : plainName y.cls = true) (ho : y.cls = own) (hlen : (lg_sl As).length ≤ n)
    (h : ∀ (X : Cx) (Q : State → Prop), Fx X E l cc n own rm → (∀ {pc : Nat} {lv : List (Nat × Value)} {z : Int} {τ : Sg}, Go cc pc .ireturn 1 → post z τ → G X E n q sh τ 0 0 Q pc lv [vI z]) → G X E n q sh σ 0 0 Q 0 (lv_args 0 As) []) : CI l E y cc n .int rm q sh σ As post := by
  refine Met.ofW (cc := cc) (maxL := n) (ret := some .int) hy rfl ?_
  intro p e s m args below meth c s₁ B hml hv
  obtain ⟨rfl, hP, hA, hK, hN⟩ := hv
  have hx := B.exec
  have hb := B.bytes
  have hr := B.returns
  have hts := atoms_spec (ws := tw y cc n (some .int)) B.pre
  have hown : s.vm.findClass y.cls = some m.cls := findClass_of_methodNamed B.named
  have hlocks := B.notSynchronized
  have F : Fx (p, l, e, rm, s, m, As.toArray, below, meth, c) E l cc n own rm := ⟨hx, hb, hml, by rw [← ho]; exact hown, fun w hw => hts w (List.mem_cons_of_mem _ hw), hK, rfl, rfl, hN⟩
  have hl := lv_entry As (n := n) hlen
  rw [lg_entry_eq]
  generalize (lg_sl As ++ List.replicate (n - (lg_sl As).length) Slot.unset).toArray = ls at hl ⊢
  refine h (p, l, e, rm, s, m, As.toArray, below, meth, c) _ F ?_ hA s.heap [] ls hP va_S.rf hl
  intro pc lv z τ d hp hA2 H locs ls2 hP2 hS2 hl2
  exact W.iret hx hb hr (fun t ht hW => ⟨⟨iI z, τ, rfl, ⟨z, rfl, hp⟩, by show va_P _ _ _ t.heap; rw [ht]; exact hP2⟩, hS2.F ht⟩) hS2.2.2 d
theorem CB_of {l : Launch} {E : Ev} {y : MethodName} {cc : ByteArray} {n : Nat} {rm : Room} {q : Nat → Nat} {sh : List Shp} {σ : Sg} {As : List Value} {post : Int → Sg → Prop} {own : String} (hy : plainName y.cls = true) (ho : y.cls = own) (hlen : (lg_sl As).length ≤ n)
    (h : ∀ (X : Cx) (Q : State → Prop), Fx X E l cc n own rm → (∀ {pc : Nat} {lv : List (Nat × Value)} {z : Int} {τ : Sg}, Go cc pc .ireturn 1 → (z = 0 ∨ z = 1) → post z τ → G X E n q sh τ 0 0 Q pc lv [vI z]) → G X E n q sh σ 0 0 Q 0 (lv_args 0 As) []) : CI l E y cc n .boolean rm q sh σ As post := by
  refine Met.ofW (cc := cc) (maxL := n) (ret := some .boolean) hy rfl ?_
  intro p e s m args below meth c s₁ B hml hv
  obtain ⟨rfl, hP, hA, hK, hN⟩ := hv
  have hx := B.exec
  have hb := B.bytes
  have hr := B.returns
  have hts := atoms_spec (ws := tw y cc n (some .boolean)) B.pre
  have hown : s.vm.findClass y.cls = some m.cls := findClass_of_methodNamed B.named
  have hlocks := B.notSynchronized
  have F : Fx (p, l, e, rm, s, m, As.toArray, below, meth, c) E l cc n own rm := ⟨hx, hb, hml, by rw [← ho]; exact hown, fun w hw => hts w (List.mem_cons_of_mem _ hw), hK, rfl, rfl, hN⟩
  have hl := lv_entry As (n := n) hlen
  rw [lg_entry_eq]
  generalize (lg_sl As ++ List.replicate (n - (lg_sl As).length) Slot.unset).toArray = ls at hl ⊢
  refine h (p, l, e, rm, s, m, As.toArray, below, meth, c) _ F ?_ hA s.heap [] ls hP va_S.rf hl
  intro pc lv z τ d h01 hp hA2 H locs ls2 hP2 hS2 hl2
  have hn : narrow .boolean (.int (iI z)) = .int (iI z) := by rcases h01 with rfl | rfl <;> rfl
  exact W.zret hx hb hr hn (fun t ht hW => ⟨⟨iI z, τ, rfl, ⟨z, rfl, hp⟩, by show va_P _ _ _ t.heap; rw [ht]; exact hP2⟩, hS2.F ht⟩) hS2.2.2 d
theorem CV_of {l : Launch} {E : Ev} {y : MethodName} {cc : ByteArray} {n : Nat} {rm : Room} {q : Nat → Nat} {sh : List Shp} {σ : Sg} {As : List Value} {post : Sg → Prop} {own : String} (hy : plainName y.cls = true) (ho : y.cls = own) (hlen : (lg_sl As).length ≤ n)
    (h : ∀ (X : Cx) (Q : State → Prop), Fx X E l cc n own rm → (∀ {pc : Nat} {lv : List (Nat × Value)} {τ : Sg}, Go cc pc .return_ 1 → post τ → G X E n q sh τ 0 0 Q pc lv []) → G X E n q sh σ 0 0 Q 0 (lv_args 0 As) []) : CV l E y cc n rm q sh σ As post := by
  refine Met.ofW (cc := cc) (maxL := n) (ret := none) hy rfl ?_
  intro p e s m args below meth c s₁ B hml hv
  obtain ⟨rfl, hP, hA, hK, hN⟩ := hv
  have hx := B.exec
  have hb := B.bytes
  have hr := B.returns
  have hts := atoms_spec (ws := tw y cc n none) B.pre
  have hown : s.vm.findClass y.cls = some m.cls := findClass_of_methodNamed B.named
  have hlocks := B.notSynchronized
  have F : Fx (p, l, e, rm, s, m, As.toArray, below, meth, c) E l cc n own rm := ⟨hx, hb, hml, by rw [← ho]; exact hown, fun w hw => hts w (List.mem_cons_of_mem _ hw), hK, rfl, rfl, hN⟩
  have hl := lv_entry As (n := n) hlen
  rw [lg_entry_eq]
  generalize (lg_sl As ++ List.replicate (n - (lg_sl As).length) Slot.unset).toArray = ls at hl ⊢
  refine h (p, l, e, rm, s, m, As.toArray, below, meth, c) _ F ?_ hA s.heap [] ls hP va_S.rf hl
  intro pc lv τ d hp hA2 H locs ls2 hP2 hS2 hl2
  exact W.vret hx hb hr (fun t ht hW => ⟨⟨τ, rfl, hp, by show va_P _ _ _ t.heap; rw [ht]; exact hP2⟩, hS2.F ht⟩) hS2.2.2 d
/-- what a call site links -/
def CkB (y : MethodName) (cc : ByteArray) (n : Nat) (ret : Option FieldType) (k : Nat) : Prop := Cond.initialized y.cls ∈ lw_g ∧ Cond.code y cc n ret ∈ lw_g ∧ y.cls ≠ "java/lang/invoke/MethodHandle" ∧ y.cls ≠ "java/lang/invoke/VarHandle" ∧ (parseMethodDescriptor y.desc).map (fun d => d.parameters.length) = some k
def CkS (own : String) (idx : Nat) (y : MethodName) (cc : ByteArray) (n : Nat) (ret : Option FieldType) (k : Nat) : Prop := CkB y cc n ret k ∧ Cond.methodLink own idx y ∈ lw_g ∧ Cond.static y ∈ lw_g
def CkN (own : String) (idx : Nat) (y : MethodName) (cc : ByteArray) (n : Nat) (ret : Option FieldType) (k : Nat) : Prop := CkB y cc n ret k ∧ (∃ host, Cond.methodLinkNest own idx y host ∈ nws) ∧ Cond.static y ∈ lw_g
def CkV (own : String) (idx : Nat) (y : MethodName) (cc : ByteArray) (n : Nat) (ret : Option FieldType) (k : Nat) : Prop := CkB y cc n ret k ∧ Cond.methodLink own idx y ∈ lw_g ∧ Cond.instanceMethod y ∈ lw_g ∧ Cond.selects y.cls y y ∈ lw_g
def rmOk (rm' : Room) (n : Nat) (rm : Room) : Prop := rm'.cells = 0 ∧ rm'.slots = 0 ∧ rm'.frames + 1 ≤ rm.frames ∧ 8 + (n + 11) + rm'.locals ≤ rm.locals
theorem gi_of {ws : List Cond} (h : ∀ w ∈ ws, w ∈ lw_g) : GoodIn lw_g ws := fun w hw => ⟨h w hw, good_of_word (goodW w (h w hw))⟩
section Calls
variable {X : Cx} {E : Ev} {l : Launch} {cc : ByteArray} {nL : Nat} {own : String} {rm : Room} {q : Nat → Nat} {sh : List Shp} {σ : Sg} {ck cs : Nat} {Q : State → Prop} {pc pc' : Nat} {lv : List (Nat × Value)} {st rest : List Value} {H : Heap} {locs : List Loc} {ls : Array Slot} {y : MethodName} {bytes : ByteArray} {maxL idx : Nat} {ret : Option FieldType} {rt : FieldType} {rm' : Room} {As : List Value} {Qc : Array Value → State → Outcome → State → Prop}
theorem run_S (F : Fx X E l cc nL own rm) (hM : Met l y (tw y bytes maxL ret) rm' (PreC E q sh σ As) Qc 0 0 E.2.2.1) (k : CkS own idx y bytes maxL ret As.length) (hR : rmOk rm' maxL rm) (hst : st = As.reverse ++ rest) (hW : (rest.map fun v => v.category).sum ≤ 8) (hc : ck ≤ rm.cells ∧ cs ≤ rm.slots) (d : decode cc pc = .ok (.invokestatic idx, 3)) (hA : AD E.2.2.1 q sh.length) (hP : va_P E.1 vwCl (wd E.2.1 q sh σ) H) (hS : va_S E.2.2.1 X.2.2.2.2.1.heap H locs) (hl : lv_has ls nL lv) :
    va_Run X.1 X.2.1 X.2.2.1 X.2.2.2.1 X.2.2.2.2.1 X.2.2.2.2.2.1 X.2.2.2.2.2.2.1 X.2.2.2.2.2.2.2.1 X.2.2.2.2.2.2.2.2.1 X.2.2.2.2.2.2.2.2.2 H locs ck cs 0 0 (F0 X.2.2.2.2.2.1 pc ls st) rest (Qc As.toArray) E.2.2.1 := by
  obtain ⟨hx, hb, hml, hown, hts, hK, hl0, hr0, hN⟩ := F
  refine va_runS (Ts := lw_g) (ws := tw y bytes maxL ret) (n := As.length) ⟨hx, hb, hml, hown, hts⟩ (by rw [hl0]; exact hM) (va_cwS As.length hts (gi_of ?_) rfl hR.1 hR.2.1 ⟨k.1.2.2.1, k.1.2.2.2.1, k.1.2.2.2.2⟩ (by rw [hr0]; exact hR.2.2)) ⟨PreC.blind, fun U hU hWU => ⟨rfl, by rw [hU]; exact hP, hA, hK.move hS hU hWU, fun a ha => hN a (Nat.le_trans hS.1 (by rw [hU] at ha; exact ha))⟩⟩ rfl rfl hl.1 hst (lv_room hW) d (by rw [hr0]; exact hc)
  intro w hw
  rcases List.mem_append.mp hw with h | h
  · simp only [List.mem_cons, List.not_mem_nil, or_false] at h
    rcases h with rfl | rfl | rfl
    · exact k.2.1
    · exact k.2.2
    · exact k.1.1
  · rcases List.mem_cons.mp h with h | h
    · rw [h]; exact k.1.2.1
    · exact h
theorem run_N (F : Fx X E l cc nL own rm) (hM : Met l y (tw y bytes maxL ret) rm' (PreC E q sh σ As) Qc 0 0 E.2.2.1) (k : CkN own idx y bytes maxL ret As.length) (hR : rmOk rm' maxL rm) (hst : st = As.reverse ++ rest) (hW : (rest.map fun v => v.category).sum ≤ 8) (hc : ck ≤ rm.cells ∧ cs ≤ rm.slots) (d : decode cc pc = .ok (.invokestatic idx, 3)) (hA : AD E.2.2.1 q sh.length) (hP : va_P E.1 vwCl (wd E.2.1 q sh σ) H) (hS : va_S E.2.2.1 X.2.2.2.2.1.heap H locs) (hl : lv_has ls nL lv) :
    va_Run X.1 X.2.1 X.2.2.1 X.2.2.2.1 X.2.2.2.2.1 X.2.2.2.2.2.1 X.2.2.2.2.2.2.1 X.2.2.2.2.2.2.2.1 X.2.2.2.2.2.2.2.2.1 X.2.2.2.2.2.2.2.2.2 H locs ck cs 0 0 (F0 X.2.2.2.2.2.1 pc ls st) rest (Qc As.toArray) E.2.2.1 := by
  obtain ⟨hx, hb, hml, hown, hts, hK, hl0, hr0, hN⟩ := F
  obtain ⟨kB, ⟨host, kl⟩, ks⟩ := k
  exact va_runSN (Ts := lw_g) (ws := tw y bytes maxL ret) (n := As.length) ⟨hx, hb, hml, hown, hts⟩ (by rw [hl0]; exact hM) ⟨va_cnB As.length hts (tw_good kB.2.1) rfl hR.1 hR.2.1 (hK.2.1 _ kl) (hts _ kB.1) ⟨kB.2.2.1, kB.2.2.2.1, kB.2.2.2.2⟩ (by rw [hr0]; exact hR.2.2), hts _ ks, trivial⟩ ⟨PreC.blind, fun U hU hWU => ⟨rfl, by rw [hU]; exact hP, hA, hK.move hS hU hWU, fun a ha => hN a (Nat.le_trans hS.1 (by rw [hU] at ha; exact ha))⟩⟩ rfl rfl hl.1 hst (lv_room hW) d (by rw [hr0]; exact hc)
theorem run_V {c0 ci : Nat} {fs : List (Option (Option Nat))} {cq : vw_C} (F : Fx X E l cc nL own rm) (hM : Met l y (tw y bytes maxL ret) rm' (PreC E q sh σ (.ref (q c0) :: As)) Qc 0 0 E.2.2.1) (k : CkV own idx y bytes maxL ret As.length) (hR : rmOk rm' maxL rm) (h0 : sh[c0]? = some (.inr (ci, fs))) (h1 : vwCl[ci]? = some cq) (h2 : cq.1 = y.cls) (hst : st = As.reverse ++ .ref (q c0) :: rest) (hW : (rest.map fun v => v.category).sum ≤ 8) (hc : ck ≤ rm.cells ∧ cs ≤ rm.slots) (d : decode cc pc = .ok (.invokevirtual idx, 3)) (hA : AD E.2.2.1 q sh.length) (hP : va_P E.1 vwCl (wd E.2.1 q sh σ) H) (hS : va_S E.2.2.1 X.2.2.2.2.1.heap H locs) (hl : lv_has ls nL lv) :
    va_Run X.1 X.2.1 X.2.2.1 X.2.2.2.1 X.2.2.2.2.1 X.2.2.2.2.2.1 X.2.2.2.2.2.2.1 X.2.2.2.2.2.2.2.1 X.2.2.2.2.2.2.2.2.1 X.2.2.2.2.2.2.2.2.2 H locs ck cs 0 0 (F0 X.2.2.2.2.2.1 pc ls st) rest (Qc (Value.ref (q c0) :: As).toArray) E.2.2.1 := by
  obtain ⟨hx, hb, hml, hown, hts, hK, hl0, hr0, hN⟩ := F
  have hrec := va_recv hK.1 hP h1 (wd_at h0)
  rw [h2] at hrec
  refine va_runV (Ts := lw_g) (ws := tw y bytes maxL ret) (n := As.length) (C := y.cls) ⟨hx, hb, hml, hown, hts⟩ (by rw [hl0]; exact hM) (cwV As.length hts (gi_of ?_) rfl hR.1 hR.2.1 ⟨rfl, k.1.2.2.1, k.1.2.2.2.1, k.1.2.2.2.2⟩ (by rw [hr0]; exact hR.2.2)) ⟨PreC.blind, hrec, fun U hU hWU => ⟨rfl, by rw [hU]; exact hP, hA, hK.move hS hU hWU, fun a ha => hN a (Nat.le_trans hS.1 (by rw [hU] at ha; exact ha))⟩⟩ rfl rfl hl.1 hst (lv_room hW) d (by rw [hr0]; exact hc)
  intro w hw
  rcases List.mem_append.mp hw with h | h
  · simp only [List.mem_cons, List.not_mem_nil, or_false] at h
    rcases h with rfl | rfl | rfl | rfl
    · exact k.2.1
    · exact k.2.2.1
    · exact k.2.2.2
    · exact k.1.1
  · rcases List.mem_cons.mp h with h | h
    · rw [h]; exact k.1.2.1
    · exact h
theorem go_i {post : Int → Sg → Prop} {a : Array Value} (hr : va_Run X.1 X.2.1 X.2.2.1 X.2.2.2.1 X.2.2.2.2.1 X.2.2.2.2.2.1 X.2.2.2.2.2.2.1 X.2.2.2.2.2.2.2.1 X.2.2.2.2.2.2.2.2.1 X.2.2.2.2.2.2.2.2.2 H locs ck cs 0 0 (F0 X.2.2.2.2.2.1 pc ls st) rest (QI E q sh post a) E.2.2.1) (hA : AD E.2.2.1 q sh.length) (hS : va_S E.2.2.1 X.2.2.2.2.1.heap H locs) (hl : lv_has ls nL lv) (kk : ∀ (z : Int) (τ : Sg), post z τ → G X E nL q sh τ ck cs Q (pc + 3) lv (vI z :: rest)) :
    W X.1 X.2.1 X.2.2.1 X.2.2.2.1 X.2.2.2.2.1 X.2.2.2.2.2.1 X.2.2.2.2.2.2.1 X.2.2.2.2.2.2.2.1 X.2.2.2.2.2.2.2.2.1 X.2.2.2.2.2.2.2.2.2 H locs ck cs Q (F0 X.2.2.2.2.2.1 pc ls st) := by
  refine va_calli hr hS (fun _ _ h => h) (fun _ h => h) (fun r τ t H1 locs1 ht hvm hp hB hz hk hS1 => ?_)
  obtain ⟨z, rfl, hp⟩ := hp
  exact kk z τ hp hA H1 locs1 ls (by rw [← ht]; exact hB) hS1 hl
theorem go_v {post : Sg → Prop} {a : Array Value} (hr : va_Run X.1 X.2.1 X.2.2.1 X.2.2.2.1 X.2.2.2.2.1 X.2.2.2.2.2.1 X.2.2.2.2.2.2.1 X.2.2.2.2.2.2.2.1 X.2.2.2.2.2.2.2.2.1 X.2.2.2.2.2.2.2.2.2 H locs ck cs 0 0 (F0 X.2.2.2.2.2.1 pc ls st) rest (QV E q sh post a) E.2.2.1) (hA : AD E.2.2.1 q sh.length) (hS : va_S E.2.2.1 X.2.2.2.2.1.heap H locs) (hl : lv_has ls nL lv) (kk : ∀ (τ : Sg), post τ → G X E nL q sh τ ck cs Q (pc + 3) lv rest) :
    W X.1 X.2.1 X.2.2.1 X.2.2.2.1 X.2.2.2.2.1 X.2.2.2.2.2.1 X.2.2.2.2.2.2.1 X.2.2.2.2.2.2.2.1 X.2.2.2.2.2.2.2.2.1 X.2.2.2.2.2.2.2.2.2 H locs ck cs Q (F0 X.2.2.2.2.2.1 pc ls st) := by
  refine va_callv hr hS (fun _ _ h => h) (fun _ h => h) (fun τ t H1 locs1 ht hvm hp hB hz hk hS1 => ?_)
  exact kk τ hp hA H1 locs1 ls (by rw [← ht]; exact hB) hS1 hl
theorem g_Si (F : Fx X E l cc nL own rm) {post : Int → Sg → Prop} (c : CI l E y bytes maxL rt rm' q sh σ As post) (k : CkS own idx y bytes maxL (some rt) As.length) (rest : List Value) (d : At cc pc (.invokestatic idx) 3 pc') (hR : rmOk rm' maxL rm) (hc : ck ≤ rm.cells ∧ cs ≤ rm.slots) (hst : st = As.reverse ++ rest) (hW : (rest.map fun v => v.category).sum ≤ 8) (kk : ∀ (z : Int) (τ : Sg), post z τ → G X E nL q sh τ ck cs Q pc' lv (vI z :: rest)) : G X E nL q sh σ ck cs Q pc lv st := by
  intro hA H locs ls hP hS hl
  obtain ⟨d, rfl⟩ := d
  exact go_i (run_S F c k hR hst hW hc d hA hP hS hl) hA hS hl kk
theorem g_Sv (F : Fx X E l cc nL own rm) {post : Sg → Prop} (c : CV l E y bytes maxL rm' q sh σ As post) (k : CkS own idx y bytes maxL none As.length) (rest : List Value) (d : At cc pc (.invokestatic idx) 3 pc') (hR : rmOk rm' maxL rm) (hc : ck ≤ rm.cells ∧ cs ≤ rm.slots) (hst : st = As.reverse ++ rest) (hW : (rest.map fun v => v.category).sum ≤ 8) (kk : ∀ (τ : Sg), post τ → G X E nL q sh τ ck cs Q pc' lv rest) : G X E nL q sh σ ck cs Q pc lv st := by
  intro hA H locs ls hP hS hl
  obtain ⟨d, rfl⟩ := d
  exact go_v (run_S F c k hR hst hW hc d hA hP hS hl) hA hS hl kk
theorem g_Ni (F : Fx X E l cc nL own rm) {post : Int → Sg → Prop} (c : CI l E y bytes maxL rt rm' q sh σ As post) (k : CkN own idx y bytes maxL (some rt) As.length) (rest : List Value) (d : At cc pc (.invokestatic idx) 3 pc') (hR : rmOk rm' maxL rm) (hc : ck ≤ rm.cells ∧ cs ≤ rm.slots) (hst : st = As.reverse ++ rest) (hW : (rest.map fun v => v.category).sum ≤ 8) (kk : ∀ (z : Int) (τ : Sg), post z τ → G X E nL q sh τ ck cs Q pc' lv (vI z :: rest)) : G X E nL q sh σ ck cs Q pc lv st := by
  intro hA H locs ls hP hS hl
  obtain ⟨d, rfl⟩ := d
  exact go_i (run_N F c k hR hst hW hc d hA hP hS hl) hA hS hl kk
theorem g_Nv (F : Fx X E l cc nL own rm) {post : Sg → Prop} (c : CV l E y bytes maxL rm' q sh σ As post) (k : CkN own idx y bytes maxL none As.length) (rest : List Value) (d : At cc pc (.invokestatic idx) 3 pc') (hR : rmOk rm' maxL rm) (hc : ck ≤ rm.cells ∧ cs ≤ rm.slots) (hst : st = As.reverse ++ rest) (hW : (rest.map fun v => v.category).sum ≤ 8) (kk : ∀ (τ : Sg), post τ → G X E nL q sh τ ck cs Q pc' lv rest) : G X E nL q sh σ ck cs Q pc lv st := by
  intro hA H locs ls hP hS hl
  obtain ⟨d, rfl⟩ := d
  exact go_v (run_N F c k hR hst hW hc d hA hP hS hl) hA hS hl kk
theorem g_Vi (F : Fx X E l cc nL own rm) {c0 ci : Nat} {fs : List (Option (Option Nat))} {cq : vw_C} {post : Int → Sg → Prop} (c : CI l E y bytes maxL rt rm' q sh σ (.ref (q c0) :: As) post) (k : CkV own idx y bytes maxL (some rt) As.length) (h0 : sh[c0]? = some (.inr (ci, fs))) (h1 : vwCl[ci]? = some cq) (h2 : cq.1 = y.cls) (rest : List Value) (d : At cc pc (.invokevirtual idx) 3 pc') (hR : rmOk rm' maxL rm) (hc : ck ≤ rm.cells ∧ cs ≤ rm.slots) (hst : st = As.reverse ++ .ref (q c0) :: rest) (hW : (rest.map fun v => v.category).sum ≤ 8) (kk : ∀ (z : Int) (τ : Sg), post z τ → G X E nL q sh τ ck cs Q pc' lv (vI z :: rest)) : G X E nL q sh σ ck cs Q pc lv st := by
  intro hA H locs ls hP hS hl
  obtain ⟨d, rfl⟩ := d
  exact go_i (run_V F c k hR h0 h1 h2 hst hW hc d hA hP hS hl) hA hS hl kk
theorem g_Vv (F : Fx X E l cc nL own rm) {c0 ci : Nat} {fs : List (Option (Option Nat))} {cq : vw_C} {post : Sg → Prop} (c : CV l E y bytes maxL rm' q sh σ (.ref (q c0) :: As) post) (k : CkV own idx y bytes maxL none As.length) (h0 : sh[c0]? = some (.inr (ci, fs))) (h1 : vwCl[ci]? = some cq) (h2 : cq.1 = y.cls) (rest : List Value) (d : At cc pc (.invokevirtual idx) 3 pc') (hR : rmOk rm' maxL rm) (hc : ck ≤ rm.cells ∧ cs ≤ rm.slots) (hst : st = As.reverse ++ .ref (q c0) :: rest) (hW : (rest.map fun v => v.category).sum ≤ 8) (kk : ∀ (τ : Sg), post τ → G X E nL q sh τ ck cs Q pc' lv rest) : G X E nL q sh σ ck cs Q pc lv st := by
  intro hA H locs ls hP hS hl
  obtain ⟨d, rfl⟩ := d
  exact go_v (run_V F c k hR h0 h1 h2 hst hW hc d hA hP hS hl) hA hS hl kk
end Calls
