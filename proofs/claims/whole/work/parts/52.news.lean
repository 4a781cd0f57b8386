/-! constructors: cells come, references are put -/
def ag (q q1 : Nat → Nat) (n : Nat) : Prop := ∀ i : Nat, i < n → q1 i = q i
theorem ag.refl (q : Nat → Nat) (n : Nat) : ag q q n := fun _ _ => rfl
theorem ag.trans {q q1 q2 : Nat → Nat} {n n' : Nat} (h : ag q q1 n) (h' : ag q1 q2 n') (hn : n ≤ n') : ag q q2 n := fun i hi => (h' i (Nat.lt_of_lt_of_le hi hn)).trans (h i hi)
def rinF (n : Nat) : Option (Option Nat) → Bool
  | some (some k) => decide (k < n)
  | _ => true
def rinS (n : Nat) : Shp → Bool
  | .inl _ => true
  | .inr o => o.2.all (rinF n)
def rin (n : Nat) (sh : List Shp) : Bool := sh.all (rinS n)
theorem flds_ag {q q1 : Nat → Nat} {s : Int → Int} {n : Nat} (h : ag q q1 n) : ∀ (fs : List (Option (Option Nat))) (b : Nat), fs.all (rinF n) = true → flds q1 s b fs = flds q s b fs
  | [], _, _ => rfl
  | f :: fs, b, hr => by
    rw [List.all_cons, Bool.and_eq_true] at hr
    unfold flds
    rw [flds_ag h fs (b + 1) hr.2]
    congr 1
    cases f with
    | none => rfl
    | some g =>
      cases g with
      | none => rfl
      | some k =>
        show Value.ref (q1 k) = Value.ref (q k)
        rw [h k (of_decide_eq_true hr.1)]
theorem cellOf_ag {cI : ClassId} {q q1 : Nat → Nat} {s : Int → Int} {n : Nat} (h : ag q q1 n) : ∀ x : Shp, rinS n x = true → cellOf cI q1 s x = cellOf cI q s x
  | .inl _, _ => rfl
  | .inr o, hr => by
    show (Sum.inr (o.1, flds q1 s 0 o.2) : va_E) = Sum.inr (o.1, flds q s 0 o.2)
    rw [flds_ag h o.2 0 hr]
theorem wd_ag {cI : ClassId} {q q1 : Nat → Nat} {sh : List Shp} {σ : Sg} (h : ag q q1 sh.length) (hr : rin sh.length sh = true) : wd cI q1 sh σ = wd cI q sh σ := by
  apply List.ext_getElem?
  intro k
  rw [wd_get, wd_get]
  cases hs : sh[k]? with
  | none => rfl
  | some x =>
    obtain ⟨hk, ex⟩ := List.getElem?_eq_some_iff.mp hs
    have hx : rinS sh.length x = true := List.all_eq_true.mp hr x (by rw [← ex]; exact List.getElem_mem hk)
    show some (q1 k, cellOf cI q1 (σ k) x) = some (q k, cellOf cI q (σ k) x)
    rw [h k hk, cellOf_ag h x hx]
theorem AD.of {A : Nat → Prop} {cI : ClassId} {q : Nat → Nat} {sh : List Shp} {σ : Sg} (h : va_D A (wd cI q sh σ)) : AD A q sh.length := by
  have key : ∀ i : Nat, i < sh.length → ∃ e, (wd cI q sh σ)[i]? = some (q i, e) := by
    intro i hi
    exact ⟨_, wd_at (List.getElem?_eq_getElem hi)⟩
  refine ⟨fun i j hi hj e => ?_, fun i hi => ?_⟩
  · obtain ⟨x, hx⟩ := key i hi
    obtain ⟨y, hy⟩ := key j hj
    exact h.1 i j _ _ hx hy e
  · obtain ⟨x, hx⟩ := key i hi
    exact h.2 i _ hx
def ext (q : Nat → Nat) (n a : Nat) : Nat → Nat := fun k => if k = n then a else q k
theorem ext_ag (q : Nat → Nat) (n a : Nat) : ag q (ext q n a) n := fun i hi => by unfold ext; rw [if_neg (by omega)]
theorem ext_n (q : Nat → Nat) (n a : Nat) : ext q n a n = a := by unfold ext; rw [if_pos rfl]
theorem wd_new {cI : ClassId} {q : Nat → Nat} {sh : List Shp} {σ : Sg} {a : Nat} {s : Shp} (hr : rin sh.length sh = true) : wd cI (ext q sh.length a) (sh ++ [s]) σ = wd cI q sh σ ++ [(a, cellOf cI (ext q sh.length a) (σ sh.length) s)] := by
  rw [wd_push, wd_ag (ext_ag q sh.length a) hr, ext_n]
section News
variable {X : Cx} {E : Ev} {l : Launch} {cc : ByteArray} {nL : Nat} {own : String} {rm : Room} {q : Nat → Nat} {sh : List Shp} {σ : Sg} {ck cs : Nat} {Q : State → Prop} {pc pc' : Nat} {lv : List (Nat × Value)} {st : List Value}
theorem g_newa (F : Fx X E l cc nL own rm) {n : Nat} (hw : Cond.arrayClass .int ∈ lw_g) (hn : n ≤ 4000) (hr : rin sh.length sh = true) (hz : ∀ j, σ sh.length j = 0) (hck : ck + 1 ≤ rm.cells) (hcs : cs + n ≤ rm.slots) (d : At cc pc (.newarray .int) 2 pc')
    (k : ∀ q1 : Nat → Nat, ag q q1 sh.length → G X E nL q1 (sh ++ [.inl n]) σ (ck + 1) (cs + n) Q pc' lv (.ref (q1 sh.length) :: st)) : G X E nL q sh σ ck cs Q pc lv (vI (n : Int) :: st) := by
  intro hA H locs ls hP hS hl
  obtain ⟨d, rfl⟩ := d
  have e1 : iI (n : Int) = nI n := iI_nat n
  have hK := F.2.2.2.2.2.1.1
  refine va_newa (atype := .int) (ty := .int) (N' := n) (a0 := (n, .inl (fun _ => 0))) F.1 F.2.1 (F.2.2.2.2.1 _ hw) rfl hK hP (hA.D E.2.1 σ) hS F.2.2.2.2.2.2.2.2 (fun cA => rfl) (by rw [e1]; exact nI_pos (by omega)) (by rw [e1]; exact nI_clamp (by omega)) (by show n * 4 ≤ _; omega) (by rw [F.2.2.2.2.2.2.2.1]; exact hck) (by rw [F.2.2.2.2.2.2.2.1]; exact hcs) d ?_
  intro a cA H1 hK1 hP1 hD1 hS1
  have hcA : cA = E.2.1 := by
    have h1 := (hK1.2 0 (E.2.1, .int) rfl).2
    have h2 := (hK1.2 1 (cA, .int) rfl).2
    exact Option.some.inj (h2.symm.trans h1)
  subst hcA
  have ec : cellOf E.2.1 (ext q sh.length a) (σ sh.length) (.inl n) = (Sum.inl (E.2.1, (n, .inl (fun _ => 0))) : va_E) := by
    show (Sum.inl (E.2.1, (n, .inl (fun j : Nat => iI (σ sh.length (j : Int))))) : va_E) = _
    have : (fun j : Nat => iI (σ sh.length (j : Int))) = fun _ => 0 := by funext j; rw [hz]; rfl
    rw [this]
  have ew : wd E.2.1 (ext q sh.length a) (sh ++ [.inl n]) σ = wd E.2.1 q sh σ ++ [(a, Sum.inl (E.2.1, (n, .inl (fun _ => 0))))] := by rw [wd_new hr, ec]
  have hA1 : AD E.2.2.1 (ext q sh.length a) (sh ++ [(Sum.inl n : Shp)]).length := AD.of (cI := E.2.1) (σ := σ) (by rw [ew]; exact hD1)
  have hk := k (ext q sh.length a) (ext_ag _ _ _) hA1 H1 locs ls (by rw [ew]; exact hP1) hS1 hl
  rw [ext_n] at hk
  exact hk
theorem g_new (F : Fx X E l cc nL own rm) {idx ci N : Nat} {C : String} {T : u_T} {ty : Nat → FieldType} {fs : List (Option (Option Nat))} (K : Kl ci C T N ty) (hcl : Cond.classLink own idx C ∈ lw_g) (hinst : Cond.instantiable C N ∈ lw_g) (hini : Cond.initialized C ∈ lw_g) (hr : rin sh.length sh = true) (hz : ∀ j, σ sh.length j = 0) (hf : fs.all (rinF 0) = true)
    (hfs : ∀ j, j < N → defaultValue (ty j) = vp_V (flds (fun _ => 0) (fun _ => 0) 0 fs) j) (hck : ck + 1 ≤ rm.cells) (hcs : cs + N ≤ rm.slots) (d : At cc pc (.new idx) 3 pc')
    (k : ∀ q1 : Nat → Nat, ag q q1 sh.length → G X E nL q1 (sh ++ [.inr (ci, fs)]) σ (ck + 1) (cs + N) Q pc' lv (.ref (q1 sh.length) :: st)) : G X E nL q sh σ ck cs Q pc lv st := by
  intro hA H locs ls hP hS hl
  obtain ⟨d, rfl⟩ := d
  have hK := F.2.2.2.2.2.1.1
  refine va_new (ci := ci) (fs := flds (fun _ => 0) (fun _ => 0) 0 fs) F.1 F.2.1 F.2.2.2.2.1 K.2.1 ty K.2.2.1 F.2.2.2.1 (F.2.2.2.2.1 _ hcl) (F.2.2.2.2.1 _ hinst) (F.2.2.2.2.1 _ hini) hK hP (hA.D E.2.1 σ) hS F.2.2.2.2.2.2.2.2 K.1 hfs (by rw [F.2.2.2.2.2.2.2.1]; exact hck) (by rw [F.2.2.2.2.2.2.2.1]; exact hcs) d ?_
  intro a H1 hP1 hD1 hS1
  have ec : cellOf E.2.1 (ext q sh.length a) (σ sh.length) (.inr (ci, fs)) = (Sum.inr (ci, flds (fun _ => 0) (fun _ => 0) 0 fs) : va_E) := by
    show (Sum.inr (ci, flds (ext q sh.length a) (σ sh.length) 0 fs) : va_E) = _
    have : σ sh.length = fun _ => 0 := by funext j; exact hz j
    rw [this, flds_ag (q := fun _ => 0) (q1 := ext q sh.length a) (n := 0) (fun i hi => absurd hi (Nat.not_lt_zero _)) fs 0 hf]
  have ew : wd E.2.1 (ext q sh.length a) (sh ++ [.inr (ci, fs)]) σ = wd E.2.1 q sh σ ++ [(a, Sum.inr (ci, flds (fun _ => 0) (fun _ => 0) 0 fs))] := by rw [wd_new hr, ec]
  have hA1 : AD E.2.2.1 (ext q sh.length a) (sh ++ [(Sum.inr (ci, fs) : Shp)]).length := AD.of (cI := E.2.1) (σ := σ) (by rw [ew]; exact hD1)
  have hk := k (ext q sh.length a) (ext_ag _ _ _) hA1 H1 locs ls (by rw [ew]; exact hP1) hS1 hl
  rw [ext_n] at hk
  exact hk
theorem g_putR (F : Fx X E l cc nL own rm) (hin : X.2.2.2.2.2.2.2.2.1.name = "<init>") {c c' idx ci i N : Nat} {C : String} {T : u_T} {ty : Nat → FieldType} {fs : List (Option (Option Nat))} (L : Fl own idx ci i C T N ty) (d : At cc pc (.putfield idx) 3 pc') (hc : sh[c]? = some (.inr (ci, fs))) (hi : i < fs.length) (hfin : (T i).2.2.2 = true) (hdecl : (T i).1 = own) (hn : narrow (ty i) (.ref (q c')) = .ref (q c')) (hfit : fits (ty i) (.ref (q c')) = true)
    (k : G X E nL q (sh.set c (.inr (ci, fs.set i (some (some c'))))) σ ck cs Q pc' lv st) : G X E nL q sh σ ck cs Q pc lv (.ref (q c') :: .ref (q c) :: st) := by
  intro hA H locs ls hP hS hl
  obtain ⟨d, rfl⟩ := d
  have hcl := (List.getElem?_eq_some_iff.mp hc).1
  refine va_putF F.1 F.2.1 F.2.2.2.2.1 L.1.2.1 ty L.1.2.2.1 L.1.2.2.2 F.2.2.2.1 F.2.2.2.2.2.1.1 hP (hA.D E.2.1 σ) hS c (wd_at hc) L.1.1 i L.2.1 (F.2.2.2.2.1 _ L.2.2) (fun _ h => h) hfin hin hdecl (L.1.2.2.1 i L.2.1) hn hfit (by rw [flds_len]; exact hi) d (fun H1 locs1 hP1 _ hS1 => k (by rw [List.length_set]; exact hA) H1 locs1 ls ?_ hS1 hl)
  rw [← wd_setS hcl]
  rw [flds_setR hi] at hP1
  exact hP1
theorem g_obj (F : Fx X E l cc nL own rm) {idx c : Nat} (hw : Cond.methodLink own idx Lib.objectInit ∈ lw_g) (h1 : Cond.instanceMethod Lib.objectInit ∈ lw_g) (h2 : Cond.code Lib.objectInit ⟨#[0xb1]⟩ 1 none ∈ lw_g) (hfr : 1 ≤ rm.frames) (hlo : 12 ≤ rm.locals) (d : At cc pc (.invokespecial idx) 3 pc')
    (k : G X E nL q sh σ ck cs Q pc' lv []) : G X E nL q sh σ ck cs Q pc lv [.ref (q c)] := by
  intro hA H locs ls hP hS hl
  obtain ⟨d, rfl⟩ := d
  exact W.objInit F.1 F.2.1 F.2.2.2.1 (F.2.2.2.2.1 _ hw) (F.2.2.2.2.1 _ h1) (F.2.2.2.2.1 _ h2) rfl (by rw [F.2.2.1]; exact hl.1) rfl d (by rw [F.2.2.2.2.2.2.2.1]; exact hfr) (by rw [F.2.2.2.2.2.2.2.1]; exact hlo) (k hA H locs ls hP hS hl)
end News
/-- a constructor's contract -/
def QN (E : Ev) (q : Nat → Nat) (sh sh' : List Shp) (post : Sg → Prop) : Array Value → State → Outcome → State → Prop := va_Qv (S := (Nat → Nat) × Sg) (fun u => ag q u.1 sh.length ∧ post u.2) (fun u t => AD E.2.2.1 u.1 sh'.length ∧ va_P E.1 vwCl (wd E.2.1 u.1 sh' u.2) t.heap) E.2.2.1
def CN (l : Launch) (E : Ev) (y : MethodName) (cc : ByteArray) (n : Nat) (rm : Room) (q : Nat → Nat) (sh : List Shp) (σ : Sg) (As : List Value) (mc ms : Nat) (sh' : List Shp) (post : Sg → Prop) : Prop :=
  Met l y (tw y cc n none) rm (PreC E q sh σ As) (QN E q sh sh' post) mc ms E.2.2.1
theorem CN_of {l : Launch} {E : Ev} {y : MethodName} {cc : ByteArray} {n : Nat} {rm : Room} {q : Nat → Nat} {sh sh' : List Shp} {σ : Sg} {As : List Value} {mc ms : Nat} {post : Sg → Prop} {own : String} (hy : plainName y.cls = true) (ho : y.cls = own) (hi : y.name = "<init>") (hlen : (lg_sl As).length ≤ n)
    (h : ∀ (X : Cx) (Q : State → Prop), Fx X E l cc n own rm → X.2.2.2.2.2.2.2.2.1.name = "<init>" → (∀ {pc : Nat} {lv : List (Nat × Value)} {τ : Sg} {q1 : Nat → Nat}, Go cc pc .return_ 1 → ag q q1 sh.length → post τ → G X E n q1 sh' τ mc ms Q pc lv []) → G X E n q sh σ 0 0 Q 0 (lv_args 0 As) []) : CN l E y cc n rm q sh σ As mc ms sh' post := by
  refine Met.ofW (cc := cc) (maxL := n) (ret := none) hy rfl ?_
  intro p e s m args below meth c s₁ B hml hv
  obtain ⟨rfl, hP, hA, hK, hN⟩ := hv
  have hx := B.exec
  have hb := B.bytes
  have hr := B.returns
  have hts := atoms_spec (ws := tw y cc n none) B.pre
  have hown : s.vm.findClass y.cls = some m.cls := findClass_of_methodNamed B.named
  have hlocks := B.notSynchronized
  have hname : meth.name = "<init>" := (name_of_methodNamed B.named B.method).1.trans hi
  have F : Fx (p, l, e, rm, s, m, As.toArray, below, meth, c) E l cc n own rm := ⟨hx, hb, hml, by rw [← ho]; exact hown, fun w hw => hts w (List.mem_cons_of_mem _ hw), hK, rfl, rfl, hN⟩
  have hl := lv_entry As (n := n) hlen
  rw [lg_entry_eq]
  generalize (lg_sl As ++ List.replicate (n - (lg_sl As).length) Slot.unset).toArray = ls at hl ⊢
  refine h (p, l, e, rm, s, m, As.toArray, below, meth, c) _ F hname ?_ hA s.heap [] ls hP va_S.rf hl
  intro pc lv τ q1 d ha hp hA2 H locs ls2 hP2 hS2 hl2
  exact W.vret hx hb hr (fun t ht hW => ⟨⟨(q1, τ), rfl, ⟨ha, hp⟩, hA2, by show va_P _ _ _ t.heap; rw [ht]; exact hP2⟩, hS2.F ht⟩) hS2.2.2 d
def CkI (own : String) (idx : Nat) (y : MethodName) (cc : ByteArray) (n k : Nat) : Prop := CkB y cc n none k ∧ Cond.methodLink own idx y ∈ lw_g ∧ Cond.instanceMethod y ∈ lw_g ∧ y.name = "<init>"
def CkIN (own : String) (idx : Nat) (y : MethodName) (cc : ByteArray) (n k : Nat) : Prop := CkB y cc n none k ∧ (∃ host, Cond.methodLinkNest own idx y host ∈ nws) ∧ Cond.instanceMethod y ∈ lw_g ∧ y.name = "<init>"
def rmN (rm' : Room) (mc ms n : Nat) (rm : Room) : Prop := rm'.cells = mc ∧ rm'.slots = ms ∧ rm'.frames + 1 ≤ rm.frames ∧ 8 + (n + 11) + rm'.locals ≤ rm.locals
section Inits
variable {X : Cx} {E : Ev} {l : Launch} {cc : ByteArray} {nL : Nat} {own : String} {rm : Room} {q : Nat → Nat} {sh sh' : List Shp} {σ : Sg} {ck cs mc ms : Nat} {Q : State → Prop} {pc pc' : Nat} {lv : List (Nat × Value)} {st rest : List Value} {H : Heap} {locs : List Loc} {ls : Array Slot} {y : MethodName} {bytes : ByteArray} {maxL idx : Nat} {rm' : Room} {As : List Value} {post : Sg → Prop}
theorem go_n {a : Array Value} (hr : va_Run X.1 X.2.1 X.2.2.1 X.2.2.2.1 X.2.2.2.2.1 X.2.2.2.2.2.1 X.2.2.2.2.2.2.1 X.2.2.2.2.2.2.2.1 X.2.2.2.2.2.2.2.2.1 X.2.2.2.2.2.2.2.2.2 H locs ck cs mc ms (F0 X.2.2.2.2.2.1 pc ls st) rest (QN E q sh sh' post a) E.2.2.1) (hS : va_S E.2.2.1 X.2.2.2.2.1.heap H locs) (hl : lv_has ls nL lv) (kk : ∀ (q1 : Nat → Nat) (τ : Sg), ag q q1 sh.length → post τ → G X E nL q1 sh' τ (ck + mc) (cs + ms) Q (pc + 3) lv rest) :
    W X.1 X.2.1 X.2.2.1 X.2.2.2.1 X.2.2.2.2.1 X.2.2.2.2.2.1 X.2.2.2.2.2.2.1 X.2.2.2.2.2.2.2.1 X.2.2.2.2.2.2.2.2.1 X.2.2.2.2.2.2.2.2.2 H locs ck cs Q (F0 X.2.2.2.2.2.1 pc ls st) := by
  refine va_callv hr hS (fun _ _ h => h) (fun _ h => h) (fun u t H1 locs1 ht hvm hp hB hz hk hS1 => ?_)
  exact kk u.1 u.2 hp.1 hp.2 hB.1 H1 locs1 ls (by rw [← ht]; exact hB.2) hS1 hl
theorem g_I (F : Fx X E l cc nL own rm) {c0 : Nat} (c : CN l E y bytes maxL rm' q sh σ (.ref (q c0) :: As) mc ms sh' post) (k : CkI own idx y bytes maxL As.length) (rest : List Value) (d : At cc pc (.invokespecial idx) 3 pc') (hR : rmN rm' mc ms maxL rm) (hc : ck + mc ≤ rm.cells ∧ cs + ms ≤ rm.slots) (hst : st = As.reverse ++ .ref (q c0) :: rest) (hW : (rest.map fun v => v.category).sum ≤ 8) (kk : ∀ (q1 : Nat → Nat) (τ : Sg), ag q q1 sh.length → post τ → G X E nL q1 sh' τ (ck + mc) (cs + ms) Q pc' lv rest) : G X E nL q sh σ ck cs Q pc lv st := by
  intro hA H locs ls hP hS hl
  obtain ⟨d, rfl⟩ := d
  obtain ⟨hx, hb, hml, hown, hts, hK, hl0, hr0, hN⟩ := F
  refine go_n (a := (Value.ref (q c0) :: As).toArray) (va_runI (Ts := lw_g) (ws := tw y bytes maxL none) (n := As.length) (b := q c0) (As := As) ⟨hx, hb, hml, hown, hts⟩ (by rw [hl0]; exact c) (cwI As.length hts (tw_good k.1.2.1) rfl hR.1 hR.2.1 (hts _ k.1.1) (hts _ k.2.1) (hts _ k.2.2.1) k.2.2.2 ⟨k.1.2.2.1, k.1.2.2.2.1, k.1.2.2.2.2⟩ (by rw [hr0]; exact hR.2.2)) ⟨PreC.blind, fun U hU hWU => ⟨rfl, by rw [hU]; exact hP, hA, hK.move hS hU hWU, fun a ha => hN a (Nat.le_trans hS.1 (by rw [hU] at ha; exact ha))⟩⟩ rfl rfl hl.1 hst (lv_room hW) d (by rw [hr0]; exact hc)) hS hl kk
theorem g_IN (F : Fx X E l cc nL own rm) {c0 : Nat} (c : CN l E y bytes maxL rm' q sh σ (.ref (q c0) :: As) mc ms sh' post) (k : CkIN own idx y bytes maxL As.length) (rest : List Value) (d : At cc pc (.invokespecial idx) 3 pc') (hR : rmN rm' mc ms maxL rm) (hc : ck + mc ≤ rm.cells ∧ cs + ms ≤ rm.slots) (hst : st = As.reverse ++ .ref (q c0) :: rest) (hW : (rest.map fun v => v.category).sum ≤ 8) (kk : ∀ (q1 : Nat → Nat) (τ : Sg), ag q q1 sh.length → post τ → G X E nL q1 sh' τ (ck + mc) (cs + ms) Q pc' lv rest) : G X E nL q sh σ ck cs Q pc lv st := by
  intro hA H locs ls hP hS hl
  obtain ⟨d, rfl⟩ := d
  obtain ⟨hx, hb, hml, hown, hts, hK, hl0, hr0, hN⟩ := F
  obtain ⟨kB, ⟨host, kl⟩, ki, kn⟩ := k
  refine go_n (a := (Value.ref (q c0) :: As).toArray) (va_runIN (Ts := lw_g) (ws := tw y bytes maxL none) (n := As.length) (b := q c0) (As := As) ⟨hx, hb, hml, hown, hts⟩ (by rw [hl0]; exact c) ⟨va_cnB As.length hts (tw_good kB.2.1) rfl hR.1 hR.2.1 (hK.2.1 _ kl) (hts _ kB.1) ⟨kB.2.2.1, kB.2.2.2.1, kB.2.2.2.2⟩ (by rw [hr0]; exact hR.2.2), kn, hts _ ki⟩ ⟨PreC.blind, fun U hU hWU => ⟨rfl, by rw [hU]; exact hP, hA, hK.move hS hU hWU, fun a ha => hN a (Nat.le_trans hS.1 (by rw [hU] at ha; exact ha))⟩⟩ rfl rfl hl.1 hst (lv_room hW) d (by rw [hr0]; exact hc)) hS hl kk
end Inits
