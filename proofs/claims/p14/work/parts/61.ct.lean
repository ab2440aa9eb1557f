section
/-! ===== an exception caught by the first or the second row of the method's table ===== -/
theorem ct_find {e : Env} {s : State} {f : JFrame} {a : Addr} {meth : Method} {code : Code} (hm : s.vm.method? f.method = some meth) (hc : meth.code = some code) {x : ExceptionTableEntry} {rest : List ExceptionTableEntry} (hsplit : code.exceptionTable.toList = x :: rest)
    (hx : covers x f.pc = true) (h0 : x.catchType ≠ 0) {k : ClassId} {cell : Cell} (hl : s.vm.ClassLinks e.platform f.method.cls x.catchType k) (hcell : s.heap[a]? = some cell) (hobj : ∀ q, cell.vm ≠ .statics q)
    (hk1 : ∃ q, s.vm.classes[cell.cls]? = some q) (hk2 : ∃ q, s.vm.classes[k]? = some q) (hfit : s.vm.assignable cell.cls k = true) (Q : Handler → Pre) (E : CtlPost) (d : Bool) (acts : List Action) :
    wp (findHandler f a) Q E e d acts s ↔ Q (.found x.handlerPc) d acts (s.setVm (s.vm.noted f.method.cls x.catchType (.cls k))) := by
  have hal : s.vm.Alike (s.vm.noted f.method.cls x.catchType (.cls k)) := (Vm.Alike.refl s.vm).noted _ _ _
  obtain ⟨g1, g2⟩ := (resolveClass_links e.toSetting hl).op (op := VmOp.resolveClass f.method.cls x.catchType) rfl
  obtain ⟨q1, hq1⟩ := hk1
  obtain ⟨q2, hq2⟩ := hk2
  obtain ⟨q3, hq3, -⟩ := hal.2.2 _ _ hq1
  obtain ⟨q4, hq4, -⟩ := hal.2.2 _ _ hq2
  have hfit2 : (s.vm.noted f.method.cls x.catchType (.cls k)).assignable cell.cls k = true := by rw [hal.assignable]; exact hfit
  rw [W.findHandler_eq hm hc, hsplit]
  simp only [covers] at hx
  simp [findHandler.go, hx, h0, g1, g2, hcell, hobj, hq3, hq4, hfit2, VmOp.dirties, VmOp.acts]
theorem ct_find2 {e : Env} {s : State} {f : JFrame} {a : Addr} {meth : Method} {code : Code} (hm : s.vm.method? f.method = some meth) (hc : meth.code = some code) {x y : ExceptionTableEntry} {rest : List ExceptionTableEntry} (hsplit : code.exceptionTable.toList = x :: y :: rest)
    (hx : covers x f.pc = true) (h0 : x.catchType ≠ 0) (hy : covers y f.pc = true) (h1 : y.catchType ≠ 0) {k1 k : ClassId} {cell : Cell} (hl1 : s.vm.ClassLinks e.platform f.method.cls x.catchType k1) (hl : (s.vm.noted f.method.cls x.catchType (.cls k1)).ClassLinks e.platform f.method.cls y.catchType k) (hcell : s.heap[a]? = some cell) (hobj : ∀ q, cell.vm ≠ .statics q)
    (hk0 : ∃ q, s.vm.classes[cell.cls]? = some q) (hk1 : ∃ q, s.vm.classes[k1]? = some q) (hk2 : ∃ q, s.vm.classes[k]? = some q) (hno : s.vm.assignable cell.cls k1 = false) (hfit : s.vm.assignable cell.cls k = true) (Q : Handler → Pre) (E : CtlPost) (d : Bool) (acts : List Action) :
    wp (findHandler f a) Q E e d acts s ↔ Q (.found y.handlerPc) d acts (s.setVm ((s.vm.noted f.method.cls x.catchType (.cls k1)).noted f.method.cls y.catchType (.cls k))) := by
  have hal1 : s.vm.Alike (s.vm.noted f.method.cls x.catchType (.cls k1)) := (Vm.Alike.refl s.vm).noted _ _ _
  have hal2 : s.vm.Alike ((s.vm.noted f.method.cls x.catchType (.cls k1)).noted f.method.cls y.catchType (.cls k)) := hal1.noted _ _ _
  obtain ⟨g1, g2⟩ := (resolveClass_links e.toSetting hl1).op (op := VmOp.resolveClass f.method.cls x.catchType) rfl
  obtain ⟨g3, g4⟩ := (resolveClass_links e.toSetting hl).op (op := VmOp.resolveClass f.method.cls y.catchType) rfl
  obtain ⟨q0, hq0⟩ := hk0
  obtain ⟨q1, hq1⟩ := hk1
  obtain ⟨q2, hq2⟩ := hk2
  obtain ⟨r1, hr1, -⟩ := hal1.2.2 _ _ hq0
  obtain ⟨r2, hr2, -⟩ := hal1.2.2 _ _ hq1
  obtain ⟨r3, hr3, -⟩ := hal2.2.2 _ _ hq0
  obtain ⟨r4, hr4, -⟩ := hal2.2.2 _ _ hq2
  have hn1 : (s.vm.noted f.method.cls x.catchType (.cls k1)).assignable cell.cls k1 = false := by rw [hal1.assignable]; exact hno
  have hf2 : ((s.vm.noted f.method.cls x.catchType (.cls k1)).noted f.method.cls y.catchType (.cls k)).assignable cell.cls k = true := by rw [hal2.assignable]; exact hfit
  rw [W.findHandler_eq hm hc, hsplit]
  simp only [covers] at hx hy
  simp [findHandler.go, hx, h0, hy, h1, g1, g2, g3, g4, hcell, hobj, hr1, hr2, hr3, hr4, hn1, hf2, VmOp.dirties, VmOp.acts]
  exact Iff.rfl
theorem ct_thr {e : Env} {s : State} {f : JFrame} {a : Addr} {r : List Frame} {pc : Nat} {vm' : Vm} (hfind : ∀ (Q : Handler → Pre) (E : CtlPost) (d : Bool) (acts : List Action), wp (findHandler f a) Q E e d acts s ↔ Q (.found pc) d acts (s.setVm vm')) :
    (stepThrowing e s a (.java f :: r)).1 = (s.setVm vm').setFrames (.java { f with pc := pc, stack := [.ref a] } :: r) := by
  simp only [stepThrowing, searchFrame, vmDo]
  generalize hr : Sem.go _ e false [] s = res
  obtain ⟨as, rfl, -⟩ := Sem.eq_ok_of hr (a := Handler.found pc) (s' := s.setVm vm') (acts' := []) (by simp [hfind])
  rfl
theorem ct_fr (u : State) (vm' : Vm) (F G : List Frame) : ((u.setFrames F).setVm vm').setFrames G = (u.setVm vm').setFrames G := by
  show ((u.setVm vm').setFrames F).setFrames G = (u.setVm vm').setFrames G
  rw [State.setFrames_setFrames]
section CT
variable {p : Program} {l : Launch} {e : Env} {R : Room} {s : State} {m : MethodId} {args : Array Value} {below : List Frame} {meth : Method} {c : Code} {H : Heap} {locs : List Loc} {cells slots : Nat} {Q : State → Prop}
theorem ct_catch {own name E : String} {ce : Cell} {q : Addr} {pc : Nat} {ls : Array Slot} {rest : List Value} (hown : s.vm.findClass own = some m.cls) {x : ExceptionTableEntry} {suf : List ExceptionTableEntry} (hsplit : c.exceptionTable.toList = x :: suf) (hx : covers x pc = true) (h0 : x.catchType ≠ 0)
    (hlink : (Cond.classLink own x.catchType name).before args s = true) (hcast : (Cond.castable E name).before args s = true) (hcell : H[q]? = some ce) (hv : ce.vm = .none) (hcl : s.vm.findClass E = some ce.cls)
    (kk : W p l e R s m args below meth c H locs cells slots Q (F0 m x.handlerPc ls [.ref q])) : vx_W p l e R s m args below meth c H locs cells slots Q (F0 m pc ls rest) q := by
  intro T hT X
  have hpl : e.platform.magicAccessors = ({} : Platform).magicAccessors := by rw [X.admits.platform]
  obtain ⟨c3, c4, hc3, hc4, hasg⟩ := Cond.castable_spec hcast
  cases Option.some.inj (hc3.symm.trans hcl)
  obtain ⟨c5, hc5, hcl5⟩ := Cond.classLink_spec hown hlink e.platform hpl
  cases Option.some.inj (hc4.symm.trans hc5)
  obtain ⟨dk, _, _, kt, hd, _, _, _, _, hkt, _, hopen⟩ := hcl5.here
  have hal := X.warmed.alike
  have hWn : s.WarmedH (T.vm.noted m.cls x.catchType (.cls c4)) := X.warmed.noted hd hopen (State.rightAt_cls hcl5)
  obtain ⟨k9, h9, -⟩ := Vm.findClass_spec hcl
  obtain ⟨k9', h9', -⟩ := hal.2.2 _ _ h9
  obtain ⟨kt', hkt', -⟩ := hal.2.2 _ _ hkt
  have hfit : T.vm.assignable ce.cls c4 = true := by rw [hal.assignable]; exact hasg
  obtain ⟨t, a1, b1⟩ := kk (T.setVm (T.vm.noted m.cls x.catchType (.cls c4))) hT (X.noted hWn)
  refine ⟨t, ?_, b1⟩
  have hfind := ct_find (e := e) (s := ((T.setTop (F0 m pc ls rest)).pushFrame (.throwing q))) (f := F0 m pc ls rest) (a := q) (meth := meth) (code := c) X.method' X.code hsplit hx h0 (k := c4) (cell := ce) (X.warmed.classLinks hcl5) (by show T.heap[q]? = some ce; rw [hT]; exact hcell) (fun k h => by rw [hv] at h; cases h) ⟨k9', h9'⟩ ⟨kt', hkt'⟩ hfit
  have hAt : At T (F0 m pc ls rest).method c below := X.here
  obtain ⟨hgo, hw⟩ := hAt.throwing q
  refine Steps.head hgo hw ?_
  rw [stepThread_throwing (frames_entered hAt.top _), ct_thr hfind]
  obtain ⟨g₀, hg⟩ := Option.isSome_iff_exists.mp hAt.top
  obtain ⟨r, hr⟩ := State.topJava?_eq_some.mp hg
  have hr' : (T.setVm (T.vm.noted m.cls x.catchType (.cls c4))).frames = .java g₀ :: r := hr
  rw [State.setTop_of_frames _ hr'] at a1
  rw [hr, List.tail_cons, State.pushFrame, ct_fr, State.setTop_of_frames _ hr, ct_fr]
  exact a1
theorem ct_catch2 {own name1 name E : String} {ce : Cell} {q : Addr} {pc : Nat} {ls : Array Slot} {rest : List Value} (hown : s.vm.findClass own = some m.cls) {x y : ExceptionTableEntry} {suf : List ExceptionTableEntry} (hsplit : c.exceptionTable.toList = x :: y :: suf) (hx : covers x pc = true) (h0 : x.catchType ≠ 0) (hy : covers y pc = true) (h1 : y.catchType ≠ 0)
    (hlink1 : (Cond.classLink own x.catchType name1).before args s = true) (hlink : (Cond.classLink own y.catchType name).before args s = true) (hno : va_Nc E name1 s) (hcast : (Cond.castable E name).before args s = true) (hcell : H[q]? = some ce) (hv : ce.vm = .none) (hcl : s.vm.findClass E = some ce.cls)
    (kk : W p l e R s m args below meth c H locs cells slots Q (F0 m y.handlerPc ls [.ref q])) : vx_W p l e R s m args below meth c H locs cells slots Q (F0 m pc ls rest) q := by
  intro T hT X
  have hpl : e.platform.magicAccessors = ({} : Platform).magicAccessors := by rw [X.admits.platform]
  obtain ⟨c3, c4, hc3, hc4, hasg⟩ := Cond.castable_spec hcast
  cases Option.some.inj (hc3.symm.trans hcl)
  obtain ⟨c5, hc5, hcl5⟩ := Cond.classLink_spec hown hlink e.platform hpl
  cases Option.some.inj (hc4.symm.trans hc5)
  obtain ⟨n3, n4, hn3, hn4, hnas⟩ := hno
  cases Option.some.inj (hn3.symm.trans hcl)
  obtain ⟨n5, hn5, hnl⟩ := Cond.classLink_spec hown hlink1 e.platform hpl
  cases Option.some.inj (hn4.symm.trans hn5)
  obtain ⟨dk1, _, _, kt1, hd1, _, _, _, _, hkt1, _, hopen1⟩ := hnl.here
  obtain ⟨dk, _, _, kt, hd, _, _, _, _, hkt, _, hopen⟩ := hcl5.here
  have hal := X.warmed.alike
  have hWn1 : s.WarmedH (T.vm.noted m.cls x.catchType (.cls n4)) := X.warmed.noted hd1 hopen1 (State.rightAt_cls hnl)
  have hWn : s.WarmedH ((T.vm.noted m.cls x.catchType (.cls n4)).noted m.cls y.catchType (.cls c4)) := hWn1.noted hd hopen (State.rightAt_cls hcl5)
  obtain ⟨k9, h9, -⟩ := Vm.findClass_spec hcl
  obtain ⟨k9', h9', -⟩ := hal.2.2 _ _ h9
  obtain ⟨kt', hkt', -⟩ := hal.2.2 _ _ hkt
  obtain ⟨kt1', hkt1', -⟩ := hal.2.2 _ _ hkt1
  have hfit : T.vm.assignable ce.cls c4 = true := by rw [hal.assignable]; exact hasg
  have hnf : T.vm.assignable ce.cls n4 = false := by rw [hal.assignable]; exact hnas
  have X1 := X.noted hWn1
  obtain ⟨t, a1, b1⟩ := kk ((T.setVm (T.vm.noted m.cls x.catchType (.cls n4))).setVm ((T.vm.noted m.cls x.catchType (.cls n4)).noted m.cls y.catchType (.cls c4))) hT (X1.noted hWn)
  refine ⟨t, ?_, b1⟩
  have hfind := ct_find2 (e := e) (s := ((T.setTop (F0 m pc ls rest)).pushFrame (.throwing q))) (f := F0 m pc ls rest) (a := q) (meth := meth) (code := c) X.method' X.code hsplit hx h0 hy h1 (k1 := n4) (k := c4) (cell := ce) (X.warmed.classLinks hnl) (X1.warmed.classLinks hcl5) (by show T.heap[q]? = some ce; rw [hT]; exact hcell) (fun k h => by rw [hv] at h; cases h) ⟨k9', h9'⟩ ⟨kt1', hkt1'⟩ ⟨kt', hkt'⟩ hnf hfit
  have hAt : At T (F0 m pc ls rest).method c below := X.here
  obtain ⟨hgo, hw⟩ := hAt.throwing q
  refine Steps.head hgo hw ?_
  rw [stepThread_throwing (frames_entered hAt.top _), ct_thr hfind]
  obtain ⟨g₀, hg⟩ := Option.isSome_iff_exists.mp hAt.top
  obtain ⟨r, hr⟩ := State.topJava?_eq_some.mp hg
  have hr' : (T.setVm ((T.vm.noted m.cls x.catchType (.cls n4)).noted m.cls y.catchType (.cls c4))).frames = .java g₀ :: r := hr
  have a2 : Steps p.tables e below ((T.setVm ((T.vm.noted m.cls x.catchType (.cls n4)).noted m.cls y.catchType (.cls c4))).setTop (F0 m y.handlerPc ls [.ref q])) t := a1
  rw [State.setTop_of_frames _ hr'] at a2
  rw [hr, List.tail_cons, State.pushFrame, ct_fr, State.setTop_of_frames _ hr, ct_fr]
  exact a2
end CT
end
section
/-! ===== a throw of a class whose constructor names its parent's at any place: follows the library's ctorThrowS, with the chain of its ctorThrowOnSVX ===== -/
section VZ
def vz_chain (X : String) (ix : Nat) (rx : ByteArray) : List String → List Jvm.Cond
  | [] => Bundle.passSAtoms X Bundle.tN ix rx
  | Y :: r => Bundle.passSAtoms X Y ix rx ++ Bundle.chainSAtoms Y r
theorem vz_chainX {args : Array Value} {s : State} {pl : Platform} (hpl : pl.magicAccessors = ({} : Platform).magicAccessors) {top : MethodId} (htop : s.methodNamed? (Bundle.initS Bundle.tN) = some top)
    {ix : Nat} {rx : ByteArray} (x0 : decode rx 0 = .ok (.aload_n 0, 1)) (x1 : decode rx 1 = .ok (.aload_n 1, 1)) (x2 : decode rx 2 = .ok (.invokespecial ix, 3)) (x5 : decode rx 5 = .ok (.return_, 1)) :
    ∀ (names : List String) (X : String), Bundle.fit X = true → (∀ n ∈ names, Bundle.fit n = true) → (∀ c ∈ vz_chain X ix rx names, c.before args s = true) →
      ∃ (P1 : PassC) (Ps : List PassC), Ps.length = names.length ∧ P1.LinksS pl s ∧ (∀ P, P ∈ Ps → P.LinksS pl s) ∧ s.methodNamed? (Bundle.initS X) = some P1.m ∧
        P1.sup = firstOf top (Ps.map (·.toPassT)) ∧ PassesOn top (Ps.map (·.toPassT)) := by
  intro names
  cases names with
  | nil =>
    intro X hX _ h
    obtain ⟨P, L, hm, hs⟩ := PassC.ofS_atoms (args := args) (s := s) hpl (X := X) (Y := Bundle.tN) (Bundle.fit_spec hX).1 (by decide) x0 x1 x2 x5 h
    exact ⟨P, [], rfl, L, (fun _ hP => by cases hP), hm, Option.some.inj (hs.symm.trans htop), trivial⟩
  | cons Y r =>
    intro X hX hn h
    obtain ⟨P, L, hm, hs⟩ := PassC.ofS_atoms (args := args) (s := s) hpl (X := X) (Y := Y) (Bundle.fit_spec hX).1 (Bundle.fit_spec (hn Y List.mem_cons_self)).2 x0 x1 x2 x5
      (fun c hc => h c (by simp only [vz_chain, List.mem_append]; exact Or.inl hc))
    obtain ⟨P', Ps, hlen, L', hL, hm', hsup, hpass⟩ := Bundle.chainS (args := args) hpl htop r Y (hn Y List.mem_cons_self) (fun n hn' => hn n (List.mem_cons_of_mem _ hn')) (fun c hc => h c (by simp only [vz_chain, List.mem_append]; exact Or.inr hc))
    refine ⟨P, P' :: Ps, by simp [hlen], L, ?_, hm, Option.some.inj (hs.symm.trans hm'), hsup, hpass⟩
    intro Q hQ
    rcases List.mem_cons.mp hQ with rfl | hQ
    · exact L'
    · exact hL Q hQ
def vz_own (own : String) (ic : Nat) (X : String) (ix : Nat) (rx : ByteArray) (names : List String) : List Jvm.Cond :=
  Bundle.throwableAtoms ++ Bundle.throwableSAtoms ++ vz_chain X ix rx names ++
  [.methodLink own ic (Bundle.initS X), .instantiable X 6, .castable X X, .selects X Bundle.tFill0 Bundle.tFill0, .selects X Bundle.tFill Bundle.tFill,
   .lays X Bundle.tN "cause" "Ljava/lang/Throwable;", .lays X Bundle.tN "stackTrace" Bundle.steD, .lays X Bundle.tN "suppressedExceptions" Bundle.listD, .lays X Bundle.tN "detailMessage" "Ljava/lang/String;",
   .isRef (.static Bundle.tN "UNASSIGNED_STACK" Bundle.steD), .isRef (.static Bundle.tN "SUPPRESSED_SENTINEL" Bundle.listD),
   .fieldLink Bundle.tN 198 Bundle.tN "backtrace" "Ljava/lang/Object;", .lays Bundle.tN Bundle.tN "backtrace" "Ljava/lang/Object;", .lays X Bundle.tN "backtrace" "Ljava/lang/Object;"]
def vz_atS (own : String) (ic : Nat) (X : String) (ix : Nat) (rx : ByteArray) (names : List String) : List Jvm.Cond := (vz_own own ic X ix rx names).filter vx_no
section VZ1
variable {p : Program} {l : Launch} {e : Env} {R : Room} {s : State} {m₀ : MethodId} {args : Array Value} {below : List Frame} {meth : Method} {c : Code} {W : State} {locs : List Loc} {cells slots : Nat}
set_option maxHeartbeats 1000000 in
theorem vz_ctor (X : Stand p l e R s m₀ args below meth c W locs cells slots) (hexec : p.tables.exec = Jvm.exec) (htr : e.platform.stackTraces = false) {own cls : String} {names : List String} {ic : Nat}
    {ix : Nat} {rx : ByteArray} (x0 : decode rx 0 = .ok (.aload_n 0, 1)) (x1 : decode rx 1 = .ok (.aload_n 1, 1)) (x2 : decode rx 2 = .ok (.invokespecial ix, 3)) (x5 : decode rx 5 = .ok (.return_, 1))
    (hown : s.vm.findClass own = some m₀.cls) (hcls : Bundle.fit cls = true) (hnames : ∀ n ∈ names, Bundle.fit n = true)
    (h : ∀ a ∈ vz_own own ic cls ix rx names, a.before args s = true)
    (hlocs : ∀ x ∈ locs, ∀ cell, s.heap[x.base]? = some cell → cell.vm.isStatics = false)
    {a : Addr} {cX : ClassId} {kX : Class} (hfoundX : s.vm.findClass cls = some cX) (hkX : s.vm.classes[cX]? = some kX) (hcell : W.heap[a]? = some (freshCell cX kX)) (hnew : s.heap.size ≤ a)
    {msg : Value} (hmsg : msg.isRef = true)
    {g : JFrame} (hg : g.method = m₀) (hsize : g.locals.size = c.maxLocals) (hlocked : g.locked = none) (hentered : g.entered = []) {rest : List Value} (hstack : g.stack = msg :: .ref a :: .ref a :: rest)
    (hd6 : decode c.code g.pc = .ok (.invokespecial ic, 3)) (hd9 : decode c.code (g.pc + 3) = .ok (.athrow, 1)) (hout : ∀ x ∈ c.exceptionTable.toList, covers x (g.pc + 3) = false)
    (hRframes : names.length + 3 < R.frames) (hRlocals : 2 * g.monitorRoom + ((Value.ref a :: rest).map fun v => v.category).sum + (13 * (names.length + 1) + 42) ≤ R.locals) (hlocks : meth.locks = false) :
    ∃ U : State, Steps p.tables e below (W.setTop g) U ∧ U.status = .running ∧ Ended U below (.threw a) ∧ s.WarmedH U.vm ∧ s.sameButNew ({ U with vm := s.vm } : State) locs cells slots ∧
      ∃ ce, U.heap[a]? = some ce ∧ ce.cls = cX ∧ ce.vm = .none := by
  have howns : e.platform.frameOwnsMonitors = true := by rw [X.admits.platform]
  have hfin : e.platform.finalization = false := by rw [X.admits.platform]
  have hpl : e.platform.magicAccessors = ({} : Platform).magicAccessors := by rw [X.admits.platform]
  have a' : ∀ x, x ∈ vz_own own ic cls ix rx names → x.holds args s none s [] = true := fun x hx => h x hx
  obtain ⟨T, Z0, L, -, Y⟩ := ThrowableC.of_atoms (args := args) howns hfin hpl (fun x hx => h x (by simp [vz_own, hx]))
  obtain ⟨Z, M, LZ, LM, hnZ⟩ := Init0T.ofS_atoms (args := args) hpl L Y (fun x hx => h x (by simp [vz_own, hx]))
  obtain ⟨P1, Ps, hlen, L1, hL, hP1m, hlink1, hlink⟩ := vz_chainX (args := args) hpl hnZ x0 x1 x2 x5 names cls hcls hnames (fun x hx => h x (by simp [vz_own, hx]))
  have hfound : s.vm.findClass cls = some P1.m.cls := findClass_of_methodNamed hP1m
  cases Option.some.inj (hfoundX.symm.trans hfound)
  obtain ⟨c1, kX', hc1, hk, hord, -, -, hn6⟩ := Cond.instantiable_spec (a' (.instantiable cls 6) (by simp [vz_own]))
  cases Option.some.inj (hc1.symm.trans hfound)
  cases Option.some.inj (hkX.symm.trans hk)
  have hsel0 : selectMethod e.platform s.vm P1.m.cls T.fill0 = .method T.fill0 := by
    obtain ⟨c2, r2, m2, q1, q2, q3, q4, -⟩ := Cond.selects_spec (a' (.selects cls Bundle.tFill0 Bundle.tFill0) (by simp [vz_own]))
    cases Option.some.inj (q1.symm.trans hfound)
    cases Option.some.inj (q2.symm.trans (State.methodFound?_of_named Y.fill0 (by decide)))
    cases Option.some.inj (q3.symm.trans Y.fill0)
    rw [Launch.admits_selectMethod X.admits]; exact q4
  have hselF : selectMethod e.platform s.vm P1.m.cls T.fill = .method T.fill := by
    obtain ⟨c2, r2, m2, q1, q2, q3, q4, -⟩ := Cond.selects_spec (a' (.selects cls Bundle.tFill Bundle.tFill) (by simp [vz_own]))
    cases Option.some.inj (q1.symm.trans hfound)
    cases Option.some.inj (q2.symm.trans (State.methodFound?_of_named Y.fill (by decide)))
    cases Option.some.inj (q3.symm.trans Y.fill)
    rw [Launch.admits_selectMethod X.admits]; exact q4
  obtain ⟨cellS0, hcS0, hiss⟩ := Y.statics
  obtain ⟨u0, hu0⟩ := Cond.staticRefV Y.unassigned L.unassignedStatic L.statics hcS0 hiss (a' (.isRef (.static Bundle.tN "UNASSIGNED_STACK" Bundle.steD)) (by simp [vz_own]))
  obtain ⟨sen, hsen⟩ := Cond.staticRefV Y.sentinel L.sentinelStatic L.statics hcS0 hiss (a' (.isRef (.static Bundle.tN "SUPPRESSED_SENTINEL" Bundle.listD)) (by simp [vz_own]))
  obtain ⟨ci198, i198, fB, hk198, hg198, ha198, hsB, -, hnB, htB, hffB⟩ := Cond.ownField (t := .object "java/lang/Object") Y.found L.cls (by decide +kernel) (a' (.fieldLink Bundle.tN 198 Bundle.tN "backtrace" "Ljava/lang/Object;") (by simp [vz_own])) (a' (.lays Bundle.tN Bundle.tN "backtrace" "Ljava/lang/Object;") (by simp [vz_own])) e.platform hpl
  obtain ⟨cellS, hcS', heS, -, hkeep⟩ := X.same.2.2.2.2.2 T.aS cellS0 hcS0
  have hcellS : W.heap[T.aS]? = some cellS := hcS'
  have hout' : ∀ i, (⟨T.aS, i⟩ : Loc) ∉ locs := fun i hmem => by
    have := hlocs _ hmem cellS0 hcS0
    rw [hiss] at this; cases this
  have hknownS : cellS.vm ≠ .unknown := by
    rw [heS]; intro hu
    rw [show cellS0.vm = .unknown from hu] at hiss
    cases hiss
  have hneS : T.aS ≠ a := Nat.ne_of_lt (Nat.lt_of_lt_of_le (Array.getElem?_eq_some_iff.mp hcS0).1 hnew)
  obtain ⟨iM, hffM⟩ := Y.msg
  obtain ⟨tyC, dC, hdC, hdnC⟩ := Cond.laysAt hfound hk Y.cause (a' (.lays cls Bundle.tN "cause" "Ljava/lang/Throwable;") (by simp [vz_own]))
  obtain ⟨tyS, dS, hdS, hdnS⟩ := Cond.laysAt hfound hk Y.stack (a' (.lays cls Bundle.tN "stackTrace" Bundle.steD) (by simp [vz_own]))
  obtain ⟨tyP, dP, hdP, hdnP⟩ := Cond.laysAt hfound hk Y.supp (a' (.lays cls Bundle.tN "suppressedExceptions" Bundle.listD) (by simp [vz_own]))
  obtain ⟨tyM, dM, hdM, hdnM⟩ := Cond.laysAt hfound hk hffM (a' (.lays cls Bundle.tN "detailMessage" "Ljava/lang/String;") (by simp [vz_own]))
  obtain ⟨tyB, dB, hdB, hdnB⟩ := Cond.laysAt hfound hk hffB (a' (.lays cls Bundle.tN "backtrace" "Ljava/lang/Object;") (by simp [vz_own]))
  have bC := Cond.laysApart hdB hdC hdnB hdnC (by rw [hnB, Y.causeName]; decide)
  have bS := Cond.laysApart hdB hdS hdnB hdnS (by rw [hnB, Y.stackName]; decide)
  have bP := Cond.laysApart hdB hdP hdnB hdnP (by rw [hnB, Y.suppName]; decide)
  have hskip : SkipFacts T e.platform s (fun u => u) u0 ((preparedCellV T.toThrowableT (freshCell P1.m.cls kX) a u0 sen).withEntry W.cur) :=
    ⟨{ ci198 := ci198, i198 := i198, fBack := fB }, ⟨hk198, hg198, ha198, hsB⟩, by
      have := fresh_default (c := P1.m.cls) tyB
      rw [htB] at this
      simpa [preparedCellV, Cell.setSlot, Cell.withEntry, Array.getElem?_setIfInBounds, bC, bS, bP, bC.symm, bS.symm, bP.symm, defaultValue] using this, fun _ _ => rfl⟩
  obtain ⟨tm, methC, cdC, kC, vm₁, hnC, -, -, -, -, -, -, -, hW₁, st1⟩ := Steps.initColdS (tb := p.tables) (e := e) (below := below) (s := s) (U := W) X.here hexec X.warmed hpl hown (t := Bundle.initS cls) rfl rfl (Bundle.fit_spec hcls).2
    (a' (.methodLink own ic (Bundle.initS cls)) (by simp [vz_own])) (h (.instanceMethod (Bundle.initS cls)) (by cases names <;> simp [vz_own, vz_chain, Bundle.passSAtoms])) (bytes := rx) (maxL := 2) (h (.code (Bundle.initS cls) rx 2 none) (by cases names <;> simp [vz_own, vz_chain, Bundle.passSAtoms]))
    (f := g) hg (a := a) (msg := msg) (rest := .ref a :: rest) hstack hd6
  cases Option.some.inj (hnC.symm.trans hP1m)
  have X₁ := X.noted hW₁
  obtain ⟨vm₂, X₂, st2⟩ := X₁.ctorMessageOffV hexec (g := { g with stack := .ref a :: rest }) hg hsize T L Z LZ M LM (P1 :: Ps)
    (fun P hP => by rcases List.mem_cons.mp hP with rfl | hP; exact L1; exact hL P hP) ⟨hlink1, hlink⟩ (u0 := u0) (sen := sen) (self := a) hmsg (cell := freshCell P1.m.cls kX) (cellS := cellS)
    hcell (fun _ => by simp) (by simp) rfl rfl hsel0 hselF hcellS hneS hknownS (by rw [hkeep _ (hout' _)]; exact hu0) (by rw [hkeep _ (hout' _)]; exact hsen)
    (Takes.of_laid hk hord tyC (by rw [Y.causeType]; rfl)) (Takes.of_laid hk hord tyS (by rw [Y.stackType]; exact fits_refV_array _ u0)) (Takes.of_laid hk hord tyP (by rw [Y.suppType]; exact fits_refV_object _ sen))
    (Takes.of_laid hk hord tyM (by rw [Y.msgType]; exact fits_refV_object _ ⟨msg, hmsg⟩)) Y.objLocals hskip htr [] hd6
    (by simp only [List.length_cons, hlen]; omega) (by simp only [List.length_cons, hlen]; exact hRlocals)
  obtain ⟨hwalk, hrun, hended, hWU, hsame⟩ := X₂.athrowLeaves hexec (g := { g with stack := .ref a :: rest, pc := g.pc + 3 }) hg hlocked hentered hout (a := a) (rest := rest) rfl hd9 (hlocks := hlocks)
  have hlt : a < ((W.setVm vm₁).setVm vm₂).heap.size := (Array.getElem?_eq_some_iff.mp hcell).1
  have hU := heapAt_setCell_self (s := (W.setVm vm₁).setVm vm₂) (plainBareV T.toThrowableT (freshCell P1.m.cls kX) a u0 sen msg) hlt
  refine ⟨_, st1 _ (fun acts => ?_), hrun, hended, hWU, hsame.weaken (fun y hy hlt' => ?_) (Nat.le_refl _) (Nat.le_refl _), _, hU, rfl, rfl⟩
  · rw [doInvoke_state]
    exact st2 _ hwalk
  · rcases List.mem_append.mp hy with h1 | h1
    · exact h1
    · exfalso
      have hb : y.base = a := by
        simp only [List.mem_cons, List.not_mem_nil, or_false] at h1
        rcases h1 with rfl | rfl | rfl | rfl | rfl <;> rfl
      rw [hb] at hlt'
      exact Nat.not_lt.mpr hnew hlt'
end VZ1
section VZ2
variable {p : Program} {l : Launch} {e : Env} {R : Room} {s : State} {m : MethodId} {args : Array Value} {below : List Frame} {meth : Method} {c : Code} {H : Heap} {locs : List Loc} {cells slots : Nat} {Q : State → Prop}
variable {mc ms : Nat} {free : Addr → Prop} {ls : Array Slot} {rest : List Value}
variable {Qc : Array Value → State → Outcome → State → Prop} {XC : String → State → State → Prop}
theorem vz_throwS {cc : ByteArray} {pc : Nat} (hexec : p.tables.exec = Jvm.exec) (hb : c.code = cc) (hl : l.stackTraces = false) {own cls text : String} {names : List String} {ik is ic mc ms sa : Nat} {A : Nat → Prop}
    {ix : Nat} {rx : ByteArray} (x0 : decode rx 0 = .ok (.aload_n 0, 1)) (x1 : decode rx 1 = .ok (.aload_n 1, 1)) (x2 : decode rx 2 = .ok (.invokespecial ix, 3)) (x5 : decode rx 5 = .ok (.return_, 1))
    (hown : s.vm.findClass own = some m.cls) (hcls : Bundle.fit cls = true) (hnames : ∀ n ∈ names, Bundle.fit n = true)
    (hk : (Cond.classLink own ik cls).before args s = true) (hini : (Cond.initialized cls).before args s = true) (hstr : vk_R own is text sa s) (hat : ∀ w ∈ vz_atS own ic cls ix rx names, w.before args s = true)
    (hgood : ∀ w ∈ Cond.classLink own ik cls :: Cond.initialized cls :: vz_atS own ic cls ix rx names, vx_ot w = true)
    (hU : vx_Zq Bundle.tN "UNASSIGNED_STACK" Bundle.steD A s s.heap) (hN : vx_Zq Bundle.tN "SUPPRESSED_SENTINEL" Bundle.listD A s s.heap) (hS : va_S A s.heap H locs) (hsize : ls.size = c.maxLocals)
    (d0 : decode cc pc = .ok (.new ik, 3)) (d3 : decode cc (pc + 3) = .ok (.dup, 1)) (d4 : decode cc (pc + 4) = .ok (.ldc is, 2)) (d6 : decode cc (pc + 6) = .ok (.invokespecial ic, 3)) (d9 : decode cc (pc + 9) = .ok (.athrow, 1))
    (hout : ∀ x ∈ c.exceptionTable.toList, covers x (pc + 9) = false)
    (hRframes : names.length + 3 < R.frames) (hRlocals : (rest.map fun v => v.category).sum + (13 * (names.length + 1) + 43) ≤ R.locals) (hRcells : cells + 1 ≤ R.cells) (hRslots : slots + 6 ≤ R.slots) (hlocks : meth.locks = false)
    (hx : ∀ t : State, s.vm.Alike t.vm → H.size ≤ t.heap.size → (∀ q : Nat, q < H.size → t.heap[q]? = H[q]?) → XC cls s t)
    (hf : ∀ z ∈ locs, free z.base) (hc : cells + 1 ≤ mc) (hs : slots + 6 ≤ ms) :
    W p l e R s m args below meth c H locs cells slots (vx_MQ below Qc XC args s mc ms free) (F0 m pc ls rest) := by
  intro T hT X
  have htr : e.platform.stackTraces = false := (show e.platform.stackTraces = l.stackTraces by rw [X.admits.platform]).trans hl
  have Y := vx_rebase X (R' := { frames := R.frames, locals := R.locals, cells := 1, slots := 6 }) (Nat.le_refl _) (Nat.le_refl _) hRcells hRslots
  obtain ⟨s', hA⟩ : ∃ z, z = (T.setVm s.vm).setFrames (.invoking m args :: below) := ⟨_, rfl⟩
  rw [← hA] at Y
  have hvm : s'.vm = s.vm := by rw [hA]; rfl
  have hhp : s'.heap = H := by rw [hA]; exact hT
  have hW0 : s.WarmedH s'.vm := by rw [hvm]; exact State.WarmedH.refl s
  have hat' : ∀ w ∈ vz_atS own ic cls ix rx names, w.before args s' = true := fun w hw => vx_ot_at hW0 hvm.symm (hgood w (List.mem_cons_of_mem _ (List.mem_cons_of_mem _ hw))) (hat w hw)
  have hk' : (Cond.classLink own ik cls).before args s' = true := vx_ot_at hW0 hvm.symm (hgood _ List.mem_cons_self) hk
  have hini' : (Cond.initialized cls).before args s' = true := vx_ot_at hW0 hvm.symm (hgood _ (List.mem_cons_of_mem _ List.mem_cons_self)) hini
  have hU' : vx_Zq Bundle.tN "UNASSIGNED_STACK" Bundle.steD A s' s'.heap := by rw [hhp]; exact vx_Zq.moved hW0.alike (hU.kept hS.2.1)
  have hN' : vx_Zq Bundle.tN "SUPPRESSED_SENTINEL" Bundle.listD A s' s'.heap := by rw [hhp]; exact vx_Zq.moved hW0.alike (hN.kept hS.2.1)
  have h : ∀ w ∈ vz_own own ic cls ix rx names, w.before args s' = true := vx_own hat' (vx_isRefq hU'.1) (vx_isRefq hN'.1) hU'.2.word hN'.2.word
  have hown' : s'.vm.findClass own = some m.cls := by rw [hvm]; exact hown
  have hins : (Cond.instantiable cls 6).before args s' = true := h _ (by simp [vz_own])
  obtain ⟨vm₁, cX, kX, hfX, hkX, -, -, X₁, st1⟩ := Y.newCold hexec (own := own) (C := cls) (index := ik) (n := 6) hown' hk' hins hini'
    (g := F0 m pc ls rest) rfl (by rw [hb]; exact d0) (Nat.le_refl _) (Nat.le_refl _)
  generalize hT1 : (T.setVm vm₁).pushCell { cls := cX, slots := kX.instanceTypes.map defaultValue, vm := .none } = T1 at X₁ st1
  have hcat : (Value.ref T.heap.size).category = 1 := rfl
  have hcellA : T1.heap[T.heap.size]? = some (freshCell cX kX) := by rw [← hT1]; exact State.heap_pushCell_size _ _
  have d3' : decode c.code (pc + 3) = .ok (.dup, 1) := by rw [hb]; exact d3
  have d4' : decode c.code (pc + 4) = .ok (.ldc is, 2) := by rw [hb]; exact d4
  have hstr' : vk_R own is text sa s' := vk_R.warm hW0 hstr
  obtain ⟨U, hsteps, hrun, hend, hW, hsame, ce, hce, hO1, hO2⟩ := vz_ctor X₁ hexec htr (own := own) (cls := cls) (names := names) (ic := ic) x0 x1 x2 x5 hown' hcls hnames h (fun x hx => nomatch hx) hfX hkX hcellA (by rw [hhp, hT]; exact Nat.le_refl _) (msg := .ref sa) rfl
    (g := { method := m, pc := pc + 6, locals := ls, stack := .ref sa :: .ref T.heap.size :: .ref T.heap.size :: rest, locked := none }) rfl hsize rfl rfl (rest := rest) rfl
    (by rw [hb]; exact d6) (by rw [hb]; exact d9) hout hRframes (by simp only [List.map_cons, List.sum_cons, hcat]; omega) hlocks
  obtain ⟨f1, f2⟩ := vx_frame hsame
  rw [hhp] at f1 f2
  have hWs : s.WarmedH U.vm := State.WarmedH.trans hW0 hW
  have hcl : s.vm.findClass cls = some ce.cls := by
    have h9 := hfX
    rw [hvm, ← hO1] at h9
    exact h9
  have hall : s.sameButNew ({ U with vm := s.vm } : State) locs mc ms := by
    subst hA
    obtain ⟨e1, e2⟩ := hsame
    rw [State.setFrames_setFrames] at e1
    have h2 : (T.setVm s.vm).sameButNew ({ U with vm := s.vm } : State) [] (0 + 1) (0 + 6) := ⟨e1, e2⟩
    have h3 := X.same.trans h2
    rw [List.append_nil] at h3
    exact h3.mono hc hs
  refine ⟨U, ?_, .threw T.heap.size, hrun, hend, Or.inr ⟨T.heap.size, rfl, cls, ce, locs, hx U hWs.alike f1 (fun q hq => f2 q hq (fun z hz => nomatch hz)), hce, hO2, hcl, hWs, hall, hf⟩⟩
  refine st1 _ ?_
  show Steps p.tables e below (T1.setTop { method := m, pc := pc + 3, locals := ls, stack := .ref T.heap.size :: rest, locked := none }) _
  jvm_step X₁.here [X₁.here.top, hexec, d3', Value.category]
  exact X₁.ldcString hexec (own := own) (text := text) (index := is) (a := sa) hown' hstr'.1 hstr'.2
    (g := { method := m, pc := pc + 4, locals := ls, stack := .ref T.heap.size :: .ref T.heap.size :: rest, locked := none }) rfl d4' _ hsteps
end VZ2
end VZ
end
section
/-! ===== look: it answers or throws, the law's own method catches ===== -/
def lk_E : String := "java/lang/IndexOutOfBoundsException"
def lk_E2 : String := "java/util/NoSuchElementException"
def lk_names : List String := ["java/lang/RuntimeException", "java/lang/Exception"]
theorem lk_fit : Bundle.fit lk_E = true := by decide +kernel
theorem lk_fit2 : Bundle.fit lk_E2 = true := by decide +kernel
theorem lk_fits : ∀ n ∈ lk_names, Bundle.fit n = true := by decide +kernel
theorem lk_ot : ∀ w ∈ Jvm.Cond.classLink RX11 159 lk_E :: Jvm.Cond.initialized lk_E :: vx_atS RX11 163 lk_E lk_names, vx_ot w = true := by decide +kernel
theorem lk_ot2 : ∀ w ∈ Jvm.Cond.classLink RX11 166 lk_E2 :: Jvm.Cond.initialized lk_E2 :: vz_atS RX11 170 lk_E2 13 prog_29_method_4_code lk_names, vx_ot w = true := by decide +kernel
theorem lk_cw : cv_in (6, 63) (.codeWith yL_look cL_look 5 (some .int) [(0, 10, 13, 13), (0, 10, 17, 15)]) = true := by decide +kernel
theorem lk_good : ∀ w ∈ (vx_atS RX11 163 lk_E lk_names).filter goodWord, w ∈ lw_tbl := by decide +kernel
theorem lk_good2 : ∀ w ∈ (vz_atS RX11 170 lk_E2 13 prog_29_method_4_code lk_names).filter goodWord, w ∈ lw_tbl := by decide +kernel
def lk_D : List MethodName := [⟨"java/lang/RuntimeException", "<init>", "(Ljava/lang/String;)V"⟩, ⟨"java/lang/Exception", "<init>", "(Ljava/lang/String;)V"⟩, ⟨"java/lang/Throwable", "<init>", "(Ljava/lang/String;)V"⟩]
def lk_B : List Jvm.Cond := Jvm.Cond.castable lk_E lk_E :: lk_D.map Jvm.Cond.declares
def lk_B2 : List Jvm.Cond := Jvm.Cond.castable lk_E2 lk_E2 :: lk_D.map Jvm.Cond.declares
theorem lk_bad : ∀ w ∈ (vx_atS RX11 163 lk_E lk_names).filter (fun w => !goodWord w), w ∈ lk_B := by decide +kernel
theorem lk_bad2 : ∀ w ∈ (vz_atS RX11 170 lk_E2 13 prog_29_method_4_code lk_names).filter (fun w => !goodWord w), w ∈ lk_B2 := by decide +kernel
def lk_F (A : Nat → Prop) (sa sb : Nat) (U : State) (H : Heap) : Prop := vk_R RX11 161 "no such gate" sa U ∧ vk_R RX11 168 "no such what" sb U ∧ vx_Zq Bundle.tN "UNASSIGNED_STACK" Bundle.steD A U H ∧ vx_Zq Bundle.tN "SUPPRESSED_SENTINEL" Bundle.listD A U H ∧ va_Nw (.castable lk_E lk_E) U ∧ va_Nw (.castable lk_E2 lk_E2) U ∧ (∀ n ∈ lk_D, va_Nw (.declares n) U) ∧ va_Nc lk_E2 lk_E U
theorem lk_F_call {A : Nat → Prop} {sa sb : Nat} {s U : State} {H : Heap} {locs : List Loc} (h : lk_F A sa sb s s.heap) (hW : s.WarmedH U.vm) (hU : U.heap = H) (hS : va_S A s.heap H locs) : lk_F A sa sb U U.heap := by
  obtain ⟨h1, h1b, h2, h3, h4, h4b, h5, h6⟩ := h
  subst hU
  exact ⟨h1.warm hW, h1b.warm hW, (h2.moved hW.alike).kept hS.2.1, (h3.moved hW.alike).kept hS.2.1, va_Nw.warmC hW h4, va_Nw.warmC hW h4b, fun n hn => va_Nw.warmD hW (h5 n hn), h6.moved hW.alike⟩
theorem lk_F_in {A : Nat → Prop} {sa sb : Nat} {U : State} (h : lk_F A sa sb U U.heap) (g : JFrame) (mk : MethodId) (a : Array Value) : lk_F A sa sb (U.calling g mk a) (U.calling g mk a).heap := by
  obtain ⟨h1, h1b, h2, h3, h4, h4b, h5, h6⟩ := h
  have hvm : U.vm.Alike (U.calling g mk a).vm := Vm.Alike.refl U.vm
  exact ⟨vk_R.same (u := U) rfl h1, vk_R.same (u := U) rfl h1b, h2.moved hvm, h3.moved hvm, va_Nw.same (u := U) rfl rfl h4, va_Nw.same (u := U) rfl rfl h4b, fun n hn => va_Nw.same (u := U) rfl rfl (h5 n hn), h6.moved hvm⟩
theorem lk_start {b : Nat} {s : State} (hts : ∀ w ∈ lw_tbl, w.before #[Value.ref b] s = true) (hgv : (Jvm.Cond.and given_1 narrow_1).before #[Value.ref b] s = true) : ∃ sa sb, lk_F (fun q => s.heap.size ≤ q) sa sb s s.heap := by
  have hs := flat_of_before _ hgv
  have hA : ∀ a : Nat, a < s.heap.size → ¬ (fun q : Nat => s.heap.size ≤ q) a := fun a h => Nat.not_le.mpr h
  obtain ⟨a, c, cA, kA, q1, -⟩ := Cond.exactly_spec (args := #[Value.ref b]) (first := s) (o := none) (s := s) (idx := []) (t := Jvm.Term.string "SagGates" 161) (cls := "java/lang/String") (hs (.exactly (.string "SagGates" 161) "java/lang/String") (by decide +kernel))
  obtain ⟨a2, c2, cA2, kA2, q2, -⟩ := Cond.exactly_spec (args := #[Value.ref b]) (first := s) (o := none) (s := s) (idx := []) (t := Jvm.Term.string "SagGates" 168) (cls := "java/lang/String") (hs (.exactly (.string "SagGates" 168) "java/lang/String") (by decide +kernel))
  refine ⟨a, a2, vk_R.of (hts _ (cv_pt_in (k := 6) (List.mem_of_getElem? (i := 110) (by decide +kernel)))) q1, vk_R.of (hts _ (cv_pt_in (k := 6) (List.mem_of_getElem? (i := 145) (by decide +kernel)))) q2, vx_Zqof (hts _ (cv_pt_in (k := 6) (List.mem_of_getElem? (i := 97) (by decide +kernel)))) (hts (.initialized Bundle.tN) (cv_pt_in (k := 1) (List.mem_of_getElem? (i := 19) (by decide +kernel)))) (hs _ (by decide +kernel)) hA, vx_Zqof (hts _ (cv_pt_in (k := 6) (List.mem_of_getElem? (i := 99) (by decide +kernel)))) (hts (.initialized Bundle.tN) (cv_pt_in (k := 1) (List.mem_of_getElem? (i := 19) (by decide +kernel)))) (hs _ (by decide +kernel)) hA, va_Nw.of rfl (hts _ (cv_pt_in (k := 6) (List.mem_of_getElem? (i := 72) (by decide +kernel)))), va_Nw.of rfl (hts _ (cv_pt_in (k := 6) (List.mem_of_getElem? (i := 138) (by decide +kernel)))), fun n hn => ?_, va_Nc.of (hs (.not (.castable lk_E2 lk_E)) (by decide +kernel))⟩
  have hm : ∀ n ∈ lk_D, Jvm.Cond.declares n ∈ lw_tbl := by decide +kernel
  exact va_Nw.of rfl (hts _ (hm n hn))
/-! ===== a frame's goal is closed under the small machine's steps ===== -/
section GD
variable {D : va_G} {cy : Nat → ClassId} {A : Nat → Prop} {sv : Nat → Value} {as0 : List Nat} {X : cv_X} {M : cv_M} {p : Program} {l : Launch} {e : Env} {R : Room} {s : State} {m : MethodId} {args : Array Value} {below : List Frame} {meth : Method} {c : Code} {Q : State → Prop}
theorem gd_good (C0 : cv_Cx cv_T vwCl D cy A sv X M p R s m args meth c) (hok : ∀ q ∈ M.2.1, cv_ok cv_T vwCl mt_all M q) : gd_R M X (cv_Good vwCl D cy A sv as0 M.1.2.2.2.1 p l e R s m args below meth c Q) := by
  obtain ⟨hgood, hcls, hcl4, hcl5, h100, h9, hall⟩ := al_all
  have hsv := C0.2.2.2.2.2.2.2.2.2.2.1.1
  refine ⟨fun q S S' ho h1 k => ?_, fun q S j av stk o ho hn hcall hfits hev k => ?_⟩
  · obtain ⟨hq, hmem⟩ := cv_op_ok ho
    exact cv_one_ok C0 hcls hcl4 hcl5 h100 (hok q hmem) hq h1 k
  · obtain ⟨hq, hmem⟩ := cv_op_ok ho
    obtain ⟨N, hrun⟩ := hev
    have hMet : cv_Met cv_T vwCl D cy A sv l X (mt_all j) av S.2.2.2.1 o := by
      refine cv_met_ok hsv (cv_call_okM (hok q hmem) hn hcall) ?_ ?_
      · unfold cv_fits at hfits
        simp only [Bool.and_eq_true, decide_eq_true_eq] at hfits
        exact hfits.1
      · intro as1 p1 e1 R1 s1 m1 args1 below1 meth1 c1 C1
        exact cv_run_ok al_all N (cv_no2 X) j _ o hrun as1 p1 e1 R1 s1 m1 args1 below1 meth1 c1 _ C1 fun q3 S3 r3 a1 a2 a3 a4 => cv_ret_ok C1 a1 a2 a3 a4
    exact cv_call_ok C0 hgood h100 (hok q hmem) hq hn hcall hfits hMet k
end GD
section LK
variable {D : va_G} {cy : Nat → ClassId} {A : Nat → Prop} {sv : Nat → Value} {l : Launch} {X : cv_X}
def lk_Pre (D : va_G) (cy : Nat → ClassId) (A : Nat → Prop) (sv : Nat → Value) (sa sb : Nat) (X : cv_X) (ws : va_W) (vs : List Value) : Array Value → State → Prop :=
  va_Pc vs (fun U => va_P D vwCl ws U.heap ∧ va_K D vwCl (cv_tys cy) U ∧ (∀ q, U.heap.size ≤ q → A q) ∧ cv_SF A sv (cv_no2 X) U U.heap ∧ lk_F A sa sb U U.heap)
theorem lk_blind {sa sb : Nat} {ws : va_W} {vs : List Value} : FrameBlind (lk_Pre D cy A sv sa sb X ws vs) := by
  intro a U g mk hq
  obtain ⟨q0, q1, q2, q3, q4, q5⟩ := hq
  exact ⟨q0, q1, va_K.moved (u := U) (U := U.calling g mk a) (Vm.Alike.refl U.vm) q2, q3, cv_SF_in q4 g mk a, lk_F_in q5 g mk a⟩
def lk_Qc (D : va_G) (cy : Nat → ClassId) (A : Nat → Prop) (sv : Nat → Value) (as : List Nat) (K : cv_H → Prop) : Array Value → State → Outcome → State → Prop := fun a st o t =>
  ∃ (x : Int32) (h' : cv_H), K h' ∧ cv_Qc vwCl D cy A sv as (some (cv_i x), h') a st o t
def lk_XC (D : va_G) (cy : Nat → ClassId) (A : Nat → Prop) (sv : Nat → Value) (as : List Nat) (K : cv_H → Prop) : String → State → State → Prop := fun E st t =>
  (E = lk_E ∨ E = lk_E2) ∧ (∃ h', K h' ∧ ∃ (as' : List Nat) (ws' : va_W), as <+: as' ∧ cv_relH cy sv as' h' ws' ∧ va_P D vwCl ws' t.heap ∧ va_D A ws') ∧ va_F A st t
theorem lk_mono {p : Program} {e : Env} {R : Room} {s : State} {m : MethodId} {args : Array Value} {below : List Frame} {meth : Method} {c : Code} {H : Heap} {locs : List Loc} {cells slots mc ms : Nat} {g : JFrame} {free : Addr → Prop} {Q1 Q2 : Array Value → State → Outcome → State → Prop} (hQ : ∀ a st o t, Q1 a st o t → Q2 a st o t)
    (k : W p l e R s m args below meth c H locs cells slots (MQ below Q1 args s mc ms free) g) : W p l e R s m args below meth c H locs cells slots (MQ below Q2 args s mc ms free) g := by
  intro T hT Y
  obtain ⟨t, a1, o, b1, b2, b3, b4⟩ := k T hT Y
  exact ⟨t, a1, o, b1, b2, hQ _ _ _ _ b3, b4⟩
theorem lo_ret_op : ∀ pc ∈ lo_rets, lo_b pc .ireturn 1 0 0 0 = true := by decide +kernel
set_option maxHeartbeats 4000000 in
theorem lk_met (hl : l.stackTraces = false) {sa sb : Nat} (hsv : ∀ j, sv j = .null ∨ ∃ a, sv j = .ref a) (hX : cw_Xok X) {Gn : Int} {h : cv_H} (hT : cw_T Gn h) (hPP : cw_PP Gn h) {g w : Int32} {as : List Nat} {ws : va_W} {vs : List Value} (hvs : cv_relS sv as [cv_r 0, cv_i g, cv_i w] vs) (hH : cv_relH cy sv as h ws) (hD : va_D A ws) :
    vx_Met l yX11_look (cv_ws cv_T mt_lookC) (cv_rm mt_lookC) (lk_Pre D cy A sv sa sb X ws vs) (lk_Qc D cy A sv as (lo_K Gn h)) (lk_XC D cy A sv as (lo_K Gn h)) 10 100 A := by
  refine vx_ofW (cc := cX11_look) (maxL := 4) (ret := some .int) (by decide +kernel) rfl ?_
  intro p e s m args below meth c s₁ B hml htab hv
  obtain ⟨rfl, hP, hK, hA, hSF, hF⟩ := hv
  have hts0 := atoms_spec (ws := cv_ws cv_T mt_lookC) B.pre
  have hts : ∀ w ∈ cv_T, w.before vs.toArray s = true := fun w hw => hts0 w (List.mem_cons_of_mem _ hw)
  have hown : s.vm.findClass RX11 = some m.cls := findClass_of_methodNamed B.named
  have C0 : cv_Cx cv_T vwCl D cy A sv (cv_no2 X) mt_lookC p (headSpec (cv_ws cv_T mt_lookC) (cv_rm mt_lookC)).room s m vs.toArray meth c :=
    ⟨B.exec, B.bytes, hml, hown, hts, B.returns, B.notSynchronized, (name_of_methodNamed B.named B.method).1, hK, hA, hSF, rfl, rfl, Nat.le_refl _, Nat.le_refl _⟩
  obtain ⟨f1, f1b, f2, f3, f4, f4b, f5, f6⟩ := hF
  have hg : cv_Good vwCl D cy A sv as 4 p l e (headSpec (cv_ws cv_T mt_lookC) (cv_rm mt_lookC)).room s m vs.toArray below meth c (vx_MQ below (lk_Qc D cy A sv as (lo_K Gn h)) (lk_XC D cy A sv as (lo_K Gn h)) vs.toArray s 10 100 A) (0, cv_ent 0 [cv_r 0, cv_i g, cv_i w], [], h, 0, 0) := by
    refine lo_walk (X := cv_no2 X) (Gn := Gn) (gd_good C0 ok_lookC) (cw_Xok_no2 hX) hT hPP g w (fun pc L x h' hpc hK' => ?_) (fun L h' hK' => ?_) (fun L h' hK' => ?_)
    · have ho := lo_o (lo_ret_op pc hpc)
      have hr := cv_ret_ok (l := l) (e := e) (below := below) (as0 := as) (ov := (some (cv_i x), h')) (q := (pc, .ireturn, 1, 0, 0, 0)) (S := (pc, L, [cv_i x], h', 0, 0)) (r := some (cv_i x)) C0 (ok_lookC _ (cv_op_ok ho).2) rfl rfl rfl
      intro as' ws' H locs ls stv a1 a2 a3 a4 a5 a6 a7
      exact vx_ret (lk_mono (fun a st o t hq => ⟨x, h', hK', hq⟩) (hr as' ws' H locs ls stv a1 a2 a3 a4 a5 a6 a7))
    · intro as' ws' H locs ls stv has hH' hP' hD' hS hL hst
      have := cv_relS_nil hst
      subst this
      have hls : ls.size = c.maxLocals := by
        obtain ⟨lv, g, -⟩ := hL
        rw [hml]; exact g.1
      have hat : ∀ w ∈ vx_atS RX11 163 lk_E lk_names, w.before vs.toArray s = true := vx_hat (fun w hw => hts w (List.mem_filter.mpr ⟨lk_good w hw, (List.mem_filter.mp hw).2⟩)) lk_bad (fun w hw => by
        rcases List.mem_cons.mp hw with rfl | hw
        · exact va_Nw.use rfl f4
        · obtain ⟨n, hn, rfl⟩ := List.mem_map.mp hw
          exact va_Nw.use rfl (f5 n hn))
      exact vx_throwS (pc := 8) (ik := 159) (is := 161) (ic := 163) (names := lk_names) (cls := lk_E) (own := RX11) B.exec B.bytes hl hown lk_fit lk_fits (hts _ (cv_in_ok (h := (6, 70)) (by decide +kernel))) (hts _ (cv_in_ok (h := (1, 22)) (by decide +kernel))) f1 hat lk_ot f2 f3 hS hls (by decide +kernel) (by decide +kernel) (by decide +kernel) (by decide +kernel) (by decide +kernel)
        (fun x hx => absurd hx (fun q => htab x q)) (Nat.le_of_ble_eq_true rfl) (Nat.le_of_ble_eq_true rfl) (Nat.le_of_ble_eq_true rfl) (Nat.le_of_ble_eq_true rfl) B.notSynchronized
        (fun t _ h1 h2 => ⟨.inl rfl, ⟨h', hK', as', ws', has, hH', hP'.kept (fun k x hx => h2 x.1 ((hP' k x hx).lt)), hD'⟩, Nat.le_trans hS.1 h1, fun q q1 q2 => (h2 q (Nat.lt_of_lt_of_le q1 hS.1)).trans (hS.2.1 q q1 q2)⟩)
        hS.2.2 (Nat.le_of_ble_eq_true rfl) (Nat.le_of_ble_eq_true rfl)
    · intro as' ws' H locs ls stv has hH' hP' hD' hS hL hst
      have := cv_relS_nil hst
      subst this
      have hls : ls.size = c.maxLocals := by
        obtain ⟨lv, g, -⟩ := hL
        rw [hml]; exact g.1
      have hat : ∀ w ∈ vz_atS RX11 170 lk_E2 13 prog_29_method_4_code lk_names, w.before vs.toArray s = true := vx_hat (fun w hw => hts w (List.mem_filter.mpr ⟨lk_good2 w hw, (List.mem_filter.mp hw).2⟩)) lk_bad2 (fun w hw => by
        rcases List.mem_cons.mp hw with rfl | hw
        · exact va_Nw.use rfl f4b
        · obtain ⟨n, hn, rfl⟩ := List.mem_map.mp hw
          exact va_Nw.use rfl (f5 n hn))
      exact vz_throwS (pc := 28) (ik := 166) (is := 168) (ic := 170) (names := lk_names) (cls := lk_E2) (own := RX11) (ix := 13) (rx := prog_29_method_4_code) B.exec B.bytes hl (by decide +kernel) (by decide +kernel) (by decide +kernel) (by decide +kernel) hown lk_fit2 lk_fits (hts _ (cv_in_ok (h := (6, 136)) (by decide +kernel))) (hts _ (cv_in_ok (h := (1, 23)) (by decide +kernel))) f1b hat lk_ot2 f2 f3 hS hls (by decide +kernel) (by decide +kernel) (by decide +kernel) (by decide +kernel) (by decide +kernel)
        (fun x hx => absurd hx (fun q => htab x q)) (Nat.le_of_ble_eq_true rfl) (Nat.le_of_ble_eq_true rfl) (Nat.le_of_ble_eq_true rfl) (Nat.le_of_ble_eq_true rfl) B.notSynchronized
        (fun t _ h1 h2 => ⟨.inr rfl, ⟨h', hK', as', ws', has, hH', hP'.kept (fun k x hx => h2 x.1 ((hP' k x hx).lt)), hD'⟩, Nat.le_trans hS.1 h1, fun q q1 q2 => (h2 q (Nat.lt_of_lt_of_le q1 hS.1)).trans (hS.2.1 q q1 q2)⟩)
        hS.2.2 (Nat.le_of_ble_eq_true rfl) (Nat.le_of_ble_eq_true rfl)
  obtain ⟨g1, g2⟩ := cv_ent_ok hsv 0 hvs
  have hle := lv_entry vs (n := 4) (by rw [g2]; exact Nat.le_of_ble_eq_true rfl)
  rw [lg_entry_eq]
  exact hg as ws s.heap [] _ [] (List.prefix_refl _) hH hP hD va_S.rf ⟨_, hle, g1⟩ trivial
end LK
end
section
/-! ===== the law's own look ===== -/
abbrev lk_hh : List (Nat × Nat × Nat × Nat) := [(0, 10, 13, 13), (0, 10, 17, 15)]
def lk_ws : List Jvm.Cond := Jvm.Cond.codeWith yL_look cL_look 5 (some .int) lk_hh :: cv_T
theorem lk_in {w : Jvm.Cond} (h : w ∈ cv_T) : w ∈ cv_T ∧ ((w.onTables && w.keeps) = true ∨ ∃ ty, w = .arrayClass ty) := cv_T_good w h
theorem lk_good7 : GoodIn cv_T (wsV RL 7 RX11 yX11_look (cv_ws cv_T mt_lookC)) := by
  intro w hw
  apply lk_in
  rcases List.mem_append.mp hw with hw | hw
  · simp only [List.mem_cons, List.not_mem_nil, or_false] at hw
    rcases hw with rfl | rfl | rfl | rfl
    · exact cv_in_ok (h := (6, 66)) (by decide +kernel)
    · exact cv_in_ok (h := (6, 67)) (by decide +kernel)
    · exact cv_in_ok (h := (6, 68)) (by decide +kernel)
    · exact okm_lookC.2.2.1
  · rcases List.mem_cons.mp hw with rfl | hw
    · exact okm_lookC.1
    · exact hw
theorem lk_good39 : GoodIn cv_T (va_wsS RL 39 yL_look lk_ws) := by
  intro w hw
  apply lk_in
  rcases List.mem_append.mp hw with hw | hw
  · simp only [List.mem_cons, List.not_mem_nil, or_false] at hw
    rcases hw with rfl | rfl | rfl
    · exact cv_in_ok (h := (6, 61)) (by decide +kernel)
    · exact cv_in_ok (h := (6, 62)) (by decide +kernel)
    · exact cv_in_ok (h := (1, 0)) (by decide +kernel)
  · rcases List.mem_cons.mp hw with rfl | hw
    · exact cv_in_ok lk_cw
    · exact hw
/-- what is left of the law's words after look -/
def lk_K (Gn : Int) (h h' : cv_H) : Prop := cw_T Gn h' ∧ cw_PP Gn h' ∧ lg_S h h' ∧ ∃ y : Int64, h'[149]? = some (cv_cl [y])
theorem lk_K_lo {Gn : Int} {h h' : cv_H} {y : Int64} (hy : h[149]? = some (cv_cl [y])) (k : lo_K Gn h h') : lk_K Gn h h' :=
  ⟨k.1, k.2.1, lg_S_fr k.2.2 (by decide +kernel), y, by rw [k.2.2.1 149 rfl]; exact hy⟩
theorem lk_set_ne {h : cv_H} {k d : Nat} {c : cv_C} (hk : cw_sh[k]? = some d) : (h.set 149 c)[k]? = h[k]? := List.getElem?_set_ne (fun e => by subst e; cases hk)
theorem lk_at_ne {h : cv_H} {k d i : Nat} {c : cv_C} (hk : cw_sh[k]? = some d) : cw_at (h.set 149 c) k i = cw_at h k i := by unfold cw_at; rw [lk_set_ne hk]
theorem lk_T_set {Gn : Int} {h : cv_H} {c : cv_C} (hT : cw_T Gn h) : cw_T Gn (h.set 149 c) := by
  intro k d hk
  have := hT k d hk
  unfold cw_cell at this ⊢
  rw [lk_set_ne hk]
  exact this
theorem lk_K_set {Gn : Int} {h h' : cv_H} {y v : Int64} (hy : h[149]? = some (cv_cl [y])) (k : lo_K Gn h h') : lk_K Gn h (h'.set 149 (cv_cl [v])) := by
  obtain ⟨a1, a2, a3, y', a5⟩ := lk_K_lo hy k
  refine ⟨lk_T_set a1, cw_PPok Gn h' _ a2 (fun k d i hk _ => lk_at_ne hk), fun k d i hk => (lk_at_ne hk).trans (a3 k d i hk), v, ?_⟩
  · exact List.getElem?_set_self (List.getElem?_eq_some_iff.mp a5).1
def ll_b (pc : Nat) (ins : Instr) (len a b : Nat) (z : Int) : Bool := match cv_op mt_LlookC pc with
  | some q => (q.1 == pc) && (decide (q.2.1 = ins) && ((q.2.2.1 == len) && ((q.2.2.2.1 == a) && ((q.2.2.2.2.1 == b) && decide (q.2.2.2.2.2 = z)))))
  | none => false
theorem ll_o {pc : Nat} {ins : Instr} {len a b : Nat} {z : Int} (h : ll_b pc ins len a b z = true) : cv_op mt_LlookC pc = some (pc, ins, len, a, b, z) := by
  unfold ll_b at h
  split at h
  · rename_i q hq
    obtain ⟨q1, q2, q3, q4, q5, q6⟩ := q
    simp only [Bool.and_eq_true, beq_iff_eq, decide_eq_true_eq] at h
    obtain ⟨rfl, rfl, rfl, rfl, rfl, rfl⟩ := h
    exact hq
  · cases h
section LK
variable {D : va_G} {cy : Nat → ClassId} {A : Nat → Prop} {sv : Nat → Value} {l : Launch} {X : cv_X}
set_option maxHeartbeats 4000000 in
theorem lk_Lmet (hl : l.stackTraces = false) {sa sb : Nat} (hsv : ∀ j, sv j = .null ∨ ∃ a, sv j = .ref a) (hX : cw_Xok X) {Gn : Int} {h : cv_H} {y : Int64} (hT : cw_T Gn h) (hPP : cw_PP Gn h) (hy : h[149]? = some (cv_cl [y])) {g w : Int32} {as : List Nat} {ws : va_W} {vs : List Value} (hvs : cv_relS sv as [cv_r 0, cv_i g, cv_i w, cv_r 149] vs) (hH : cv_relH cy sv as h ws) (hD : va_D A ws) :
    Met l yL_look lk_ws (cv_rm mt_LlookC) (lk_Pre D cy A sv sa sb X ws vs) (lk_Qc D cy A sv as (lk_K Gn h)) 20 200 A := by
  refine va_MetW (cc := cL_look) (maxL := 5) (ret := some .int) (hh := lk_hh) (by decide +kernel) rfl ?_
  intro p e s m args below meth c s₁ B hml hv
  obtain ⟨rfl, hP, hK, hA, hSF, hF⟩ := hv
  have hts0 := atoms_spec (ws := lk_ws) B.pre
  have htab : c.exceptionTable.toList = tableOf lk_hh := vx_table (x := yL_look) B (hts0 _ List.mem_cons_self)
  have hts : ∀ w ∈ cv_T, w.before vs.toArray s = true := fun w hw => hts0 w (List.mem_cons_of_mem _ hw)
  have hown : s.vm.findClass RL = some m.cls := findClass_of_methodNamed B.named
  have C0 : cv_Cx cv_T vwCl D cy A sv (cv_no2 X) mt_LlookC p (headSpec lk_ws (cv_rm mt_LlookC)).room s m vs.toArray meth c :=
    ⟨B.exec, B.bytes, hml, hown, hts, B.returns, B.notSynchronized, (name_of_methodNamed B.named B.method).1, hK, hA, hSF, rfl, rfl, Nat.le_refl _, Nat.le_refl _⟩
  have hR : gd_R mt_LlookC (cv_no2 X) (cv_Good vwCl D cy A sv as 5 p l e (headSpec lk_ws (cv_rm mt_LlookC)).room s m vs.toArray below meth c (MQ below (lk_Qc D cy A sv as (lk_K Gn h)) vs.toArray s 20 200 A)) := gd_good C0 ok_LlookC
  have kN : ∀ (x : Int32) (h' : cv_H), lo_K Gn h h' → cv_Good vwCl D cy A sv as 5 p l e (headSpec lk_ws (cv_rm mt_LlookC)).room s m vs.toArray below meth c (MQ below (lk_Qc D cy A sv as (lk_K Gn h)) vs.toArray s 20 200 A) (8, cv_ent 0 [cv_r 0, cv_i g, cv_i w, cv_r 149], [cv_i x, cv_i (Int32.ofInt 0), cv_r 149], h', 10, 100) := by
    intro x h' hK'
    have hy' : h'[149]? = some (cv_cl [y]) := by rw [hK'.2.2.1 149 rfl]; exact hy
    refine hR.1 _ _ (9, cv_ent 0 [cv_r 0, cv_i g, cv_i w, cv_r 149], [cv_l x.toInt64, cv_i (Int32.ofInt 0), cv_r 149], h', 10, 100) (ll_o (show ll_b 8 .i2l 1 0 0 0 = true by decide +kernel)) rfl ?_
    refine hR.1 _ _ (10, cv_ent 0 [cv_r 0, cv_i g, cv_i w, cv_r 149], [], h'.set 149 (cv_cl [x.toInt64]), 10, 100) (ll_o (show ll_b 9 .lastore 1 0 0 0 = true by decide +kernel)) ?_ ?_
    · show (match h'[149]? with
        | some (.inr (.inl xs)) => _
        | _ => _) = _
      rw [hy']
      rfl
    refine hR.1 _ _ (21, cv_ent 0 [cv_r 0, cv_i g, cv_i w, cv_r 149], [], h'.set 149 (cv_cl [x.toInt64]), 10, 100) (ll_o (show ll_b 10 (.goto 11) 3 0 0 0 = true by decide +kernel)) rfl ?_
    refine hR.1 _ _ (22, cv_ent 0 [cv_r 0, cv_i g, cv_i w, cv_r 149], [cv_i (Int32.ofInt 0)], h'.set 149 (cv_cl [x.toInt64]), 10, 100) (ll_o (show ll_b 21 (.iconst 0) 1 0 0 0 = true by decide +kernel)) rfl ?_
    have ho := ll_o (show ll_b 22 .ireturn 1 0 0 0 = true by decide +kernel)
    have hr := cv_ret_ok (l := l) (e := e) (below := below) (as0 := as) (ov := (some (cv_i (Int32.ofInt 0)), h'.set 149 (cv_cl [x.toInt64]))) (q := (22, .ireturn, 1, 0, 0, 0)) (S := (22, cv_ent 0 [cv_r 0, cv_i g, cv_i w, cv_r 149], [cv_i (Int32.ofInt 0)], h'.set 149 (cv_cl [x.toInt64]), 10, 100)) (r := some (cv_i (Int32.ofInt 0))) C0 (ok_LlookC _ (cv_op_ok ho).2) rfl rfl rfl
    intro as' ws' H locs ls stv a1 a2 a3 a4 a5 a6 a7
    exact lk_mono (fun a st o t hq => ⟨_, _, lk_K_set hy hK', hq⟩) (hr as' ws' H locs ls stv a1 a2 a3 a4 a5 a6 a7)
  have hg : cv_Good vwCl D cy A sv as 5 p l e (headSpec lk_ws (cv_rm mt_LlookC)).room s m vs.toArray below meth c (MQ below (lk_Qc D cy A sv as (lk_K Gn h)) vs.toArray s 20 200 A) (0, cv_ent 0 [cv_r 0, cv_i g, cv_i w, cv_r 149], [], h, 0, 0) := by
    refine gd_ld hR (ll_o (show ll_b 0 (.aload_n 3) 1 0 0 0 = true by decide +kernel)) rfl rfl rfl rfl ?_
    refine hR.1 _ _ (2, cv_ent 0 [cv_r 0, cv_i g, cv_i w, cv_r 149], [cv_i (Int32.ofInt 0), cv_r 149], h, 0, 0) (ll_o (show ll_b 1 (.iconst 0) 1 0 0 0 = true by decide +kernel)) rfl ?_
    refine gd_ld hR (ll_o (show ll_b 2 (.aload_n 0) 1 0 0 0 = true by decide +kernel)) rfl rfl rfl rfl ?_
    refine gd_ld hR (ll_o (show ll_b 3 (.iload_n 1) 1 0 0 0 = true by decide +kernel)) rfl rfl rfl rfl ?_
    refine gd_ld hR (ll_o (show ll_b 4 (.iload_n 2) 1 0 0 0 = true by decide +kernel)) rfl rfl rfl rfl ?_
    intro as' ws' H locs ls stv has hH' hP' hD' hS hL hst
    obtain ⟨y2, stv1, rfl, hy2, hst1⟩ := cv_relS_cons hst
    obtain ⟨y1, stv2, rfl, hy1, hst2⟩ := cv_relS_cons hst1
    obtain ⟨_, stv3, rfl, ⟨a0, ha0, rfl⟩, hst3⟩ := cv_relS_cons hst2
    have hls : ls.size = 5 := by
      obtain ⟨lv, g, -⟩ := hL
      exact g.1
    have hmet := lk_met (D := D) (cy := cy) (A := A) (sv := sv) (l := l) (X := cv_no2 X) hl (sa := sa) (sb := sb) hsv (cw_Xok_no2 hX) hT hPP (g := g) (w := w) (as := as') (ws := ws') (vs := [.ref a0, y1, y2]) ⟨⟨a0, ha0, rfl⟩, hy1, hy2, trivial⟩ hH' hD'
    obtain ⟨fsv, hk0, -⟩ := cw_cell_o (d := 11) rfl (hT 0 11 rfl)
    obtain ⟨ad', en, e1, e2, hE⟩ := hH'.2.2 0 _ hk0
    cases ha0.symm.trans e1
    obtain ⟨fs, rfl, -, -⟩ := hE
    have hpre : ∀ U : State, U.heap = H → s.WarmedH U.vm → lk_Pre D cy A sv sa sb (cv_no2 X) ws' [.ref a0, y1, y2] [.ref a0, y1, y2].toArray U := by
      intro U hU hW
      exact ⟨rfl, by rw [hU]; exact hP', va_K.moved hW.alike hK, fun q hq => hA q (Nat.le_trans hS.1 (by rw [← hU]; exact hq)), cv_SF_call hSF hW hU hS, lk_F_call hF hW hU hS⟩
    have hwid := cv_wid_ok hsv hst3
    have hr := vx_runV (p := p) (e := e) (below := below) (meth := meth) (locs := locs) (cells := 0) (slots := 0) (As := [y1, y2]) (rest := stv3) (C := RX11) (own := RL) (index := 7) (g := F0 m 5 ls (y2 :: y1 :: .ref a0 :: stv3)) ⟨B.exec, B.bytes, hml, hown, hts⟩ hmet (cwV (R := (headSpec lk_ws (cv_rm mt_LlookC)).room) 2 hts lk_good7 rfl rfl rfl (by decide +kernel) ⟨Nat.le_of_ble_eq_true rfl, Nat.le_of_ble_eq_true rfl⟩)
      ⟨lk_blind, va_recv hK hP' (ci := 11) (q0 := 0) rfl e2, hpre⟩ rfl rfl hls rfl (lv_room (by rw [hwid]; exact Nat.le_of_ble_eq_true rfl)) (show decode cL_look 5 = .ok (.invokevirtual 7, 3) by decide +kernel) ⟨Nat.le_of_ble_eq_true rfl, Nat.le_of_ble_eq_true rfl⟩
    intro T hTh Y
    rcases hr T hTh Y with ⟨v, st₀, t, T', L, h0, Y', hLf, e1, e2, ⟨x, h', hK', ⟨as2, ws2, rv, hrv, w1, w2, w3, w4, w5⟩, hFr⟩, st⟩ | ⟨q, st₀, t, T', L, E, ce, h0, Y', hLf, e1, e2, ⟨hEE, ⟨h', hK', as2, ws2, w1, w2, w3, w4⟩, hFr⟩, hce, hcv, hcl, st⟩
    · obtain ⟨k1, k2, k3⟩ := vx_keep h0 e1 hS (fun q _ h => h) (fun q h => h) hLf hFr
      cases hrv
      obtain ⟨t2, a1, b2⟩ := kN x h' hK' as2 ws2 T'.heap (locs ++ L) ls (v.toList ++ stv3) (has.trans w1) w3 (by rw [e1]; exact w4) w5 k3 (cv_relL_up w1 hL) (cv_relS_app w2 (cv_relS_up w1 hst3)) T' rfl Y'
      exact ⟨t2, st t2 a1, b2⟩
    · obtain ⟨k1, k2, k3⟩ := vx_keep h0 e1 hS (fun q _ h => h) (fun q h => h) hLf hFr
      obtain ⟨lv, g1, -⟩ := hL
      have hcat : vx_W p l e (headSpec lk_ws (cv_rm mt_LlookC)).room s m vs.toArray below meth c T'.heap (locs ++ L) (0 + 10) (0 + 100) (MQ below (lk_Qc D cy A sv as (lk_K Gn h)) vs.toArray s 20 200 A) (F0 m 5 ls stv3) q := by
        rcases hEE with rfl | rfl
        · refine ct_catch (own := RL) (name := lk_E) hown htab (by decide) (by decide) (hts _ (cv_in_ok (h := (6, 64)) (by decide +kernel))) (va_Nw.use rfl hF.2.2.2.2.1) (by rw [e1]; exact hce) hcv hcl ?_
          refine lv_astore (pc := 13) (i := 4) (nL := 5) B.exec B.bytes (by decide +kernel) g1 (by decide) rfl (fun ls' _ => ?_)
          refine lv_iconst (n := 1) (v := 1) B.exec B.bytes (pc := 15) (by decide +kernel) (by decide) ?_
          refine W.widen (k := 20) (n := 200) (Nat.le_of_ble_eq_true rfl) (Nat.le_of_ble_eq_true rfl) ?_
          refine W.iret (pc := 16) B.exec B.bytes B.returns (fun t' ht' _ => ⟨1, h', lk_K_lo hy hK', ⟨as2, ws2, some (.int 1), rfl, has.trans w1, ⟨rfl, trivial⟩, w2, by rw [ht', e1]; exact w3, w4⟩, k3.F ht'⟩) k3.2.2 (by decide +kernel) B.notSynchronized
        · refine ct_catch2 (own := RL) (name1 := lk_E) (name := lk_E2) hown htab (by decide) (by decide) (by decide) (by decide) (hts _ (cv_in_ok (h := (6, 64)) (by decide +kernel))) (hts _ (cv_in_ok (h := (6, 65)) (by decide +kernel))) hF.2.2.2.2.2.2.2 (va_Nw.use rfl hF.2.2.2.2.2.1) (by rw [e1]; exact hce) hcv hcl ?_
          refine lv_astore (pc := 17) (i := 4) (nL := 5) B.exec B.bytes (by decide +kernel) g1 (by decide) rfl (fun ls' _ => ?_)
          refine lv_iconst (n := 2) (v := 2) B.exec B.bytes (pc := 19) (by decide +kernel) (by decide) ?_
          refine W.widen (k := 20) (n := 200) (Nat.le_of_ble_eq_true rfl) (Nat.le_of_ble_eq_true rfl) ?_
          refine W.iret (pc := 20) B.exec B.bytes B.returns (fun t' ht' _ => ⟨2, h', lk_K_lo hy hK', ⟨as2, ws2, some (.int 2), rfl, has.trans w1, ⟨rfl, trivial⟩, w2, by rw [ht', e1]; exact w3, w4⟩, k3.F ht'⟩) k3.2.2 (by decide +kernel) B.notSynchronized
      obtain ⟨t2, a1, b2⟩ := hcat T' rfl Y'
      exact ⟨t2, st.trans a1, b2⟩
  obtain ⟨g1, g2⟩ := cv_ent_ok hsv 0 hvs
  have hle := lv_entry vs (n := 5) (by rw [g2]; exact Nat.le_of_ble_eq_true rfl)
  rw [lg_entry_eq]
  exact hg as ws s.heap [] _ [] (List.prefix_refl _) hH hP hD va_S.rf ⟨_, hle, g1⟩ trivial
end LK
end
section
/-! ===== the law's goal is closed under its steps ===== -/
def R_law : String := "SagGatesLaw"
def lw_P (b : Addr) (xs : List Int32) (args : Array Value) (s : State) : Prop := args = #[.ref b] ∧ s.IntsAt b xs ∧ xs.length ≤ 3072 ∧ (Jvm.Cond.and given_1 narrow_1).before args s = true
def lw_Q (_ : Array Value) (s : State) (o : Outcome) (t : State) : Prop := o = .returned (some (.int 1)) ∧ Framed s o t [] 601024 7293034
def lw_Z (below : List Frame) (a : Array Value) (s : State) : State → Prop := fun t => ∃ o, t.status = .running ∧ Ended t below o ∧ lw_Q a s o t
/-- the law's own end, with 1 on the stack, nothing written that was there before, its room as the claim has it -/
theorem lw_ret {p : Program} {l : Launch} {e : Env} {s : State} {m : MethodId} {below : List Frame} {meth : Method} {c : Code} {b : Nat} (hx : p.tables.exec = Jvm.exec) (hb : c.code = code) (hr : meth.sig.returnType = ret) (hlocks : meth.locks = false) {pc : Nat} {H : Heap} {ls : Array Slot} (hdg : decode code pc = .ok (.ireturn, 1)) : W p l e room_1 s m #[Value.ref b] below meth c H [] 601024 7293034 (lw_Z below #[Value.ref b] s) (F0 m pc ls [.int 1]) := by
  intro T hT X
  obtain ⟨fs, hret, hrun, hended, hW, hframe⟩ := X.leave (v := some (.int 1)) (hlocks := hlocks) (fun h => by rw [hr] at h; cases h)
  have hmeth' : T.vm.method? m = some meth := X.method'
  refine ⟨T.setFrames fs, ?_, .returned (some (.int 1)), hrun, hended, rfl, ⟨_, rfl⟩, hW, hframe⟩
  jvm_step X.here [X.here.top, hx, hb, hdg, hmeth', hr, ret, narrow_b1]
  (try refine ⟨rfl, ?_⟩); (try refine ⟨rfl, ?_⟩)
  first | (intro acts; rw [hret _ acts rfl rfl rfl]) | rw [hret _ _ rfl rfl rfl]
  exact Steps.refl _
section LW
variable {D : va_G} {cy : Nat → ClassId} {A : Nat → Prop} {sv : Nat → Value} {l : Launch} {X : cv_X} {p : Program} {e : Env} {R : Room} {s : State} {m : MethodId} {args : Array Value} {below : List Frame} {meth : Method} {c : Code} {Q : State → Prop}
theorem lk_go {H : Heap} {locs : List Loc} {cN sN mc ms pc : Nat} {ls : Array Slot} {st0 rest : List Value} {as : List Nat} {K : cv_H → Prop} {arr : Array Value} (hr : va_Run p l e R s m args below meth c H locs cN sN mc ms (F0 m pc ls st0) rest (lk_Qc D cy A sv as K arr) A) (hS : va_S A s.heap H locs)
    (kk : ∀ (x : Int32) (h' : cv_H), K h' → ∀ (as' : List Nat) (ws' : va_W) (rv : Option Value) (H1 : Heap) (locs1 : List Loc), as <+: as' → cv_relS sv as' [cv_i x] rv.toList → cv_relH cy sv as' h' ws' → va_P D vwCl ws' H1 → va_D A ws' → va_S A s.heap H1 locs1 → W p l e R s m args below meth c H1 locs1 (cN + mc) (sN + ms) Q (F0 m (pc + 3) ls (rv.toList ++ rest))) : W p l e R s m args below meth c H locs cN sN Q (F0 m pc ls st0) := by
  intro T hT Y
  obtain ⟨v, st₀, t, T', L, h0, Y', hL, e1, e2, ⟨x, h', hK, ⟨as', ws', rv, hv, b1, b2, b3, b4, b5⟩, hz, hk⟩, st⟩ := hr T hT Y
  cases hv
  rw [h0] at hz hk
  obtain ⟨t2, a1, c1⟩ := kk x h' hK as' ws' v T'.heap (locs ++ L) b1 b2 b3 (by rw [e1]; exact b4) b5
    ⟨Nat.le_trans hS.1 (by rw [e1]; exact hz), fun q h1 h2 => by rw [e1, hk q (Nat.lt_of_lt_of_le h1 hS.1) h2]; exact hS.2.1 q h1 h2, fun q hq => by
      rcases List.mem_append.mp hq with h | h
      · exact hS.2.2 q h
      · exact hL q h⟩ T' rfl Y'
  exact ⟨t2, st t2 a1, c1⟩
end LW
section LW
variable {D : va_G} {cy : Nat → ClassId} {sv : Nat → Value} {l : Launch} {X : cv_X} {p : Program} {e : Env} {s : State} {m : MethodId} {b0 : Nat} {below : List Frame} {meth : Method} {c : Code} {as0 : List Nat}
set_option maxHeartbeats 4000000 in
theorem lk_law (hl : l.stackTraces = false) {sa sb : Nat} (hX : cw_Xok X) (hF : lk_F (fun q => s.heap.size ≤ q) sa sb s s.heap) (C0 : cv_Cx cv_T vwCl D cy (fun q => s.heap.size ≤ q) sv X mt_L_law p room_1 s m #[Value.ref b0] meth c)
    (L : cv_L) (h : cv_H) (cN sN : Nat) (g w : Int32) (Gn : Int) (y : Int64) (hT : cw_T Gn h) (hPP : cw_PP Gn h) (hy : h[149]? = some (cv_cl [y])) (hc : cN + 20 ≤ 601024) (hs : sN + 200 ≤ 7293034)
    (kk : ∀ (x : Int32) (h' : cv_H) (y' : Int64), cw_T Gn h' → cw_PP Gn h' → lg_S h h' → h'[149]? = some (cv_cl [y']) → cv_Good vwCl D cy (fun q => s.heap.size ≤ q) sv as0 7 p l e room_1 s m #[Value.ref b0] below meth c (lw_Z below #[Value.ref b0] s) (377, L, [cv_i x], h', cN + 20, sN + 200)) :
    cv_Good vwCl D cy (fun q => s.heap.size ≤ q) sv as0 7 p l e room_1 s m #[Value.ref b0] below meth c (lw_Z below #[Value.ref b0] s) (374, L, [cv_r 149, cv_i w, cv_i g, cv_r 0], h, cN, sN) := by
  have hsv := C0.2.2.2.2.2.2.2.2.2.2.1.1
  obtain ⟨hx, hb, hml, hown, hts, hr, hlk, hnm, hK, hA, hSF, r1, r2, r3, r4⟩ := C0
  intro as ws H locs ls stv has hH hP hD hS hL hst
  obtain ⟨y3, stv1, rfl, hy3, hst1⟩ := cv_relS_cons hst
  obtain ⟨y2, stv2, rfl, hy2, hst2⟩ := cv_relS_cons hst1
  obtain ⟨y1, stv3, rfl, hy1, hst3⟩ := cv_relS_cons hst2
  obtain ⟨y0, stv4, rfl, hy0, hst4⟩ := cv_relS_cons hst3
  have := cv_relS_nil hst4
  subst this
  have hls : ls.size = 7 := by
    obtain ⟨lv, g, -⟩ := hL
    exact g.1
  have hmet := lk_Lmet (D := D) (cy := cy) (A := fun q => s.heap.size ≤ q) (sv := sv) (l := l) (X := X) hl (sa := sa) (sb := sb) hsv hX hT hPP hy (g := g) (w := w) (as := as) (ws := ws) (vs := [y0, y1, y2, y3]) ⟨hy0, hy1, hy2, hy3, trivial⟩ hH hD
  refine lk_go (vx_runSW (As := [y0, y1, y2, y3]) (rest := []) (own := RL) (index := 39) (hh := lk_hh) ⟨hx, hb, hml, hown, hts⟩ hmet (vx_cwSW (R := room_1) 4 hts lk_good39 rfl rfl rfl (by decide +kernel) ⟨Nat.le_of_ble_eq_true rfl, Nat.le_of_ble_eq_true rfl⟩) ⟨lk_blind, fun U hU hW => ⟨rfl, by rw [hU]; exact hP, va_K.moved hW.alike hK, fun q hq => hA q (Nat.le_trans hS.1 (by rw [← hU]; exact hq)), cv_SF_call hSF hW hU hS, lk_F_call hF hW hU hS⟩⟩ rfl rfl hls rfl (lv_room (by decide)) (show decode cL_law 374 = .ok (.invokestatic 39, 3) by decide +kernel) ⟨hc, hs⟩) hS
    (fun x h' hK' as' ws' rv H1 locs1 c1 c2 c3 c4 c5 c6 => ?_)
  obtain ⟨q1, q2, q3, y', q5⟩ := hK'
  exact kk x h' y' q1 q2 q3 q5 as' ws' H1 locs1 ls (rv.toList ++ []) (has.trans c1) c3 c4 c5 c6 (cv_relL_up c1 hL) (by rw [List.append_nil]; exact c2)
theorem lg_good (hl : l.stackTraces = false) {sa sb : Nat} (hX : cw_Xok X) (hF : lk_F (fun q => s.heap.size ≤ q) sa sb s s.heap) (C0 : cv_Cx cv_T vwCl D cy (fun q => s.heap.size ≤ q) sv X mt_L_law p room_1 s m #[Value.ref b0] meth c) :
    lg_R X (cv_Good vwCl D cy (fun q => s.heap.size ≤ q) sv as0 7 p l e room_1 s m #[Value.ref b0] below meth c (lw_Z below #[Value.ref b0] s)) := by
  have hgd := gd_good (as0 := as0) (l := l) (e := e) (below := below) (Q := lw_Z below #[Value.ref b0] s) C0 (al_all.2.2.2.2.2.2 281)
  refine ⟨hgd.1, hgd.2, fun pc L x h cN sN hpc k => ?_, lk_law hl hX hF C0, fun L h cN sN hc hs => ?_⟩
  · obtain ⟨hx, hb, hml, hown, hts, hr, hlk, hnm, hK, hA, hSF, r1, r2, r3, r4⟩ := C0
    intro as ws H locs ls stv has hH hP hD hS hL hst
    obtain ⟨x', stv1, rfl, hdn, hst1⟩ := cv_relS_cons hst
    cases hdn
    have hd : decode cL_law pc = .ok (.pop2, 1) := by
      rcases hpc with rfl | rfl
      · decide +kernel
      · decide +kernel
    exact lv_pop2_2 hx hb hd rfl (k as ws H locs ls stv1 has hH hP hD hS hL hst1)
  · obtain ⟨hx, hb, hml, hown, hts, hr, hlk, hnm, hK, hA, hSF, r1, r2, r3, r4⟩ := C0
    intro as ws H locs ls stv has hH hP hD hS hL hst
    obtain ⟨x', stv1, rfl, hdn, hst1⟩ := cv_relS_cons hst
    cases hdn
    have := cv_relS_nil hst1
    subst this
    refine W.widen (k := 601024) (n := 7293034) hc hs ?_
    refine va_forget (fun q hq => hS.2.2 q hq) ?_
    exact lw_ret (pc := 1494) hx hb hr hlk (by decide +kernel)
end LW
end
