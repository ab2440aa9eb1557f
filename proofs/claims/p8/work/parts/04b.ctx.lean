/-! ===== the context of a frame, what an instruction's row says, the goal at an abstract frame ===== -/
def cv_wd : String := "ground law gate work cause lean open bend knock hooks post brace latch child gap rise has up down square wire wheel stones rehang pull firm deep thick drop week fall and or not "
/-- private members that are called from the nest -/
def cv_nest : List (String × Nat × MethodName) := [(RX11, 36, ⟨"SagGates$Laws", "<init>", "()V"⟩), (RX11, 72, ⟨"SagGates$Notes", "<init>", "()V"⟩), (RX11, 91, ⟨"SagGates$Turns", "<init>", "()V"⟩), (RX5, 85, ⟨"SagGates", "placeOf", "(I[II)I"⟩), (RX1, 131, ⟨"SagGates", "isAngle", "(I)Z"⟩)]
def cv_tab (A : Nat → Prop) (ty : FieldType) (v : Value) (xs : List Int32) (U : State) (H : Heap) : Prop := ∃ (t : Nat) (f : Nat → Int32), v = .ref t ∧ va_T ty t xs.length (fun j => .int (f j)) A U H ∧ ∀ (k : Nat) (x : Int32), xs[k]? = some x → f k = x
theorem cv_tab_to {A : Nat → Prop} {ty : FieldType} {v : Value} {xs : List Int32} {u U : State} {H H1 : Heap} (h : cv_tab A ty v xs u H) (hvm : u.vm.Alike U.vm) (hq : ∀ a : Nat, a < H.size → ¬ A a → H1[a]? = H[a]?) : cv_tab A ty v xs U H1 := by
  obtain ⟨t, f, h1, h2, h3⟩ := h
  exact ⟨t, f, h1, (h2.moved hvm).kept hq, h3⟩
def cv_SF (A : Nat → Prop) (sv : Nat → Value) (X : cv_X) (U : State) (H : Heap) : Prop :=
  (∀ j, sv j = .null ∨ ∃ a, sv j = .ref a) ∧
  (∃ q0 q1 : Nat, sv 0 = .ref q0 ∧ sv 1 = .ref q1 ∧ vk_R RX6 19 cv_wd q0 U ∧ va_O "java/lang/String" q0 A U H ∧ va_OF "java/lang/String" "value" "[B" (.ref q1) q0 A U H ∧ va_OF "java/lang/String" "coder" "B" (.int 0) q0 A U H) ∧
  va_Z "java/lang/String" "COMPACT_STRINGS" "Z" (.int 1) A U H ∧ va_Z "jdk/internal/util/Preconditions" "SIOOBE_FORMATTER" "Ljava/util/function/BiFunction;" (sv 3) A U H ∧
  ((∀ q ∈ cv_nest, va_Nw (.methodLinkNest q.1 q.2.1 q.2.2 RX11) U) ∧ (va_Nw (.fieldLinkNest RX1 134 "SagGates" "COSINES" "[I" RX11) U ∧ va_Nw (.fieldLinkNest RX1 137 "SagGates" "SINES" "[I" RX11) U) ∧ va_AO "SagGates$Gate" U ∧ va_AO "SagGates$Told" U) ∧
  (va_Z "SagGates" "COSINES" "[I" (sv 4) A U H ∧ va_Z "SagGates" "SINES" "[I" (sv 5) A U H) ∧
  ((∀ xs, X 1 = some xs → cv_tab A .byte (sv 1) xs U H) ∧ (∀ xs, X 4 = some xs → cv_tab A .int (sv 4) xs U H) ∧ (∀ xs, X 5 = some xs → cv_tab A .int (sv 5) xs U H)) ∧
  (∀ j, X j ≠ none → j = 1 ∨ j = 2 ∨ j = 4 ∨ j = 5) ∧
  ∀ xs, X 2 = some xs → ∃ (b : Nat) (f : Nat → Int32), sv 2 = .ref b ∧ va_X b xs.length f U H ∧ b < H.size ∧ ¬ A b ∧ ∀ (k : Nat) (x : Int32), xs[k]? = some x → f k = x
def cv_no2 (X : cv_X) : cv_X := fun j => bif j == 2 then none else X j
theorem cv_SF_call {A : Nat → Prop} {sv : Nat → Value} {X : cv_X} {s U : State} {H : Heap} {locs : List Loc} (h : cv_SF A sv X s s.heap) (hW : s.WarmedH U.vm) (hU : U.heap = H) (hS : va_S A s.heap H locs) : cv_SF A sv (cv_no2 X) U U.heap := by
  obtain ⟨h0, ⟨q0, q1, a1, a2, a3, a4, a5, a6⟩, h2, h3, ⟨h4, ⟨h5, h6⟩, h7, h8⟩, ⟨h9, h10⟩, ⟨t1, t4, t5⟩, hj, -⟩ := h
  have hvm := hW.alike
  subst hU
  refine ⟨h0, ⟨q0, q1, a1, a2, a3.warm hW, (a4.moved hvm).kept hS.2.1, (a5.moved hvm).kept hS.2.1, (a6.moved hvm).kept hS.2.1⟩, (h2.moved hvm).kept hS.2.1, (h3.moved hvm).kept hS.2.1,
    ⟨fun q hq => va_Nw.warmM hW (h4 q hq), ⟨va_Nw.warmF hW h5, va_Nw.warmF hW h6⟩, h7.moved hvm, h8.moved hvm⟩, ⟨(h9.moved hvm).kept hS.2.1, (h10.moved hvm).kept hS.2.1⟩,
    ⟨fun xs hx => cv_tab_to (t1 xs hx) hvm hS.2.1, fun xs hx => cv_tab_to (t4 xs hx) hvm hS.2.1, fun xs hx => cv_tab_to (t5 xs hx) hvm hS.2.1⟩, fun j hx => hj j (fun q => hx (by unfold cv_no2; cases (j == 2) <;> simp [q])), fun xs hx => by cases hx⟩
theorem cv_SF_in {A : Nat → Prop} {sv : Nat → Value} {X : cv_X} {U : State} (h : cv_SF A sv X U U.heap) (g : JFrame) (mk : MethodId) (a : Array Value) : cv_SF A sv X (U.calling g mk a) (U.calling g mk a).heap := by
  obtain ⟨h0, ⟨q0, q1, a1, a2, a3, a4, a5, a6⟩, h2, h3, ⟨h4, ⟨h5, h6⟩, h7, h8⟩, ⟨h9, h10⟩, ⟨t1, t4, t5⟩, hj, h11⟩ := h
  have hvm : U.vm.Alike (U.calling g mk a).vm := Vm.Alike.refl U.vm
  exact ⟨h0, ⟨q0, q1, a1, a2, vk_R.same (u := U) rfl a3, a4.moved hvm, a5.moved hvm, a6.moved hvm⟩, h2.moved hvm, h3.moved hvm, ⟨fun q hq => va_Nw.same (u := U) rfl rfl (h4 q hq), ⟨va_Nw.same (u := U) rfl rfl h5, va_Nw.same (u := U) rfl rfl h6⟩, h7.moved hvm, h8.moved hvm⟩, ⟨h9.moved hvm, h10.moved hvm⟩,
    ⟨fun xs hx => cv_tab_to (t1 xs hx) hvm (fun _ _ _ => rfl), fun xs hx => cv_tab_to (t4 xs hx) hvm (fun _ _ _ => rfl), fun xs hx => cv_tab_to (t5 xs hx) hvm (fun _ _ _ => rfl)⟩, hj, fun xs hx => by
    obtain ⟨b, f, b1, b2, b3⟩ := h11 xs hx
    exact ⟨b, f, b1, b2.moved hvm, b3⟩⟩
def cv_Cx (Ts : List Jvm.Cond) (cl : List vw_C) (D : va_G) (cy : Nat → ClassId) (A : Nat → Prop) (sv : Nat → Value) (X : cv_X) (M : cv_M) (p : Program) (R : Room) (s : State) (m : MethodId) (args : Array Value) (meth : Method) (c : Code) : Prop :=
  p.tables.exec = Jvm.exec ∧ c.code = M.1.2.2.1 ∧ c.maxLocals = M.1.2.2.2.1 ∧ s.vm.findClass M.1.1 = some m.cls ∧ (∀ w ∈ Ts, w.before args s = true) ∧ meth.sig.returnType = M.1.2.2.2.2 ∧ meth.locks = false ∧ meth.name = M.1.2.1.name ∧
  va_K D cl (cv_tys cy) s ∧ (∀ q, s.heap.size ≤ q → A q) ∧ cv_SF A sv X s s.heap ∧ R.cells = M.2.2.1 ∧ R.slots = M.2.2.2.1 ∧ M.2.2.2.2.1 ≤ R.frames ∧ M.2.2.2.2.2 ≤ R.locals
def cv_Good (cl : List vw_C) (D : va_G) (cy : Nat → ClassId) (A : Nat → Prop) (sv : Nat → Value) (as0 : List Nat) (nL : Nat) (p : Program) (l : Launch) (e : Env) (R : Room) (s : State) (m : MethodId) (args : Array Value) (below : List Frame) (meth : Method) (c : Code) (Q : State → Prop) (S : cv_S) : Prop :=
  ∀ (as : List Nat) (ws : va_W) (H : Heap) (locs : List Loc) (ls : Array Slot) (stv : List Value), as0 <+: as → cv_relH cy sv as S.2.2.2.1 ws → va_P D cl ws H → va_D A ws → va_S A s.heap H locs → cv_relL sv as nL S.2.1 ls → cv_relS sv as S.2.2.1 stv →
    W p l e R s m args below meth c H locs S.2.2.2.2.1 S.2.2.2.2.2 Q (F0 m S.1 ls stv)
def cv_len (q : Instr) : Nat := match q with
  | .bipush _ => 2
  | .sipush _ => 3
  | .ldc _ => 2
  | .ldc_w _ => 3
  | .ldc2_w _ => 3
  | .getstatic _ => 3
  | .iload _ => 2
  | .lload _ => 2
  | .lstore _ => 2
  | .aload _ => 2
  | .istore _ => 2
  | .astore _ => 2
  | .getfield _ => 3
  | .putfield _ => 3
  | .iinc _ _ => 3
  | .goto _ => 3
  | .if_icmp _ _ => 3
  | .ifCond _ _ => 3
  | .new _ => 3
  | .newarray _ => 2
  | .anewarray _ => 3
  | .invokevirtual _ => 3
  | .invokespecial _ => 3
  | .invokestatic _ => 3
  | _ => 1
def cv_lenok (q : cv_Q) : Bool := match q.2.1 with
  | .tableswitch _ _ _ _ => true
  | i => q.2.2.1 == cv_len i
def cv_kd (t : FieldType) : Nat := match t with
  | .int => 0
  | .byte => 1
  | .boolean => 2
  | .long => 3
  | .object _ => 4
  | .array _ => 4
  | _ => 9
def cv_ak (t : ArrayType) : Nat := match t with
  | .int => 0
  | .byte => 1
  | .boolean => 2
  | .long => 3
  | _ => 9
def cv_lst (k : Nat) : String := bif k == 4 then "SagGates$Gate" else "SagGates$Told"
/-- a callee's own words -/
def cv_okM (Ts : List Jvm.Cond) (M : cv_M) : Prop :=
  Jvm.Cond.code M.1.2.1 M.1.2.2.1 M.1.2.2.2.1 M.1.2.2.2.2 ∈ Ts ∧ M.1.2.1.cls = M.1.1 ∧ Jvm.Cond.initialized M.1.1 ∈ Ts ∧ plainName M.1.2.1.cls = true ∧ (M.1.2.1.cls ≠ "java/lang/invoke/MethodHandle" ∧ M.1.2.1.cls ≠ "java/lang/invoke/VarHandle")
def cv_ok (Ts : List Jvm.Cond) (cl : List vw_C) (mt : Nat → cv_M) (M : cv_M) (q : cv_Q) : Prop :=
  decode M.1.2.2.1 q.1 = .ok (q.2.1, q.2.2.1) ∧ cv_lenok q = true ∧ (match q.2.1 with
    | .ldc i => (q.2.2.2.1 = 0 → Jvm.Cond.constant M.1.1 i (Int32.ofInt q.2.2.2.2.2) ∈ Ts) ∧ (¬ q.2.2.2.1 = 0 → M.1.1 = RX6 ∧ i = 19)
    | .ldc_w i => Jvm.Cond.constant M.1.1 i (Int32.ofInt q.2.2.2.2.2) ∈ Ts
    | .ldc2_w i => Jvm.Cond.constantLong M.1.1 i (Int64.ofInt q.2.2.2.2.2) ∈ Ts
    | .getstatic i => (q.2.2.2.1 = 0 → Jvm.Cond.fieldLink M.1.1 i "java/lang/String" "COMPACT_STRINGS" "Z" ∈ Ts) ∧ (q.2.2.2.1 = 3 → Jvm.Cond.fieldLink M.1.1 i "jdk/internal/util/Preconditions" "SIOOBE_FORMATTER" "Ljava/util/function/BiFunction;" ∈ Ts) ∧
        (q.2.2.2.1 = 4 → M.1.1 = RX1 ∧ i = 134) ∧ (q.2.2.2.1 = 5 → M.1.1 = RX1 ∧ i = 137) ∧ (q.2.2.2.1 = 0 ∨ q.2.2.2.1 = 3 ∨ q.2.2.2.1 = 4 ∨ q.2.2.2.1 = 5)
    | .getfield i => (q.2.2.2.1 = 100 → (q.2.2.2.2.1 = 0 → Jvm.Cond.fieldLink M.1.1 i "java/lang/String" "value" "[B" ∈ Ts) ∧ (¬ q.2.2.2.2.1 = 0 → Jvm.Cond.fieldLink M.1.1 i "java/lang/String" "coder" "B" ∈ Ts)) ∧
        (¬ q.2.2.2.1 = 100 → ∃ (C : String) (T : u_T) (N : Nat), cl[q.2.2.2.1]? = some (C, T, N) ∧ q.2.2.2.2.1 < N ∧ Jvm.Cond.fieldLink M.1.1 i (T q.2.2.2.2.1).1 (T q.2.2.2.2.1).2.1 (T q.2.2.2.2.1).2.2.1 ∈ Ts)
    | .putfield i => ∃ (C : String) (T : u_T) (N : Nat) (ty : FieldType), cl[q.2.2.2.1]? = some (C, T, N) ∧ q.2.2.2.2.1 < N ∧ Jvm.Cond.fieldLink M.1.1 i (T q.2.2.2.2.1).1 (T q.2.2.2.2.1).2.1 (T q.2.2.2.2.1).2.2.1 ∈ Ts ∧
        parseFieldDescriptor (T q.2.2.2.2.1).2.2.1 = some ty ∧ cv_kd ty = q.2.2.2.2.2.toNat ∧ ((T q.2.2.2.2.1).2.2.2 = true → M.1.2.1.name = "<init>" ∧ (T q.2.2.2.2.1).1 = M.1.1)
    | .new i => ∃ (C : String) (T : u_T) (N : Nat), cl[q.2.2.2.1]? = some (C, T, N) ∧ Jvm.Cond.classLink M.1.1 i C ∈ Ts ∧ Jvm.Cond.instantiable C N ∈ Ts ∧ Jvm.Cond.initialized C ∈ Ts
    | .newarray t => Jvm.Cond.arrayClass (newarray.typeOf t) ∈ Ts ∧ cv_ak t = q.2.2.2.1
    | .anewarray i => Jvm.Cond.classLink M.1.1 i (cv_lst q.2.2.2.1) ∈ Ts
    | .iload_n k => k.val < M.1.2.2.2.1
    | .istore_n k => k.val < M.1.2.2.2.1
    | .lstore_n k => k.val + 1 < M.1.2.2.2.1
    | .lstore k => k + 1 < M.1.2.2.2.1
    | .istore k => k < M.1.2.2.2.1
    | .astore_n k => k.val < M.1.2.2.2.1
    | .astore k => k < M.1.2.2.2.1
    | .iinc k _ => k < M.1.2.2.2.1
    | .invokespecial i => (q.2.2.2.1 = 9999 → Jvm.Cond.methodLink M.1.1 i Lib.objectInit ∈ Ts ∧ Jvm.Cond.instanceMethod Lib.objectInit ∈ Ts ∧ Jvm.Cond.code Lib.objectInit ⟨#[0xb1]⟩ 1 none ∈ Ts) ∧
        (q.2.2.2.1 < 9000 → cv_okM Ts (mt q.2.2.2.1) ∧ (mt q.2.2.2.1).1.2.1.name = "<init>" ∧ (mt q.2.2.2.1).1.2.2.2.2 = none ∧ Jvm.Cond.instanceMethod (mt q.2.2.2.1).1.2.1 ∈ Ts ∧ (parseMethodDescriptor (mt q.2.2.2.1).1.2.1.desc).map (fun d => d.parameters.length) = some q.2.2.2.2.1 ∧
          (Jvm.Cond.methodLink M.1.1 i (mt q.2.2.2.1).1.2.1 ∈ Ts ∨ (M.1.1, i, (mt q.2.2.2.1).1.2.1) ∈ cv_nest))
    | .invokestatic i => (q.2.2.2.1 = 9001 → Jvm.Cond.methodLink M.1.1 i Lib.Math.max.name ∈ Ts ∧ Jvm.Cond.static Lib.Math.max.name ∈ Ts ∧ Jvm.Cond.initialized "java/lang/Math" ∈ Ts ∧ Jvm.Cond.code Lib.Math.max.name Lib.Math.max.code 2 (some .int) ∈ Ts) ∧ (q.2.2.2.1 = 9002 → Jvm.Cond.methodLink M.1.1 i Lib.Math.min.name ∈ Ts ∧ Jvm.Cond.static Lib.Math.min.name ∈ Ts ∧ Jvm.Cond.initialized "java/lang/Math" ∈ Ts ∧ Jvm.Cond.code Lib.Math.min.name Lib.Math.min.code 2 (some .int) ∈ Ts) ∧ (q.2.2.2.1 = 9003 → Jvm.Cond.methodLink M.1.1 i Lib.Math.abs.name ∈ Ts ∧ Jvm.Cond.static Lib.Math.abs.name ∈ Ts ∧ Jvm.Cond.initialized "java/lang/Math" ∈ Ts ∧ Jvm.Cond.code Lib.Math.abs.name Lib.Math.abs.code 1 (some .int) ∈ Ts) ∧ (q.2.2.2.1 = 9004 → Jvm.Cond.methodLink M.1.1 i Lib.MathLoose.max_long.x ∈ Ts ∧ Jvm.Cond.static Lib.MathLoose.max_long.x ∈ Ts ∧ Jvm.Cond.initialized "java/lang/Math" ∈ Ts ∧ Jvm.Cond.code Lib.MathLoose.max_long.x Lib.MathLoose.max_long.code 4 (some .long) ∈ Ts) ∧ (q.2.2.2.1 = 9005 → Jvm.Cond.methodLink M.1.1 i Lib.MathLoose.min_long.x ∈ Ts ∧ Jvm.Cond.static Lib.MathLoose.min_long.x ∈ Ts ∧ Jvm.Cond.initialized "java/lang/Math" ∈ Ts ∧ Jvm.Cond.code Lib.MathLoose.min_long.x Lib.MathLoose.min_long.code 4 (some .long) ∈ Ts) ∧ (q.2.2.2.1 = 9006 → Jvm.Cond.methodLink M.1.1 i Lib.MathLoose.abs_long.x ∈ Ts ∧ Jvm.Cond.static Lib.MathLoose.abs_long.x ∈ Ts ∧ Jvm.Cond.initialized "java/lang/Math" ∈ Ts ∧ Jvm.Cond.code Lib.MathLoose.abs_long.x Lib.MathLoose.abs_long.code 2 (some .long) ∈ Ts) ∧
        (q.2.2.2.1 < 9000 → cv_okM Ts (mt q.2.2.2.1) ∧ Jvm.Cond.static (mt q.2.2.2.1).1.2.1 ∈ Ts ∧ (parseMethodDescriptor (mt q.2.2.2.1).1.2.1.desc).map (fun d => d.parameters.length) = some q.2.2.2.2.1 ∧ (Jvm.Cond.methodLink M.1.1 i (mt q.2.2.2.1).1.2.1 ∈ Ts ∨ (M.1.1, i, (mt q.2.2.2.1).1.2.1) ∈ cv_nest))
    | .invokevirtual i => cv_okM Ts (mt q.2.2.2.1) ∧ Jvm.Cond.instanceMethod (mt q.2.2.2.1).1.2.1 ∈ Ts ∧ Jvm.Cond.selects (mt q.2.2.2.1).1.1 (mt q.2.2.2.1).1.2.1 (mt q.2.2.2.1).1.2.1 ∈ Ts ∧ (parseMethodDescriptor (mt q.2.2.2.1).1.2.1.desc).map (fun d => d.parameters.length) = some q.2.2.2.2.1 ∧ Jvm.Cond.methodLink M.1.1 i (mt q.2.2.2.1).1.2.1 ∈ Ts ∧
        ((q.2.2.2.2.2.toNat = 100 ∧ (mt q.2.2.2.1).1.1 = "java/lang/String") ∨ ∃ (T : u_T) (N : Nat), cl[q.2.2.2.2.2.toNat]? = some ((mt q.2.2.2.1).1.1, T, N))
    | _ => True)
/-- the classes' tables -/
def cv_cls (Ts : List Jvm.Cond) (cl : List vw_C) (F : cv_F) : Prop := ∀ (ci : Nat) (C : String) (T : u_T) (N : Nat), cl[ci]? = some (C, T, N) →
  (∀ w ∈ u_ws C T N, w ∈ Ts) ∧ (∀ a, a < N → ∀ b, b < N → a ≠ b → (T a).2.1 ≠ (T b).2.1) ∧ ∃ (ty : Nat → FieldType) (ks : List Nat), (∀ k, k < N → parseFieldDescriptor (T k).2.2.1 = some (ty k)) ∧ F[ci]? = some ks ∧ ks.length = N ∧ ∀ k, k < N → ks[k]? = some (cv_kd (ty k)) ∧ cv_kd (ty k) ≤ 4 ∧ cv_kd (ty k) ≠ 1
