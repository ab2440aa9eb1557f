/-! ===== the context of a frame, what an instruction's row says, the goal at an abstract frame ===== -/
def av_wd : String := "ground law gate work cause lean open bend knock hooks post brace latch child gap rise has up down square wire wheel stones rehang pull firm deep thick drop week fall and or not "
/-- the private constructors that the host calls -/
def av_nest : List (Nat × MethodName) := [(36, ⟨"SagGates$Laws", "<init>", "()V"⟩), (72, ⟨"SagGates$Notes", "<init>", "()V"⟩), (91, ⟨"SagGates$Turns", "<init>", "()V"⟩)]
def av_SF (A : Nat → Prop) (sv : Nat → Value) (X : av_X) (U : State) (H : Heap) : Prop :=
  ((∀ j, sv j = .null ∨ ∃ a, sv j = .ref a)) ∧
  (∃ q0 q1 : Nat, sv 0 = .ref q0 ∧ sv 1 = .ref q1 ∧ vk_R RX6 19 av_wd q0 U ∧ va_O "java/lang/String" q0 A U H ∧ va_OF "java/lang/String" "value" "[B" (.ref q1) q0 A U H ∧ va_OF "java/lang/String" "coder" "B" (.int 0) q0 A U H ∧
    ∃ f : Nat → Int32, va_T .byte q1 X.1.length (fun j => .int (f j)) A U H ∧ ∀ (k : Nat) (v : av_V), X.1[k]? = some v → av_dn sv [] v (.int (f k))) ∧
  va_Z "java/lang/String" "COMPACT_STRINGS" "Z" (.int 1) A U H ∧ va_Z "jdk/internal/util/Preconditions" "SIOOBE_FORMATTER" "Ljava/util/function/BiFunction;" (sv 3) A U H ∧
  ((∀ q ∈ av_nest, va_Nw (.methodLinkNest RX11 q.1 q.2 RX11) U) ∧ va_AO "SagGates$Gate" U ∧ va_AO "SagGates$Told" U) ∧
  ∀ xs, X.2 = some xs → ∃ (b : Nat) (f : Nat → Int32), sv 2 = .ref b ∧ va_X b xs.length f U H ∧ b < H.size ∧ ¬ A b ∧ ∀ (k : Nat) (v : av_V), xs[k]? = some v → av_dn sv [] v (.int (f k))
theorem av_SF_call {A : Nat → Prop} {sv : Nat → Value} {X : av_X} {s U : State} {H : Heap} {locs : List Loc} (h : av_SF A sv X s s.heap) (hW : s.WarmedH U.vm) (hU : U.heap = H) (hS : va_S A s.heap H locs) : av_SF A sv (X.1, none) U U.heap := by
  obtain ⟨h0, ⟨q0, q1, a1, a2, a3, a4, a5, a6, f, a7, a8⟩, h2, h3, h4, -⟩ := h
  have hvm := hW.alike
  subst hU
  refine ⟨h0, ⟨q0, q1, a1, a2, a3.warm hW, (a4.moved hvm).kept hS.2.1, (a5.moved hvm).kept hS.2.1, (a6.moved hvm).kept hS.2.1, f, (a7.moved hvm).kept hS.2.1, a8⟩, (h2.moved hvm).kept hS.2.1, (h3.moved hvm).kept hS.2.1, ⟨fun q hq => va_Nw.warmM hW (h4.1 q hq), h4.2.1.moved hvm, h4.2.2.moved hvm⟩, fun xs hx => by cases hx⟩
theorem av_SF_in {A : Nat → Prop} {sv : Nat → Value} {X : av_X} {U : State} (h : av_SF A sv X U U.heap) (g : JFrame) (mk : MethodId) (a : Array Value) : av_SF A sv X (U.calling g mk a) (U.calling g mk a).heap := by
  obtain ⟨h0, ⟨q0, q1, a1, a2, a3, a4, a5, a6, f, a7, a8⟩, h2, h3, h4, h5⟩ := h
  have hvm : U.vm.Alike (U.calling g mk a).vm := Vm.Alike.refl U.vm
  exact ⟨h0, ⟨q0, q1, a1, a2, vk_R.same (u := U) rfl a3, a4.moved hvm, a5.moved hvm, a6.moved hvm, f, a7.moved hvm, a8⟩, h2.moved hvm, h3.moved hvm, ⟨fun q hq => va_Nw.same (u := U) rfl rfl (h4.1 q hq), h4.2.1.moved hvm, h4.2.2.moved hvm⟩, fun xs hx => by
    obtain ⟨b, f, b1, b2, b3⟩ := h5 xs hx
    exact ⟨b, f, b1, b2.moved hvm, b3⟩⟩
def av_Cx (Ts : List Jvm.Cond) (cl : List vw_C) (D : va_G) (cy : Nat → ClassId) (A : Nat → Prop) (sv : Nat → Value) (X : av_X) (M : av_M) (p : Program) (R : Room) (s : State) (m : MethodId) (args : Array Value) (meth : Method) (c : Code) : Prop :=
  p.tables.exec = Jvm.exec ∧ c.code = M.1.2.2.1 ∧ c.maxLocals = M.1.2.2.2.1 ∧ s.vm.findClass M.1.1 = some m.cls ∧ (∀ w ∈ Ts, w.before args s = true) ∧ meth.sig.returnType = M.1.2.2.2.2 ∧ meth.locks = false ∧ meth.name = M.1.2.1.name ∧
  va_K D cl (av_tys cy) s ∧ (∀ q, s.heap.size ≤ q → A q) ∧ av_SF A sv X s s.heap ∧ R.cells = M.2.2.1 ∧ R.slots = M.2.2.2.1 ∧ M.2.2.2.2.1 ≤ R.frames ∧ M.2.2.2.2.2 ≤ R.locals
def av_Good (cl : List vw_C) (D : va_G) (cy : Nat → ClassId) (A : Nat → Prop) (sv : Nat → Value) (as0 : List Nat) (nL : Nat) (p : Program) (l : Launch) (e : Env) (R : Room) (s : State) (m : MethodId) (args : Array Value) (below : List Frame) (meth : Method) (c : Code) (Q : State → Prop) (S : av_S) : Prop :=
  ∀ (as : List Nat) (ws : va_W) (H : Heap) (locs : List Loc) (ls : Array Slot) (stv : List Value), as0 <+: as → av_relH cy sv as S.2.2.2.1 ws → va_P D cl ws H → va_D A ws → va_S A s.heap H locs → av_relL sv as nL S.2.1 ls → av_relS sv as S.2.2.1 stv →
    W p l e R s m args below meth c H locs S.2.2.2.2.1 S.2.2.2.2.2 Q (F0 m S.1 ls stv)
def av_len (q : Instr) : Nat := match q with
  | .bipush _ => 2
  | .sipush _ => 3
  | .ldc _ => 2
  | .ldc_w _ => 3
  | .ldc2_w _ => 3
  | .getstatic _ => 3
  | .iload _ => 2
  | .aload _ => 2
  | .istore _ => 2
  | .astore _ => 2
  | .getfield _ => 3
  | .putfield _ => 3
  | .iinc _ _ => 3
  | .goto _ => 3
  | .if_icmp _ _ => 3
  | .ifCond _ _ => 3
  | .new _ => 3
  | .newarray _ => 2
  | .anewarray _ => 3
  | .invokevirtual _ => 3
  | .invokespecial _ => 3
  | .invokestatic _ => 3
  | _ => 1
def av_lenok (q : av_Q) : Bool := match q.2.1 with
  | .tableswitch _ _ _ _ => true
  | i => q.2.2.1 == av_len i
def av_kd (t : FieldType) : Nat := match t with
  | .int => 0
  | .byte => 1
  | .boolean => 2
  | .long => 3
  | .object _ => 4
  | .array _ => 4
  | _ => 9
def av_ak (t : ArrayType) : Nat := match t with
  | .int => 0
  | .byte => 1
  | .boolean => 2
  | .long => 3
  | _ => 9
def av_lst (k : Nat) : String := bif k == 4 then "SagGates$Gate" else "SagGates$Told"
/-- a callee's own words -/
def av_okM (Ts : List Jvm.Cond) (M : av_M) : Prop :=
  Jvm.Cond.code M.1.2.1 M.1.2.2.1 M.1.2.2.2.1 M.1.2.2.2.2 ∈ Ts ∧ M.1.2.1.cls = M.1.1 ∧ Jvm.Cond.initialized M.1.1 ∈ Ts ∧ plainName M.1.2.1.cls = true ∧ (M.1.2.1.cls ≠ "java/lang/invoke/MethodHandle" ∧ M.1.2.1.cls ≠ "java/lang/invoke/VarHandle")
def av_ok (Ts : List Jvm.Cond) (cl : List vw_C) (mt : Nat → av_M) (M : av_M) (q : av_Q) : Prop :=
  decode M.1.2.2.1 q.1 = .ok (q.2.1, q.2.2.1) ∧ av_lenok q = true ∧ (match q.2.1 with
    | .ldc i => (q.2.2.2.1 = 0 → Jvm.Cond.constant M.1.1 i (Int32.ofInt q.2.2.2.2.2) ∈ Ts) ∧ (¬ q.2.2.2.1 = 0 → M.1.1 = RX6 ∧ i = 19)
    | .ldc_w i => Jvm.Cond.constant M.1.1 i (Int32.ofInt q.2.2.2.2.2) ∈ Ts
    | .ldc2_w i => Jvm.Cond.constantLong M.1.1 i (Int64.ofInt q.2.2.2.2.2) ∈ Ts
    | .getstatic i => (q.2.2.2.1 = 0 → Jvm.Cond.fieldLink M.1.1 i "java/lang/String" "COMPACT_STRINGS" "Z" ∈ Ts) ∧ (¬ q.2.2.2.1 = 0 → Jvm.Cond.fieldLink M.1.1 i "jdk/internal/util/Preconditions" "SIOOBE_FORMATTER" "Ljava/util/function/BiFunction;" ∈ Ts)
    | .getfield i => (q.2.2.2.1 = 100 → (q.2.2.2.2.1 = 0 → Jvm.Cond.fieldLink M.1.1 i "java/lang/String" "value" "[B" ∈ Ts) ∧ (¬ q.2.2.2.2.1 = 0 → Jvm.Cond.fieldLink M.1.1 i "java/lang/String" "coder" "B" ∈ Ts)) ∧
        (¬ q.2.2.2.1 = 100 → ∃ (C : String) (T : u_T) (N : Nat), cl[q.2.2.2.1]? = some (C, T, N) ∧ q.2.2.2.2.1 < N ∧ Jvm.Cond.fieldLink M.1.1 i (T q.2.2.2.2.1).1 (T q.2.2.2.2.1).2.1 (T q.2.2.2.2.1).2.2.1 ∈ Ts)
    | .putfield i => ∃ (C : String) (T : u_T) (N : Nat) (ty : FieldType), cl[q.2.2.2.1]? = some (C, T, N) ∧ q.2.2.2.2.1 < N ∧ Jvm.Cond.fieldLink M.1.1 i (T q.2.2.2.2.1).1 (T q.2.2.2.2.1).2.1 (T q.2.2.2.2.1).2.2.1 ∈ Ts ∧
        parseFieldDescriptor (T q.2.2.2.2.1).2.2.1 = some ty ∧ av_kd ty = q.2.2.2.2.2.toNat ∧ ((T q.2.2.2.2.1).2.2.2 = true → M.1.2.1.name = "<init>" ∧ (T q.2.2.2.2.1).1 = M.1.1)
    | .new i => ∃ (C : String) (T : u_T) (N : Nat), cl[q.2.2.2.1]? = some (C, T, N) ∧ Jvm.Cond.classLink M.1.1 i C ∈ Ts ∧ Jvm.Cond.instantiable C N ∈ Ts ∧ Jvm.Cond.initialized C ∈ Ts
    | .newarray t => Jvm.Cond.arrayClass (newarray.typeOf t) ∈ Ts ∧ av_ak t = q.2.2.2.1
    | .anewarray i => Jvm.Cond.classLink M.1.1 i (av_lst q.2.2.2.1) ∈ Ts
    | .iload_n k => k.val < M.1.2.2.2.1
    | .istore_n k => k.val < M.1.2.2.2.1
    | .istore k => k < M.1.2.2.2.1
    | .astore_n k => k.val < M.1.2.2.2.1
    | .astore k => k < M.1.2.2.2.1
    | .iinc k _ => k < M.1.2.2.2.1
    | .invokespecial i => (q.2.2.2.1 = 9999 → Jvm.Cond.methodLink M.1.1 i Lib.objectInit ∈ Ts ∧ Jvm.Cond.instanceMethod Lib.objectInit ∈ Ts ∧ Jvm.Cond.code Lib.objectInit ⟨#[0xb1]⟩ 1 none ∈ Ts) ∧
        (q.2.2.2.1 < 9000 → av_okM Ts (mt q.2.2.2.1) ∧ (mt q.2.2.2.1).1.2.1.name = "<init>" ∧ (mt q.2.2.2.1).1.2.2.2.2 = none ∧ Jvm.Cond.instanceMethod (mt q.2.2.2.1).1.2.1 ∈ Ts ∧ (parseMethodDescriptor (mt q.2.2.2.1).1.2.1.desc).map (fun d => d.parameters.length) = some q.2.2.2.2.1 ∧
          (Jvm.Cond.methodLink M.1.1 i (mt q.2.2.2.1).1.2.1 ∈ Ts ∨ (M.1.1 = RX11 ∧ (i, (mt q.2.2.2.1).1.2.1) ∈ av_nest)))
    | .invokestatic i => (q.2.2.2.1 = 9001 → Jvm.Cond.methodLink M.1.1 i Lib.Math.max.name ∈ Ts ∧ Jvm.Cond.static Lib.Math.max.name ∈ Ts ∧ Jvm.Cond.initialized "java/lang/Math" ∈ Ts ∧ Jvm.Cond.code Lib.Math.max.name Lib.Math.max.code 2 (some .int) ∈ Ts) ∧
        (q.2.2.2.1 = 9002 → Jvm.Cond.methodLink M.1.1 i Lib.Math.min.name ∈ Ts ∧ Jvm.Cond.static Lib.Math.min.name ∈ Ts ∧ Jvm.Cond.initialized "java/lang/Math" ∈ Ts ∧ Jvm.Cond.code Lib.Math.min.name Lib.Math.min.code 2 (some .int) ∈ Ts) ∧
        (q.2.2.2.1 < 9000 → av_okM Ts (mt q.2.2.2.1) ∧ Jvm.Cond.static (mt q.2.2.2.1).1.2.1 ∈ Ts ∧ (parseMethodDescriptor (mt q.2.2.2.1).1.2.1.desc).map (fun d => d.parameters.length) = some q.2.2.2.2.1 ∧ Jvm.Cond.methodLink M.1.1 i (mt q.2.2.2.1).1.2.1 ∈ Ts)
    | .invokevirtual i => av_okM Ts (mt q.2.2.2.1) ∧ Jvm.Cond.instanceMethod (mt q.2.2.2.1).1.2.1 ∈ Ts ∧ Jvm.Cond.selects (mt q.2.2.2.1).1.1 (mt q.2.2.2.1).1.2.1 (mt q.2.2.2.1).1.2.1 ∈ Ts ∧ (parseMethodDescriptor (mt q.2.2.2.1).1.2.1.desc).map (fun d => d.parameters.length) = some q.2.2.2.2.1 ∧ Jvm.Cond.methodLink M.1.1 i (mt q.2.2.2.1).1.2.1 ∈ Ts ∧
        ((q.2.2.2.2.2.toNat = 100 ∧ (mt q.2.2.2.1).1.1 = "java/lang/String") ∨ ∃ (T : u_T) (N : Nat), cl[q.2.2.2.2.2.toNat]? = some ((mt q.2.2.2.1).1.1, T, N))
    | _ => True)
/-- the classes' tables -/
def av_cls (Ts : List Jvm.Cond) (cl : List vw_C) (F : av_F) : Prop := ∀ (ci : Nat) (C : String) (T : u_T) (N : Nat), cl[ci]? = some (C, T, N) →
  (∀ w ∈ u_ws C T N, w ∈ Ts) ∧ (∀ a, a < N → ∀ b, b < N → a ≠ b → (T a).2.1 ≠ (T b).2.1) ∧ ∃ (ty : Nat → FieldType) (ks : List Nat), (∀ k, k < N → parseFieldDescriptor (T k).2.2.1 = some (ty k)) ∧ F[ci]? = some ks ∧ ks.length = N ∧ ∀ k, k < N → ks[k]? = some (av_kd (ty k)) ∧ av_kd (ty k) ≤ 4 ∧ av_kd (ty k) ≠ 1
/-! the ints -/
theorem av_i32 (n : Int32) : -2147483648 ≤ n.toInt ∧ n.toInt ≤ 2147483647 := by
  have h1 := n.toInt_lt
  have h2 := n.le_toInt
  omega
theorem av_top_ok (n : Int32) : av_top.1 ≤ n.toInt ∧ n.toInt ≤ av_top.2 := av_i32 n
theorem av_one_of {a : Int} {x : Int32} (h1 : a ≤ x.toInt) (h2 : x.toInt ≤ a) : x = Int32.ofInt a := by
  have : a = x.toInt := by omega
  subst this
  exact (Int32.ofInt_toInt x).symm
theorem av_b2_ok (f : Int32 → Int32 → Int32) {a b : Int × Int} {x y : Int32} (hx : a.1 ≤ x.toInt ∧ x.toInt ≤ a.2) (hy : b.1 ≤ y.toInt ∧ y.toInt ≤ b.2) : (av_b2 f a b).1 ≤ (f x y).toInt ∧ (f x y).toInt ≤ (av_b2 f a b).2 := by
  unfold av_b2
  cases hc : (decide (a.1 = a.2) && decide (b.1 = b.2)) with
  | false => exact av_top_ok _
  | true =>
    simp only [Bool.and_eq_true, decide_eq_true_eq] at hc
    have e1 : x = Int32.ofInt a.1 := av_one_of hx.1 (by omega)
    have e2 : y = Int32.ofInt b.1 := av_one_of hy.1 (by omega)
    rw [cond_true, ← e1, ← e2]
    exact ⟨Int.le_refl _, Int.le_refl _⟩
theorem av_u1_ok (f : Int32 → Int32) {a : Int × Int} {x : Int32} (hx : a.1 ≤ x.toInt ∧ x.toInt ≤ a.2) : (av_u1 f a).1 ≤ (f x).toInt ∧ (f x).toInt ≤ (av_u1 f a).2 := by
  unfold av_u1
  cases hc : decide (a.1 = a.2) with
  | false => exact av_top_ok _
  | true =>
    simp only [decide_eq_true_eq] at hc
    have e1 : x = Int32.ofInt a.1 := av_one_of hx.1 (by omega)
    rw [cond_true, ← e1]
    exact ⟨Int.le_refl _, Int.le_refl _⟩
theorem av_nat {x : Int32} (h : 0 ≤ x.toInt) : ∃ j : Nat, j < 2 ^ 31 ∧ x = nI j ∧ x.toInt = j := by
  obtain ⟨j, h1, h2⟩ := nI_of (x := x) (fun q => by rw [Int32.lt_iff_toInt_lt] at q; simp at q; omega)
  exact ⟨j, h1, h2, by rw [h2]; exact nI_toInt h1⟩
theorem av_mul_ok {a b : Int × Int} {x y : Int32} (hx : a.1 ≤ x.toInt ∧ x.toInt ≤ a.2) (hy : b.1 ≤ y.toInt ∧ y.toInt ≤ b.2) : (av_mul a b).1 ≤ (x * y).toInt ∧ (x * y).toInt ≤ (av_mul a b).2 := by
  unfold av_mul
  cases hc : (decide (b.1 = b.2) && (decide (0 ≤ a.1) && (decide (0 ≤ b.1) && (decide (a.1 < a.2) && decide (a.2 * b.1 ≤ 2147483647))))) with
  | false => exact av_b2_ok (fun x y => x * y) hx hy
  | true =>
    simp only [Bool.and_eq_true, decide_eq_true_eq] at hc
    obtain ⟨c1, c2, c3, c4, c5⟩ := hc
    obtain ⟨j, j1, j2, j3⟩ := av_nat (x := x) (by omega)
    obtain ⟨k, k1, k2, k3⟩ := av_nat (x := y) (by omega)
    have hb : b.1 = (k : Int) := by omega
    have h1 : a.1 * b.1 ≤ (j : Int) * k := by rw [hb]; exact Int.mul_le_mul_of_nonneg_right (by omega) (by omega)
    have h2 : (j : Int) * k ≤ a.2 * b.1 := by rw [hb]; exact Int.mul_le_mul_of_nonneg_right (by omega) (by omega)
    have h3 : ((j * k : Nat) : Int) = (j : Int) * k := by push_cast; rfl
    have h4 : j * k < 2 ^ 31 := by omega
    rw [cond_true, j2, k2, pk_mul, nI_toInt h4, h3]
    exact ⟨h1, h2⟩
theorem av_ne0 {b : Int × Int} {y : Int32} (hy : b.1 ≤ y.toInt ∧ y.toInt ≤ b.2) (h : b.1 = b.2) (h0 : ¬ b.1 = 0) : ¬ y = 0 := by
  intro q
  subst q
  simp at hy
  omega
theorem av_div_ok {a b r : Int × Int} {x y : Int32} (hr : av_div a b = some r) (hx : a.1 ≤ x.toInt ∧ x.toInt ≤ a.2) (hy : b.1 ≤ y.toInt ∧ y.toInt ≤ b.2) : ¬ y = 0 ∧ r.1 ≤ (x / y).toInt ∧ (x / y).toInt ≤ r.2 := by
  unfold av_div at hr
  cases hc : (decide (b.1 = b.2) && (decide (0 < b.1) && (decide (0 ≤ a.1) && decide (a.1 < a.2)))) with
  | true =>
    rw [hc, cond_true] at hr
    cases hr
    simp only [Bool.and_eq_true, decide_eq_true_eq] at hc
    obtain ⟨c1, c2, c3, c4⟩ := hc
    obtain ⟨j, j1, j2, j3⟩ := av_nat (x := x) (by omega)
    obtain ⟨k, k1, k2, k3⟩ := av_nat (x := y) (by omega)
    refine ⟨av_ne0 hy c1 (by omega), ?_⟩
    have hd : j / k ≤ j := Nat.div_le_self _ _
    rw [j2, k2, pk_div j1 (by omega) k1]
    generalize j / k = g at hd
    rw [nI_toInt (by omega)]
    dsimp only
    omega
  | false =>
    rw [hc, cond_false] at hr
    cases hc2 : (decide (b.1 = b.2) && (decide (a.1 = a.2) && !decide (b.1 = 0))) with
    | false => rw [hc2] at hr; cases hr
    | true =>
      rw [hc2, cond_true] at hr
      cases hr
      simp only [Bool.and_eq_true, Bool.not_eq_true', decide_eq_true_eq, decide_eq_false_iff_not] at hc2
      exact ⟨av_ne0 hy hc2.1 hc2.2.2, av_b2_ok (fun x y => x / y) hx hy⟩
theorem av_rem_ok {a b r : Int × Int} {x y : Int32} (hr : av_rem a b = some r) (hx : a.1 ≤ x.toInt ∧ x.toInt ≤ a.2) (hy : b.1 ≤ y.toInt ∧ y.toInt ≤ b.2) : ¬ y = 0 ∧ r.1 ≤ (x - x / y * y).toInt ∧ (x - x / y * y).toInt ≤ r.2 := by
  unfold av_rem at hr
  cases hc : (decide (b.1 = b.2) && (decide (0 < b.1) && (decide (0 ≤ a.1) && decide (a.1 < a.2)))) with
  | true =>
    rw [hc, cond_true] at hr
    cases hr
    simp only [Bool.and_eq_true, decide_eq_true_eq] at hc
    obtain ⟨c1, c2, c3, c4⟩ := hc
    obtain ⟨j, j1, j2, j3⟩ := av_nat (x := x) (by omega)
    obtain ⟨k, k1, k2, k3⟩ := av_nat (x := y) (by omega)
    refine ⟨av_ne0 hy c1 (by omega), ?_⟩
    have hd : j % k < k := Nat.mod_lt _ (by omega)
    rw [j2, k2, pk_rem j1 (by omega) k1]
    generalize j % k = g at hd
    rw [nI_toInt (by omega)]
    dsimp only
    omega
  | false =>
    rw [hc, cond_false] at hr
    cases hc2 : (decide (b.1 = b.2) && (decide (a.1 = a.2) && !decide (b.1 = 0))) with
    | false => rw [hc2] at hr; cases hr
    | true =>
      rw [hc2, cond_true] at hr
      cases hr
      simp only [Bool.and_eq_true, Bool.not_eq_true', decide_eq_true_eq, decide_eq_false_iff_not] at hc2
      exact ⟨av_ne0 hy hc2.1 hc2.2.2, av_b2_ok (fun x y => x - x / y * y) hx hy⟩
theorem av_lt_ok {a b : Int × Int} {x y : Int32} (hx : a.1 ≤ x.toInt ∧ x.toInt ≤ a.2) (hy : b.1 ≤ y.toInt ∧ y.toInt ≤ b.2) {r : Bool} (h : av_lt a b = some r) : (x < y ↔ r = true) := by
  unfold av_lt at h
  rw [Int32.lt_iff_toInt_lt]
  cases h1 : decide (a.2 < b.1) with
  | true => rw [h1] at h; cases h; simp at h1; simp; omega
  | false =>
    rw [h1, cond_false] at h
    cases h2 : decide (b.2 ≤ a.1) with
    | true => rw [h2] at h; cases h; simp at h2; simp; omega
    | false => rw [h2] at h; cases h
theorem av_eq_ok {a b : Int × Int} {x y : Int32} (hx : a.1 ≤ x.toInt ∧ x.toInt ≤ a.2) (hy : b.1 ≤ y.toInt ∧ y.toInt ≤ b.2) {r : Bool} (h : av_eq a b = some r) : (x = y ↔ r = true) := by
  unfold av_eq at h
  rw [← Int32.toInt_inj]
  cases h1 : (decide (a.1 = a.2) && (decide (b.1 = b.2) && decide (a.1 = b.1))) with
  | true => rw [h1] at h; cases h; simp at h1; simp; omega
  | false =>
    rw [h1, cond_false] at h
    cases h2 : (decide (a.2 < b.1) || decide (b.2 < a.1)) with
    | true => rw [h2] at h; cases h; simp at h2; simp; omega
    | false => rw [h2] at h; cases h
