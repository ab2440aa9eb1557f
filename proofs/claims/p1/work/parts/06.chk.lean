/-! ===== the rows' words, by their places in the tables ===== -/
def av_T : List Jvm.Cond := lw_tbl.filter goodWord
theorem av_T_good : GoodIn av_T av_T := fun w hw => ⟨hw, good_of_word (List.mem_filter.mp hw).2⟩
def av_pt (k : Nat) : List Jvm.Cond := match k with
  | 0 => k2_sels lw_privs
  | 1 => tables_1_1
  | 2 => tables_1_2
  | 3 => tables_1_3
  | 4 => tables_1_4
  | 5 => tables_1_5
  | 6 => tables_1_6
  | 7 => tables_1_7
  | 8 => tables_1_8
  | 9 => tables_1_9
  | _ => []
theorem av_pt_in {k : Nat} {w : Jvm.Cond} (h : w ∈ av_pt k) : w ∈ lw_tbl := by
  unfold lw_tbl
  rw [List.mem_append]
  match k, h with
  | 0, h => exact .inl h
  | 1, h => exact .inr (by unfold tables_1; simp only [List.mem_append]; exact .inl h)
  | 2, h => exact .inr (by unfold tables_1; simp only [List.mem_append]; exact .inr (.inl h))
  | 3, h => exact .inr (by unfold tables_1; simp only [List.mem_append]; exact .inr (.inr (.inl h)))
  | 4, h => exact .inr (by unfold tables_1; simp only [List.mem_append]; exact .inr (.inr (.inr (.inl h))))
  | 5, h => exact .inr (by unfold tables_1; simp only [List.mem_append]; exact .inr (.inr (.inr (.inr (.inl h)))))
  | 6, h => exact .inr (by unfold tables_1; simp only [List.mem_append]; exact .inr (.inr (.inr (.inr (.inr (.inl h))))))
  | 7, h => exact .inr (by unfold tables_1; simp only [List.mem_append]; exact .inr (.inr (.inr (.inr (.inr (.inr (.inl h)))))))
  | 8, h => exact .inr (by unfold tables_1; simp only [List.mem_append]; exact .inr (.inr (.inr (.inr (.inr (.inr (.inr (.inl h))))))))
  | 9, h => exact .inr (by unfold tables_1; simp only [List.mem_append]; exact .inr (.inr (.inr (.inr (.inr (.inr (.inr (.inr h))))))))
  | k + 10, h => exact absurd h (by show w ∉ ([] : List Jvm.Cond); exact List.not_mem_nil)
theorem av_pt_T {k i : Nat} {w : Jvm.Cond} (h : (av_pt k)[i]? = some w) (hg : goodWord w = true) : w ∈ av_T := List.mem_filter.mpr ⟨av_pt_in (List.mem_of_getElem? h), hg⟩
def av_in (h : Nat × Nat) (w : Jvm.Cond) : Bool := decide ((av_pt h.1)[h.2]? = some w) && goodWord w
theorem av_in_ok {h : Nat × Nat} {w : Jvm.Cond} (q : av_in h w = true) : w ∈ av_T := by
  simp only [av_in, Bool.and_eq_true, decide_eq_true_eq] at q
  exact av_pt_T q.1 q.2
/-- a callee: how many parameters, and its kind: 0 static, 1 virtual, 2 a constructor -/
abbrev av_J : Type := List (Nat × Nat)
def av_okJ (J : av_J) (mt : Nat → av_M) (j : Nat) : Prop := ∀ np kd, J[j]? = some (np, kd) → av_okM av_T (mt j) ∧ (parseMethodDescriptor (mt j).1.2.1.desc).map (fun d => d.parameters.length) = some np ∧
  (kd = 0 → Jvm.Cond.static (mt j).1.2.1 ∈ av_T) ∧ (kd = 1 → Jvm.Cond.instanceMethod (mt j).1.2.1 ∈ av_T ∧ Jvm.Cond.selects (mt j).1.1 (mt j).1.2.1 (mt j).1.2.1 ∈ av_T) ∧ (kd = 2 → Jvm.Cond.instanceMethod (mt j).1.2.1 ∈ av_T ∧ (mt j).1.2.1.name = "<init>" ∧ (mt j).1.2.2.2.2 = none)
def av_okB (J : av_J) (mt : Nat → av_M) (M : av_M) (q : av_Q) (h : List (Nat × Nat)) : Bool :=
  decide (decode M.1.2.2.1 q.1 = .ok (q.2.1, q.2.2.1)) && (av_lenok q && (match q.2.1 with
    | .ldc i => bif q.2.2.2.1 == 0 then av_in (h.headD (99, 0)) (.constant M.1.1 i (Int32.ofInt q.2.2.2.2.2)) else decide (M.1.1 = RX6) && decide (i = 19)
    | .ldc_w i => av_in (h.headD (99, 0)) (.constant M.1.1 i (Int32.ofInt q.2.2.2.2.2))
    | .ldc2_w i => av_in (h.headD (99, 0)) (.constantLong M.1.1 i (Int64.ofInt q.2.2.2.2.2))
    | .getstatic i => bif q.2.2.2.1 == 0 then av_in (h.headD (99, 0)) (.fieldLink M.1.1 i "java/lang/String" "COMPACT_STRINGS" "Z") else av_in (h.headD (99, 0)) (.fieldLink M.1.1 i "jdk/internal/util/Preconditions" "SIOOBE_FORMATTER" "Ljava/util/function/BiFunction;")
    | .getfield i => bif q.2.2.2.1 == 100 then (bif q.2.2.2.2.1 == 0 then av_in (h.headD (99, 0)) (.fieldLink M.1.1 i "java/lang/String" "value" "[B") else av_in (h.headD (99, 0)) (.fieldLink M.1.1 i "java/lang/String" "coder" "B")) else
        (match vwCl[q.2.2.2.1]? with
        | some r => decide (q.2.2.2.2.1 < r.2.2) && av_in (h.headD (99, 0)) (.fieldLink M.1.1 i (r.2.1 q.2.2.2.2.1).1 (r.2.1 q.2.2.2.2.1).2.1 (r.2.1 q.2.2.2.2.1).2.2.1)
        | none => false)
    | .putfield i => (match vwCl[q.2.2.2.1]? with
        | some r => decide (q.2.2.2.2.1 < r.2.2) && (av_in (h.headD (99, 0)) (.fieldLink M.1.1 i (r.2.1 q.2.2.2.2.1).1 (r.2.1 q.2.2.2.2.1).2.1 (r.2.1 q.2.2.2.2.1).2.2.1) &&
          ((match parseFieldDescriptor (r.2.1 q.2.2.2.2.1).2.2.1 with
            | some ty => av_kd ty == q.2.2.2.2.2.toNat
            | none => false) && (!(r.2.1 q.2.2.2.2.1).2.2.2 || (decide (M.1.2.1.name = "<init>") && decide ((r.2.1 q.2.2.2.2.1).1 = M.1.1)))))
        | none => false)
    | .new i => (match vwCl[q.2.2.2.1]? with
        | some r => av_in (h.getD 0 (99, 0)) (.classLink M.1.1 i r.1) && (av_in (h.getD 1 (99, 0)) (.instantiable r.1 r.2.2) && av_in (h.getD 2 (99, 0)) (.initialized r.1))
        | none => false)
    | .newarray t => av_in (h.headD (99, 0)) (.arrayClass (newarray.typeOf t)) && (av_ak t == q.2.2.2.1)
    | .anewarray i => av_in (h.getD 0 (99, 0)) (.classLink M.1.1 i (av_lst q.2.2.2.1))
    | .iload_n k => decide (k.val < M.1.2.2.2.1)
    | .istore_n k => decide (k.val < M.1.2.2.2.1)
    | .istore k => decide (k < M.1.2.2.2.1)
    | .astore_n k => decide (k.val < M.1.2.2.2.1)
    | .astore k => decide (k < M.1.2.2.2.1)
    | .iinc k _ => decide (k < M.1.2.2.2.1)
    | .invokespecial i => bif q.2.2.2.1 == 9999 then av_in (h.headD (99, 0)) (.methodLink M.1.1 i Lib.objectInit) else
        (match J[q.2.2.2.1]? with
        | some (np, 2) => (np == q.2.2.2.2.1) && (av_in (h.headD (99, 0)) (.methodLink M.1.1 i (mt q.2.2.2.1).1.2.1) || (decide (M.1.1 = RX11) && decide ((i, (mt q.2.2.2.1).1.2.1) ∈ av_nest)))
        | _ => false)
    | .invokestatic i => bif q.2.2.2.1 == 9001 then av_in (h.headD (99, 0)) (.methodLink M.1.1 i Lib.Math.max.name) else bif q.2.2.2.1 == 9002 then av_in (h.headD (99, 0)) (.methodLink M.1.1 i Lib.Math.min.name) else (match J[q.2.2.2.1]? with
        | some (np, 0) => (np == q.2.2.2.2.1) && av_in (h.headD (99, 0)) (.methodLink M.1.1 i (mt q.2.2.2.1).1.2.1)
        | _ => false)
    | .invokevirtual i => (match J[q.2.2.2.1]? with
        | some (np, 1) => (np == q.2.2.2.2.1) && (av_in (h.headD (99, 0)) (.methodLink M.1.1 i (mt q.2.2.2.1).1.2.1) &&
          (match vwCl[q.2.2.2.2.2.toNat]? with
          | some r => decide (r.1 = (mt q.2.2.2.1).1.1)
          | none => (q.2.2.2.2.2.toNat == 100) && decide ((mt q.2.2.2.1).1.1 = "java/lang/String")))
        | _ => false)
    | _ => true))
theorem av_okB_ok {J : av_J} {mt : Nat → av_M} {M : av_M} {q : av_Q} {h : List (Nat × Nat)} (hm : Jvm.Cond.initialized "java/lang/Math" ∈ av_T ∧ (Jvm.Cond.static Lib.Math.max.name ∈ av_T ∧ Jvm.Cond.code Lib.Math.max.name Lib.Math.max.code 2 (some .int) ∈ av_T) ∧ Jvm.Cond.static Lib.Math.min.name ∈ av_T ∧ Jvm.Cond.code Lib.Math.min.name Lib.Math.min.code 2 (some .int) ∈ av_T) (hJ9 : J.length ≤ 9000) (hJ : ∀ j, av_okJ J mt j) (ho1 : Jvm.Cond.instanceMethod Lib.objectInit ∈ av_T) (ho2 : Jvm.Cond.code Lib.objectInit ⟨#[0xb1]⟩ 1 none ∈ av_T) (hb : av_okB J mt M q h = true) : av_ok av_T vwCl mt M q := by
  obtain ⟨pc, ins, len, a, b, z⟩ := q
  unfold av_okB at hb
  simp only [Bool.and_eq_true, decide_eq_true_eq] at hb
  obtain ⟨h1, h2, h3⟩ := hb
  refine ⟨h1, h2, ?_⟩
  cases ins <;> first | exact trivial | skip
  case ldc i =>
    dsimp only at h3 ⊢
    by_cases ha : a = 0
    · subst ha
      exact ⟨fun _ => av_in_ok h3, fun q => absurd rfl q⟩
    · have e : (a == 0) = false := by simpa using ha
      rw [e, cond_false] at h3
      simp only [Bool.and_eq_true, decide_eq_true_eq] at h3
      exact ⟨fun q => absurd q ha, fun _ => h3⟩
  case ldc_w i => exact av_in_ok h3
  case ldc2_w i => exact av_in_ok h3
  case getstatic i =>
    dsimp only at h3 ⊢
    by_cases ha : a = 0
    · subst ha
      exact ⟨fun _ => av_in_ok h3, fun q => absurd rfl q⟩
    · have e : (a == 0) = false := by simpa using ha
      rw [e, cond_false] at h3
      exact ⟨fun q => absurd q ha, fun _ => av_in_ok h3⟩
  case getfield i =>
    dsimp only at h3 ⊢
    by_cases ha : a = 100
    · subst ha
      refine ⟨fun _ => ?_, fun q => absurd rfl q⟩
      rw [show ((100 : Nat) == 100) = true from rfl, cond_true] at h3
      by_cases hb : b = 0
      · subst hb
        exact ⟨fun _ => av_in_ok h3, fun q => absurd rfl q⟩
      · have e : (b == 0) = false := by simpa using hb
        rw [e, cond_false] at h3
        exact ⟨fun q => absurd q hb, fun _ => av_in_ok h3⟩
    · have e : (a == 100) = false := by simpa using ha
      rw [e, cond_false] at h3
      refine ⟨fun q => absurd q ha, fun _ => ?_⟩
      split at h3
      · rename_i r hr
        simp only [Bool.and_eq_true, decide_eq_true_eq] at h3
        exact ⟨r.1, r.2.1, r.2.2, hr, h3.1, av_in_ok h3.2⟩
      · cases h3
  case putfield i =>
    dsimp only at h3 ⊢
    split at h3
    · rename_i r hr
      simp only [Bool.and_eq_true, decide_eq_true_eq] at h3
      obtain ⟨c1, c2, c3, c4⟩ := h3
      split at c3
      · rename_i ty hty
        refine ⟨r.1, r.2.1, r.2.2, ty, hr, c1, av_in_ok c2, hty, by simpa using c3, fun hf => ?_⟩
        rw [hf] at c4
        simpa using c4
      · cases c3
    · cases h3
  case new i =>
    dsimp only at h3 ⊢
    split at h3
    · rename_i r hr
      simp only [Bool.and_eq_true] at h3
      exact ⟨r.1, r.2.1, r.2.2, hr, av_in_ok h3.1, av_in_ok h3.2.1, av_in_ok h3.2.2⟩
    · cases h3
  case newarray t =>
    simp only [Bool.and_eq_true, beq_iff_eq] at h3
    exact ⟨av_in_ok h3.1, h3.2⟩
  case anewarray i => exact av_in_ok h3
  case iload_n k => simpa using h3
  case istore_n k => simpa using h3
  case istore k => simpa using h3
  case astore_n k => simpa using h3
  case astore k => simpa using h3
  case iinc k n => simpa using h3
  case invokespecial i =>
    dsimp only at h3 ⊢
    by_cases ha : a = 9999
    · subst ha
      exact ⟨fun _ => ⟨av_in_ok h3, ho1, ho2⟩, fun q => absurd q (by decide)⟩
    · have e : (a == 9999) = false := by simpa using ha
      rw [e, cond_false] at h3
      refine ⟨fun q => absurd q ha, fun _ => ?_⟩
      split at h3
      · rename_i np hj
        obtain ⟨j1, j2, -, -, j5⟩ := hJ a _ _ hj
        obtain ⟨j6, j7, j8⟩ := j5 rfl
        simp only [Bool.and_eq_true, Bool.or_eq_true, decide_eq_true_eq, beq_iff_eq] at h3
        obtain ⟨rfl, h4⟩ := h3
        refine ⟨j1, j7, j8, j6, j2, ?_⟩
        rcases h4 with h4 | h4
        · exact .inl (av_in_ok h4)
        · exact .inr h4
      · cases h3
  case invokestatic i =>
    obtain ⟨m1, ⟨m2, m3⟩, m4, m5⟩ := hm
    dsimp only at h3 ⊢
    by_cases ha : a = 9001
    · subst ha
      exact ⟨fun _ => ⟨av_in_ok h3, m2, m1, m3⟩, fun q => absurd q (by decide), fun q => absurd q (by decide)⟩
    · have e : (a == 9001) = false := by simpa using ha
      rw [e, cond_false] at h3
      by_cases ha2 : a = 9002
      · subst ha2
        exact ⟨fun q => absurd q (by decide), fun _ => ⟨av_in_ok h3, m4, m1, m5⟩, fun q => absurd q (by decide)⟩
      · have e : (a == 9002) = false := by simpa using ha2
        rw [e, cond_false] at h3
        refine ⟨fun q => absurd q ha, fun q => absurd q ha2, fun _ => ?_⟩
        split at h3
        · rename_i np hj
          obtain ⟨j1, j2, j3, -, -⟩ := hJ a _ _ hj
          simp only [Bool.and_eq_true, beq_iff_eq] at h3
          obtain ⟨rfl, h4⟩ := h3
          exact ⟨j1, j3 rfl, j2, av_in_ok h4⟩
        · cases h3
  case invokevirtual i =>
    dsimp only at h3 ⊢
    split at h3
    · rename_i np hj
      obtain ⟨j1, j2, -, j4, -⟩ := hJ a _ _ hj
      simp only [Bool.and_eq_true, beq_iff_eq] at h3
      obtain ⟨rfl, h4, h5⟩ := h3
      refine ⟨j1, (j4 rfl).1, (j4 rfl).2, j2, av_in_ok h4, ?_⟩
      split at h5
      · rename_i r hr
        have e5 : r.1 = (mt a).1.1 := by simpa using h5
        refine .inr ⟨r.2.1, r.2.2, ?_⟩
        rw [hr, ← e5]
      · simp only [Bool.and_eq_true, decide_eq_true_eq, beq_iff_eq] at h5
        exact .inl h5
    · cases h3
/-- all rows of a method -/
theorem av_zip_ok {J : av_J} {mt : Nat → av_M} {M : av_M} (hm : Jvm.Cond.initialized "java/lang/Math" ∈ av_T ∧ (Jvm.Cond.static Lib.Math.max.name ∈ av_T ∧ Jvm.Cond.code Lib.Math.max.name Lib.Math.max.code 2 (some .int) ∈ av_T) ∧ Jvm.Cond.static Lib.Math.min.name ∈ av_T ∧ Jvm.Cond.code Lib.Math.min.name Lib.Math.min.code 2 (some .int) ∈ av_T) (hJ9 : J.length ≤ 9000) (hJ : ∀ j, av_okJ J mt j) (ho1 : Jvm.Cond.instanceMethod Lib.objectInit ∈ av_T) (ho2 : Jvm.Cond.code Lib.objectInit ⟨#[0xb1]⟩ 1 none ∈ av_T) : ∀ {ops : List av_Q} {hs : List (List (Nat × Nat))}, ops.length = hs.length → (ops.zip hs).all (fun x => av_okB J mt M x.1 x.2) = true → ∀ q ∈ ops, av_ok av_T vwCl mt M q
  | [], _, _, _, q, hq => by cases hq
  | a :: ops, [], hl, _, q, hq => by simp at hl
  | a :: ops, b :: hs, hl, hb, q, hq => by
    simp only [List.zip_cons_cons, List.all_cons, Bool.and_eq_true] at hb
    rcases List.mem_cons.mp hq with rfl | hq
    · exact av_okB_ok hm hJ9 hJ ho1 ho2 hb.1
    · exact av_zip_ok hm hJ9 hJ ho1 ho2 (by simpa using hl) hb.2 q hq
