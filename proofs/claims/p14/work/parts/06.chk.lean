/-! ===== the rows' words, by their places in the tables ===== -/
def cv_T : List Jvm.Cond := lw_tbl.filter goodWord
theorem cv_T_good : GoodIn cv_T cv_T := fun w hw => ⟨hw, good_of_word (List.mem_filter.mp hw).2⟩
def cv_pt (k : Nat) : List Jvm.Cond := match k with
  | 0 => k2_sels lw_privs
  | 1 => tables_1_1
  | 2 => tables_1_2
  | 3 => tables_1_3
  | 4 => tables_1_4
  | 5 => tables_1_5
  | 6 => tables_1_6
  | 7 => tables_1_7
  | 8 => tables_1_8
  | 9 => tables_1_9
  | _ => []
theorem cv_pt_in {k : Nat} {w : Jvm.Cond} (h : w ∈ cv_pt k) : w ∈ lw_tbl := by
  unfold lw_tbl
  rw [List.mem_append]
  match k, h with
  | 0, h => exact .inl h
  | 1, h => exact .inr (by unfold tables_1; simp only [List.mem_append]; exact .inl h)
  | 2, h => exact .inr (by unfold tables_1; simp only [List.mem_append]; exact .inr (.inl h))
  | 3, h => exact .inr (by unfold tables_1; simp only [List.mem_append]; exact .inr (.inr (.inl h)))
  | 4, h => exact .inr (by unfold tables_1; simp only [List.mem_append]; exact .inr (.inr (.inr (.inl h))))
  | 5, h => exact .inr (by unfold tables_1; simp only [List.mem_append]; exact .inr (.inr (.inr (.inr (.inl h)))))
  | 6, h => exact .inr (by unfold tables_1; simp only [List.mem_append]; exact .inr (.inr (.inr (.inr (.inr (.inl h))))))
  | 7, h => exact .inr (by unfold tables_1; simp only [List.mem_append]; exact .inr (.inr (.inr (.inr (.inr (.inr (.inl h)))))))
  | 8, h => exact .inr (by unfold tables_1; simp only [List.mem_append]; exact .inr (.inr (.inr (.inr (.inr (.inr (.inr (.inl h))))))))
  | 9, h => exact .inr (by unfold tables_1; simp only [List.mem_append]; exact .inr (.inr (.inr (.inr (.inr (.inr (.inr (.inr h))))))))
  | k + 10, h => exact absurd h (by show w ∉ ([] : List Jvm.Cond); exact List.not_mem_nil)
theorem cv_pt_T {k i : Nat} {w : Jvm.Cond} (h : (cv_pt k)[i]? = some w) (hg : goodWord w = true) : w ∈ cv_T := List.mem_filter.mpr ⟨cv_pt_in (List.mem_of_getElem? h), hg⟩
def cv_in (h : Nat × Nat) (w : Jvm.Cond) : Bool := decide ((cv_pt h.1)[h.2]? = some w) && goodWord w
theorem cv_in_ok {h : Nat × Nat} {w : Jvm.Cond} (q : cv_in h w = true) : w ∈ cv_T := by
  simp only [cv_in, Bool.and_eq_true, decide_eq_true_eq] at q
  exact cv_pt_T q.1 q.2
/-- Math's words -/
def cv_okN : Prop := Jvm.Cond.initialized "java/lang/Math" ∈ cv_T ∧ (Jvm.Cond.static Lib.Math.max.name ∈ cv_T ∧ Jvm.Cond.code Lib.Math.max.name Lib.Math.max.code 2 (some .int) ∈ cv_T) ∧ (Jvm.Cond.static Lib.Math.min.name ∈ cv_T ∧ Jvm.Cond.code Lib.Math.min.name Lib.Math.min.code 2 (some .int) ∈ cv_T) ∧ (Jvm.Cond.static Lib.Math.abs.name ∈ cv_T ∧ Jvm.Cond.code Lib.Math.abs.name Lib.Math.abs.code 1 (some .int) ∈ cv_T) ∧
  (Jvm.Cond.static Lib.MathLoose.max_long.x ∈ cv_T ∧ Jvm.Cond.code Lib.MathLoose.max_long.x Lib.MathLoose.max_long.code 4 (some .long) ∈ cv_T) ∧ (Jvm.Cond.static Lib.MathLoose.min_long.x ∈ cv_T ∧ Jvm.Cond.code Lib.MathLoose.min_long.x Lib.MathLoose.min_long.code 4 (some .long) ∈ cv_T) ∧ Jvm.Cond.static Lib.MathLoose.abs_long.x ∈ cv_T ∧ Jvm.Cond.code Lib.MathLoose.abs_long.x Lib.MathLoose.abs_long.code 2 (some .long) ∈ cv_T
/-- a callee: how many parameters, and its kind: 0 static, 1 virtual, 2 a constructor -/
abbrev cv_J : Type := List (Nat × Nat)
def cv_okJ (J : cv_J) (mt : Nat → cv_M) (j : Nat) : Prop := ∀ np kd, J[j]? = some (np, kd) → cv_okM cv_T (mt j) ∧ (parseMethodDescriptor (mt j).1.2.1.desc).map (fun d => d.parameters.length) = some np ∧
  (kd = 0 → Jvm.Cond.static (mt j).1.2.1 ∈ cv_T) ∧ (kd = 1 → Jvm.Cond.instanceMethod (mt j).1.2.1 ∈ cv_T ∧ Jvm.Cond.selects (mt j).1.1 (mt j).1.2.1 (mt j).1.2.1 ∈ cv_T) ∧ (kd = 2 → Jvm.Cond.instanceMethod (mt j).1.2.1 ∈ cv_T ∧ (mt j).1.2.1.name = "<init>" ∧ (mt j).1.2.2.2.2 = none)
def cv_okB (J : cv_J) (mt : Nat → cv_M) (M : cv_M) (q : cv_Q) (h : List (Nat × Nat)) : Bool :=
  decide (decode M.1.2.2.1 q.1 = .ok (q.2.1, q.2.2.1)) && (cv_lenok q && (match q.2.1 with
    | .ldc i => bif q.2.2.2.1 == 0 then cv_in (h.headD (99, 0)) (.constant M.1.1 i (Int32.ofInt q.2.2.2.2.2)) else decide (M.1.1 = RX6) && decide (i = 19)
    | .ldc_w i => cv_in (h.headD (99, 0)) (.constant M.1.1 i (Int32.ofInt q.2.2.2.2.2))
    | .ldc2_w i => cv_in (h.headD (99, 0)) (.constantLong M.1.1 i (Int64.ofInt q.2.2.2.2.2))
    | .getstatic i => bif q.2.2.2.1 == 0 then cv_in (h.headD (99, 0)) (.fieldLink M.1.1 i "java/lang/String" "COMPACT_STRINGS" "Z") else bif q.2.2.2.1 == 3 then cv_in (h.headD (99, 0)) (.fieldLink M.1.1 i "jdk/internal/util/Preconditions" "SIOOBE_FORMATTER" "Ljava/util/function/BiFunction;") else
        decide (M.1.1 = RX1) && ((q.2.2.2.1 == 4 && i == 134) || (q.2.2.2.1 == 5 && i == 137))
    | .getfield i => bif q.2.2.2.1 == 100 then (bif q.2.2.2.2.1 == 0 then cv_in (h.headD (99, 0)) (.fieldLink M.1.1 i "java/lang/String" "value" "[B") else cv_in (h.headD (99, 0)) (.fieldLink M.1.1 i "java/lang/String" "coder" "B")) else
        (match vwCl[q.2.2.2.1]? with
        | some r => decide (q.2.2.2.2.1 < r.2.2) && cv_in (h.headD (99, 0)) (.fieldLink M.1.1 i (r.2.1 q.2.2.2.2.1).1 (r.2.1 q.2.2.2.2.1).2.1 (r.2.1 q.2.2.2.2.1).2.2.1)
        | none => false)
    | .putfield i => (match vwCl[q.2.2.2.1]? with
        | some r => decide (q.2.2.2.2.1 < r.2.2) && (cv_in (h.headD (99, 0)) (.fieldLink M.1.1 i (r.2.1 q.2.2.2.2.1).1 (r.2.1 q.2.2.2.2.1).2.1 (r.2.1 q.2.2.2.2.1).2.2.1) &&
          ((match parseFieldDescriptor (r.2.1 q.2.2.2.2.1).2.2.1 with
            | some ty => cv_kd ty == q.2.2.2.2.2.toNat
            | none => false) && (!(r.2.1 q.2.2.2.2.1).2.2.2 || (decide (M.1.2.1.name = "<init>") && decide ((r.2.1 q.2.2.2.2.1).1 = M.1.1)))))
        | none => false)
    | .new i => (match vwCl[q.2.2.2.1]? with
        | some r => cv_in (h.getD 0 (99, 0)) (.classLink M.1.1 i r.1) && (cv_in (h.getD 1 (99, 0)) (.instantiable r.1 r.2.2) && cv_in (h.getD 2 (99, 0)) (.initialized r.1))
        | none => false)
    | .newarray t => cv_in (h.headD (99, 0)) (.arrayClass (newarray.typeOf t)) && (cv_ak t == q.2.2.2.1)
    | .anewarray i => cv_in (h.getD 0 (99, 0)) (.classLink M.1.1 i (cv_lst q.2.2.2.1))
    | .iload_n k => decide (k.val < M.1.2.2.2.1)
    | .istore_n k => decide (k.val < M.1.2.2.2.1)
    | .lstore_n k => decide (k.val + 1 < M.1.2.2.2.1)
    | .lstore k => decide (k + 1 < M.1.2.2.2.1)
    | .istore k => decide (k < M.1.2.2.2.1)
    | .astore_n k => decide (k.val < M.1.2.2.2.1)
    | .astore k => decide (k < M.1.2.2.2.1)
    | .iinc k _ => decide (k < M.1.2.2.2.1)
    | .invokespecial i => bif q.2.2.2.1 == 9999 then cv_in (h.headD (99, 0)) (.methodLink M.1.1 i Lib.objectInit) else
        (match J[q.2.2.2.1]? with
        | some (np, 2) => (np == q.2.2.2.2.1) && (cv_in (h.headD (99, 0)) (.methodLink M.1.1 i (mt q.2.2.2.1).1.2.1) || decide ((M.1.1, i, (mt q.2.2.2.1).1.2.1) ∈ cv_nest))
        | _ => false)
    | .invokestatic i => bif q.2.2.2.1 == 9001 then cv_in (h.headD (99, 0)) (.methodLink M.1.1 i Lib.Math.max.name) else bif q.2.2.2.1 == 9002 then cv_in (h.headD (99, 0)) (.methodLink M.1.1 i Lib.Math.min.name) else bif q.2.2.2.1 == 9003 then cv_in (h.headD (99, 0)) (.methodLink M.1.1 i Lib.Math.abs.name) else bif q.2.2.2.1 == 9004 then cv_in (h.headD (99, 0)) (.methodLink M.1.1 i Lib.MathLoose.max_long.x) else bif q.2.2.2.1 == 9005 then cv_in (h.headD (99, 0)) (.methodLink M.1.1 i Lib.MathLoose.min_long.x) else bif q.2.2.2.1 == 9006 then cv_in (h.headD (99, 0)) (.methodLink M.1.1 i Lib.MathLoose.abs_long.x) else (match J[q.2.2.2.1]? with
        | some (np, 0) => (np == q.2.2.2.2.1) && (cv_in (h.headD (99, 0)) (.methodLink M.1.1 i (mt q.2.2.2.1).1.2.1) || decide ((M.1.1, i, (mt q.2.2.2.1).1.2.1) ∈ cv_nest))
        | _ => false)
    | .invokevirtual i => (match J[q.2.2.2.1]? with
        | some (np, 1) => (np == q.2.2.2.2.1) && (cv_in (h.headD (99, 0)) (.methodLink M.1.1 i (mt q.2.2.2.1).1.2.1) &&
          (match vwCl[q.2.2.2.2.2.toNat]? with
          | some r => decide (r.1 = (mt q.2.2.2.1).1.1)
          | none => (q.2.2.2.2.2.toNat == 100) && decide ((mt q.2.2.2.1).1.1 = "java/lang/String")))
        | _ => false)
    | _ => true))
theorem cv_okB_ok {J : cv_J} {mt : Nat → cv_M} {M : cv_M} {q : cv_Q} {h : List (Nat × Nat)} (hm : cv_okN) (hJ9 : J.length ≤ 9000) (hJ : ∀ j, cv_okJ J mt j) (ho1 : Jvm.Cond.instanceMethod Lib.objectInit ∈ cv_T) (ho2 : Jvm.Cond.code Lib.objectInit ⟨#[0xb1]⟩ 1 none ∈ cv_T) (hb : cv_okB J mt M q h = true) : cv_ok cv_T vwCl mt M q := by
  obtain ⟨pc, ins, len, a, b, z⟩ := q
  unfold cv_okB at hb
  simp only [Bool.and_eq_true, decide_eq_true_eq] at hb
  obtain ⟨h1, h2, h3⟩ := hb
  refine ⟨h1, h2, ?_⟩
  cases ins <;> first | exact trivial | skip
  case ldc i =>
    dsimp only at h3 ⊢
    by_cases ha : a = 0
    · subst ha
      exact ⟨fun _ => cv_in_ok h3, fun q => absurd rfl q⟩
    · have e : (a == 0) = false := by simpa using ha
      rw [e, cond_false] at h3
      simp only [Bool.and_eq_true, decide_eq_true_eq] at h3
      exact ⟨fun q => absurd q ha, fun _ => h3⟩
  case ldc_w i => exact cv_in_ok h3
  case ldc2_w i => exact cv_in_ok h3
  case getstatic i =>
    dsimp only at h3 ⊢
    by_cases ha : a = 0
    · subst ha
      exact ⟨fun _ => cv_in_ok h3, fun q => absurd q (by decide), fun q => absurd q (by decide), fun q => absurd q (by decide), .inl rfl⟩
    · have e : (a == 0) = false := by simpa using ha
      rw [e, cond_false] at h3
      by_cases hb : a = 3
      · subst hb
        exact ⟨fun q => absurd q (by decide), fun _ => cv_in_ok h3, fun q => absurd q (by decide), fun q => absurd q (by decide), .inr (.inl rfl)⟩
      · have e : (a == 3) = false := by simpa using hb
        rw [e, cond_false] at h3
        simp only [Bool.and_eq_true, Bool.or_eq_true, decide_eq_true_eq, beq_iff_eq] at h3
        obtain ⟨c1, ⟨rfl, rfl⟩ | ⟨rfl, rfl⟩⟩ := h3
        · exact ⟨fun q => absurd q (by decide), fun q => absurd q (by decide), fun _ => ⟨c1, rfl⟩, fun q => absurd q (by decide), .inr (.inr (.inl rfl))⟩
        · exact ⟨fun q => absurd q (by decide), fun q => absurd q (by decide), fun q => absurd q (by decide), fun _ => ⟨c1, rfl⟩, .inr (.inr (.inr rfl))⟩
  case getfield i =>
    dsimp only at h3 ⊢
    by_cases ha : a = 100
    · subst ha
      refine ⟨fun _ => ?_, fun q => absurd rfl q⟩
      rw [show ((100 : Nat) == 100) = true from rfl, cond_true] at h3
      by_cases hb : b = 0
      · subst hb
        exact ⟨fun _ => cv_in_ok h3, fun q => absurd rfl q⟩
      · have e : (b == 0) = false := by simpa using hb
        rw [e, cond_false] at h3
        exact ⟨fun q => absurd q hb, fun _ => cv_in_ok h3⟩
    · have e : (a == 100) = false := by simpa using ha
      rw [e, cond_false] at h3
      refine ⟨fun q => absurd q ha, fun _ => ?_⟩
      split at h3
      · rename_i r hr
        simp only [Bool.and_eq_true, decide_eq_true_eq] at h3
        exact ⟨r.1, r.2.1, r.2.2, hr, h3.1, cv_in_ok h3.2⟩
      · cases h3
  case putfield i =>
    dsimp only at h3 ⊢
    split at h3
    · rename_i r hr
      simp only [Bool.and_eq_true, decide_eq_true_eq] at h3
      obtain ⟨c1, c2, c3, c4⟩ := h3
      split at c3
      · rename_i ty hty
        refine ⟨r.1, r.2.1, r.2.2, ty, hr, c1, cv_in_ok c2, hty, by simpa using c3, fun hf => ?_⟩
        rw [hf] at c4
        simpa using c4
      · cases c3
    · cases h3
  case new i =>
    dsimp only at h3 ⊢
    split at h3
    · rename_i r hr
      simp only [Bool.and_eq_true] at h3
      exact ⟨r.1, r.2.1, r.2.2, hr, cv_in_ok h3.1, cv_in_ok h3.2.1, cv_in_ok h3.2.2⟩
    · cases h3
  case newarray t =>
    simp only [Bool.and_eq_true, beq_iff_eq] at h3
    exact ⟨cv_in_ok h3.1, h3.2⟩
  case anewarray i => exact cv_in_ok h3
  case iload_n k => simpa using h3
  case istore_n k => simpa using h3
  case lstore_n k => simpa using h3
  case lstore k => simpa using h3
  case istore k => simpa using h3
  case astore_n k => simpa using h3
  case astore k => simpa using h3
  case iinc k n => simpa using h3
  case invokespecial i =>
    dsimp only at h3 ⊢
    by_cases ha : a = 9999
    · subst ha
      exact ⟨fun _ => ⟨cv_in_ok h3, ho1, ho2⟩, fun q => absurd q (by decide)⟩
    · have e : (a == 9999) = false := by simpa using ha
      rw [e, cond_false] at h3
      refine ⟨fun q => absurd q ha, fun _ => ?_⟩
      split at h3
      · rename_i np hj
        obtain ⟨j1, j2, -, -, j5⟩ := hJ a _ _ hj
        obtain ⟨j6, j7, j8⟩ := j5 rfl
        simp only [Bool.and_eq_true, Bool.or_eq_true, decide_eq_true_eq, beq_iff_eq] at h3
        obtain ⟨rfl, h4⟩ := h3
        refine ⟨j1, j7, j8, j6, j2, ?_⟩
        rcases h4 with h4 | h4
        · exact .inl (cv_in_ok h4)
        · exact .inr h4
      · cases h3
  case invokestatic i =>
    obtain ⟨m1, ⟨m2, m3⟩, ⟨m4, m5⟩, ⟨m6, m7⟩, ⟨m8, m9⟩, ⟨m10, m11⟩, m12, m13⟩ := hm
    dsimp only at h3 ⊢
    by_cases ha0 : a = 9001
    · subst ha0
      exact ⟨fun _ => ⟨cv_in_ok h3, m2, m1, m3⟩, fun q => absurd q (by decide), fun q => absurd q (by decide), fun q => absurd q (by decide), fun q => absurd q (by decide), fun q => absurd q (by decide), fun q => absurd q (by decide)⟩
    have e0 : (a == 9001) = false := by simpa using ha0
    rw [e0, cond_false] at h3
    by_cases ha1 : a = 9002
    · subst ha1
      exact ⟨fun q => absurd q (by decide), fun _ => ⟨cv_in_ok h3, m4, m1, m5⟩, fun q => absurd q (by decide), fun q => absurd q (by decide), fun q => absurd q (by decide), fun q => absurd q (by decide), fun q => absurd q (by decide)⟩
    have e1 : (a == 9002) = false := by simpa using ha1
    rw [e1, cond_false] at h3
    by_cases ha2 : a = 9003
    · subst ha2
      exact ⟨fun q => absurd q (by decide), fun q => absurd q (by decide), fun _ => ⟨cv_in_ok h3, m6, m1, m7⟩, fun q => absurd q (by decide), fun q => absurd q (by decide), fun q => absurd q (by decide), fun q => absurd q (by decide)⟩
    have e2 : (a == 9003) = false := by simpa using ha2
    rw [e2, cond_false] at h3
    by_cases ha3 : a = 9004
    · subst ha3
      exact ⟨fun q => absurd q (by decide), fun q => absurd q (by decide), fun q => absurd q (by decide), fun _ => ⟨cv_in_ok h3, m8, m1, m9⟩, fun q => absurd q (by decide), fun q => absurd q (by decide), fun q => absurd q (by decide)⟩
    have e3 : (a == 9004) = false := by simpa using ha3
    rw [e3, cond_false] at h3
    by_cases ha4 : a = 9005
    · subst ha4
      exact ⟨fun q => absurd q (by decide), fun q => absurd q (by decide), fun q => absurd q (by decide), fun q => absurd q (by decide), fun _ => ⟨cv_in_ok h3, m10, m1, m11⟩, fun q => absurd q (by decide), fun q => absurd q (by decide)⟩
    have e4 : (a == 9005) = false := by simpa using ha4
    rw [e4, cond_false] at h3
    by_cases ha5 : a = 9006
    · subst ha5
      exact ⟨fun q => absurd q (by decide), fun q => absurd q (by decide), fun q => absurd q (by decide), fun q => absurd q (by decide), fun q => absurd q (by decide), fun _ => ⟨cv_in_ok h3, m12, m1, m13⟩, fun q => absurd q (by decide)⟩
    have e5 : (a == 9006) = false := by simpa using ha5
    rw [e5, cond_false] at h3
    refine ⟨fun q => absurd q ha0, fun q => absurd q ha1, fun q => absurd q ha2, fun q => absurd q ha3, fun q => absurd q ha4, fun q => absurd q ha5, fun _ => ?_⟩
    split at h3
    · rename_i np hj
      obtain ⟨j1, j2, j3, -, -⟩ := hJ a _ _ hj
      simp only [Bool.and_eq_true, Bool.or_eq_true, decide_eq_true_eq, beq_iff_eq] at h3
      obtain ⟨rfl, h4⟩ := h3
      refine ⟨j1, j3 rfl, j2, ?_⟩
      rcases h4 with h4 | h4
      · exact .inl (cv_in_ok h4)
      · exact .inr h4
    · cases h3
  case invokevirtual i =>
    dsimp only at h3 ⊢
    split at h3
    · rename_i np hj
      obtain ⟨j1, j2, -, j4, -⟩ := hJ a _ _ hj
      simp only [Bool.and_eq_true, beq_iff_eq] at h3
      obtain ⟨rfl, h4, h5⟩ := h3
      refine ⟨j1, (j4 rfl).1, (j4 rfl).2, j2, cv_in_ok h4, ?_⟩
      split at h5
      · rename_i r hr
        have e5 : r.1 = (mt a).1.1 := by simpa using h5
        refine .inr ⟨r.2.1, r.2.2, ?_⟩
        rw [hr, ← e5]
      · simp only [Bool.and_eq_true, decide_eq_true_eq, beq_iff_eq] at h5
        exact .inl h5
    · cases h3
/-- all rows of a method -/
theorem cv_zip_ok {J : cv_J} {mt : Nat → cv_M} {M : cv_M} (hm : cv_okN) (hJ9 : J.length ≤ 9000) (hJ : ∀ j, cv_okJ J mt j) (ho1 : Jvm.Cond.instanceMethod Lib.objectInit ∈ cv_T) (ho2 : Jvm.Cond.code Lib.objectInit ⟨#[0xb1]⟩ 1 none ∈ cv_T) : ∀ {ops : List cv_Q} {hs : List (List (Nat × Nat))}, ops.length = hs.length → (ops.zip hs).all (fun x => cv_okB J mt M x.1 x.2) = true → ∀ q ∈ ops, cv_ok cv_T vwCl mt M q
  | [], _, _, _, q, hq => by cases hq
  | a :: ops, [], hl, _, q, hq => by simp at hl
  | a :: ops, b :: hs, hl, hb, q, hq => by
    simp only [List.zip_cons_cons, List.all_cons, Bool.and_eq_true] at hb
    rcases List.mem_cons.mp hq with rfl | hq
    · exact cv_okB_ok hm hJ9 hJ ho1 ho2 hb.1
    · exact cv_zip_ok hm hJ9 hJ ho1 ho2 (by simpa using hl) hb.2 q hq
