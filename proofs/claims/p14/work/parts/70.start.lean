/-! ===== what the law's start gives: classes, texts, tables ===== -/
theorem st_in {w : Jvm.Cond} (h : w ∈ cv_T) : w ∈ lw_tbl := (List.mem_filter.mp h).1
theorem st_arr {args : Array Value} {s : State} {ty : FieldType} (h : (Jvm.Cond.arrayClass ty).before args s = true) : ∃ cA : ClassId, ArrOfT s cA ty ∧ s.vm.findClass ("[" ++ ty.toString) = some cA := by
  obtain ⟨cA, kA, comp, h1, h2, h3⟩ := Cond.arrayClass_spec (args := args) (first := s) (o := none) (s := s) (idx := []) h
  exact ⟨cA, fun n z => ⟨fun k h => (by cases h), kA, h2, comp, h3⟩, h1⟩
theorem st_over {args : Array Value} {s : State} {C : String} (h : (Jvm.Cond.arrayOver (.object C)).before args s = true) : ∃ cA : ClassId, ArrOfT s cA (.object C) ∧ va_RA s cA (.object C) := by
  obtain ⟨comp, cA, kA, h1, h2, h3, h4, h5⟩ := Cond.arrayOver_spec (args := args) (first := s) (o := none) (s := s) (idx := []) h
  exact ⟨cA, fun n z => ⟨fun k h => (by cases h), kA, h3, comp, h4⟩, kA, comp, h3, h4, h1, h5⟩
theorem st_K {args : Array Value} {s : State} (hts : ∀ w ∈ lw_tbl, w.before args s = true) : ∃ (D : va_G) (cy : Nat → ClassId), va_K D vwCl (cv_tys cy) s := by
  obtain ⟨c0, i0, h0⟩ := u_known (C := RX0) (T := TX0) (N := 8) (n := 8) hts (fun w hw => st_in (in_X0 w hw)) (hts (.instantiable RX0 8) (st_in (cv_in_ok (h := (2, 98)) (by decide +kernel))))
  obtain ⟨c1, i1, h1⟩ := u_known (C := RX1) (T := TX1) (N := 17) (n := 17) hts (fun w hw => st_in (in_X1 w hw)) (hts (.instantiable RX1 17) (st_in (cv_in_ok (h := (2, 185)) (by decide +kernel))))
  obtain ⟨c2, i2, h2⟩ := u_known (C := RX2) (T := TX2) (N := 5) (n := 5) hts (fun w hw => st_in (in_X2 w hw)) (hts (.instantiable RX2 5) (st_in (cv_in_ok (h := (2, 151)) (by decide +kernel))))
  obtain ⟨c3, i3, h3⟩ := u_known (C := RX3) (T := TX3) (N := 11) (n := 11) hts (fun w hw => st_in (in_X3 w hw)) (hts (.instantiable RX3 11) (st_in (cv_in_ok (h := (3, 31)) (by decide +kernel))))
  obtain ⟨c4, i4, h4⟩ := u_known (C := RX4) (T := TX4) (N := 20) (n := 20) hts (fun w hw => st_in (in_X4 w hw)) (hts (.instantiable RX4 20) (st_in (cv_in_ok (h := (1, 34)) (by decide +kernel))))
  obtain ⟨c5, i5, h5⟩ := u_known (C := RX5) (T := TX5) (N := 6) (n := 6) hts (fun w hw => st_in (in_X5 w hw)) (hts (.instantiable RX5 6) (st_in (cv_in_ok (h := (2, 7)) (by decide +kernel))))
  obtain ⟨c6, i6, h6⟩ := u_known (C := RX6) (T := TX6) (N := 7) (n := 7) hts (fun w hw => st_in (in_X6 w hw)) (hts (.instantiable RX6 7) (st_in (cv_in_ok (h := (2, 13)) (by decide +kernel))))
  obtain ⟨c7, i7, h7⟩ := u_known (C := RX7) (T := TX7) (N := 17) (n := 17) hts (fun w hw => st_in (in_X7 w hw)) (hts (.instantiable RX7 17) (st_in (cv_in_ok (h := (1, 41)) (by decide +kernel))))
  obtain ⟨c8, i8, h8⟩ := u_known (C := RX8) (T := TX8) (N := 3) (n := 3) hts (fun w hw => st_in (in_X8 w hw)) (hts (.instantiable RX8 3) (st_in (cv_in_ok (h := (3, 74)) (by decide +kernel))))
  obtain ⟨c9, i9, h9⟩ := u_known (C := RX9) (T := TX9) (N := 4) (n := 4) hts (fun w hw => st_in (in_X9 w hw)) (hts (.instantiable RX9 4) (st_in (cv_in_ok (h := (3, 94)) (by decide +kernel))))
  obtain ⟨c10, i10, h10⟩ := u_known (C := RX10) (T := TX10) (N := 3) (n := 3) hts (fun w hw => st_in (in_X10 w hw)) (hts (.instantiable RX10 3) (st_in (cv_in_ok (h := (2, 179)) (by decide +kernel))))
  obtain ⟨c11, i11, h11⟩ := u_known (C := RX11) (T := TX11) (N := 16) (n := 16) hts (fun w hw => st_in (in_X11 w hw)) (hts (.instantiable RX11 16) (st_in (cv_in_ok (h := (1, 26)) (by decide +kernel))))
  obtain ⟨c12, i12, h12⟩ := u_known (C := RX12) (T := TX12) (N := 69) (n := 69) hts (fun w hw => st_in (in_X12 w hw)) (hts (.instantiable RX12 69) (st_in (cv_in_ok (h := (6, 154)) (by decide +kernel))))
  obtain ⟨y0, a0, b0⟩ := st_arr (hts (.arrayClass .int) (st_in (cv_in_ok (h := (1, 142)) (by decide +kernel))))
  obtain ⟨y1, a1, b1⟩ := st_arr (hts (.arrayClass .byte) (st_in (cv_in_ok (h := (1, 141)) (by decide +kernel))))
  obtain ⟨y2, a2, b2⟩ := st_arr (hts (.arrayClass .boolean) (st_in (cv_in_ok (h := (3, 72)) (by decide +kernel))))
  obtain ⟨y3, a3, b3⟩ := st_arr (hts (.arrayClass .long) (st_in (cv_in_ok (h := (2, 173)) (by decide +kernel))))
  obtain ⟨y4, a4, b4⟩ := st_over (hts (.arrayOver (.object "SagGates$Gate")) (cv_pt_in (k := 2) (List.mem_of_getElem? (i := 177) (by decide +kernel))))
  obtain ⟨y5, a5, b5⟩ := st_over (hts (.arrayOver (.object "SagGates$Told")) (cv_pt_in (k := 1) (List.mem_of_getElem? (i := 40) (by decide +kernel))))
  refine ⟨(fun k => [c0, c1, c2, c3, c4, c5, c6, c7, c8, c9, c10, c11, c12].getD k c0, fun k => [i0, i1, i2, i3, i4, i5, i6, i7, i8, i9, i10, i11, i12].getD k i0), fun k => [y0, y1, y2, y3, y4, y5].getD k y0, fun k q hq => ?_, fun k q hq => ?_⟩
  · match k, hq with
    | 0, hq => cases hq; exact h0
    | 1, hq => cases hq; exact h1
    | 2, hq => cases hq; exact h2
    | 3, hq => cases hq; exact h3
    | 4, hq => cases hq; exact h4
    | 5, hq => cases hq; exact h5
    | 6, hq => cases hq; exact h6
    | 7, hq => cases hq; exact h7
    | 8, hq => cases hq; exact h8
    | 9, hq => cases hq; exact h9
    | 10, hq => cases hq; exact h10
    | 11, hq => cases hq; exact h11
    | 12, hq => cases hq; exact h12
    | k + 13, hq => exact absurd hq (by show ¬ ([] : List vw_C)[k]? = some q; simp)
  · match k, hq with
    | 0, hq => cases hq; exact ⟨a0, b0⟩
    | 1, hq => cases hq; exact ⟨a1, b1⟩
    | 2, hq => cases hq; exact ⟨a2, b2⟩
    | 3, hq => cases hq; exact ⟨a3, b3⟩
    | 4, hq => cases hq; exact ⟨a4, b4⟩
    | 5, hq => cases hq; exact ⟨a5, b5⟩
    | k + 6, hq => exact absurd hq (by show ¬ ([] : List (ClassId × FieldType))[k]? = some q; simp)
theorem st_wd : ∀ j, j < 177 → (flatC (Jvm.Cond.and given_1 narrow_1))[67 + j]? = some (Jvm.Cond.eq (.elem (.field (Jvm.Term.string "SagGates$Tokens" 19) "java/lang/String" "value" "[B") (.int (Int32.ofNat j))) (.int (wd_ints.getD j 0))) := by
  have h : ((List.range 177).all fun j => decide ((flatC (Jvm.Cond.and given_1 narrow_1))[67 + j]? = some (Jvm.Cond.eq (.elem (.field (Jvm.Term.string "SagGates$Tokens" 19) "java/lang/String" "value" "[B") (.int (Int32.ofNat j))) (.int (wd_ints.getD j 0))))) = true := by decide +kernel
  intro j hj
  exact of_decide_eq_true (List.all_eq_true.mp h j (List.mem_range.mpr hj))
theorem st_cos : ∀ j, j < 9 → Jvm.Cond.eq (.elem (.static "SagGates" "COSINES" "[I") (.int (Int32.ofNat j))) (.int (wd_cos.getD j 0)) ∈ flatC (Jvm.Cond.and given_1 narrow_1) := by decide +kernel
theorem st_sin : ∀ j, j < 9 → Jvm.Cond.eq (.elem (.static "SagGates" "SINES" "[I") (.int (Int32.ofNat j))) (.int (wd_sin.getD j 0)) ∈ flatC (Jvm.Cond.and given_1 narrow_1) := by decide +kernel
theorem st_get {xs : List Int32} {k : Nat} {x : Int32} (h : xs[k]? = some x) : xs.getD k 0 = x := by
  rw [List.getD_eq_getElem?_getD, h]
  rfl
theorem st_SF {b : Nat} {xs : List Int32} {s : State} (hts : ∀ w ∈ lw_tbl, w.before #[Value.ref b] s = true) (hgv : (Jvm.Cond.and given_1 narrow_1).before #[Value.ref b] s = true) (hX : va_X b xs.length (fun j => xs.getD j 0) s s.heap) (hbl : b < s.heap.size) :
    ∃ sv : Nat → Value, sv 2 = .ref b ∧ cv_SF (fun q => s.heap.size ≤ q) sv (lg_X xs) s s.heap := by
  have hs := flat_of_before _ hgv
  have hA : ∀ a : Nat, a < s.heap.size → ¬ (fun q : Nat => s.heap.size ≤ q) a := fun a h => Nat.not_le.mpr h
  have hstr : (Jvm.Cond.stringRef "SagGates$Tokens" 19 cv_wd).before #[Value.ref b] s = true := hts _ (cv_pt_in (k := 2) (List.mem_of_getElem? (i := 18) (by decide +kernel)))
  obtain ⟨adK, adV, hSt, hev⟩ := vk_Sof (args := #[Value.ref b]) (s := s) (N := 1) (tm := fun _ => Jvm.Term.string "SagGates$Tokens" 19) (len := [177]) (byt := [wd_ints]) (A := fun q => s.heap.size ≤ q) (fun i hi => by (obtain rfl : i = 0 := by omega); decide)
    (fun i _ => hs _ (by decide +kernel)) (fun i _ => hs _ (by decide +kernel)) (fun i _ => hs _ (by decide +kernel)) (fun i hi => by (obtain rfl : i = 0 := by omega); exact hs _ (by decide +kernel))
    (fun i hi j hj => by
      have : i = 0 := by omega
      subst this
      exact hs _ (List.mem_of_getElem? (st_wd j hj)))
    (fun i j hi hj hij => absurd (by omega) hij) hA
  obtain ⟨w1, w2, w3, w4⟩ := hSt.1 0 (by decide)
  have hz1 := va_Zof (A := fun q => s.heap.size ≤ q) (hts (.laysStatic "java/lang/String" "COMPACT_STRINGS" "Z") (cv_pt_in (k := 2) (List.mem_of_getElem? (i := 28) (by decide +kernel)))) (hts (.initialized "java/lang/String") (st_in (cv_in_ok (h := (1, 6)) (by decide +kernel)))) (va_eqi (hs (.eq (.static "java/lang/String" "COMPACT_STRINGS" "Z") (.int 1)) (by decide +kernel))) hA
  have hz2 := va_Zqof (A := fun q => s.heap.size ≤ q) (hts (.laysStatic "jdk/internal/util/Preconditions" "SIOOBE_FORMATTER" "Ljava/util/function/BiFunction;") (cv_pt_in (k := 2) (List.mem_of_getElem? (i := 44) (by decide +kernel)))) (hts (.initialized "jdk/internal/util/Preconditions") (st_in (cv_in_ok (h := (1, 8)) (by decide +kernel)))) (hs (.isRef (.static "jdk/internal/util/Preconditions" "SIOOBE_FORMATTER" "Ljava/util/function/BiFunction;")) (by decide +kernel)) hA
  obtain ⟨fv, hfv, hz3⟩ : ∃ fv : Value, (fv = .null ∨ ∃ a, fv = .ref a) ∧ va_Z "jdk/internal/util/Preconditions" "SIOOBE_FORMATTER" "Ljava/util/function/BiFunction;" fv (fun q => s.heap.size ≤ q) s s.heap := by
    rcases hz2 with h | ⟨t, h⟩
    · exact ⟨_, .inl rfl, h⟩
    · exact ⟨_, .inr ⟨t, rfl⟩, h⟩
  obtain ⟨tc, hc1, hc2⟩ := va_Tof (args := #[Value.ref b]) (s := s) (tm := .static "SagGates" "COSINES" "[I") (ty := .int) (N := 9) (f := fun j => .int (wd_cos.getD j 0)) (A := fun q => s.heap.size ≤ q) (by decide) (hs _ (by decide +kernel)) (va_eqt (z := 9) (hs _ (by decide +kernel))) (fun j hj => va_eqt (hs _ (st_cos j hj))) hA
  obtain ⟨ti, hi1, hi2⟩ := va_Tof (args := #[Value.ref b]) (s := s) (tm := .static "SagGates" "SINES" "[I") (ty := .int) (N := 9) (f := fun j => .int (wd_sin.getD j 0)) (A := fun q => s.heap.size ≤ q) (by decide) (hs _ (by decide +kernel)) (va_eqt (z := 9) (hs _ (by decide +kernel))) (fun j hj => va_eqt (hs _ (st_sin j hj))) hA
  have hz4 := va_Zof (A := fun q => s.heap.size ≤ q) (hts (.laysStatic "SagGates" "COSINES" "[I") (cv_pt_in (k := 5) (List.mem_of_getElem? (i := 215) (by decide +kernel)))) (hts (.initialized "SagGates") (st_in (cv_in_ok (h := (1, 1)) (by decide +kernel)))) hc1 hA
  have hz5 := va_Zof (A := fun q => s.heap.size ≤ q) (hts (.laysStatic "SagGates" "SINES" "[I") (cv_pt_in (k := 5) (List.mem_of_getElem? (i := 217) (by decide +kernel)))) (hts (.initialized "SagGates") (st_in (cv_in_ok (h := (1, 1)) (by decide +kernel)))) hi1 hA
  have hnest : ∀ q ∈ cv_nest, va_Nw (.methodLinkNest q.1 q.2.1 q.2.2 RX11) s := by
    intro q hq
    have hm : ∀ q ∈ cv_nest, Jvm.Cond.methodLinkNest q.1 q.2.1 q.2.2 RX11 ∈ lw_tbl := by decide +kernel
    exact va_Nw.of rfl (hts _ (hm q hq))
  have hfn1 : va_Nw (.fieldLinkNest RX1 134 "SagGates" "COSINES" "[I" RX11) s := va_Nw.of rfl (hts _ (cv_pt_in (k := 5) (List.mem_of_getElem? (i := 214) (by decide +kernel))))
  have hfn2 : va_Nw (.fieldLinkNest RX1 137 "SagGates" "SINES" "[I" RX11) s := va_Nw.of rfl (hts _ (cv_pt_in (k := 5) (List.mem_of_getElem? (i := 216) (by decide +kernel))))
  refine ⟨fun j => match j with
    | 0 => .ref (adK 0)
    | 1 => .ref (adV 0)
    | 2 => .ref b
    | 3 => fv
    | 4 => .ref tc
    | 5 => .ref ti
    | _ => fv, rfl, ⟨fun j => ?_, ⟨adK 0, adV 0, rfl, rfl, vk_R.of hstr (hev 0 (by decide)), w1, w3, w2⟩, hz1, hz3, ⟨hnest, ⟨hfn1, hfn2⟩, va_AO.of (hts (.arrayOver (.object "SagGates$Gate")) (cv_pt_in (k := 2) (List.mem_of_getElem? (i := 177) (by decide +kernel)))), va_AO.of (hts (.arrayOver (.object "SagGates$Told")) (cv_pt_in (k := 1) (List.mem_of_getElem? (i := 40) (by decide +kernel))))⟩, ⟨hz4, hz5⟩, ⟨?_, ?_, ?_⟩, ?_, ?_⟩⟩
  · match j with
    | 0 => exact .inr ⟨_, rfl⟩
    | 1 => exact .inr ⟨_, rfl⟩
    | 2 => exact .inr ⟨_, rfl⟩
    | 3 => exact hfv
    | 4 => exact .inr ⟨_, rfl⟩
    | 5 => exact .inr ⟨_, rfl⟩
    | j + 6 => exact hfv
  · intro ys hy
    cases hy
    exact ⟨adV 0, fun j => wd_ints.getD j 0, rfl, w4, fun k x hx => st_get hx⟩
  · intro ys hy
    cases hy
    exact ⟨tc, fun j => wd_cos.getD j 0, rfl, hc2, fun k x hx => st_get hx⟩
  · intro ys hy
    cases hy
    exact ⟨ti, fun j => wd_sin.getD j 0, rfl, hi2, fun k x hx => st_get hx⟩
  · intro j hj
    match j, hj with
    | 0, hj => exact absurd rfl hj
    | 1, _ => exact .inl rfl
    | 2, _ => exact .inr (.inl rfl)
    | 3, hj => exact absurd rfl hj
    | 4, _ => exact .inr (.inr (.inl rfl))
    | 5, _ => exact .inr (.inr (.inr rfl))
    | j + 6, hj => exact absurd rfl hj
  · intro ys hy
    cases hy
    exact ⟨b, fun j => xs.getD j 0, rfl, hX, hbl, Nat.not_le.mpr hbl, fun k x hx => st_get hx⟩
