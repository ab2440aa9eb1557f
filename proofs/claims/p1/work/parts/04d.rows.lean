/-! ===== rows at abstract frames: branches, the stack, conversions ===== -/
section AVR
variable {Ts : List Jvm.Cond} {cl : List vw_C} {D : va_G} {cy : Nat → ClassId} {A : Nat → Prop} {sv : Nat → Value} {as0 : List Nat} {X : av_X} {M : av_M} {mt : Nat → av_M} {F : av_F} {p : Program} {l : Launch} {e : Env} {R : Room} {s : State} {m : MethodId} {args : Array Value} {below : List Frame} {meth : Method} {c : Code} {Q : State → Prop}
theorem av_jmp_ok {pc : Nat} {off : Int} (h : av_jmp pc off = true) : (pc : Int) + off = (av_tgt pc off : Int) := by
  simpa [av_jmp, av_tgt] using h
theorem av_icmp_ok {pc len a b : Nat} {o : Jvm.ClassFile.Cond} {off z : Int} {u w : Int × Int} {L : av_L} {st : List av_V} {h : av_H} {cN sN : Nat} (C0 : av_Cx Ts cl D cy A sv X M p R s m args meth c) (ok : av_ok Ts cl mt M (pc, .if_icmp o off, len, a, b, z)) (hj : av_jmp pc off = true)
    (k : ∀ S' ∈ av_br (av_cmp o u w) (av_tgt pc off, L, st, h, cN, sN) (pc + len, L, st, h, cN, sN), av_Good cl D cy A sv as0 M.1.2.2.2.1 p l e R s m args below meth c Q S') : av_Good cl D cy A sv as0 M.1.2.2.2.1 p l e R s m args below meth c Q (pc, L, av_i w :: av_i u :: st, h, cN, sN) := by
  obtain ⟨hx, hb, -⟩ := C0
  obtain ⟨hd, hlen, -⟩ := ok
  intro as ws H locs ls stv has hH hP hD hS hL hst
  obtain ⟨_, stv1, rfl, ⟨y, rfl, hy⟩, hst1⟩ := av_relS_cons hst
  obtain ⟨_, stv, rfl, ⟨x, rfl, hx'⟩, hst2⟩ := av_relS_cons hst1
  have : len = 3 := by simpa [av_lenok, av_len] using hlen
  subst this
  have kt := fun (hm : (av_tgt pc off, L, st, h, cN, sN) ∈ av_br (av_cmp o u w) (av_tgt pc off, L, st, h, cN, sN) (pc + 3, L, st, h, cN, sN)) => k _ hm as ws H locs ls stv has hH hP hD hS hL hst2
  have kf := fun (hm : (pc + 3, L, st, h, cN, sN) ∈ av_br (av_cmp o u w) (av_tgt pc off, L, st, h, cN, sN) (pc + 3, L, st, h, cN, sN)) => k _ hm as ws H locs ls stv has hH hP hD hS hL hst2
  have ht := av_jmp_ok hj
  dsimp only at kt kf hd ⊢
  have go : ∀ {cnd : Prop}, (∀ r, av_cmp o u w = some r → (cnd ↔ r = true)) → (cnd → W p l e R s m args below meth c H locs cN sN Q (F0 m (av_tgt pc off) ls stv)) ∧ (¬ cnd → W p l e R s m args below meth c H locs cN sN Q (F0 m (pc + 3) ls stv)) := by
    intro cnd hc
    cases hcm : av_cmp o u w with
    | none => rw [hcm] at kt kf; exact ⟨fun _ => kt (by simp [av_br]), fun _ => kf (by simp [av_br])⟩
    | some r =>
      have hi := hc r hcm
      cases r with
      | true => rw [hcm] at kt; exact ⟨fun _ => kt (by simp [av_br]), fun q => absurd (hi.mpr rfl) q⟩
      | false => rw [hcm] at kf; exact ⟨fun q => by simp [hi] at q, fun _ => kf (by simp [av_br])⟩
  have hlt := fun r (hr : av_lt u w = some r) => av_lt_ok hx' hy hr
  have hgt := fun r (hr : av_lt w u = some r) => av_lt_ok hy hx' hr
  have heq := fun r (hr : av_eq u w = some r) => av_eq_ok hx' hy hr
  have hnot : ∀ {t : Option Bool} {cnd : Prop}, (∀ r, t = some r → (cnd ↔ r = true)) → ∀ r, t.map not = some r → (¬ cnd ↔ r = true) := by
    intro t cnd hh r hr
    cases t with
    | none => cases hr
    | some q => cases hr; rw [hh q rfl]; cases q <;> simp
  cases o with
  | eq => have g := go (cnd := x = y) heq; exact lv_icmp_eq hx hb hd ht g.1 g.2
  | ne => have g := go (cnd := ¬ x = y) (hnot heq); exact lv_icmp_ne hx hb hd ht g.1 (fun q => g.2 (fun q' => q' q))
  | lt => have g := go (cnd := x < y) hlt; exact lv_icmp_lt hx hb hd ht g.1 g.2
  | ge => have g := go (cnd := ¬ x < y) (hnot hlt); exact lv_icmp_ge hx hb hd ht (fun q => g.1 (by rw [Int32.lt_iff_toInt_lt]; rw [Int32.le_iff_toInt_le] at q; omega)) (fun q => g.2 (fun q' => q' (by rw [Int32.lt_iff_toInt_lt]; rw [Int32.le_iff_toInt_le] at q; omega)))
  | gt => have g := go (cnd := y < x) hgt; exact lv_icmp_gt hx hb hd ht g.1 g.2
  | le => have g := go (cnd := ¬ y < x) (hnot hgt); exact lv_icmp_le hx hb hd ht (fun q => g.1 (by rw [Int32.lt_iff_toInt_lt]; rw [Int32.le_iff_toInt_le] at q; omega)) (fun q => g.2 (fun q' => q' (by rw [Int32.lt_iff_toInt_lt]; rw [Int32.le_iff_toInt_le] at q; omega)))
theorem av_if_ok {pc len a b : Nat} {o : Jvm.ClassFile.Cond} {off z : Int} {u : Int × Int} {L : av_L} {st : List av_V} {h : av_H} {cN sN : Nat} (C0 : av_Cx Ts cl D cy A sv X M p R s m args meth c) (ok : av_ok Ts cl mt M (pc, .ifCond o off, len, a, b, z)) (hj : av_jmp pc off = true)
    (k : ∀ S' ∈ av_br (av_cmp o u (0, 0)) (av_tgt pc off, L, st, h, cN, sN) (pc + len, L, st, h, cN, sN), av_Good cl D cy A sv as0 M.1.2.2.2.1 p l e R s m args below meth c Q S') : av_Good cl D cy A sv as0 M.1.2.2.2.1 p l e R s m args below meth c Q (pc, L, av_i u :: st, h, cN, sN) := by
  obtain ⟨hx, hb, -⟩ := C0
  obtain ⟨hd, hlen, -⟩ := ok
  intro as ws H locs ls stv has hH hP hD hS hL hst
  obtain ⟨_, stv, rfl, ⟨x, rfl, hx'⟩, hst1⟩ := av_relS_cons hst
  have hy : (0 : Int) ≤ (0 : Int32).toInt ∧ (0 : Int32).toInt ≤ 0 := by decide
  have : len = 3 := by simpa [av_lenok, av_len] using hlen
  subst this
  have kt := fun (hm : (av_tgt pc off, L, st, h, cN, sN) ∈ av_br (av_cmp o u (0, 0)) (av_tgt pc off, L, st, h, cN, sN) (pc + 3, L, st, h, cN, sN)) => k _ hm as ws H locs ls stv has hH hP hD hS hL hst1
  have kf := fun (hm : (pc + 3, L, st, h, cN, sN) ∈ av_br (av_cmp o u (0, 0)) (av_tgt pc off, L, st, h, cN, sN) (pc + 3, L, st, h, cN, sN)) => k _ hm as ws H locs ls stv has hH hP hD hS hL hst1
  have ht := av_jmp_ok hj
  dsimp only at kt kf hd ⊢
  have go : ∀ {cnd : Prop}, (∀ r, av_cmp o u (0, 0) = some r → (cnd ↔ r = true)) → (cnd → W p l e R s m args below meth c H locs cN sN Q (F0 m (av_tgt pc off) ls stv)) ∧ (¬ cnd → W p l e R s m args below meth c H locs cN sN Q (F0 m (pc + 3) ls stv)) := by
    intro cnd hc
    cases hcm : av_cmp o u (0, 0) with
    | none => rw [hcm] at kt kf; exact ⟨fun _ => kt (by simp [av_br]), fun _ => kf (by simp [av_br])⟩
    | some r =>
      have hi := hc r hcm
      cases r with
      | true => rw [hcm] at kt; exact ⟨fun _ => kt (by simp [av_br]), fun q => absurd (hi.mpr rfl) q⟩
      | false => rw [hcm] at kf; exact ⟨fun q => by simp [hi] at q, fun _ => kf (by simp [av_br])⟩
  have hlt := fun r (hr : av_lt u (0, 0) = some r) => av_lt_ok (y := 0) hx' hy hr
  have hgt := fun r (hr : av_lt (0, 0) u = some r) => av_lt_ok (x := 0) hy hx' hr
  have heq := fun r (hr : av_eq u (0, 0) = some r) => av_eq_ok (y := 0) hx' hy hr
  have hnot : ∀ {t : Option Bool} {cnd : Prop}, (∀ r, t = some r → (cnd ↔ r = true)) → ∀ r, t.map not = some r → (¬ cnd ↔ r = true) := by
    intro t cnd hh r hr
    cases t with
    | none => cases hr
    | some q => cases hr; rw [hh q rfl]; cases q <;> simp
  cases o with
  | eq => have g := go (cnd := x = 0) heq; exact lv_if_eq hx hb hd ht g.1 g.2
  | ne => have g := go (cnd := ¬ x = 0) (hnot heq); exact lv_if_ne hx hb hd ht g.1 (fun q => g.2 (fun q' => q' q))
  | lt => have g := go (cnd := x < 0) hlt; exact lv_if_lt hx hb hd ht g.1 g.2
  | ge => have g := go (cnd := ¬ x < 0) (hnot hlt); exact lv_if_ge hx hb hd ht (fun q => g.1 (by rw [Int32.lt_iff_toInt_lt]; rw [Int32.le_iff_toInt_le] at q; omega)) (fun q => g.2 (fun q' => q' (by rw [Int32.lt_iff_toInt_lt]; rw [Int32.le_iff_toInt_le] at q; omega)))
  | gt => have g := go (cnd := 0 < x) hgt; exact lv_if_gt hx hb hd ht g.1 g.2
  | le => have g := go (cnd := ¬ 0 < x) (hnot hgt); exact lv_if_le hx hb hd ht (fun q => g.1 (by rw [Int32.lt_iff_toInt_lt]; rw [Int32.le_iff_toInt_le] at q; omega)) (fun q => g.2 (fun q' => q' (by rw [Int32.lt_iff_toInt_lt]; rw [Int32.le_iff_toInt_le] at q; omega)))
theorem av_goto_ok {pc len a b : Nat} {off z : Int} {L : av_L} {st : List av_V} {h : av_H} {cN sN : Nat} (C0 : av_Cx Ts cl D cy A sv X M p R s m args meth c) (ok : av_ok Ts cl mt M (pc, .goto off, len, a, b, z)) (hj : av_jmp pc off = true)
    (k : av_Good cl D cy A sv as0 M.1.2.2.2.1 p l e R s m args below meth c Q (av_tgt pc off, L, st, h, cN, sN)) : av_Good cl D cy A sv as0 M.1.2.2.2.1 p l e R s m args below meth c Q (pc, L, st, h, cN, sN) := by
  obtain ⟨hx, hb, -⟩ := C0
  obtain ⟨hd, hlen, -⟩ := ok
  intro as ws H locs ls stv has hH hP hD hS hL hst
  have : len = 3 := by simpa [av_lenok, av_len] using hlen
  subst this
  exact lv_goto hx hb hd (av_jmp_ok hj) (k as ws H locs ls stv has hH hP hD hS hL hst)
theorem av_iinc_ok {pc len a b i : Nat} {n z : Int} {u : Int × Int} {L : av_L} {st : List av_V} {h : av_H} {cN sN : Nat} (C0 : av_Cx Ts cl D cy A sv X M p R s m args meth c) (ok : av_ok Ts cl mt M (pc, .iinc i n, len, a, b, z)) (hg : av_get L i = some (av_i u))
    (k : av_Good cl D cy A sv as0 M.1.2.2.2.1 p l e R s m args below meth c Q (pc + len, av_set L i (av_i (av_b2 (fun x y => x + y) u (n, n))), st, h, cN, sN)) : av_Good cl D cy A sv as0 M.1.2.2.2.1 p l e R s m args below meth c Q (pc, L, st, h, cN, sN) := by
  obtain ⟨hx, hb, -, -, -, -, -, -, -, -, hSF, -⟩ := C0
  obtain ⟨hsv, -⟩ := hSF
  obtain ⟨hd, hlen, hok⟩ := ok
  intro as ws H locs ls stv has hH hP hD hS hL hst
  have : len = 3 := by simpa [av_lenok, av_len] using hlen
  subst this
  obtain ⟨lv, g1, g2⟩ := hL
  obtain ⟨_, ⟨x, rfl, hx'⟩, hm⟩ := g2 _ (av_get_mem hg)
  obtain ⟨kk, hkk⟩ := List.getElem?_of_mem hm
  have hb2 : (av_b2 (fun x y => x + y) u (n, n)).1 ≤ (x + Int32.ofInt n).toInt ∧ (x + Int32.ofInt n).toInt ≤ (av_b2 (fun x y => x + y) u (n, n)).2 := by
    unfold av_b2
    cases hc : (decide (u.1 = u.2) && decide ((n, n).1 = (n, n).2)) with
    | false => exact av_top_ok _
    | true =>
      simp only [Bool.and_eq_true, decide_eq_true_eq] at hc
      have e1 : x = Int32.ofInt u.1 := av_one_of hx'.1 (by omega)
      rw [cond_true, ← e1]
      exact ⟨Int.le_refl _, Int.le_refl _⟩
  have hdn : av_dn sv as (av_i (av_b2 (fun x y => x + y) u (n, n))) (.int (x + Int32.ofInt n)) := ⟨_, rfl, hb2⟩
  exact lv_iinc hx hb hd g1 hkk rfl hok rfl (fun ls' hl' => k as ws H locs ls' stv has hH hP hD hS (av_relL_set hsv g2 hdn hl') hst)
theorem av_dup_ok {pc len a b : Nat} {z : Int} {v : av_V} {L : av_L} {st : List av_V} {h : av_H} {cN sN : Nat} (C0 : av_Cx Ts cl D cy A sv X M p R s m args meth c) (ok : av_ok Ts cl mt M (pc, .dup, len, a, b, z)) (hv : av_isL v = false)
    (k : av_Good cl D cy A sv as0 M.1.2.2.2.1 p l e R s m args below meth c Q (pc + len, L, v :: v :: st, h, cN, sN)) : av_Good cl D cy A sv as0 M.1.2.2.2.1 p l e R s m args below meth c Q (pc, L, v :: st, h, cN, sN) := by
  obtain ⟨hx, hb, -, -, -, -, -, -, -, -, hSF, -⟩ := C0
  obtain ⟨hsv, -⟩ := hSF
  obtain ⟨hd, hlen, -⟩ := ok
  intro as ws H locs ls stv has hH hP hD hS hL hst
  have : len = 1 := by simpa [av_lenok, av_len] using hlen
  subst this
  obtain ⟨x, stv, rfl, hdn, hst1⟩ := av_relS_cons hst
  exact lv_dup hx hb hd (by rw [av_cat hsv hdn, hv]; rfl) (k as ws H locs ls (x :: x :: stv) has hH hP hD hS hL ⟨hdn, hdn, hst1⟩)
theorem av_pop_ok {pc len a b : Nat} {z : Int} {v : av_V} {L : av_L} {st : List av_V} {h : av_H} {cN sN : Nat} (C0 : av_Cx Ts cl D cy A sv X M p R s m args meth c) (ok : av_ok Ts cl mt M (pc, .pop, len, a, b, z)) (hv : av_isL v = false)
    (k : av_Good cl D cy A sv as0 M.1.2.2.2.1 p l e R s m args below meth c Q (pc + len, L, st, h, cN, sN)) : av_Good cl D cy A sv as0 M.1.2.2.2.1 p l e R s m args below meth c Q (pc, L, v :: st, h, cN, sN) := by
  obtain ⟨hx, hb, -, -, -, -, -, -, -, -, hSF, -⟩ := C0
  obtain ⟨hsv, -⟩ := hSF
  obtain ⟨hd, hlen, -⟩ := ok
  intro as ws H locs ls stv has hH hP hD hS hL hst
  have : len = 1 := by simpa [av_lenok, av_len] using hlen
  subst this
  obtain ⟨x, stv, rfl, hdn, hst1⟩ := av_relS_cons hst
  exact lv_pop hx hb hd (by rw [av_cat hsv hdn, hv]; rfl) (k as ws H locs ls stv has hH hP hD hS hL hst1)
theorem av_dup2_ok {pc len a b : Nat} {z : Int} {v w : av_V} {L : av_L} {st : List av_V} {h : av_H} {cN sN : Nat} (C0 : av_Cx Ts cl D cy A sv X M p R s m args meth c) (ok : av_ok Ts cl mt M (pc, .dup2, len, a, b, z)) (hv : av_isL v = false) (hw : av_isL w = false)
    (k : av_Good cl D cy A sv as0 M.1.2.2.2.1 p l e R s m args below meth c Q (pc + len, L, v :: w :: v :: w :: st, h, cN, sN)) : av_Good cl D cy A sv as0 M.1.2.2.2.1 p l e R s m args below meth c Q (pc, L, v :: w :: st, h, cN, sN) := by
  obtain ⟨hx, hb, -, -, -, -, -, -, -, -, hSF, -⟩ := C0
  obtain ⟨hsv, -⟩ := hSF
  obtain ⟨hd, hlen, -⟩ := ok
  intro as ws H locs ls stv has hH hP hD hS hL hst
  have : len = 1 := by simpa [av_lenok, av_len] using hlen
  subst this
  obtain ⟨x, stv1, rfl, hdn, hst1⟩ := av_relS_cons hst
  obtain ⟨y, stv, rfl, hdn2, hst2⟩ := av_relS_cons hst1
  exact lv_dup2_11 hx hb hd (by rw [av_cat hsv hdn, hv]; rfl) (by rw [av_cat hsv hdn2, hw]; rfl) (k as ws H locs ls (x :: y :: x :: y :: stv) has hH hP hD hS hL ⟨hdn, hdn2, hdn, hdn2, hst2⟩)
theorem av_i2c_ok {pc len a b : Nat} {z : Int} {u : Int × Int} {L : av_L} {st : List av_V} {h : av_H} {cN sN : Nat} (C0 : av_Cx Ts cl D cy A sv X M p R s m args meth c) (ok : av_ok Ts cl mt M (pc, .i2c, len, a, b, z))
    (k : av_Good cl D cy A sv as0 M.1.2.2.2.1 p l e R s m args below meth c Q (pc + len, L, av_i (av_u1 (fun x => (x.toUInt32 % 65536).toInt32) u) :: st, h, cN, sN)) : av_Good cl D cy A sv as0 M.1.2.2.2.1 p l e R s m args below meth c Q (pc, L, av_i u :: st, h, cN, sN) := by
  obtain ⟨hx, hb, -⟩ := C0
  obtain ⟨hd, hlen, -⟩ := ok
  intro as ws H locs ls stv has hH hP hD hS hL hst
  have : len = 1 := by simpa [av_lenok, av_len] using hlen
  subst this
  obtain ⟨_, stv, rfl, ⟨x, rfl, hx'⟩, hst1⟩ := av_relS_cons hst
  exact lv_i2c hx hb hd rfl (k as ws H locs ls (_ :: stv) has hH hP hD hS hL ⟨⟨_, rfl, av_u1_ok (fun x => (x.toUInt32 % 65536).toInt32) hx'⟩, hst1⟩)
theorem av_i8 (x : Int32) : -128 ≤ x.toInt8.toInt32.toInt ∧ x.toInt8.toInt32.toInt ≤ 127 := by
  rw [Int8.toInt_toInt32]
  have h1 := x.toInt8.toInt_lt
  have h2 := x.toInt8.le_toInt
  omega
theorem av_i2b_ok {pc len a b : Nat} {z : Int} {u : Int × Int} {L : av_L} {st : List av_V} {h : av_H} {cN sN : Nat} (C0 : av_Cx Ts cl D cy A sv X M p R s m args meth c) (ok : av_ok Ts cl mt M (pc, .i2b, len, a, b, z))
    (k : av_Good cl D cy A sv as0 M.1.2.2.2.1 p l e R s m args below meth c Q (pc + len, L, av_i (bif decide (u.1 = u.2) then av_u1 (fun x => x.toInt8.toInt32) u else (-128, 127)) :: st, h, cN, sN)) : av_Good cl D cy A sv as0 M.1.2.2.2.1 p l e R s m args below meth c Q (pc, L, av_i u :: st, h, cN, sN) := by
  obtain ⟨hx, hb, -⟩ := C0
  obtain ⟨hd, hlen, -⟩ := ok
  intro as ws H locs ls stv has hH hP hD hS hL hst
  have : len = 1 := by simpa [av_lenok, av_len] using hlen
  subst this
  obtain ⟨_, stv, rfl, ⟨x, rfl, hx'⟩, hst1⟩ := av_relS_cons hst
  refine lv_i2b hx hb hd rfl (k as ws H locs ls (_ :: stv) has hH hP hD hS hL ⟨⟨_, rfl, ?_⟩, hst1⟩)
  cases decide (u.1 = u.2) with
  | true => exact av_u1_ok (fun x => x.toInt8.toInt32) hx'
  | false => exact av_i8 x
theorem av_lcmp_ok {pc len a b : Nat} {z : Int} {u w : Int × Int} {L : av_L} {st : List av_V} {h : av_H} {cN sN : Nat} (C0 : av_Cx Ts cl D cy A sv X M p R s m args meth c) (ok : av_ok Ts cl mt M (pc, .lcmp, len, a, b, z)) (hc : (decide (u.1 = u.2) && (decide (w.1 = w.2) && decide (u.1 = w.1))) = true)
    (k : av_Good cl D cy A sv as0 M.1.2.2.2.1 p l e R s m args below meth c Q (pc + len, L, av_c 0 :: st, h, cN, sN)) : av_Good cl D cy A sv as0 M.1.2.2.2.1 p l e R s m args below meth c Q (pc, L, av_l w :: av_l u :: st, h, cN, sN) := by
  obtain ⟨hx, hb, -⟩ := C0
  obtain ⟨hd, hlen, -⟩ := ok
  intro as ws H locs ls stv has hH hP hD hS hL hst
  have : len = 1 := by simpa [av_lenok, av_len] using hlen
  subst this
  obtain ⟨_, stv1, rfl, ⟨y, rfl, hy⟩, hst1⟩ := av_relS_cons hst
  obtain ⟨_, stv, rfl, ⟨x, rfl, hx'⟩, hst2⟩ := av_relS_cons hst1
  simp only [Bool.and_eq_true, decide_eq_true_eq] at hc
  have e : x = y := by
    rw [← Int64.toInt_inj]
    omega
  subst e
  refine W.lcmp hx hb hd ?_
  have e0 : lg_cmp x x = 0 := by simp [lg_cmp]
  have kk := k as ws H locs ls (.int 0 :: stv) has hH hP hD hS hL ⟨av_dn_c 0, hst2⟩
  first | (rw [e0]; exact kk) | simpa [e0] using kk
theorem av_table_ok {pc len a b : Nat} {d lo hi z : Int} {offs : Array Int} {u : Int × Int} {L : av_L} {st : List av_V} {h : av_H} {cN sN : Nat} (C0 : av_Cx Ts cl D cy A sv X M p R s m args meth c) (ok : av_ok Ts cl mt M (pc, .tableswitch d lo hi offs, len, a, b, z)) {off : Int} (hj : av_jmp pc off = true)
    (hc : ((decide (u.2 < lo) || decide (hi < u.1)) = true ∧ off = d) ∨ ((decide (u.1 = u.2) && (decide (lo ≤ u.1) && decide (u.1 ≤ hi))) = true ∧ offs[(u.1 - lo).toNat]? = some off))
    (k : av_Good cl D cy A sv as0 M.1.2.2.2.1 p l e R s m args below meth c Q (av_tgt pc off, L, st, h, cN, sN)) : av_Good cl D cy A sv as0 M.1.2.2.2.1 p l e R s m args below meth c Q (pc, L, av_i u :: st, h, cN, sN) := by
  obtain ⟨hx, hb, -⟩ := C0
  obtain ⟨hd, -, -⟩ := ok
  intro as ws H locs ls stv has hH hP hD hS hL hst
  obtain ⟨_, stv, rfl, ⟨x, rfl, hx'⟩, hst1⟩ := av_relS_cons hst
  have kk := k as ws H locs ls stv has hH hP hD hS hL hst1
  rcases hc with ⟨h1, rfl⟩ | ⟨h1, h2⟩
  · simp only [Bool.or_eq_true, decide_eq_true_eq] at h1
    exact lv_tableOut hx hb hd (by omega) (av_jmp_ok hj) kk
  · simp only [Bool.and_eq_true, decide_eq_true_eq] at h1
    have e : x.toInt = u.1 := by omega
    exact lv_tableIn hx hb hd (by omega) (by omega) (by rw [e]; exact h2) (av_jmp_ok hj) kk
end AVR
