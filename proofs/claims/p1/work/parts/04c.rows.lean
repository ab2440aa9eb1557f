/-! ===== the rows of the kit, at abstract frames ===== -/
section AVR
variable {Ts : List Jvm.Cond} {cl : List vw_C} {D : va_G} {cy : Nat → ClassId} {A : Nat → Prop} {sv : Nat → Value} {as0 : List Nat} {X : av_X} {M : av_M} {mt : Nat → av_M} {F : av_F} {p : Program} {l : Launch} {e : Env} {R : Room} {s : State} {m : MethodId} {args : Array Value} {below : List Frame} {meth : Method} {c : Code} {Q : State → Prop}
theorem av_push_ok {pc len a b : Nat} {ins : Instr} {z : Int} {v : av_V} {L : av_L} {st : List av_V} {h : av_H} {cN sN : Nat} (C0 : av_Cx Ts cl D cy A sv X M p R s m args meth c) (ok : av_ok Ts cl mt M (pc, ins, len, a, b, z)) (hv : av_push (pc, ins, len, a, b, z) = some v)
    (k : av_Good cl D cy A sv as0 M.1.2.2.2.1 p l e R s m args below meth c Q (pc + len, L, v :: st, h, cN, sN)) : av_Good cl D cy A sv as0 M.1.2.2.2.1 p l e R s m args below meth c Q (pc, L, st, h, cN, sN) := by
  obtain ⟨hx, hb, hml, hown, hts, hr, hlk, hnm, hK, hA, hSF, -⟩ := C0
  obtain ⟨hsv, ⟨q0, q1, a1, a2, a3, a4, a5, a6, f, a7, a8⟩, h2, h3, -, h4⟩ := hSF
  obtain ⟨hd, hlen, hok⟩ := ok
  intro as ws H locs ls stv has hH hP hD hS hL hst
  have kk := fun x (hx : av_dn sv as v x) => k as ws H locs ls (x :: stv) has hH hP hD hS hL ⟨hx, hst⟩
  dsimp only at kk hok hd ⊢
  unfold av_push at hv
  dsimp only at hv
  cases ins <;> first | (cases hv; done) | skip
  case iconst n =>
    cases hv
    have : len = 1 := by simpa [av_lenok, av_len] using hlen
    subst this
    exact lv_iconst hx hb hd rfl (kk _ (av_dn_c _))
  case bipush n =>
    cases hv
    have : len = 2 := by simpa [av_lenok, av_len] using hlen
    subst this
    exact lv_bipush hx hb hd rfl (kk _ (av_dn_c _))
  case sipush n =>
    cases hv
    have : len = 3 := by simpa [av_lenok, av_len] using hlen
    subst this
    exact lv_sipush hx hb hd rfl (kk _ (av_dn_c _))
  case ldc i =>
    have : len = 2 := by simpa [av_lenok, av_len] using hlen
    subst this
    by_cases ha : a = 0
    · subst ha
      cases hv
      exact lv_ldc hx hb hown (hts _ (hok.1 rfl)) hd (kk _ (av_dn_c _))
    · have e : (a == 0) = false := by simpa using ha
      rw [e] at hv
      cases hv
      obtain ⟨o1, o2⟩ := hok.2 ha
      subst o2
      exact va_ldcS hx hb hown (by rw [o1]; exact a3) hd (kk _ a1.symm)
  case ldc_w i =>
    have : len = 3 := by simpa [av_lenok, av_len] using hlen
    subst this
    cases hv
    exact lv_ldcw hx hb hown (hts _ hok) hd (kk _ (av_dn_c _))
  case ldc2_w i =>
    have : len = 3 := by simpa [av_lenok, av_len] using hlen
    subst this
    cases hv
    exact lv_ldc2 hx hb hown (hts _ hok) hd (kk _ ⟨_, rfl, Int.le_refl _, Int.le_refl _⟩)
  case getstatic i =>
    have : len = 3 := by simpa [av_lenok, av_len] using hlen
    subst this
    by_cases ha : a = 0
    · subst ha
      cases hv
      exact va_gets hx hb h2 hS hown (hts _ (hok.1 rfl)) (fun x h => h) hd (kk _ (av_dn_c _))
    · have e : (a == 0) = false := by simpa using ha
      rw [e] at hv
      cases hv
      exact va_gets hx hb h3 hS hown (hts _ (hok.2 ha)) (fun x h => h) hd (kk _ rfl)
theorem av_load_ok {pc len a b i kd : Nat} {ins : Instr} {z : Int} {v : av_V} {L : av_L} {st : List av_V} {h : av_H} {cN sN : Nat} (C0 : av_Cx Ts cl D cy A sv X M p R s m args meth c) (ok : av_ok Ts cl mt M (pc, ins, len, a, b, z)) (hi : av_load ins = some (i, kd)) (hg : av_get L i = some v) (hv : (bif kd == 1 then av_isI v else av_isA v) = true)
    (k : av_Good cl D cy A sv as0 M.1.2.2.2.1 p l e R s m args below meth c Q (pc + len, L, v :: st, h, cN, sN)) : av_Good cl D cy A sv as0 M.1.2.2.2.1 p l e R s m args below meth c Q (pc, L, st, h, cN, sN) := by
  obtain ⟨hx, hb, hml, hown, hts, hr, hlk, hnm, hK, hA, hSF, -⟩ := C0
  obtain ⟨hsv, -⟩ := hSF
  obtain ⟨hd, hlen, -⟩ := ok
  intro as ws H locs ls stv has hH hP hD hS hL hst
  obtain ⟨x, hdn, hls⟩ := av_relL_get hL hg
  have kk := k as ws H locs ls (x :: stv) has hH hP hD hS hL ⟨hdn, hst⟩
  dsimp only at kk hd ⊢
  have hI : kd = 1 → ∃ n : Int32, x = .int n := by
    intro e
    subst e
    match v, hdn, hv with
    | .inr (.inl a), ⟨n, h1, _⟩, _ => exact ⟨n, h1⟩
  have hR : kd = 2 → x = .null ∨ ∃ n : Nat, x = .ref n := by
    intro e
    subst e
    match v, hdn, hv with
    | .inl none, h1, _ => exact .inl h1
    | .inl (some _), ⟨n, _, h1⟩, _ => exact .inr ⟨n, h1⟩
    | .inr (.inr (.inr j)), h1, _ => rw [show x = sv j from h1]; exact hsv j
  cases ins <;> first | (cases hi; done) | skip
  case iload_n n =>
    cases hi
    have : len = 1 := by simpa [av_lenok, av_len] using hlen
    subst this
    obtain ⟨y, rfl⟩ := hI rfl
    exact lv_iload_n hx hb hd rfl hls kk
  case iload n =>
    cases hi
    have : len = 2 := by simpa [av_lenok, av_len] using hlen
    subst this
    obtain ⟨y, rfl⟩ := hI rfl
    exact lv_iload hx hb hd hls kk
  case aload_n n =>
    cases hi
    have : len = 1 := by simpa [av_lenok, av_len] using hlen
    subst this
    rcases hR rfl with rfl | ⟨y, rfl⟩
    · exact lv_aload_nN hx hb hd rfl hls kk
    · exact lv_aload_n hx hb hd rfl hls kk
  case aload n =>
    cases hi
    have : len = 2 := by simpa [av_lenok, av_len] using hlen
    subst this
    rcases hR rfl with rfl | ⟨y, rfl⟩
    · exact lv_aloadN hx hb hd hls kk
    · exact lv_aload hx hb hd hls kk
theorem av_store_ok {pc len a b i kd : Nat} {ins : Instr} {z : Int} {v : av_V} {L : av_L} {st : List av_V} {h : av_H} {cN sN : Nat} (C0 : av_Cx Ts cl D cy A sv X M p R s m args meth c) (ok : av_ok Ts cl mt M (pc, ins, len, a, b, z)) (hi : av_store ins = some (i, kd)) (hv : (bif kd == 1 then av_isI v else av_isR v) = true)
    (k : av_Good cl D cy A sv as0 M.1.2.2.2.1 p l e R s m args below meth c Q (pc + len, av_set L i v, st, h, cN, sN)) : av_Good cl D cy A sv as0 M.1.2.2.2.1 p l e R s m args below meth c Q (pc, L, v :: st, h, cN, sN) := by
  obtain ⟨hx, hb, hml, hown, hts, hr, hlk, hnm, hK, hA, hSF, -⟩ := C0
  obtain ⟨hsv, -⟩ := hSF
  obtain ⟨hd, hlen, hok⟩ := ok
  intro as ws H locs ls stv has hH hP hD hS hL hst
  obtain ⟨x, stv, rfl, hdn, hst1⟩ := av_relS_cons hst
  obtain ⟨lv, g1, g2⟩ := hL
  have kk := fun ls' hl' => k as ws H locs ls' stv has hH hP hD hS (av_relL_set hsv g2 hdn hl') hst1
  dsimp only at kk hd hok ⊢
  have hI : kd = 1 → ∃ n : Int32, x = .int n := by
    intro e
    subst e
    match v, hdn, hv with
    | .inr (.inl a), ⟨n, h1, _⟩, _ => exact ⟨n, h1⟩
  have hR : kd = 2 → ∃ n : Nat, x = .ref n := by
    intro e
    subst e
    match v, hdn, hv with
    | .inl (some _), ⟨n, _, h1⟩, _ => exact ⟨n, h1⟩
  cases ins <;> first | (cases hi; done) | skip
  case istore_n n =>
    cases hi
    have : len = 1 := by simpa [av_lenok, av_len] using hlen
    subst this
    obtain ⟨y, rfl⟩ := hI rfl
    exact lv_istore_n hx hb hd rfl g1 hok rfl kk
  case istore n =>
    cases hi
    have : len = 2 := by simpa [av_lenok, av_len] using hlen
    subst this
    obtain ⟨y, rfl⟩ := hI rfl
    exact lv_istore hx hb hd g1 hok rfl kk
  case astore_n n =>
    cases hi
    have : len = 1 := by simpa [av_lenok, av_len] using hlen
    subst this
    obtain ⟨y, rfl⟩ := hR rfl
    exact lv_astore_n hx hb hd rfl g1 hok rfl kk
  case astore n =>
    cases hi
    have : len = 2 := by simpa [av_lenok, av_len] using hlen
    subst this
    obtain ⟨y, rfl⟩ := hR rfl
    exact lv_astore hx hb hd g1 hok rfl kk
theorem av_bin_ok {pc len a b : Nat} {ins : Instr} {z : Int} {f : (Int × Int) → (Int × Int) → Option (Int × Int)} {u w r : Int × Int} {L : av_L} {st : List av_V} {h : av_H} {cN sN : Nat} (C0 : av_Cx Ts cl D cy A sv X M p R s m args meth c) (ok : av_ok Ts cl mt M (pc, ins, len, a, b, z)) (hf : av_bin ins = some f) (hr : f u w = some r)
    (k : av_Good cl D cy A sv as0 M.1.2.2.2.1 p l e R s m args below meth c Q (pc + len, L, av_i r :: st, h, cN, sN)) : av_Good cl D cy A sv as0 M.1.2.2.2.1 p l e R s m args below meth c Q (pc, L, av_i w :: av_i u :: st, h, cN, sN) := by
  obtain ⟨hx, hb, -⟩ := C0
  obtain ⟨hd, hlen, -⟩ := ok
  intro as ws H locs ls stv has hH hP hD hS hL hst
  obtain ⟨_, stv1, rfl, ⟨y, rfl, hy⟩, hst1⟩ := av_relS_cons hst
  obtain ⟨_, stv, rfl, ⟨x, rfl, hx'⟩, hst2⟩ := av_relS_cons hst1
  have kk := fun (n : Int32) (hn : r.1 ≤ n.toInt ∧ n.toInt ≤ r.2) => k as ws H locs ls (.int n :: stv) has hH hP hD hS hL ⟨⟨n, rfl, hn⟩, hst2⟩
  dsimp only at kk hd ⊢
  cases ins <;> first | (cases hf; done) | skip
  case iadd =>
    have : len = 1 := by simpa [av_lenok, av_len] using hlen
    subst this; cases hf; cases hr
    exact lv_iadd hx hb hd (kk _ (av_b2_ok _ hx' hy))
  case isub =>
    have : len = 1 := by simpa [av_lenok, av_len] using hlen
    subst this; cases hf; cases hr
    exact lv_isub hx hb hd (kk _ (av_b2_ok _ hx' hy))
  case imul =>
    have : len = 1 := by simpa [av_lenok, av_len] using hlen
    subst this; cases hf; cases hr
    exact lv_imul hx hb hd (kk _ (av_mul_ok hx' hy))
  case iand =>
    have : len = 1 := by simpa [av_lenok, av_len] using hlen
    subst this; cases hf; cases hr
    exact lv_iand hx hb hd (kk _ (av_b2_ok _ hx' hy))
  case ior =>
    have : len = 1 := by simpa [av_lenok, av_len] using hlen
    subst this; cases hf; cases hr
    exact lv_ior hx hb hd (kk _ (av_b2_ok _ hx' hy))
  case ishl =>
    have : len = 1 := by simpa [av_lenok, av_len] using hlen
    subst this; cases hf; cases hr
    exact lv_ishl hx hb hd (kk _ (av_b2_ok _ hx' hy))
  case ishr =>
    have : len = 1 := by simpa [av_lenok, av_len] using hlen
    subst this; cases hf; cases hr
    exact lv_ishr hx hb hd (kk _ (av_b2_ok _ hx' hy))
  case iushr =>
    have : len = 1 := by simpa [av_lenok, av_len] using hlen
    subst this; cases hf; cases hr
    exact lv_iushr hx hb hd rfl (kk _ (av_b2_ok _ hx' hy))
  case idiv =>
    have : len = 1 := by simpa [av_lenok, av_len] using hlen
    subst this; cases hf
    obtain ⟨h1, h2⟩ := av_div_ok hr hx' hy
    exact lv_idiv hx hb hd h1 (kk _ h2)
  case irem =>
    have : len = 1 := by simpa [av_lenok, av_len] using hlen
    subst this; cases hf
    obtain ⟨h1, h2⟩ := av_rem_ok hr hx' hy
    exact lv_irem hx hb hd h1 (kk _ h2)
end AVR
