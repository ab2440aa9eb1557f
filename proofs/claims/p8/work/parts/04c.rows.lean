/-! ===== rows of the kit, at frames of the small machine ===== -/
section CVR
variable {Ts : List Jvm.Cond} {cl : List vw_C} {D : va_G} {cy : Nat → ClassId} {A : Nat → Prop} {sv : Nat → Value} {as0 : List Nat} {X : cv_X} {M : cv_M} {mt : Nat → cv_M} {F : cv_F} {p : Program} {l : Launch} {e : Env} {R : Room} {s : State} {m : MethodId} {args : Array Value} {below : List Frame} {meth : Method} {c : Code} {Q : State → Prop}
theorem cv_push_ok {pc len a b : Nat} {z : Int} {L : cv_L} {st : List cv_V} {h : cv_H} {cN sN : Nat} {ins : Instr} {v : cv_V} (C0 : cv_Cx Ts cl D cy A sv X M p R s m args meth c) (ok : cv_ok Ts cl mt M (pc, ins, len, a, b, z)) (hv : cv_push (pc, ins, len, a, b, z) = some v)
    (kk : cv_Good cl D cy A sv as0 M.1.2.2.2.1 p l e R s m args below meth c Q (pc + len, L, v :: st, h, cN, sN)) : cv_Good cl D cy A sv as0 M.1.2.2.2.1 p l e R s m args below meth c Q (pc, L, st, h, cN, sN) := by
  obtain ⟨hx, hb, hml, hown, hts, hr, hlk, hnm, hK, hA, hSF, r1, r2, r3, r4⟩ := C0
  obtain ⟨hsv, ⟨q0, q1, a1, a2, a3, a4, a5, a6⟩, h2, h3, ⟨h4, ⟨h5, h6⟩, h7, h8⟩, ⟨h9, h10⟩, ⟨t1, t4, t5⟩, hj, h11⟩ := hSF
  obtain ⟨hd, hlen, hok⟩ := ok
  intro as ws H locs ls stv has hH hP hD hS hL hst
  have go := fun x (hx : cv_dn sv as v x) => kk as ws H locs ls (x :: stv) has hH hP hD hS hL ⟨hx, hst⟩
  dsimp only at go hok hd ⊢
  unfold cv_push at hv
  dsimp only at hv
  cases ins <;> first | (cases hv; done) | skip
  case iconst n =>
    cases hv
    have : len = 1 := by simpa [cv_lenok, cv_len] using hlen
    subst this
    exact lv_iconst hx hb hd rfl (go _ rfl)
  case bipush n =>
    cases hv
    have : len = 2 := by simpa [cv_lenok, cv_len] using hlen
    subst this
    exact lv_bipush hx hb hd rfl (go _ rfl)
  case sipush n =>
    cases hv
    have : len = 3 := by simpa [cv_lenok, cv_len] using hlen
    subst this
    exact lv_sipush hx hb hd rfl (go _ rfl)
  case lconst n =>
    cases hv
    have : len = 1 := by simpa [cv_lenok, cv_len] using hlen
    subst this
    exact lv_lconst hx hb hd rfl (go _ rfl)
  case ldc i =>
    have : len = 2 := by simpa [cv_lenok, cv_len] using hlen
    subst this
    by_cases ha : a = 0
    · subst ha
      cases hv
      exact lv_ldc hx hb hown (hts _ (hok.1 rfl)) hd (go _ rfl)
    · have e : (a == 0) = false := by simpa using ha
      rw [e] at hv
      cases hv
      obtain ⟨o1, o2⟩ := hok.2 ha
      subst o2
      exact va_ldcS hx hb hown (by rw [o1]; exact a3) hd (go _ a1.symm)
  case ldc_w i =>
    have : len = 3 := by simpa [cv_lenok, cv_len] using hlen
    subst this
    cases hv
    exact lv_ldcw hx hb hown (hts _ hok) hd (go _ rfl)
  case ldc2_w i =>
    have : len = 3 := by simpa [cv_lenok, cv_len] using hlen
    subst this
    cases hv
    exact lv_ldc2 hx hb hown (hts _ hok) hd (go _ rfl)
  case getstatic i =>
    have : len = 3 := by simpa [cv_lenok, cv_len] using hlen
    subst this
    obtain ⟨o0, o3, o4, o5, oo⟩ := hok
    rcases oo with rfl | rfl | rfl | rfl
    · cases hv
      exact va_gets hx hb h2 hS hown (hts _ (o0 rfl)) (fun x h => h) hd (go _ rfl)
    · cases hv
      exact va_gets hx hb h3 hS hown (hts _ (o3 rfl)) (fun x h => h) hd (go _ rfl)
    · cases hv
      obtain ⟨w1, w2⟩ := o4 rfl
      subst w2
      exact va_getsN hx hb h9 hS hown (by rw [w1]; exact va_Nw.use rfl h5) (fun x h => h) hd (go _ rfl)
    · cases hv
      obtain ⟨w1, w2⟩ := o5 rfl
      subst w2
      exact va_getsN hx hb h10 hS hown (by rw [w1]; exact va_Nw.use rfl h6) (fun x h => h) hd (go _ rfl)
theorem cv_load_ok {pc len a b : Nat} {z : Int} {L : cv_L} {st : List cv_V} {h : cv_H} {cN sN : Nat} {ins : Instr} {v : cv_V} {i kd : Nat} (C0 : cv_Cx Ts cl D cy A sv X M p R s m args meth c) (ok : cv_ok Ts cl mt M (pc, ins, len, a, b, z)) (hi : cv_load ins = some (i, kd)) (hg : cv_get L i = some v) (hv : cv_kind kd v = true)
    (kk : cv_Good cl D cy A sv as0 M.1.2.2.2.1 p l e R s m args below meth c Q (pc + len, L, v :: st, h, cN, sN)) : cv_Good cl D cy A sv as0 M.1.2.2.2.1 p l e R s m args below meth c Q (pc, L, st, h, cN, sN) := by
  obtain ⟨hx, hb, hml, hown, hts, hr, hlk, hnm, hK, hA, hSF, r1, r2, r3, r4⟩ := C0
  obtain ⟨hsv, -⟩ := hSF
  obtain ⟨hd, hlen, hok⟩ := ok
  intro as ws H locs ls stv has hH hP hD hS hL hst
  obtain ⟨x, hdn, hls⟩ := cv_relL_get hL hg
  have go := kk as ws H locs ls (x :: stv) has hH hP hD hS hL ⟨hdn, hst⟩
  dsimp only at go hd ⊢
  have hI : kd = 1 → ∃ n : Int32, x = .int n := by
    intro e
    subst e
    match v, hdn, hv with
    | .inl n, h1, _ => exact ⟨n, h1⟩
  have hLg : kd = 3 → ∃ n : Int64, x = .long n := by
    intro e
    subst e
    match v, hdn, hv with
    | .inr (.inl n), h1, _ => exact ⟨n, h1⟩
  have hR : kd = 2 → x = .null ∨ ∃ n : Nat, x = .ref n := by
    intro e
    subst e
    match v, hdn, hv with
    | .inr (.inr (.inl none)), h1, _ => exact .inl h1
    | .inr (.inr (.inl (some _))), ⟨n, _, h1⟩, _ => exact .inr ⟨n, h1⟩
    | .inr (.inr (.inr j)), h1, _ => rw [show x = sv j from h1]; exact hsv j
  cases ins <;> first | (cases hi; done) | skip
  case iload_n n =>
    cases hi
    have : len = 1 := by simpa [cv_lenok, cv_len] using hlen
    subst this
    obtain ⟨y, rfl⟩ := hI rfl
    exact lv_iload_n hx hb hd rfl hls go
  case iload n =>
    cases hi
    have : len = 2 := by simpa [cv_lenok, cv_len] using hlen
    subst this
    obtain ⟨y, rfl⟩ := hI rfl
    exact lv_iload hx hb hd hls go
  case lload_n n =>
    cases hi
    have : len = 1 := by simpa [cv_lenok, cv_len] using hlen
    subst this
    obtain ⟨y, rfl⟩ := hLg rfl
    exact lv_lload_n hx hb hd rfl hls go
  case lload n =>
    cases hi
    have : len = 2 := by simpa [cv_lenok, cv_len] using hlen
    subst this
    obtain ⟨y, rfl⟩ := hLg rfl
    exact lv_lload hx hb hd hls go
  case aload_n n =>
    cases hi
    have : len = 1 := by simpa [cv_lenok, cv_len] using hlen
    subst this
    rcases hR rfl with rfl | ⟨y, rfl⟩
    · exact lv_aload_nN hx hb hd rfl hls go
    · exact lv_aload_n hx hb hd rfl hls go
  case aload n =>
    cases hi
    have : len = 2 := by simpa [cv_lenok, cv_len] using hlen
    subst this
    rcases hR rfl with rfl | ⟨y, rfl⟩
    · exact lv_aloadN hx hb hd hls go
    · exact lv_aload hx hb hd hls go
theorem cv_store_ok {pc len a b : Nat} {z : Int} {L : cv_L} {st : List cv_V} {h : cv_H} {cN sN : Nat} {ins : Instr} {v : cv_V} {i kd : Nat} (C0 : cv_Cx Ts cl D cy A sv X M p R s m args meth c) (ok : cv_ok Ts cl mt M (pc, ins, len, a, b, z)) (hi : cv_store ins = some (i, kd)) (hv : (bif kd == 2 then cv_isR v else cv_kind kd v) = true)
    (kk : cv_Good cl D cy A sv as0 M.1.2.2.2.1 p l e R s m args below meth c Q (pc + len, (bif kd == 3 then cv_setL L i v else cv_set L i v), st, h, cN, sN)) : cv_Good cl D cy A sv as0 M.1.2.2.2.1 p l e R s m args below meth c Q (pc, L, v :: st, h, cN, sN) := by
  obtain ⟨hx, hb, hml, hown, hts, hr, hlk, hnm, hK, hA, hSF, r1, r2, r3, r4⟩ := C0
  obtain ⟨hsv, -⟩ := hSF
  obtain ⟨hd, hlen, hok⟩ := ok
  intro as ws H locs ls stv has hH hP hD hS hL hst
  obtain ⟨x, stv1, rfl, hdn, hst1⟩ := cv_relS_cons hst
  obtain ⟨lv, g1, g2⟩ := hL
  dsimp only at hd hok ⊢
  cases ins <;> first | (cases hi; done) | skip
  case istore_n n =>
    cases hi
    have : len = 1 := by simpa [cv_lenok, cv_len] using hlen
    subst this
    match v, hdn, hv with
    | .inl y, hdn, _ =>
      have hx1 : x = .int y := hdn
      subst hx1
      exact lv_istore_n hx hb hd rfl g1 hok rfl (fun ls' hl' => kk as ws H locs ls' stv1 has hH hP hD hS (cv_relL_set hsv g2 hdn hl') hst1)
  case istore n =>
    cases hi
    have : len = 2 := by simpa [cv_lenok, cv_len] using hlen
    subst this
    match v, hdn, hv with
    | .inl y, hdn, _ =>
      have hx1 : x = .int y := hdn
      subst hx1
      exact lv_istore hx hb hd g1 hok rfl (fun ls' hl' => kk as ws H locs ls' stv1 has hH hP hD hS (cv_relL_set hsv g2 hdn hl') hst1)
  case astore_n n =>
    cases hi
    have : len = 1 := by simpa [cv_lenok, cv_len] using hlen
    subst this
    match v, hdn, hv with
    | .inr (.inr (.inl (some y))), ⟨ad, had, hx1⟩, _ =>
      subst hx1
      exact lv_astore_n hx hb hd rfl g1 hok rfl (fun ls' hl' => kk as ws H locs ls' stv1 has hH hP hD hS (cv_relL_set hsv g2 (v := cv_r y) ⟨ad, had, rfl⟩ hl') hst1)
  case astore n =>
    cases hi
    have : len = 2 := by simpa [cv_lenok, cv_len] using hlen
    subst this
    match v, hdn, hv with
    | .inr (.inr (.inl (some y))), ⟨ad, had, hx1⟩, _ =>
      subst hx1
      exact lv_astore hx hb hd g1 hok rfl (fun ls' hl' => kk as ws H locs ls' stv1 has hH hP hD hS (cv_relL_set hsv g2 (v := cv_r y) ⟨ad, had, rfl⟩ hl') hst1)
  case lstore_n n =>
    cases hi
    have : len = 1 := by simpa [cv_lenok, cv_len] using hlen
    subst this
    match v, hdn, hv with
    | .inr (.inl y), hdn, _ =>
      have hx1 : x = .long y := hdn
      subst hx1
      exact lv_lstore_n hx hb hd rfl g1 hok rfl (fun ls' hl' => kk as ws H locs ls' stv1 has hH hP hD hS (cv_relL_setL hsv g2 hdn hl') hst1)
  case lstore n =>
    cases hi
    have : len = 2 := by simpa [cv_lenok, cv_len] using hlen
    subst this
    match v, hdn, hv with
    | .inr (.inl y), hdn, _ =>
      have hx1 : x = .long y := hdn
      subst hx1
      exact lv_lstore hx hb hd g1 hok rfl (fun ls' hl' => kk as ws H locs ls' stv1 has hH hP hD hS (cv_relL_setL hsv g2 hdn hl') hst1)
theorem cv_bin_ok {pc len a b : Nat} {z : Int} {L : cv_L} {st : List cv_V} {h : cv_H} {cN sN : Nat} {ins : Instr} {f : Int32 → Int32 → Option Int32} {x y r : Int32} (C0 : cv_Cx Ts cl D cy A sv X M p R s m args meth c) (ok : cv_ok Ts cl mt M (pc, ins, len, a, b, z)) (hf : cv_bin ins = some f) (hr0 : f x y = some r)
    (kk : cv_Good cl D cy A sv as0 M.1.2.2.2.1 p l e R s m args below meth c Q (pc + len, L, cv_i r :: st, h, cN, sN)) : cv_Good cl D cy A sv as0 M.1.2.2.2.1 p l e R s m args below meth c Q (pc, L, cv_i y :: cv_i x :: st, h, cN, sN) := by
  obtain ⟨hx, hb, hml, hown, hts, hr, hlk, hnm, hK, hA, hSF, r1, r2, r3, r4⟩ := C0
  obtain ⟨hd, hlen, hok⟩ := ok
  intro as ws H locs ls stv has hH hP hD hS hL hst
  obtain ⟨_, stv1, rfl, hy1, hst1⟩ := cv_relS_cons hst
  obtain ⟨_, stv2, rfl, hx1, hst2⟩ := cv_relS_cons hst1
  cases hy1
  cases hx1
  have go := kk as ws H locs ls (.int r :: stv2) has hH hP hD hS hL ⟨rfl, hst2⟩
  dsimp only at go hd ⊢
  cases ins <;> first | (cases hf; done) | skip
  case iadd =>
    have : len = 1 := by simpa [cv_lenok, cv_len] using hlen
    subst this
    cases hf
    cases hr0
    exact lv_iadd hx hb hd go
  case isub =>
    have : len = 1 := by simpa [cv_lenok, cv_len] using hlen
    subst this
    cases hf
    cases hr0
    exact lv_isub hx hb hd go
  case imul =>
    have : len = 1 := by simpa [cv_lenok, cv_len] using hlen
    subst this
    cases hf
    cases hr0
    exact lv_imul hx hb hd go
  case iand =>
    have : len = 1 := by simpa [cv_lenok, cv_len] using hlen
    subst this
    cases hf
    cases hr0
    exact lv_iand hx hb hd go
  case ior =>
    have : len = 1 := by simpa [cv_lenok, cv_len] using hlen
    subst this
    cases hf
    cases hr0
    exact lv_ior hx hb hd go
  case ishl =>
    have : len = 1 := by simpa [cv_lenok, cv_len] using hlen
    subst this
    cases hf
    cases hr0
    exact lv_ishl hx hb hd go
  case ishr =>
    have : len = 1 := by simpa [cv_lenok, cv_len] using hlen
    subst this
    cases hf
    cases hr0
    exact lv_ishr hx hb hd go
  case iushr =>
    have : len = 1 := by simpa [cv_lenok, cv_len] using hlen
    subst this
    cases hf
    cases hr0
    exact lv_iushr hx hb hd rfl go
  case idiv =>
    have : len = 1 := by simpa [cv_lenok, cv_len] using hlen
    subst this
    cases hf
    by_cases h0 : y = 0
    · dsimp only at hr0; rw [if_pos h0] at hr0; cases hr0
    · dsimp only at hr0; rw [if_neg h0] at hr0; cases hr0; exact lv_idiv hx hb hd h0 go
  case irem =>
    have : len = 1 := by simpa [cv_lenok, cv_len] using hlen
    subst this
    cases hf
    by_cases h0 : y = 0
    · dsimp only at hr0; rw [if_pos h0] at hr0; cases hr0
    · dsimp only at hr0; rw [if_neg h0] at hr0; cases hr0; exact lv_irem hx hb hd h0 go
theorem cv_binL_ok {pc len a b : Nat} {z : Int} {L : cv_L} {st : List cv_V} {h : cv_H} {cN sN : Nat} {ins : Instr} {f : Int64 → Int64 → Option Int64} {x y r : Int64} (C0 : cv_Cx Ts cl D cy A sv X M p R s m args meth c) (ok : cv_ok Ts cl mt M (pc, ins, len, a, b, z)) (hf : cv_binL ins = some f) (hr0 : f x y = some r)
    (kk : cv_Good cl D cy A sv as0 M.1.2.2.2.1 p l e R s m args below meth c Q (pc + len, L, cv_l r :: st, h, cN, sN)) : cv_Good cl D cy A sv as0 M.1.2.2.2.1 p l e R s m args below meth c Q (pc, L, cv_l y :: cv_l x :: st, h, cN, sN) := by
  obtain ⟨hx, hb, hml, hown, hts, hr, hlk, hnm, hK, hA, hSF, r1, r2, r3, r4⟩ := C0
  obtain ⟨hd, hlen, hok⟩ := ok
  intro as ws H locs ls stv has hH hP hD hS hL hst
  obtain ⟨_, stv1, rfl, hy1, hst1⟩ := cv_relS_cons hst
  obtain ⟨_, stv2, rfl, hx1, hst2⟩ := cv_relS_cons hst1
  cases hy1
  cases hx1
  have go := kk as ws H locs ls (.long r :: stv2) has hH hP hD hS hL ⟨rfl, hst2⟩
  dsimp only at go hd ⊢
  cases ins <;> first | (cases hf; done) | skip
  case ladd =>
    have : len = 1 := by simpa [cv_lenok, cv_len] using hlen
    subst this
    cases hf
    cases hr0
    exact lv_ladd hx hb hd go
  case lsub =>
    have : len = 1 := by simpa [cv_lenok, cv_len] using hlen
    subst this
    cases hf
    cases hr0
    exact lv_lsub hx hb hd go
  case lmul =>
    have : len = 1 := by simpa [cv_lenok, cv_len] using hlen
    subst this
    cases hf
    cases hr0
    exact lv_lmul hx hb hd go
  case land =>
    have : len = 1 := by simpa [cv_lenok, cv_len] using hlen
    subst this
    cases hf
    cases hr0
    exact lv_land hx hb hd go
  case ldiv =>
    have : len = 1 := by simpa [cv_lenok, cv_len] using hlen
    subst this
    cases hf
    by_cases h0 : y = 0
    · dsimp only at hr0; rw [if_pos h0] at hr0; cases hr0
    · dsimp only at hr0; rw [if_neg h0] at hr0; cases hr0; exact lv_ldiv hx hb hd h0 go
  case lrem =>
    have : len = 1 := by simpa [cv_lenok, cv_len] using hlen
    subst this
    cases hf
    by_cases h0 : y = 0
    · dsimp only at hr0; rw [if_pos h0] at hr0; cases hr0
    · dsimp only at hr0; rw [if_neg h0] at hr0; cases hr0; exact lv_lrem hx hb hd h0 go
end CVR
