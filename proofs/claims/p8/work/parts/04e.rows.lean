/-! ===== rows at frames of the small machine: rows are read ===== -/
theorem cv_clamp (n : Int32) : n.toNatClampNeg = n.toInt.toNat := rfl
theorem cv_ix_in {x : Int32} {n : Nat} (h : cv_ix x n = true) : vp_in x n := by
  unfold cv_ix at h
  simp only [Bool.and_eq_true, decide_eq_true_eq] at h
  refine fun q => ?_
  rcases q with q | q
  · have h1 := h.1
    rw [Int32.le_iff_toInt_le] at h1
    rw [Int32.lt_iff_toInt_lt] at q
    omega
  · omega
theorem cv_bif {α : Type} {b : Bool} {x : Option α} {y : α} (h : (bif b then x else none) = some y) : b = true ∧ x = some y := by
  cases b with
  | true => exact ⟨rfl, h⟩
  | false => cases h
section CVR
variable {Ts : List Jvm.Cond} {cl : List vw_C} {D : va_G} {cy : Nat → ClassId} {A : Nat → Prop} {sv : Nat → Value} {as0 : List Nat} {X : cv_X} {M : cv_M} {mt : Nat → cv_M} {F : cv_F} {p : Program} {l : Launch} {e : Env} {R : Room} {s : State} {m : MethodId} {args : Array Value} {below : List Frame} {meth : Method} {c : Code} {Q : State → Prop}
theorem cv_iald_ok {pc len a b : Nat} {z : Int} {L : cv_L} {st : List cv_V} {h : cv_H} {cN sN : Nat} {k : Nat} {i x : Int32} {xs : List Int32} (C0 : cv_Cx Ts cl D cy A sv X M p R s m args meth c) (ok : cv_ok Ts cl mt M (pc, .iaload, len, a, b, z)) (hk : h[k]? = some (cv_ci 0 xs)) (hi : cv_ix i xs.length = true) (hv : xs[i.toNatClampNeg]? = some x)
    (kk : cv_Good cl D cy A sv as0 M.1.2.2.2.1 p l e R s m args below meth c Q (pc + len, L, cv_i x :: st, h, cN, sN)) : cv_Good cl D cy A sv as0 M.1.2.2.2.1 p l e R s m args below meth c Q (pc, L, cv_i i :: cv_r k :: st, h, cN, sN) := by
  obtain ⟨hx, hb, hml, hown, hts, hr, hlk, hnm, hK, hA, hSF, r1, r2, r3, r4⟩ := C0
  obtain ⟨hd, hlen, hok⟩ := ok
  intro as ws H locs ls stv has hH hP hD hS hL hst
  have : len = 1 := by simpa [cv_lenok, cv_len] using hlen
  subst this
  obtain ⟨_, stv1, rfl, hi1, hst1⟩ := cv_relS_cons hst
  cases hi1
  obtain ⟨_, stv2, rfl, ⟨ad, had, rfl⟩, hst2⟩ := cv_relS_cons hst1
  obtain ⟨ad', en, e1, e2, hE⟩ := hH.2.2 k _ hk
  cases had.symm.trans e1
  have hin := cv_ix_in hi
  obtain ⟨_, f, rfl, hf⟩ := hE
  exact va_iald hx hb hK hP k 0 e2 rfl hin hd (kk as ws H locs ls (_ :: stv2) has hH hP hD hS hL ⟨by show _ = _; rw [hf _ _ hv], hst2⟩)
theorem cv_bald_ok {pc len a b : Nat} {z : Int} {L : cv_L} {st : List cv_V} {h : cv_H} {cN sN : Nat} {k t : Nat} {i x : Int32} {xs : List Int32} (C0 : cv_Cx Ts cl D cy A sv X M p R s m args meth c) (ok : cv_ok Ts cl mt M (pc, .baload, len, a, b, z)) (hk : h[k]? = some (cv_ci t xs)) (ht : t = 1 ∨ t = 2) (hi : cv_ix i xs.length = true) (hv : xs[i.toNatClampNeg]? = some x)
    (kk : cv_Good cl D cy A sv as0 M.1.2.2.2.1 p l e R s m args below meth c Q (pc + len, L, cv_i x :: st, h, cN, sN)) : cv_Good cl D cy A sv as0 M.1.2.2.2.1 p l e R s m args below meth c Q (pc, L, cv_i i :: cv_r k :: st, h, cN, sN) := by
  obtain ⟨hx, hb, hml, hown, hts, hr, hlk, hnm, hK, hA, hSF, r1, r2, r3, r4⟩ := C0
  obtain ⟨hd, hlen, hok⟩ := ok
  intro as ws H locs ls stv has hH hP hD hS hL hst
  have : len = 1 := by simpa [cv_lenok, cv_len] using hlen
  subst this
  obtain ⟨_, stv1, rfl, hi1, hst1⟩ := cv_relS_cons hst
  cases hi1
  obtain ⟨_, stv2, rfl, ⟨ad, had, rfl⟩, hst2⟩ := cv_relS_cons hst1
  obtain ⟨ad', en, e1, e2, hE⟩ := hH.2.2 k _ hk
  cases had.symm.trans e1
  have hin := cv_ix_in hi
  obtain ⟨_, f, rfl, hf⟩ := hE
  rcases ht with rfl | rfl
  · exact va_bald hx hb hK hP k 1 e2 rfl hin hd (kk as ws H locs ls (_ :: stv2) has hH hP hD hS hL ⟨by show _ = _; rw [hf _ _ hv], hst2⟩)
  · exact va_zald hx hb hK hP k 2 e2 rfl hin hd (kk as ws H locs ls (_ :: stv2) has hH hP hD hS hL ⟨by show _ = _; rw [hf _ _ hv], hst2⟩)
theorem cv_lald_ok {pc len a b : Nat} {z : Int} {L : cv_L} {st : List cv_V} {h : cv_H} {cN sN : Nat} {k : Nat} {i : Int32} {x : Int64} {xs : List Int64} (C0 : cv_Cx Ts cl D cy A sv X M p R s m args meth c) (ok : cv_ok Ts cl mt M (pc, .laload, len, a, b, z)) (hk : h[k]? = some (cv_cl xs)) (hi : cv_ix i xs.length = true) (hv : xs[i.toNatClampNeg]? = some x)
    (kk : cv_Good cl D cy A sv as0 M.1.2.2.2.1 p l e R s m args below meth c Q (pc + len, L, cv_l x :: st, h, cN, sN)) : cv_Good cl D cy A sv as0 M.1.2.2.2.1 p l e R s m args below meth c Q (pc, L, cv_i i :: cv_r k :: st, h, cN, sN) := by
  obtain ⟨hx, hb, hml, hown, hts, hr, hlk, hnm, hK, hA, hSF, r1, r2, r3, r4⟩ := C0
  obtain ⟨hd, hlen, hok⟩ := ok
  intro as ws H locs ls stv has hH hP hD hS hL hst
  have : len = 1 := by simpa [cv_lenok, cv_len] using hlen
  subst this
  obtain ⟨_, stv1, rfl, hi1, hst1⟩ := cv_relS_cons hst
  cases hi1
  obtain ⟨_, stv2, rfl, ⟨ad, had, rfl⟩, hst2⟩ := cv_relS_cons hst1
  obtain ⟨ad', en, e1, e2, hE⟩ := hH.2.2 k _ hk
  cases had.symm.trans e1
  have hin := cv_ix_in hi
  obtain ⟨f, rfl, hf⟩ := hE
  exact va_lald hx hb hK hP k 3 e2 rfl hin hd (kk as ws H locs ls (_ :: stv2) has hH hP hD hS hL ⟨by show _ = _; rw [hf _ _ hv], hst2⟩)
theorem cv_aald_ok {pc len a b : Nat} {z : Int} {L : cv_L} {st : List cv_V} {h : cv_H} {cN sN : Nat} {k t : Nat} {i : Int32} {x : Option Nat} {xs : List (Option Nat)} (C0 : cv_Cx Ts cl D cy A sv X M p R s m args meth c) (ok : cv_ok Ts cl mt M (pc, .aaload, len, a, b, z)) (hk : h[k]? = some (cv_cr t xs)) (hi : cv_ix i xs.length = true) (hv : xs[i.toNatClampNeg]? = some x)
    (kk : cv_Good cl D cy A sv as0 M.1.2.2.2.1 p l e R s m args below meth c Q (pc + len, L, .inr (.inr (.inl x)) :: st, h, cN, sN)) : cv_Good cl D cy A sv as0 M.1.2.2.2.1 p l e R s m args below meth c Q (pc, L, cv_i i :: cv_r k :: st, h, cN, sN) := by
  obtain ⟨hx, hb, hml, hown, hts, hr, hlk, hnm, hK, hA, hSF, r1, r2, r3, r4⟩ := C0
  obtain ⟨hd, hlen, hok⟩ := ok
  intro as ws H locs ls stv has hH hP hD hS hL hst
  have : len = 1 := by simpa [cv_lenok, cv_len] using hlen
  subst this
  obtain ⟨_, stv1, rfl, hi1, hst1⟩ := cv_relS_cons hst
  cases hi1
  obtain ⟨_, stv2, rfl, ⟨ad, had, rfl⟩, hst2⟩ := cv_relS_cons hst1
  obtain ⟨ad', en, e1, e2, hE⟩ := hH.2.2 k _ hk
  cases had.symm.trans e1
  have hin := cv_ix_in hi
  obtain ⟨ht, f, rfl, hf⟩ := hE
  rcases ht with rfl | rfl
  · exact va_aldq hx hb hK hP k 4 e2 rfl hin hd (kk as ws H locs ls (_ :: stv2) has hH hP hD hS hL ⟨hf _ _ hv, hst2⟩)
  · exact va_aldq hx hb hK hP k 5 e2 rfl hin hd (kk as ws H locs ls (_ :: stv2) has hH hP hD hS hL ⟨hf _ _ hv, hst2⟩)
theorem cv_ialds_ok {pc len a b : Nat} {z : Int} {L : cv_L} {st : List cv_V} {h : cv_H} {cN sN : Nat} {j : Nat} {i x : Int32} {xs : List Int32} (C0 : cv_Cx Ts cl D cy A sv X M p R s m args meth c) (ok : cv_ok Ts cl mt M (pc, .iaload, len, a, b, z)) (hk : X j = some xs) (hj1 : j ≠ 1) (hi : cv_ix i xs.length = true) (hv : xs[i.toNatClampNeg]? = some x)
    (kk : cv_Good cl D cy A sv as0 M.1.2.2.2.1 p l e R s m args below meth c Q (pc + len, L, cv_i x :: st, h, cN, sN)) : cv_Good cl D cy A sv as0 M.1.2.2.2.1 p l e R s m args below meth c Q (pc, L, cv_i i :: cv_s j :: st, h, cN, sN) := by
  obtain ⟨hx, hb, hml, hown, hts, hr, hlk, hnm, hK, hA, hSF, r1, r2, r3, r4⟩ := C0
  obtain ⟨hsv, ⟨q0, q1, a1, a2, a3, a4, a5, a6⟩, h2, h3, ⟨h4, ⟨h5, h6⟩, h7, h8⟩, ⟨h9, h10⟩, ⟨t1, t4, t5⟩, hj, h11⟩ := hSF
  obtain ⟨hd, hlen, hok⟩ := ok
  intro as ws H locs ls stv has hH hP hD hS hL hst
  have : len = 1 := by simpa [cv_lenok, cv_len] using hlen
  subst this
  obtain ⟨_, stv1, rfl, hi1, hst1⟩ := cv_relS_cons hst
  cases hi1
  obtain ⟨xr, stv2, rfl, hxs, hst2⟩ := cv_relS_cons hst1
  have hin := cv_ix_in hi
  rw [show xr = sv j from hxs]
  have go := fun v (e : v = x) => kk as ws H locs ls (.int v :: stv2) has hH hP hD hS hL ⟨by show _ = _; rw [e], hst2⟩
  dsimp only at go hd ⊢
  rcases hj j (by rw [hk]; exact fun q => by cases q) with rfl | rfl | rfl | rfl
  · exact absurd rfl hj1
  · obtain ⟨bb, f, b1, b2, b3, b4, b5⟩ := h11 xs hk
    rw [b1]
    exact va_sld hx hb b2 b3 b4 hS hin hd (go _ (b5 _ _ hv))
  · obtain ⟨tt, f, b1, b2, b3⟩ := t4 xs hk
    rw [b1]
    exact va_ti hx hb b2 hS hin rfl hd (go _ (b3 _ _ hv))
  · obtain ⟨tt, f, b1, b2, b3⟩ := t5 xs hk
    rw [b1]
    exact va_ti hx hb b2 hS hin rfl hd (go _ (b3 _ _ hv))
theorem cv_balds_ok {pc len a b : Nat} {z : Int} {L : cv_L} {st : List cv_V} {h : cv_H} {cN sN : Nat} {i x : Int32} {xs : List Int32} (C0 : cv_Cx Ts cl D cy A sv X M p R s m args meth c) (ok : cv_ok Ts cl mt M (pc, .baload, len, a, b, z)) (hk : X 1 = some xs) (hi : cv_ix i xs.length = true) (hv : xs[i.toNatClampNeg]? = some x)
    (kk : cv_Good cl D cy A sv as0 M.1.2.2.2.1 p l e R s m args below meth c Q (pc + len, L, cv_i x :: st, h, cN, sN)) : cv_Good cl D cy A sv as0 M.1.2.2.2.1 p l e R s m args below meth c Q (pc, L, cv_i i :: cv_s 1 :: st, h, cN, sN) := by
  obtain ⟨hx, hb, hml, hown, hts, hr, hlk, hnm, hK, hA, hSF, r1, r2, r3, r4⟩ := C0
  obtain ⟨hsv, ⟨q0, q1, a1, a2, a3, a4, a5, a6⟩, h2, h3, ⟨h4, ⟨h5, h6⟩, h7, h8⟩, ⟨h9, h10⟩, ⟨t1, t4, t5⟩, hj, h11⟩ := hSF
  obtain ⟨hd, hlen, hok⟩ := ok
  intro as ws H locs ls stv has hH hP hD hS hL hst
  have : len = 1 := by simpa [cv_lenok, cv_len] using hlen
  subst this
  obtain ⟨_, stv1, rfl, hi1, hst1⟩ := cv_relS_cons hst
  cases hi1
  obtain ⟨xr, stv2, rfl, hxs, hst2⟩ := cv_relS_cons hst1
  have hin := cv_ix_in hi
  rw [show xr = sv 1 from hxs]
  have go := fun v (e : v = x) => kk as ws H locs ls (.int v :: stv2) has hH hP hD hS hL ⟨by show _ = _; rw [e], hst2⟩
  dsimp only at go hd ⊢
  obtain ⟨tt, f, b1, b2, b3⟩ := t1 xs hk
  rw [b1]
  exact va_tb hx hb b2 hS hin rfl hd (go _ (b3 _ _ hv))
theorem cv_lenai_ok {pc len a b : Nat} {z : Int} {L : cv_L} {st : List cv_V} {h : cv_H} {cN sN : Nat} {k t : Nat} {xs : List Int32} (C0 : cv_Cx Ts cl D cy A sv X M p R s m args meth c) (ok : cv_ok Ts cl mt M (pc, .arraylength, len, a, b, z)) (hk : h[k]? = some (cv_ci t xs))
    (kk : cv_Good cl D cy A sv as0 M.1.2.2.2.1 p l e R s m args below meth c Q (pc + len, L, cv_i (Int32.ofNat xs.length) :: st, h, cN, sN)) : cv_Good cl D cy A sv as0 M.1.2.2.2.1 p l e R s m args below meth c Q (pc, L, cv_r k :: st, h, cN, sN) := by
  obtain ⟨hx, hb, hml, hown, hts, hr, hlk, hnm, hK, hA, hSF, r1, r2, r3, r4⟩ := C0
  obtain ⟨hd, hlen, hok⟩ := ok
  intro as ws H locs ls stv has hH hP hD hS hL hst
  have : len = 1 := by simpa [cv_lenok, cv_len] using hlen
  subst this
  obtain ⟨_, stv1, rfl, ⟨ad, had, rfl⟩, hst1⟩ := cv_relS_cons hst
  obtain ⟨ad', en, e1, e2, hE⟩ := hH.2.2 k _ hk
  cases had.symm.trans e1
  obtain ⟨q, f, rfl, hf⟩ := hE
  have go := kk as ws H locs ls (.int (Int32.ofNat xs.length) :: stv1) has hH hP hD hS hL ⟨rfl, hst1⟩
  rcases (show t = 0 ∨ t = 1 ∨ t = 2 by omega) with rfl | rfl | rfl
  · exact va_alen hx hb hK hP k 0 e2 rfl rfl hd go
  · exact va_alen hx hb hK hP k 1 e2 rfl rfl hd go
  · exact va_alen hx hb hK hP k 2 e2 rfl rfl hd go
theorem cv_lenal_ok {pc len a b : Nat} {z : Int} {L : cv_L} {st : List cv_V} {h : cv_H} {cN sN : Nat} {k t : Nat} {xs : List Int64} (C0 : cv_Cx Ts cl D cy A sv X M p R s m args meth c) (ok : cv_ok Ts cl mt M (pc, .arraylength, len, a, b, z)) (hk : h[k]? = some (cv_cl xs))
    (kk : cv_Good cl D cy A sv as0 M.1.2.2.2.1 p l e R s m args below meth c Q (pc + len, L, cv_i (Int32.ofNat xs.length) :: st, h, cN, sN)) : cv_Good cl D cy A sv as0 M.1.2.2.2.1 p l e R s m args below meth c Q (pc, L, cv_r k :: st, h, cN, sN) := by
  obtain ⟨hx, hb, hml, hown, hts, hr, hlk, hnm, hK, hA, hSF, r1, r2, r3, r4⟩ := C0
  obtain ⟨hd, hlen, hok⟩ := ok
  intro as ws H locs ls stv has hH hP hD hS hL hst
  have : len = 1 := by simpa [cv_lenok, cv_len] using hlen
  subst this
  obtain ⟨_, stv1, rfl, ⟨ad, had, rfl⟩, hst1⟩ := cv_relS_cons hst
  obtain ⟨ad', en, e1, e2, hE⟩ := hH.2.2 k _ hk
  cases had.symm.trans e1
  obtain ⟨f, rfl, hf⟩ := hE
  have go := kk as ws H locs ls (.int (Int32.ofNat xs.length) :: stv1) has hH hP hD hS hL ⟨rfl, hst1⟩
  exact va_alen hx hb hK hP k 3 e2 rfl rfl hd go
theorem cv_lenar_ok {pc len a b : Nat} {z : Int} {L : cv_L} {st : List cv_V} {h : cv_H} {cN sN : Nat} {k t : Nat} {xs : List (Option Nat)} (C0 : cv_Cx Ts cl D cy A sv X M p R s m args meth c) (ok : cv_ok Ts cl mt M (pc, .arraylength, len, a, b, z)) (hk : h[k]? = some (cv_cr t xs))
    (kk : cv_Good cl D cy A sv as0 M.1.2.2.2.1 p l e R s m args below meth c Q (pc + len, L, cv_i (Int32.ofNat xs.length) :: st, h, cN, sN)) : cv_Good cl D cy A sv as0 M.1.2.2.2.1 p l e R s m args below meth c Q (pc, L, cv_r k :: st, h, cN, sN) := by
  obtain ⟨hx, hb, hml, hown, hts, hr, hlk, hnm, hK, hA, hSF, r1, r2, r3, r4⟩ := C0
  obtain ⟨hd, hlen, hok⟩ := ok
  intro as ws H locs ls stv has hH hP hD hS hL hst
  have : len = 1 := by simpa [cv_lenok, cv_len] using hlen
  subst this
  obtain ⟨_, stv1, rfl, ⟨ad, had, rfl⟩, hst1⟩ := cv_relS_cons hst
  obtain ⟨ad', en, e1, e2, hE⟩ := hH.2.2 k _ hk
  cases had.symm.trans e1
  obtain ⟨q, f, rfl, hf⟩ := hE
  have go := kk as ws H locs ls (.int (Int32.ofNat xs.length) :: stv1) has hH hP hD hS hL ⟨rfl, hst1⟩
  rcases q with rfl | rfl
  · exact va_alen hx hb hK hP k 4 e2 rfl rfl hd go
  · exact va_alen hx hb hK hP k 5 e2 rfl rfl hd go
theorem cv_lens_ok {pc len a b : Nat} {z : Int} {L : cv_L} {st : List cv_V} {h : cv_H} {cN sN : Nat} {j : Nat} {xs : List Int32} (C0 : cv_Cx Ts cl D cy A sv X M p R s m args meth c) (ok : cv_ok Ts cl mt M (pc, .arraylength, len, a, b, z)) (hk : X j = some xs)
    (kk : cv_Good cl D cy A sv as0 M.1.2.2.2.1 p l e R s m args below meth c Q (pc + len, L, cv_i (Int32.ofNat xs.length) :: st, h, cN, sN)) : cv_Good cl D cy A sv as0 M.1.2.2.2.1 p l e R s m args below meth c Q (pc, L, cv_s j :: st, h, cN, sN) := by
  obtain ⟨hx, hb, hml, hown, hts, hr, hlk, hnm, hK, hA, hSF, r1, r2, r3, r4⟩ := C0
  obtain ⟨hsv, ⟨q0, q1, a1, a2, a3, a4, a5, a6⟩, h2, h3, ⟨h4, ⟨h5, h6⟩, h7, h8⟩, ⟨h9, h10⟩, ⟨t1, t4, t5⟩, hj, h11⟩ := hSF
  obtain ⟨hd, hlen, hok⟩ := ok
  intro as ws H locs ls stv has hH hP hD hS hL hst
  have : len = 1 := by simpa [cv_lenok, cv_len] using hlen
  subst this
  obtain ⟨xr, stv1, rfl, hxs, hst1⟩ := cv_relS_cons hst
  rw [show xr = sv j from hxs]
  have go := kk as ws H locs ls (.int (Int32.ofNat xs.length) :: stv1) has hH hP hD hS hL ⟨rfl, hst1⟩
  dsimp only at go hd ⊢
  rcases hj j (by rw [hk]; exact fun q => by cases q) with rfl | rfl | rfl | rfl
  · obtain ⟨tt, f, b1, b2, b3⟩ := t1 xs hk
    rw [b1]
    exact va_tlen hx hb b2 hS rfl hd go
  · obtain ⟨bb, f, b1, b2, b3, b4, b5⟩ := h11 xs hk
    rw [b1]
    exact va_slen hx hb b2 b3 b4 hS hd go
  · obtain ⟨tt, f, b1, b2, b3⟩ := t4 xs hk
    rw [b1]
    exact va_tlen hx hb b2 hS rfl hd go
  · obtain ⟨tt, f, b1, b2, b3⟩ := t5 xs hk
    rw [b1]
    exact va_tlen hx hb b2 hS rfl hd go
end CVR
