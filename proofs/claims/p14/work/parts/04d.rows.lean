section
/-! ===== rows at frames of the small machine: branches, the stack, conversions ===== -/
section CVR
variable {Ts : List Jvm.Cond} {cl : List vw_C} {D : va_G} {cy : Nat → ClassId} {A : Nat → Prop} {sv : Nat → Value} {as0 : List Nat} {X : cv_X} {M : cv_M} {mt : Nat → cv_M} {F : cv_F} {p : Program} {l : Launch} {e : Env} {R : Room} {s : State} {m : MethodId} {args : Array Value} {below : List Frame} {meth : Method} {c : Code} {Q : State → Prop}
theorem cv_jmp_ok {pc : Nat} {off : Int} (h : cv_jmp pc off = true) : (pc : Int) + off = (cv_tgt pc off : Int) := by
  simpa [cv_jmp, cv_tgt] using h
theorem cv_icmp_ok {pc len a b : Nat} {z : Int} {L : cv_L} {st : List cv_V} {h : cv_H} {cN sN : Nat} {o : Jvm.ClassFile.Cond} {off : Int} {x y : Int32} (C0 : cv_Cx Ts cl D cy A sv X M p R s m args meth c) (ok : cv_ok Ts cl mt M (pc, .if_icmp o off, len, a, b, z)) (hj : cv_jmp pc off = true)
    (kk : cv_Good cl D cy A sv as0 M.1.2.2.2.1 p l e R s m args below meth c Q ((bif cv_cmp o x y then cv_tgt pc off else pc + len), L, st, h, cN, sN)) : cv_Good cl D cy A sv as0 M.1.2.2.2.1 p l e R s m args below meth c Q (pc, L, cv_i y :: cv_i x :: st, h, cN, sN) := by
  obtain ⟨hx, hb, hml, hown, hts, hr, hlk, hnm, hK, hA, hSF, r1, r2, r3, r4⟩ := C0
  obtain ⟨hd, hlen, hok⟩ := ok
  intro as ws H locs ls stv has hH hP hD hS hL hst
  obtain ⟨_, stv1, rfl, hy1, hst1⟩ := cv_relS_cons hst
  obtain ⟨_, stv2, rfl, hx1, hst2⟩ := cv_relS_cons hst1
  cases hy1
  cases hx1
  have : len = 3 := by simpa [cv_lenok, cv_len] using hlen
  subst this
  have go := kk as ws H locs ls stv2 has hH hP hD hS hL hst2
  have ht := cv_jmp_ok hj
  dsimp only at go hd ⊢
  have kt : cv_cmp o x y = true → W p l e R s m args below meth c H locs cN sN Q (F0 m (cv_tgt pc off) ls stv2) := fun q => by rw [q] at go; exact go
  have kf : cv_cmp o x y = false → W p l e R s m args below meth c H locs cN sN Q (F0 m (pc + 3) ls stv2) := fun q => by rw [q] at go; exact go
  cases o with
  | eq => exact lv_icmp_eq hx hb hd ht (fun q => kt (by simp [cv_cmp, q])) (fun q => kf (by simp [cv_cmp, q]))
  | ne => exact lv_icmp_ne hx hb hd ht (fun q => kt (by simp [cv_cmp, q])) (fun q => kf (by simp [cv_cmp, q]))
  | lt => exact lv_icmp_lt hx hb hd ht (fun q => kt (by simpa [cv_cmp] using q)) (fun q => kf (by simpa [cv_cmp] using q))
  | ge => exact lv_icmp_ge hx hb hd ht (fun q => kt (by simpa [cv_cmp] using q)) (fun q => kf (by simpa [cv_cmp] using q))
  | gt => exact lv_icmp_gt hx hb hd ht (fun q => kt (by simpa [cv_cmp] using q)) (fun q => kf (by simpa [cv_cmp] using q))
  | le => exact lv_icmp_le hx hb hd ht (fun q => kt (by simpa [cv_cmp] using q)) (fun q => kf (by simpa [cv_cmp] using q))
theorem cv_if_ok {pc len a b : Nat} {z : Int} {L : cv_L} {st : List cv_V} {h : cv_H} {cN sN : Nat} {o : Jvm.ClassFile.Cond} {off : Int} {x  : Int32} (C0 : cv_Cx Ts cl D cy A sv X M p R s m args meth c) (ok : cv_ok Ts cl mt M (pc, .ifCond o off, len, a, b, z)) (hj : cv_jmp pc off = true)
    (kk : cv_Good cl D cy A sv as0 M.1.2.2.2.1 p l e R s m args below meth c Q ((bif cv_cmp o x 0 then cv_tgt pc off else pc + len), L, st, h, cN, sN)) : cv_Good cl D cy A sv as0 M.1.2.2.2.1 p l e R s m args below meth c Q (pc, L, cv_i x :: st, h, cN, sN) := by
  obtain ⟨hx, hb, hml, hown, hts, hr, hlk, hnm, hK, hA, hSF, r1, r2, r3, r4⟩ := C0
  obtain ⟨hd, hlen, hok⟩ := ok
  intro as ws H locs ls stv has hH hP hD hS hL hst
  obtain ⟨_, stv1, rfl, hx1, hst1⟩ := cv_relS_cons hst
  cases hx1
  have : len = 3 := by simpa [cv_lenok, cv_len] using hlen
  subst this
  have go := kk as ws H locs ls stv1 has hH hP hD hS hL hst1
  have ht := cv_jmp_ok hj
  dsimp only at go hd ⊢
  have kt : cv_cmp o x 0 = true → W p l e R s m args below meth c H locs cN sN Q (F0 m (cv_tgt pc off) ls stv1) := fun q => by rw [q] at go; exact go
  have kf : cv_cmp o x 0 = false → W p l e R s m args below meth c H locs cN sN Q (F0 m (pc + 3) ls stv1) := fun q => by rw [q] at go; exact go
  cases o with
  | eq => exact lv_if_eq hx hb hd ht (fun q => kt (by simp [cv_cmp, q])) (fun q => kf (by simp [cv_cmp, q]))
  | ne => exact lv_if_ne hx hb hd ht (fun q => kt (by simp [cv_cmp, q])) (fun q => kf (by simp [cv_cmp, q]))
  | lt => exact lv_if_lt hx hb hd ht (fun q => kt (by simpa [cv_cmp] using q)) (fun q => kf (by simpa [cv_cmp] using q))
  | ge => exact lv_if_ge hx hb hd ht (fun q => kt (by simpa [cv_cmp] using q)) (fun q => kf (by simpa [cv_cmp] using q))
  | gt => exact lv_if_gt hx hb hd ht (fun q => kt (by simpa [cv_cmp] using q)) (fun q => kf (by simpa [cv_cmp] using q))
  | le => exact lv_if_le hx hb hd ht (fun q => kt (by simpa [cv_cmp] using q)) (fun q => kf (by simpa [cv_cmp] using q))
theorem cv_goto_ok {pc len a b : Nat} {z : Int} {L : cv_L} {st : List cv_V} {h : cv_H} {cN sN : Nat} {off : Int} (C0 : cv_Cx Ts cl D cy A sv X M p R s m args meth c) (ok : cv_ok Ts cl mt M (pc, .goto off, len, a, b, z)) (hj : cv_jmp pc off = true)
    (kk : cv_Good cl D cy A sv as0 M.1.2.2.2.1 p l e R s m args below meth c Q (cv_tgt pc off, L, st, h, cN, sN)) : cv_Good cl D cy A sv as0 M.1.2.2.2.1 p l e R s m args below meth c Q (pc, L, st, h, cN, sN) := by
  obtain ⟨hx, hb, hml, hown, hts, hr, hlk, hnm, hK, hA, hSF, r1, r2, r3, r4⟩ := C0
  obtain ⟨hd, hlen, hok⟩ := ok
  intro as ws H locs ls stv has hH hP hD hS hL hst
  have : len = 3 := by simpa [cv_lenok, cv_len] using hlen
  subst this
  exact lv_goto hx hb hd (cv_jmp_ok hj) (kk as ws H locs ls stv has hH hP hD hS hL hst)
theorem cv_iinc_ok {pc len a b : Nat} {z : Int} {L : cv_L} {st : List cv_V} {h : cv_H} {cN sN : Nat} {i : Nat} {n : Int} {x : Int32} (C0 : cv_Cx Ts cl D cy A sv X M p R s m args meth c) (ok : cv_ok Ts cl mt M (pc, .iinc i n, len, a, b, z)) (hg : cv_get L i = some (cv_i x))
    (kk : cv_Good cl D cy A sv as0 M.1.2.2.2.1 p l e R s m args below meth c Q (pc + len, cv_set L i (cv_i (x + Int32.ofInt n)), st, h, cN, sN)) : cv_Good cl D cy A sv as0 M.1.2.2.2.1 p l e R s m args below meth c Q (pc, L, st, h, cN, sN) := by
  obtain ⟨hx, hb, hml, hown, hts, hr, hlk, hnm, hK, hA, hSF, r1, r2, r3, r4⟩ := C0
  obtain ⟨hsv, -⟩ := hSF
  obtain ⟨hd, hlen, hok⟩ := ok
  intro as ws H locs ls stv has hH hP hD hS hL hst
  have : len = 3 := by simpa [cv_lenok, cv_len] using hlen
  subst this
  obtain ⟨lv, g1, g2⟩ := hL
  obtain ⟨_, hx1, hm⟩ := g2 _ (cv_get_mem hg)
  cases hx1
  obtain ⟨k9, hkk⟩ := List.getElem?_of_mem hm
  have hdn : cv_dn sv as (cv_i (x + Int32.ofInt n)) (.int (x + Int32.ofInt n)) := rfl
  exact lv_iinc hx hb hd g1 hkk rfl hok rfl (fun ls' hl' => kk as ws H locs ls' stv has hH hP hD hS (cv_relL_set hsv g2 hdn hl') hst)
theorem cv_dup_ok {pc len a b : Nat} {z : Int} {L : cv_L} {st : List cv_V} {h : cv_H} {cN sN : Nat} {v : cv_V} (C0 : cv_Cx Ts cl D cy A sv X M p R s m args meth c) (ok : cv_ok Ts cl mt M (pc, .dup, len, a, b, z)) (hv : cv_isL v = false)
    (kk : cv_Good cl D cy A sv as0 M.1.2.2.2.1 p l e R s m args below meth c Q (pc + len, L, v :: v :: st, h, cN, sN)) : cv_Good cl D cy A sv as0 M.1.2.2.2.1 p l e R s m args below meth c Q (pc, L, v :: st, h, cN, sN) := by
  obtain ⟨hx, hb, hml, hown, hts, hr, hlk, hnm, hK, hA, hSF, r1, r2, r3, r4⟩ := C0
  obtain ⟨hsv, -⟩ := hSF
  obtain ⟨hd, hlen, hok⟩ := ok
  intro as ws H locs ls stv has hH hP hD hS hL hst
  have : len = 1 := by simpa [cv_lenok, cv_len] using hlen
  subst this
  obtain ⟨x, stv1, rfl, hdn, hst1⟩ := cv_relS_cons hst
  exact lv_dup hx hb hd (by rw [cv_cat hsv hdn, hv]; rfl) (kk as ws H locs ls (x :: x :: stv1) has hH hP hD hS hL ⟨hdn, hdn, hst1⟩)
theorem cv_pop_ok {pc len a b : Nat} {z : Int} {L : cv_L} {st : List cv_V} {h : cv_H} {cN sN : Nat} {v : cv_V} (C0 : cv_Cx Ts cl D cy A sv X M p R s m args meth c) (ok : cv_ok Ts cl mt M (pc, .pop, len, a, b, z)) (hv : cv_isL v = false)
    (kk : cv_Good cl D cy A sv as0 M.1.2.2.2.1 p l e R s m args below meth c Q (pc + len, L, st, h, cN, sN)) : cv_Good cl D cy A sv as0 M.1.2.2.2.1 p l e R s m args below meth c Q (pc, L, v :: st, h, cN, sN) := by
  obtain ⟨hx, hb, hml, hown, hts, hr, hlk, hnm, hK, hA, hSF, r1, r2, r3, r4⟩ := C0
  obtain ⟨hsv, -⟩ := hSF
  obtain ⟨hd, hlen, hok⟩ := ok
  intro as ws H locs ls stv has hH hP hD hS hL hst
  have : len = 1 := by simpa [cv_lenok, cv_len] using hlen
  subst this
  obtain ⟨x, stv1, rfl, hdn, hst1⟩ := cv_relS_cons hst
  exact lv_pop hx hb hd (by rw [cv_cat hsv hdn, hv]; rfl) (kk as ws H locs ls stv1 has hH hP hD hS hL hst1)
theorem cv_dup2_ok {pc len a b : Nat} {z : Int} {L : cv_L} {st : List cv_V} {h : cv_H} {cN sN : Nat} {v w : cv_V} (C0 : cv_Cx Ts cl D cy A sv X M p R s m args meth c) (ok : cv_ok Ts cl mt M (pc, .dup2, len, a, b, z)) (hv : cv_isL v = false) (hw : cv_isL w = false)
    (kk : cv_Good cl D cy A sv as0 M.1.2.2.2.1 p l e R s m args below meth c Q (pc + len, L, v :: w :: v :: w :: st, h, cN, sN)) : cv_Good cl D cy A sv as0 M.1.2.2.2.1 p l e R s m args below meth c Q (pc, L, v :: w :: st, h, cN, sN) := by
  obtain ⟨hx, hb, hml, hown, hts, hr, hlk, hnm, hK, hA, hSF, r1, r2, r3, r4⟩ := C0
  obtain ⟨hsv, -⟩ := hSF
  obtain ⟨hd, hlen, hok⟩ := ok
  intro as ws H locs ls stv has hH hP hD hS hL hst
  have : len = 1 := by simpa [cv_lenok, cv_len] using hlen
  subst this
  obtain ⟨x, stv1, rfl, hdn, hst1⟩ := cv_relS_cons hst
  obtain ⟨y, stv2, rfl, hdn2, hst2⟩ := cv_relS_cons hst1
  exact lv_dup2_11 hx hb hd (by rw [cv_cat hsv hdn, hv]; rfl) (by rw [cv_cat hsv hdn2, hw]; rfl) (kk as ws H locs ls (x :: y :: x :: y :: stv2) has hH hP hD hS hL ⟨hdn, hdn2, hdn, hdn2, hst2⟩)
theorem cv_i2c_ok {pc len a b : Nat} {z : Int} {L : cv_L} {st : List cv_V} {h : cv_H} {cN sN : Nat} {x : Int32} (C0 : cv_Cx Ts cl D cy A sv X M p R s m args meth c) (ok : cv_ok Ts cl mt M (pc, .i2c, len, a, b, z))
    (kk : cv_Good cl D cy A sv as0 M.1.2.2.2.1 p l e R s m args below meth c Q (pc + len, L, cv_i (x.toUInt32 % 65536).toInt32 :: st, h, cN, sN)) : cv_Good cl D cy A sv as0 M.1.2.2.2.1 p l e R s m args below meth c Q (pc, L, cv_i x :: st, h, cN, sN) := by
  obtain ⟨hx, hb, hml, hown, hts, hr, hlk, hnm, hK, hA, hSF, r1, r2, r3, r4⟩ := C0
  obtain ⟨hd, hlen, hok⟩ := ok
  intro as ws H locs ls stv has hH hP hD hS hL hst
  obtain ⟨_, stv1, rfl, hx1, hst1⟩ := cv_relS_cons hst
  cases hx1
  have : len = 1 := by simpa [cv_lenok, cv_len] using hlen
  subst this
  exact lv_i2c hx hb hd rfl (kk as ws H locs ls (_ :: stv1) has hH hP hD hS hL ⟨rfl, hst1⟩)
theorem cv_i2b_ok {pc len a b : Nat} {z : Int} {L : cv_L} {st : List cv_V} {h : cv_H} {cN sN : Nat} {x : Int32} (C0 : cv_Cx Ts cl D cy A sv X M p R s m args meth c) (ok : cv_ok Ts cl mt M (pc, .i2b, len, a, b, z))
    (kk : cv_Good cl D cy A sv as0 M.1.2.2.2.1 p l e R s m args below meth c Q (pc + len, L, cv_i x.toInt8.toInt32 :: st, h, cN, sN)) : cv_Good cl D cy A sv as0 M.1.2.2.2.1 p l e R s m args below meth c Q (pc, L, cv_i x :: st, h, cN, sN) := by
  obtain ⟨hx, hb, hml, hown, hts, hr, hlk, hnm, hK, hA, hSF, r1, r2, r3, r4⟩ := C0
  obtain ⟨hd, hlen, hok⟩ := ok
  intro as ws H locs ls stv has hH hP hD hS hL hst
  obtain ⟨_, stv1, rfl, hx1, hst1⟩ := cv_relS_cons hst
  cases hx1
  have : len = 1 := by simpa [cv_lenok, cv_len] using hlen
  subst this
  exact lv_i2b hx hb hd rfl (kk as ws H locs ls (_ :: stv1) has hH hP hD hS hL ⟨rfl, hst1⟩)
theorem cv_i2l_ok {pc len a b : Nat} {z : Int} {L : cv_L} {st : List cv_V} {h : cv_H} {cN sN : Nat} {x : Int32} (C0 : cv_Cx Ts cl D cy A sv X M p R s m args meth c) (ok : cv_ok Ts cl mt M (pc, .i2l, len, a, b, z))
    (kk : cv_Good cl D cy A sv as0 M.1.2.2.2.1 p l e R s m args below meth c Q (pc + len, L, cv_l x.toInt64 :: st, h, cN, sN)) : cv_Good cl D cy A sv as0 M.1.2.2.2.1 p l e R s m args below meth c Q (pc, L, cv_i x :: st, h, cN, sN) := by
  obtain ⟨hx, hb, hml, hown, hts, hr, hlk, hnm, hK, hA, hSF, r1, r2, r3, r4⟩ := C0
  obtain ⟨hd, hlen, hok⟩ := ok
  intro as ws H locs ls stv has hH hP hD hS hL hst
  obtain ⟨_, stv1, rfl, hx1, hst1⟩ := cv_relS_cons hst
  cases hx1
  have : len = 1 := by simpa [cv_lenok, cv_len] using hlen
  subst this
  exact lv_i2l hx hb hd rfl (kk as ws H locs ls (_ :: stv1) has hH hP hD hS hL ⟨rfl, hst1⟩)
theorem cv_l2i_ok {pc len a b : Nat} {z : Int} {L : cv_L} {st : List cv_V} {h : cv_H} {cN sN : Nat} {x : Int64} (C0 : cv_Cx Ts cl D cy A sv X M p R s m args meth c) (ok : cv_ok Ts cl mt M (pc, .l2i, len, a, b, z))
    (kk : cv_Good cl D cy A sv as0 M.1.2.2.2.1 p l e R s m args below meth c Q (pc + len, L, cv_i x.toInt32 :: st, h, cN, sN)) : cv_Good cl D cy A sv as0 M.1.2.2.2.1 p l e R s m args below meth c Q (pc, L, cv_l x :: st, h, cN, sN) := by
  obtain ⟨hx, hb, hml, hown, hts, hr, hlk, hnm, hK, hA, hSF, r1, r2, r3, r4⟩ := C0
  obtain ⟨hd, hlen, hok⟩ := ok
  intro as ws H locs ls stv has hH hP hD hS hL hst
  obtain ⟨_, stv1, rfl, hx1, hst1⟩ := cv_relS_cons hst
  cases hx1
  have : len = 1 := by simpa [cv_lenok, cv_len] using hlen
  subst this
  exact lv_l2i hx hb hd rfl (kk as ws H locs ls (_ :: stv1) has hH hP hD hS hL ⟨rfl, hst1⟩)
theorem cv_ineg_ok {pc len a b : Nat} {z : Int} {L : cv_L} {st : List cv_V} {h : cv_H} {cN sN : Nat} {x : Int32} (C0 : cv_Cx Ts cl D cy A sv X M p R s m args meth c) (ok : cv_ok Ts cl mt M (pc, .ineg, len, a, b, z))
    (kk : cv_Good cl D cy A sv as0 M.1.2.2.2.1 p l e R s m args below meth c Q (pc + len, L, cv_i (-x) :: st, h, cN, sN)) : cv_Good cl D cy A sv as0 M.1.2.2.2.1 p l e R s m args below meth c Q (pc, L, cv_i x :: st, h, cN, sN) := by
  obtain ⟨hx, hb, hml, hown, hts, hr, hlk, hnm, hK, hA, hSF, r1, r2, r3, r4⟩ := C0
  obtain ⟨hd, hlen, hok⟩ := ok
  intro as ws H locs ls stv has hH hP hD hS hL hst
  obtain ⟨_, stv1, rfl, hx1, hst1⟩ := cv_relS_cons hst
  cases hx1
  have : len = 1 := by simpa [cv_lenok, cv_len] using hlen
  subst this
  exact lv_ineg hx hb hd (kk as ws H locs ls (_ :: stv1) has hH hP hD hS hL ⟨rfl, hst1⟩)
theorem cv_lneg_ok {pc len a b : Nat} {z : Int} {L : cv_L} {st : List cv_V} {h : cv_H} {cN sN : Nat} {x : Int64} (C0 : cv_Cx Ts cl D cy A sv X M p R s m args meth c) (ok : cv_ok Ts cl mt M (pc, .lneg, len, a, b, z))
    (kk : cv_Good cl D cy A sv as0 M.1.2.2.2.1 p l e R s m args below meth c Q (pc + len, L, cv_l (-x) :: st, h, cN, sN)) : cv_Good cl D cy A sv as0 M.1.2.2.2.1 p l e R s m args below meth c Q (pc, L, cv_l x :: st, h, cN, sN) := by
  obtain ⟨hx, hb, hml, hown, hts, hr, hlk, hnm, hK, hA, hSF, r1, r2, r3, r4⟩ := C0
  obtain ⟨hd, hlen, hok⟩ := ok
  intro as ws H locs ls stv has hH hP hD hS hL hst
  obtain ⟨_, stv1, rfl, hx1, hst1⟩ := cv_relS_cons hst
  cases hx1
  have : len = 1 := by simpa [cv_lenok, cv_len] using hlen
  subst this
  exact lv_lneg hx hb hd (kk as ws H locs ls (_ :: stv1) has hH hP hD hS hL ⟨rfl, hst1⟩)
theorem cv_lcmp_ok {pc len a b : Nat} {z : Int} {L : cv_L} {st : List cv_V} {h : cv_H} {cN sN : Nat} {x y : Int64} (C0 : cv_Cx Ts cl D cy A sv X M p R s m args meth c) (ok : cv_ok Ts cl mt M (pc, .lcmp, len, a, b, z))
    (kk : cv_Good cl D cy A sv as0 M.1.2.2.2.1 p l e R s m args below meth c Q (pc + len, L, cv_i (lg_cmp x y) :: st, h, cN, sN)) : cv_Good cl D cy A sv as0 M.1.2.2.2.1 p l e R s m args below meth c Q (pc, L, cv_l y :: cv_l x :: st, h, cN, sN) := by
  obtain ⟨hx, hb, hml, hown, hts, hr, hlk, hnm, hK, hA, hSF, r1, r2, r3, r4⟩ := C0
  obtain ⟨hd, hlen, hok⟩ := ok
  intro as ws H locs ls stv has hH hP hD hS hL hst
  obtain ⟨_, stv1, rfl, hy1, hst1⟩ := cv_relS_cons hst
  obtain ⟨_, stv2, rfl, hx1, hst2⟩ := cv_relS_cons hst1
  cases hy1
  cases hx1
  have : len = 1 := by simpa [cv_lenok, cv_len] using hlen
  subst this
  have go := kk as ws H locs ls (.int (lg_cmp x y) :: stv2) has hH hP hD hS hL ⟨rfl, hst2⟩
  exact W.lcmp hx hb hd go
theorem cv_lshr_ok {pc len a b : Nat} {z : Int} {L : cv_L} {st : List cv_V} {h : cv_H} {cN sN : Nat} {x : Int64} {y : Int32} (C0 : cv_Cx Ts cl D cy A sv X M p R s m args meth c) (ok : cv_ok Ts cl mt M (pc, .lshr, len, a, b, z))
    (kk : cv_Good cl D cy A sv as0 M.1.2.2.2.1 p l e R s m args below meth c Q (pc + len, L, cv_l (x >>> (y.toInt64 &&& 63)) :: st, h, cN, sN)) : cv_Good cl D cy A sv as0 M.1.2.2.2.1 p l e R s m args below meth c Q (pc, L, cv_i y :: cv_l x :: st, h, cN, sN) := by
  obtain ⟨hx, hb, hml, hown, hts, hr, hlk, hnm, hK, hA, hSF, r1, r2, r3, r4⟩ := C0
  obtain ⟨hd, hlen, hok⟩ := ok
  intro as ws H locs ls stv has hH hP hD hS hL hst
  obtain ⟨_, stv1, rfl, hy1, hst1⟩ := cv_relS_cons hst
  obtain ⟨_, stv2, rfl, hx1, hst2⟩ := cv_relS_cons hst1
  cases hy1
  cases hx1
  have : len = 1 := by simpa [cv_lenok, cv_len] using hlen
  subst this
  exact lv_lshr hx hb hd rfl (kk as ws H locs ls (_ :: stv2) has hH hP hD hS hL ⟨rfl, hst2⟩)
theorem cv_table_ok {pc len a b : Nat} {z : Int} {L : cv_L} {st : List cv_V} {h : cv_H} {cN sN : Nat} {d lo hi : Int} {offs : Array Int} {x : Int32} {off : Int} (C0 : cv_Cx Ts cl D cy A sv X M p R s m args meth c) (ok : cv_ok Ts cl mt M (pc, .tableswitch d lo hi offs, len, a, b, z)) (hj : cv_jmp pc off = true) (hc : ((decide (x.toInt < lo) || decide (hi < x.toInt)) = true ∧ off = d) ∨ ((decide (x.toInt < lo) || decide (hi < x.toInt)) = false ∧ offs[(x.toInt - lo).toNat]? = some off))
    (kk : cv_Good cl D cy A sv as0 M.1.2.2.2.1 p l e R s m args below meth c Q (cv_tgt pc off, L, st, h, cN, sN)) : cv_Good cl D cy A sv as0 M.1.2.2.2.1 p l e R s m args below meth c Q (pc, L, cv_i x :: st, h, cN, sN) := by
  obtain ⟨hx, hb, hml, hown, hts, hr, hlk, hnm, hK, hA, hSF, r1, r2, r3, r4⟩ := C0
  obtain ⟨hd, hlen, hok⟩ := ok
  intro as ws H locs ls stv has hH hP hD hS hL hst
  obtain ⟨_, stv1, rfl, hx1, hst1⟩ := cv_relS_cons hst
  cases hx1
  have go := kk as ws H locs ls stv1 has hH hP hD hS hL hst1
  rcases hc with ⟨w1, rfl⟩ | ⟨w1, w2⟩
  · simp only [Bool.or_eq_true, decide_eq_true_eq] at w1
    exact lv_tableOut hx hb hd w1 (cv_jmp_ok hj) go
  · simp only [Bool.or_eq_false_iff, decide_eq_false_iff_not] at w1
    exact lv_tableIn hx hb hd w1.1 w1.2 w2 (cv_jmp_ok hj) go
end CVR
end
section
/-! ===== rows at frames of the small machine: rows are read ===== -/
theorem cv_ix_in {x : Int32} {n : Nat} (h : cv_ix x n = true) : vp_in x n := by
  unfold cv_ix at h
  simp only [Bool.and_eq_true, decide_eq_true_eq] at h
  refine fun q => ?_
  rcases q with q | q
  · have h1 := h.1
    rw [Int32.le_iff_toInt_le] at h1
    rw [Int32.lt_iff_toInt_lt] at q
    omega
  · omega
theorem cv_bif {α : Type} {b : Bool} {x : Option α} {y : α} (h : (bif b then x else none) = some y) : b = true ∧ x = some y := by
  cases b with
  | true => exact ⟨rfl, h⟩
  | false => cases h
section CVR
variable {Ts : List Jvm.Cond} {cl : List vw_C} {D : va_G} {cy : Nat → ClassId} {A : Nat → Prop} {sv : Nat → Value} {as0 : List Nat} {X : cv_X} {M : cv_M} {mt : Nat → cv_M} {F : cv_F} {p : Program} {l : Launch} {e : Env} {R : Room} {s : State} {m : MethodId} {args : Array Value} {below : List Frame} {meth : Method} {c : Code} {Q : State → Prop}
theorem cv_iald_ok {pc len a b : Nat} {z : Int} {L : cv_L} {st : List cv_V} {h : cv_H} {cN sN : Nat} {k : Nat} {i x : Int32} {xs : List Int32} (C0 : cv_Cx Ts cl D cy A sv X M p R s m args meth c) (ok : cv_ok Ts cl mt M (pc, .iaload, len, a, b, z)) (hk : h[k]? = some (cv_ci 0 xs)) (hi : cv_ix i xs.length = true) (hv : xs[i.toNatClampNeg]? = some x)
    (kk : cv_Good cl D cy A sv as0 M.1.2.2.2.1 p l e R s m args below meth c Q (pc + len, L, cv_i x :: st, h, cN, sN)) : cv_Good cl D cy A sv as0 M.1.2.2.2.1 p l e R s m args below meth c Q (pc, L, cv_i i :: cv_r k :: st, h, cN, sN) := by
  obtain ⟨hx, hb, hml, hown, hts, hr, hlk, hnm, hK, hA, hSF, r1, r2, r3, r4⟩ := C0
  obtain ⟨hd, hlen, hok⟩ := ok
  intro as ws H locs ls stv has hH hP hD hS hL hst
  have : len = 1 := by simpa [cv_lenok, cv_len] using hlen
  subst this
  obtain ⟨_, stv1, rfl, hi1, hst1⟩ := cv_relS_cons hst
  cases hi1
  obtain ⟨_, stv2, rfl, ⟨ad, had, rfl⟩, hst2⟩ := cv_relS_cons hst1
  obtain ⟨ad', en, e1, e2, hE⟩ := hH.2.2 k _ hk
  cases had.symm.trans e1
  have hin := cv_ix_in hi
  obtain ⟨_, f, rfl, hf⟩ := hE
  exact va_iald hx hb hK hP k 0 e2 rfl hin hd (kk as ws H locs ls (_ :: stv2) has hH hP hD hS hL ⟨by show _ = _; rw [hf _ _ hv], hst2⟩)
theorem cv_bald_ok {pc len a b : Nat} {z : Int} {L : cv_L} {st : List cv_V} {h : cv_H} {cN sN : Nat} {k t : Nat} {i x : Int32} {xs : List Int32} (C0 : cv_Cx Ts cl D cy A sv X M p R s m args meth c) (ok : cv_ok Ts cl mt M (pc, .baload, len, a, b, z)) (hk : h[k]? = some (cv_ci t xs)) (ht : t = 1 ∨ t = 2) (hi : cv_ix i xs.length = true) (hv : xs[i.toNatClampNeg]? = some x)
    (kk : cv_Good cl D cy A sv as0 M.1.2.2.2.1 p l e R s m args below meth c Q (pc + len, L, cv_i x :: st, h, cN, sN)) : cv_Good cl D cy A sv as0 M.1.2.2.2.1 p l e R s m args below meth c Q (pc, L, cv_i i :: cv_r k :: st, h, cN, sN) := by
  obtain ⟨hx, hb, hml, hown, hts, hr, hlk, hnm, hK, hA, hSF, r1, r2, r3, r4⟩ := C0
  obtain ⟨hd, hlen, hok⟩ := ok
  intro as ws H locs ls stv has hH hP hD hS hL hst
  have : len = 1 := by simpa [cv_lenok, cv_len] using hlen
  subst this
  obtain ⟨_, stv1, rfl, hi1, hst1⟩ := cv_relS_cons hst
  cases hi1
  obtain ⟨_, stv2, rfl, ⟨ad, had, rfl⟩, hst2⟩ := cv_relS_cons hst1
  obtain ⟨ad', en, e1, e2, hE⟩ := hH.2.2 k _ hk
  cases had.symm.trans e1
  have hin := cv_ix_in hi
  obtain ⟨_, f, rfl, hf⟩ := hE
  rcases ht with rfl | rfl
  · exact va_bald hx hb hK hP k 1 e2 rfl hin hd (kk as ws H locs ls (_ :: stv2) has hH hP hD hS hL ⟨by show _ = _; rw [hf _ _ hv], hst2⟩)
  · exact va_zald hx hb hK hP k 2 e2 rfl hin hd (kk as ws H locs ls (_ :: stv2) has hH hP hD hS hL ⟨by show _ = _; rw [hf _ _ hv], hst2⟩)
theorem cv_lald_ok {pc len a b : Nat} {z : Int} {L : cv_L} {st : List cv_V} {h : cv_H} {cN sN : Nat} {k : Nat} {i : Int32} {x : Int64} {xs : List Int64} (C0 : cv_Cx Ts cl D cy A sv X M p R s m args meth c) (ok : cv_ok Ts cl mt M (pc, .laload, len, a, b, z)) (hk : h[k]? = some (cv_cl xs)) (hi : cv_ix i xs.length = true) (hv : xs[i.toNatClampNeg]? = some x)
    (kk : cv_Good cl D cy A sv as0 M.1.2.2.2.1 p l e R s m args below meth c Q (pc + len, L, cv_l x :: st, h, cN, sN)) : cv_Good cl D cy A sv as0 M.1.2.2.2.1 p l e R s m args below meth c Q (pc, L, cv_i i :: cv_r k :: st, h, cN, sN) := by
  obtain ⟨hx, hb, hml, hown, hts, hr, hlk, hnm, hK, hA, hSF, r1, r2, r3, r4⟩ := C0
  obtain ⟨hd, hlen, hok⟩ := ok
  intro as ws H locs ls stv has hH hP hD hS hL hst
  have : len = 1 := by simpa [cv_lenok, cv_len] using hlen
  subst this
  obtain ⟨_, stv1, rfl, hi1, hst1⟩ := cv_relS_cons hst
  cases hi1
  obtain ⟨_, stv2, rfl, ⟨ad, had, rfl⟩, hst2⟩ := cv_relS_cons hst1
  obtain ⟨ad', en, e1, e2, hE⟩ := hH.2.2 k _ hk
  cases had.symm.trans e1
  have hin := cv_ix_in hi
  obtain ⟨f, rfl, hf⟩ := hE
  exact va_lald hx hb hK hP k 3 e2 rfl hin hd (kk as ws H locs ls (_ :: stv2) has hH hP hD hS hL ⟨by show _ = _; rw [hf _ _ hv], hst2⟩)
theorem cv_aald_ok {pc len a b : Nat} {z : Int} {L : cv_L} {st : List cv_V} {h : cv_H} {cN sN : Nat} {k t : Nat} {i : Int32} {x : Option Nat} {xs : List (Option Nat)} (C0 : cv_Cx Ts cl D cy A sv X M p R s m args meth c) (ok : cv_ok Ts cl mt M (pc, .aaload, len, a, b, z)) (hk : h[k]? = some (cv_cr t xs)) (hi : cv_ix i xs.length = true) (hv : xs[i.toNatClampNeg]? = some x)
    (kk : cv_Good cl D cy A sv as0 M.1.2.2.2.1 p l e R s m args below meth c Q (pc + len, L, .inr (.inr (.inl x)) :: st, h, cN, sN)) : cv_Good cl D cy A sv as0 M.1.2.2.2.1 p l e R s m args below meth c Q (pc, L, cv_i i :: cv_r k :: st, h, cN, sN) := by
  obtain ⟨hx, hb, hml, hown, hts, hr, hlk, hnm, hK, hA, hSF, r1, r2, r3, r4⟩ := C0
  obtain ⟨hd, hlen, hok⟩ := ok
  intro as ws H locs ls stv has hH hP hD hS hL hst
  have : len = 1 := by simpa [cv_lenok, cv_len] using hlen
  subst this
  obtain ⟨_, stv1, rfl, hi1, hst1⟩ := cv_relS_cons hst
  cases hi1
  obtain ⟨_, stv2, rfl, ⟨ad, had, rfl⟩, hst2⟩ := cv_relS_cons hst1
  obtain ⟨ad', en, e1, e2, hE⟩ := hH.2.2 k _ hk
  cases had.symm.trans e1
  have hin := cv_ix_in hi
  obtain ⟨ht, f, rfl, hf⟩ := hE
  rcases ht with rfl | rfl
  · exact va_aldq hx hb hK hP k 4 e2 rfl hin hd (kk as ws H locs ls (_ :: stv2) has hH hP hD hS hL ⟨hf _ _ hv, hst2⟩)
  · exact va_aldq hx hb hK hP k 5 e2 rfl hin hd (kk as ws H locs ls (_ :: stv2) has hH hP hD hS hL ⟨hf _ _ hv, hst2⟩)
theorem cv_ialds_ok {pc len a b : Nat} {z : Int} {L : cv_L} {st : List cv_V} {h : cv_H} {cN sN : Nat} {j : Nat} {i x : Int32} {xs : List Int32} (C0 : cv_Cx Ts cl D cy A sv X M p R s m args meth c) (ok : cv_ok Ts cl mt M (pc, .iaload, len, a, b, z)) (hk : X j = some xs) (hj1 : j ≠ 1) (hi : cv_ix i xs.length = true) (hv : xs[i.toNatClampNeg]? = some x)
    (kk : cv_Good cl D cy A sv as0 M.1.2.2.2.1 p l e R s m args below meth c Q (pc + len, L, cv_i x :: st, h, cN, sN)) : cv_Good cl D cy A sv as0 M.1.2.2.2.1 p l e R s m args below meth c Q (pc, L, cv_i i :: cv_s j :: st, h, cN, sN) := by
  obtain ⟨hx, hb, hml, hown, hts, hr, hlk, hnm, hK, hA, hSF, r1, r2, r3, r4⟩ := C0
  obtain ⟨hsv, ⟨q0, q1, a1, a2, a3, a4, a5, a6⟩, h2, h3, ⟨h4, ⟨h5, h6⟩, h7, h8⟩, ⟨h9, h10⟩, ⟨t1, t4, t5⟩, hj, h11⟩ := hSF
  obtain ⟨hd, hlen, hok⟩ := ok
  intro as ws H locs ls stv has hH hP hD hS hL hst
  have : len = 1 := by simpa [cv_lenok, cv_len] using hlen
  subst this
  obtain ⟨_, stv1, rfl, hi1, hst1⟩ := cv_relS_cons hst
  cases hi1
  obtain ⟨xr, stv2, rfl, hxs, hst2⟩ := cv_relS_cons hst1
  have hin := cv_ix_in hi
  rw [show xr = sv j from hxs]
  have go := fun v (e : v = x) => kk as ws H locs ls (.int v :: stv2) has hH hP hD hS hL ⟨by show _ = _; rw [e], hst2⟩
  dsimp only at go hd ⊢
  rcases hj j (by rw [hk]; exact fun q => by cases q) with rfl | rfl | rfl | rfl
  · exact absurd rfl hj1
  · obtain ⟨bb, f, b1, b2, b3, b4, b5⟩ := h11 xs hk
    rw [b1]
    exact va_sld hx hb b2 b3 b4 hS hin hd (go _ (b5 _ _ hv))
  · obtain ⟨tt, f, b1, b2, b3⟩ := t4 xs hk
    rw [b1]
    exact va_ti hx hb b2 hS hin rfl hd (go _ (b3 _ _ hv))
  · obtain ⟨tt, f, b1, b2, b3⟩ := t5 xs hk
    rw [b1]
    exact va_ti hx hb b2 hS hin rfl hd (go _ (b3 _ _ hv))
theorem cv_balds_ok {pc len a b : Nat} {z : Int} {L : cv_L} {st : List cv_V} {h : cv_H} {cN sN : Nat} {i x : Int32} {xs : List Int32} (C0 : cv_Cx Ts cl D cy A sv X M p R s m args meth c) (ok : cv_ok Ts cl mt M (pc, .baload, len, a, b, z)) (hk : X 1 = some xs) (hi : cv_ix i xs.length = true) (hv : xs[i.toNatClampNeg]? = some x)
    (kk : cv_Good cl D cy A sv as0 M.1.2.2.2.1 p l e R s m args below meth c Q (pc + len, L, cv_i x :: st, h, cN, sN)) : cv_Good cl D cy A sv as0 M.1.2.2.2.1 p l e R s m args below meth c Q (pc, L, cv_i i :: cv_s 1 :: st, h, cN, sN) := by
  obtain ⟨hx, hb, hml, hown, hts, hr, hlk, hnm, hK, hA, hSF, r1, r2, r3, r4⟩ := C0
  obtain ⟨hsv, ⟨q0, q1, a1, a2, a3, a4, a5, a6⟩, h2, h3, ⟨h4, ⟨h5, h6⟩, h7, h8⟩, ⟨h9, h10⟩, ⟨t1, t4, t5⟩, hj, h11⟩ := hSF
  obtain ⟨hd, hlen, hok⟩ := ok
  intro as ws H locs ls stv has hH hP hD hS hL hst
  have : len = 1 := by simpa [cv_lenok, cv_len] using hlen
  subst this
  obtain ⟨_, stv1, rfl, hi1, hst1⟩ := cv_relS_cons hst
  cases hi1
  obtain ⟨xr, stv2, rfl, hxs, hst2⟩ := cv_relS_cons hst1
  have hin := cv_ix_in hi
  rw [show xr = sv 1 from hxs]
  have go := fun v (e : v = x) => kk as ws H locs ls (.int v :: stv2) has hH hP hD hS hL ⟨by show _ = _; rw [e], hst2⟩
  dsimp only at go hd ⊢
  obtain ⟨tt, f, b1, b2, b3⟩ := t1 xs hk
  rw [b1]
  exact va_tb hx hb b2 hS hin rfl hd (go _ (b3 _ _ hv))
theorem cv_lenai_ok {pc len a b : Nat} {z : Int} {L : cv_L} {st : List cv_V} {h : cv_H} {cN sN : Nat} {k t : Nat} {xs : List Int32} (C0 : cv_Cx Ts cl D cy A sv X M p R s m args meth c) (ok : cv_ok Ts cl mt M (pc, .arraylength, len, a, b, z)) (hk : h[k]? = some (cv_ci t xs))
    (kk : cv_Good cl D cy A sv as0 M.1.2.2.2.1 p l e R s m args below meth c Q (pc + len, L, cv_i (Int32.ofNat xs.length) :: st, h, cN, sN)) : cv_Good cl D cy A sv as0 M.1.2.2.2.1 p l e R s m args below meth c Q (pc, L, cv_r k :: st, h, cN, sN) := by
  obtain ⟨hx, hb, hml, hown, hts, hr, hlk, hnm, hK, hA, hSF, r1, r2, r3, r4⟩ := C0
  obtain ⟨hd, hlen, hok⟩ := ok
  intro as ws H locs ls stv has hH hP hD hS hL hst
  have : len = 1 := by simpa [cv_lenok, cv_len] using hlen
  subst this
  obtain ⟨_, stv1, rfl, ⟨ad, had, rfl⟩, hst1⟩ := cv_relS_cons hst
  obtain ⟨ad', en, e1, e2, hE⟩ := hH.2.2 k _ hk
  cases had.symm.trans e1
  obtain ⟨q, f, rfl, hf⟩ := hE
  have go := kk as ws H locs ls (.int (Int32.ofNat xs.length) :: stv1) has hH hP hD hS hL ⟨rfl, hst1⟩
  rcases (show t = 0 ∨ t = 1 ∨ t = 2 by omega) with rfl | rfl | rfl
  · exact va_alen hx hb hK hP k 0 e2 rfl rfl hd go
  · exact va_alen hx hb hK hP k 1 e2 rfl rfl hd go
  · exact va_alen hx hb hK hP k 2 e2 rfl rfl hd go
theorem cv_lenal_ok {pc len a b : Nat} {z : Int} {L : cv_L} {st : List cv_V} {h : cv_H} {cN sN : Nat} {k t : Nat} {xs : List Int64} (C0 : cv_Cx Ts cl D cy A sv X M p R s m args meth c) (ok : cv_ok Ts cl mt M (pc, .arraylength, len, a, b, z)) (hk : h[k]? = some (cv_cl xs))
    (kk : cv_Good cl D cy A sv as0 M.1.2.2.2.1 p l e R s m args below meth c Q (pc + len, L, cv_i (Int32.ofNat xs.length) :: st, h, cN, sN)) : cv_Good cl D cy A sv as0 M.1.2.2.2.1 p l e R s m args below meth c Q (pc, L, cv_r k :: st, h, cN, sN) := by
  obtain ⟨hx, hb, hml, hown, hts, hr, hlk, hnm, hK, hA, hSF, r1, r2, r3, r4⟩ := C0
  obtain ⟨hd, hlen, hok⟩ := ok
  intro as ws H locs ls stv has hH hP hD hS hL hst
  have : len = 1 := by simpa [cv_lenok, cv_len] using hlen
  subst this
  obtain ⟨_, stv1, rfl, ⟨ad, had, rfl⟩, hst1⟩ := cv_relS_cons hst
  obtain ⟨ad', en, e1, e2, hE⟩ := hH.2.2 k _ hk
  cases had.symm.trans e1
  obtain ⟨f, rfl, hf⟩ := hE
  have go := kk as ws H locs ls (.int (Int32.ofNat xs.length) :: stv1) has hH hP hD hS hL ⟨rfl, hst1⟩
  exact va_alen hx hb hK hP k 3 e2 rfl rfl hd go
theorem cv_lenar_ok {pc len a b : Nat} {z : Int} {L : cv_L} {st : List cv_V} {h : cv_H} {cN sN : Nat} {k t : Nat} {xs : List (Option Nat)} (C0 : cv_Cx Ts cl D cy A sv X M p R s m args meth c) (ok : cv_ok Ts cl mt M (pc, .arraylength, len, a, b, z)) (hk : h[k]? = some (cv_cr t xs))
    (kk : cv_Good cl D cy A sv as0 M.1.2.2.2.1 p l e R s m args below meth c Q (pc + len, L, cv_i (Int32.ofNat xs.length) :: st, h, cN, sN)) : cv_Good cl D cy A sv as0 M.1.2.2.2.1 p l e R s m args below meth c Q (pc, L, cv_r k :: st, h, cN, sN) := by
  obtain ⟨hx, hb, hml, hown, hts, hr, hlk, hnm, hK, hA, hSF, r1, r2, r3, r4⟩ := C0
  obtain ⟨hd, hlen, hok⟩ := ok
  intro as ws H locs ls stv has hH hP hD hS hL hst
  have : len = 1 := by simpa [cv_lenok, cv_len] using hlen
  subst this
  obtain ⟨_, stv1, rfl, ⟨ad, had, rfl⟩, hst1⟩ := cv_relS_cons hst
  obtain ⟨ad', en, e1, e2, hE⟩ := hH.2.2 k _ hk
  cases had.symm.trans e1
  obtain ⟨q, f, rfl, hf⟩ := hE
  have go := kk as ws H locs ls (.int (Int32.ofNat xs.length) :: stv1) has hH hP hD hS hL ⟨rfl, hst1⟩
  rcases q with rfl | rfl
  · exact va_alen hx hb hK hP k 4 e2 rfl rfl hd go
  · exact va_alen hx hb hK hP k 5 e2 rfl rfl hd go
theorem cv_lens_ok {pc len a b : Nat} {z : Int} {L : cv_L} {st : List cv_V} {h : cv_H} {cN sN : Nat} {j : Nat} {xs : List Int32} (C0 : cv_Cx Ts cl D cy A sv X M p R s m args meth c) (ok : cv_ok Ts cl mt M (pc, .arraylength, len, a, b, z)) (hk : X j = some xs)
    (kk : cv_Good cl D cy A sv as0 M.1.2.2.2.1 p l e R s m args below meth c Q (pc + len, L, cv_i (Int32.ofNat xs.length) :: st, h, cN, sN)) : cv_Good cl D cy A sv as0 M.1.2.2.2.1 p l e R s m args below meth c Q (pc, L, cv_s j :: st, h, cN, sN) := by
  obtain ⟨hx, hb, hml, hown, hts, hr, hlk, hnm, hK, hA, hSF, r1, r2, r3, r4⟩ := C0
  obtain ⟨hsv, ⟨q0, q1, a1, a2, a3, a4, a5, a6⟩, h2, h3, ⟨h4, ⟨h5, h6⟩, h7, h8⟩, ⟨h9, h10⟩, ⟨t1, t4, t5⟩, hj, h11⟩ := hSF
  obtain ⟨hd, hlen, hok⟩ := ok
  intro as ws H locs ls stv has hH hP hD hS hL hst
  have : len = 1 := by simpa [cv_lenok, cv_len] using hlen
  subst this
  obtain ⟨xr, stv1, rfl, hxs, hst1⟩ := cv_relS_cons hst
  rw [show xr = sv j from hxs]
  have go := kk as ws H locs ls (.int (Int32.ofNat xs.length) :: stv1) has hH hP hD hS hL ⟨rfl, hst1⟩
  dsimp only at go hd ⊢
  rcases hj j (by rw [hk]; exact fun q => by cases q) with rfl | rfl | rfl | rfl
  · obtain ⟨tt, f, b1, b2, b3⟩ := t1 xs hk
    rw [b1]
    exact va_tlen hx hb b2 hS rfl hd go
  · obtain ⟨bb, f, b1, b2, b3, b4, b5⟩ := h11 xs hk
    rw [b1]
    exact va_slen hx hb b2 b3 b4 hS hd go
  · obtain ⟨tt, f, b1, b2, b3⟩ := t4 xs hk
    rw [b1]
    exact va_tlen hx hb b2 hS rfl hd go
  · obtain ⟨tt, f, b1, b2, b3⟩ := t5 xs hk
    rw [b1]
    exact va_tlen hx hb b2 hS rfl hd go
end CVR
end
section
/-! ===== rows at frames of the small machine: stores, fields ===== -/
theorem cv_set_get {α : Type} {xs : List α} {i k : Nat} {v w : α} (h : (xs.set i v)[k]? = some w) : (k = i ∧ w = v) ∨ (k ≠ i ∧ xs[k]? = some w) := by
  by_cases hk : i = k
  · subst hk
    have hlt : i < xs.length := by
      have := (List.getElem?_eq_some_iff.mp h).1
      simpa using this
    rw [List.getElem?_set_self hlt] at h
    cases h
    exact .inl ⟨rfl, rfl⟩
  · rw [List.getElem?_set_ne hk] at h
    exact .inr ⟨fun q => hk q.symm, h⟩
theorem cv_upd_ok {xs : List Int32} {f : Nat → Int32} (hf : ∀ (k : Nat) (x : Int32), xs[k]? = some x → f k = x) (i : Nat) (y : Int32) : ∀ (k : Nat) (x : Int32), (xs.set i y)[k]? = some x → upd f i y k = x := by
  intro k x hw
  rcases cv_set_get hw with ⟨rfl, rfl⟩ | ⟨q, hw⟩
  · rw [pk_us]
  · rw [pk_un q]; exact hf k x hw
theorem cv_updL_ok {xs : List Int64} {f : Nat → Int64} (hf : ∀ (k : Nat) (x : Int64), xs[k]? = some x → f k = x) (i : Nat) (y : Int64) : ∀ (k : Nat) (x : Int64), (xs.set i y)[k]? = some x → vp_updL f i y k = x := by
  intro k x hw
  unfold vp_updL
  rcases cv_set_get hw with ⟨rfl, rfl⟩ | ⟨q, hw⟩
  · rw [if_pos rfl]
  · rw [if_neg q]; exact hf k x hw
theorem cv_fit_ok {sv : Nat → Value} {as : List Nat} {ty : FieldType} {v : cv_V} {x : Value} (hf : cv_fit (cv_kd ty) v = true) (hd : cv_dn sv as v x) : narrow ty x = x ∧ fits ty x = true := by
  cases ty with
  | int =>
    match v, hf, hd with
    | .inl n, _, hd => rw [show x = .int n from hd]; exact ⟨rfl, rfl⟩
  | boolean =>
    match v, hf, hd with
    | .inl n, hf, hd =>
      rw [show x = .int n from hd]
      simp only [cv_kd, cv_fit, Bool.or_eq_true, decide_eq_true_eq] at hf
      rcases hf with rfl | rfl
      · exact ⟨rfl, rfl⟩
      · exact ⟨rfl, rfl⟩
  | long =>
    match v, hf, hd with
    | .inr (.inl n), _, hd => rw [show x = .long n from hd]; exact ⟨rfl, rfl⟩
  | object C =>
    match v, hf, hd with
    | .inr (.inr (.inl none)), _, hd => rw [show x = .null from hd]; exact ⟨rfl, rfl⟩
    | .inr (.inr (.inl (some k))), _, hd => obtain ⟨a, _, rfl⟩ := hd; exact ⟨rfl, rfl⟩
  | array C =>
    match v, hf, hd with
    | .inr (.inr (.inl none)), _, hd => rw [show x = .null from hd]; exact ⟨rfl, rfl⟩
    | .inr (.inr (.inl (some k))), _, hd => obtain ⟨a, _, rfl⟩ := hd; exact ⟨rfl, rfl⟩
  | _ => simp [cv_kd, cv_fit] at hf
section CVR
variable {Ts : List Jvm.Cond} {cl : List vw_C} {D : va_G} {cy : Nat → ClassId} {A : Nat → Prop} {sv : Nat → Value} {as0 : List Nat} {X : cv_X} {M : cv_M} {mt : Nat → cv_M} {F : cv_F} {p : Program} {l : Launch} {e : Env} {R : Room} {s : State} {m : MethodId} {args : Array Value} {below : List Frame} {meth : Method} {c : Code} {Q : State → Prop}
theorem cv_iast_ok {pc len a b : Nat} {z : Int} {L : cv_L} {st : List cv_V} {h : cv_H} {cN sN : Nat} {k : Nat} {i x : Int32} {xs : List Int32} (C0 : cv_Cx Ts cl D cy A sv X M p R s m args meth c) (ok : cv_ok Ts cl mt M (pc, .iastore, len, a, b, z)) (hk : h[k]? = some (cv_ci 0 xs)) (hi : cv_ix i xs.length = true)
    (kk : cv_Good cl D cy A sv as0 M.1.2.2.2.1 p l e R s m args below meth c Q (pc + len, L, st, h.set k (cv_ci 0 (xs.set i.toNatClampNeg x)), cN, sN)) : cv_Good cl D cy A sv as0 M.1.2.2.2.1 p l e R s m args below meth c Q (pc, L, cv_i x :: cv_i i :: cv_r k :: st, h, cN, sN) := by
  obtain ⟨hx, hb, hml, hown, hts, hr, hlk, hnm, hK, hA, hSF, r1, r2, r3, r4⟩ := C0
  obtain ⟨hd, hlen, hok⟩ := ok
  intro as ws H locs ls stv has hH hP hD hS hL hst
  have : len = 1 := by simpa [cv_lenok, cv_len] using hlen
  subst this
  obtain ⟨xv, stv1, rfl, hxv, hst1⟩ := cv_relS_cons hst
  cases hxv
  obtain ⟨_, stv2, rfl, hi1, hst2⟩ := cv_relS_cons hst1
  cases hi1
  obtain ⟨_, stv3, rfl, ⟨ad, had, rfl⟩, hst3⟩ := cv_relS_cons hst2
  obtain ⟨ad', en, e1, e2, hE⟩ := hH.2.2 k _ hk
  cases had.symm.trans e1
  have hin := cv_ix_in hi
  have go := fun (en : va_E) (hE' : cv_relE cy sv as (cv_ci 0 (xs.set i.toNatClampNeg x)) en) (H1 : Heap) (locs1 : List Loc) (hP1 : va_P D cl (ws.set k (ad, en)) H1) (hD1 : va_D A (ws.set k (ad, en))) (hS1 : va_S A s.heap H1 locs1) => kk as _ H1 locs1 ls stv3 has (cv_relH_set hH e1 hE') hP1 hD1 hS1 hL hst3
  dsimp only at go hd ⊢
  obtain ⟨_, f, rfl, hf⟩ := hE
  refine va_iast hx hb hK hP hD hS k 0 e2 rfl hin hd fun H1 locs1 hP1 hD1 hS1 => go _ ?_ H1 locs1 hP1 hD1 hS1
  exact ⟨by omega, upd f i.toNatClampNeg x, by simp, cv_upd_ok hf _ _⟩
theorem cv_bast_ok {pc len a b : Nat} {z : Int} {L : cv_L} {st : List cv_V} {h : cv_H} {cN sN : Nat} {k t : Nat} {i x : Int32} {xs : List Int32} (C0 : cv_Cx Ts cl D cy A sv X M p R s m args meth c) (ok : cv_ok Ts cl mt M (pc, .bastore, len, a, b, z)) (hk : h[k]? = some (cv_ci t xs)) (ht : t = 1 ∨ t = 2) (hi : cv_ix i xs.length = true)
    (kk : cv_Good cl D cy A sv as0 M.1.2.2.2.1 p l e R s m args below meth c Q (pc + len, L, st, h.set k (cv_ci t (xs.set i.toNatClampNeg (cv_nar t x))), cN, sN)) : cv_Good cl D cy A sv as0 M.1.2.2.2.1 p l e R s m args below meth c Q (pc, L, cv_i x :: cv_i i :: cv_r k :: st, h, cN, sN) := by
  obtain ⟨hx, hb, hml, hown, hts, hr, hlk, hnm, hK, hA, hSF, r1, r2, r3, r4⟩ := C0
  obtain ⟨hd, hlen, hok⟩ := ok
  intro as ws H locs ls stv has hH hP hD hS hL hst
  have : len = 1 := by simpa [cv_lenok, cv_len] using hlen
  subst this
  obtain ⟨xv, stv1, rfl, hxv, hst1⟩ := cv_relS_cons hst
  cases hxv
  obtain ⟨_, stv2, rfl, hi1, hst2⟩ := cv_relS_cons hst1
  cases hi1
  obtain ⟨_, stv3, rfl, ⟨ad, had, rfl⟩, hst3⟩ := cv_relS_cons hst2
  obtain ⟨ad', en, e1, e2, hE⟩ := hH.2.2 k _ hk
  cases had.symm.trans e1
  have hin := cv_ix_in hi
  have go := fun (en : va_E) (hE' : cv_relE cy sv as (cv_ci t (xs.set i.toNatClampNeg (cv_nar t x))) en) (H1 : Heap) (locs1 : List Loc) (hP1 : va_P D cl (ws.set k (ad, en)) H1) (hD1 : va_D A (ws.set k (ad, en))) (hS1 : va_S A s.heap H1 locs1) => kk as _ H1 locs1 ls stv3 has (cv_relH_set hH e1 hE') hP1 hD1 hS1 hL hst3
  dsimp only at go hd ⊢
  obtain ⟨_, f, rfl, hf⟩ := hE
  rcases ht with rfl | rfl
  · refine va_bast hx hb hK hP hD hS k 1 e2 rfl hin hd fun H1 locs1 hP1 hD1 hS1 => go _ ?_ H1 locs1 hP1 hD1 hS1
    exact ⟨by omega, upd f i.toNatClampNeg (vp_nar .byte x), by simp, cv_upd_ok hf _ _⟩
  · refine va_zast hx hb hK hP hD hS k 2 e2 rfl hin hd fun H1 locs1 hP1 hD1 hS1 => go _ ?_ H1 locs1 hP1 hD1 hS1
    exact ⟨by omega, upd f i.toNatClampNeg (vp_nar .boolean x), by simp, cv_upd_ok hf _ _⟩
theorem cv_last_ok {pc len a b : Nat} {z : Int} {L : cv_L} {st : List cv_V} {h : cv_H} {cN sN : Nat} {k : Nat} {i : Int32} {x : Int64} {xs : List Int64} (C0 : cv_Cx Ts cl D cy A sv X M p R s m args meth c) (ok : cv_ok Ts cl mt M (pc, .lastore, len, a, b, z)) (hk : h[k]? = some (cv_cl xs)) (hi : cv_ix i xs.length = true)
    (kk : cv_Good cl D cy A sv as0 M.1.2.2.2.1 p l e R s m args below meth c Q (pc + len, L, st, h.set k (cv_cl (xs.set i.toNatClampNeg x)), cN, sN)) : cv_Good cl D cy A sv as0 M.1.2.2.2.1 p l e R s m args below meth c Q (pc, L, cv_l x :: cv_i i :: cv_r k :: st, h, cN, sN) := by
  obtain ⟨hx, hb, hml, hown, hts, hr, hlk, hnm, hK, hA, hSF, r1, r2, r3, r4⟩ := C0
  obtain ⟨hd, hlen, hok⟩ := ok
  intro as ws H locs ls stv has hH hP hD hS hL hst
  have : len = 1 := by simpa [cv_lenok, cv_len] using hlen
  subst this
  obtain ⟨xv, stv1, rfl, hxv, hst1⟩ := cv_relS_cons hst
  cases hxv
  obtain ⟨_, stv2, rfl, hi1, hst2⟩ := cv_relS_cons hst1
  cases hi1
  obtain ⟨_, stv3, rfl, ⟨ad, had, rfl⟩, hst3⟩ := cv_relS_cons hst2
  obtain ⟨ad', en, e1, e2, hE⟩ := hH.2.2 k _ hk
  cases had.symm.trans e1
  have hin := cv_ix_in hi
  have go := fun (en : va_E) (hE' : cv_relE cy sv as (cv_cl (xs.set i.toNatClampNeg x)) en) (H1 : Heap) (locs1 : List Loc) (hP1 : va_P D cl (ws.set k (ad, en)) H1) (hD1 : va_D A (ws.set k (ad, en))) (hS1 : va_S A s.heap H1 locs1) => kk as _ H1 locs1 ls stv3 has (cv_relH_set hH e1 hE') hP1 hD1 hS1 hL hst3
  dsimp only at go hd ⊢
  obtain ⟨f, rfl, hf⟩ := hE
  refine va_last hx hb hK hP hD hS k 3 e2 rfl hin hd fun H1 locs1 hP1 hD1 hS1 => go _ ?_ H1 locs1 hP1 hD1 hS1
  exact ⟨vp_updL f i.toNatClampNeg x, by simp, cv_updL_ok hf _ _⟩
theorem cv_aast_ok {pc len a b : Nat} {z : Int} {L : cv_L} {st : List cv_V} {h : cv_H} {cN sN : Nat} {k t o ci : Nat} {i : Int32} {xs : List (Option Nat)} {fs : List cv_V} (C0 : cv_Cx Ts cl D cy A sv X M p R s m args meth c) (hcl4 : ∃ T N, cl[1]? = some ("SagGates$Gate", T, N)) (hcl5 : ∃ T N, cl[7]? = some ("SagGates$Told", T, N)) (ok : cv_ok Ts cl mt M (pc, .aastore, len, a, b, z)) (hk : h[k]? = some (cv_cr t xs)) (ho : h[o]? = some (cv_co ci fs)) (hci : ci = (bif t == 4 then 1 else 7)) (hi : cv_ix i xs.length = true)
    (kk : cv_Good cl D cy A sv as0 M.1.2.2.2.1 p l e R s m args below meth c Q (pc + len, L, st, h.set k (cv_cr t (xs.set i.toNatClampNeg (some o))), cN, sN)) : cv_Good cl D cy A sv as0 M.1.2.2.2.1 p l e R s m args below meth c Q (pc, L, cv_r o :: cv_i i :: cv_r k :: st, h, cN, sN) := by
  obtain ⟨hx, hb, hml, hown, hts, hr, hlk, hnm, hK, hA, hSF, r1, r2, r3, r4⟩ := C0
  obtain ⟨hd, hlen, hok⟩ := ok
  intro as ws H locs ls stv has hH hP hD hS hL hst
  have : len = 1 := by simpa [cv_lenok, cv_len] using hlen
  subst this
  obtain ⟨xv, stv1, rfl, hxv, hst1⟩ := cv_relS_cons hst
  obtain ⟨aj, haj, rfl⟩ := hxv
  obtain ⟨_, stv2, rfl, hi1, hst2⟩ := cv_relS_cons hst1
  cases hi1
  obtain ⟨_, stv3, rfl, ⟨ad, had, rfl⟩, hst3⟩ := cv_relS_cons hst2
  obtain ⟨ad', en, e1, e2, hE⟩ := hH.2.2 k _ hk
  cases had.symm.trans e1
  have hin := cv_ix_in hi
  have go := fun (en : va_E) (hE' : cv_relE cy sv as (cv_cr t (xs.set i.toNatClampNeg (some o))) en) (H1 : Heap) (locs1 : List Loc) (hP1 : va_P D cl (ws.set k (ad, en)) H1) (hD1 : va_D A (ws.set k (ad, en))) (hS1 : va_S A s.heap H1 locs1) => kk as _ H1 locs1 ls stv3 has (cv_relH_set hH e1 hE') hP1 hD1 hS1 hL hst3
  dsimp only at go hd ⊢
  obtain ⟨aj', ej, j1, j2, hEj⟩ := hH.2.2 o _ ho
  cases haj.symm.trans j1
  obtain ⟨vs, rfl, -, -⟩ := hEj
  obtain ⟨ht, f, rfl, hf⟩ := hE
  have hup : ∀ (k : Nat) (w : Option Nat), (xs.set i.toNatClampNeg (some o))[k]? = some w → cv_dn sv as (.inr (.inr (.inl w))) (va_rf (va_up f i.toNatClampNeg (some aj) k)) := by
    intro k w hw
    rcases cv_set_get hw with ⟨rfl, rfl⟩ | ⟨q, hw⟩
    · rw [va_up_self]; exact ⟨aj, haj, rfl⟩
    · rw [va_up_ne _ _ q]; exact hf k w hw
  rcases ht with rfl | rfl
  · subst hci
    obtain ⟨T, N, hc4⟩ := hcl4
    refine va_astq hx hb hK hP hD hS k 4 o 1 (r := ("SagGates$Gate", T, N)) e2 rfl j2 hc4 hin hd fun H1 locs1 hP1 hD1 hS1 => go _ ?_ H1 locs1 hP1 hD1 hS1
    exact ⟨.inl rfl, va_up f i.toNatClampNeg (some aj), by simp, hup⟩
  · subst hci
    obtain ⟨T, N, hc5⟩ := hcl5
    refine va_astq hx hb hK hP hD hS k 5 o 7 (r := ("SagGates$Told", T, N)) e2 rfl j2 hc5 hin hd fun H1 locs1 hP1 hD1 hS1 => go _ ?_ H1 locs1 hP1 hD1 hS1
    exact ⟨.inr rfl, va_up f i.toNatClampNeg (some aj), by simp, hup⟩
theorem cv_getf_ok {pc len a b : Nat} {z : Int} {L : cv_L} {st : List cv_V} {h : cv_H} {cN sN : Nat} {k i : Nat} {v : cv_V} {fs : List cv_V} (C0 : cv_Cx Ts cl D cy A sv X M p R s m args meth c) (hcls : cv_cls Ts cl F) (ok : cv_ok Ts cl mt M (pc, .getfield i, len, a, b, z)) (hk : h[k]? = some (cv_co a fs)) (hv : fs[b]? = some v) (ha : a ≠ 100)
    (kk : cv_Good cl D cy A sv as0 M.1.2.2.2.1 p l e R s m args below meth c Q (pc + len, L, v :: st, h, cN, sN)) : cv_Good cl D cy A sv as0 M.1.2.2.2.1 p l e R s m args below meth c Q (pc, L, cv_r k :: st, h, cN, sN) := by
  obtain ⟨hx, hb, hml, hown, hts, hr, hlk, hnm, hK, hA, hSF, r1, r2, r3, r4⟩ := C0
  obtain ⟨hd, hlen, hok⟩ := ok
  intro as ws H locs ls stv has hH hP hD hS hL hst
  have : len = 3 := by simpa [cv_lenok, cv_len] using hlen
  subst this
  obtain ⟨_, stv1, rfl, ⟨ad, had, rfl⟩, hst1⟩ := cv_relS_cons hst
  obtain ⟨ad', en, e1, e2, hE⟩ := hH.2.2 k _ hk
  cases had.symm.trans e1
  obtain ⟨vs, rfl, g1, g2⟩ := hE
  obtain ⟨x, g3, g4⟩ := g2 b v hv
  obtain ⟨C, T, N, c1, c2, c3⟩ := hok.2 ha
  exact va_get hx hb hts (hcls a C T N c1).1 hown hK hP k e2 c1 b c2 (hts _ c3) (fun x h => h) g3 hd (kk as ws H locs ls (x :: stv1) has hH hP hD hS hL ⟨g4, hst1⟩)
theorem cv_getS_ok {pc len b : Nat} {z : Int} {L : cv_L} {st : List cv_V} {h : cv_H} {cN sN : Nat} {i : Nat} (C0 : cv_Cx Ts cl D cy A sv X M p R s m args meth c) (ok : cv_ok Ts cl mt M (pc, .getfield i, len, 100, b, z))
    (kk : cv_Good cl D cy A sv as0 M.1.2.2.2.1 p l e R s m args below meth c Q (pc + len, L, (bif b == 0 then cv_s 1 else cv_i 0) :: st, h, cN, sN)) : cv_Good cl D cy A sv as0 M.1.2.2.2.1 p l e R s m args below meth c Q (pc, L, cv_s 0 :: st, h, cN, sN) := by
  obtain ⟨hx, hb, hml, hown, hts, hr, hlk, hnm, hK, hA, hSF, r1, r2, r3, r4⟩ := C0
  obtain ⟨hsv, ⟨q0, q1, a1, a2, a3, a4, a5, a6⟩, -⟩ := hSF
  obtain ⟨hd, hlen, hok⟩ := ok
  intro as ws H locs ls stv has hH hP hD hS hL hst
  have : len = 3 := by simpa [cv_lenok, cv_len] using hlen
  subst this
  obtain ⟨x, stv1, rfl, hxs, hst1⟩ := cv_relS_cons hst
  have hok1 := hok.1 rfl
  have go := fun x (hx : cv_dn sv as (bif b == 0 then cv_s 1 else cv_i 0) x) => kk as ws H locs ls (x :: stv1) has hH hP hD hS hL ⟨hx, hst1⟩
  dsimp only at go hd hok1 ⊢
  rw [show x = sv 0 from hxs, a1]
  by_cases hb0 : b = 0
  · subst hb0
    exact vk_getf hx hb a5 hS hown (hts _ (hok1.1 rfl)) (fun x h => h) hd (go _ a2.symm)
  · have e : (b == 0) = false := by simpa using hb0
    rw [e] at go
    exact vk_getf hx hb a6 hS hown (hts _ (hok1.2 hb0)) (fun x h => h) hd (go _ rfl)
theorem cv_putf_ok {pc len a b : Nat} {z : Int} {L : cv_L} {st : List cv_V} {h : cv_H} {cN sN : Nat} {k i : Nat} {v : cv_V} {fs : List cv_V} (C0 : cv_Cx Ts cl D cy A sv X M p R s m args meth c) (hcls : cv_cls Ts cl F) (ok : cv_ok Ts cl mt M (pc, .putfield i, len, a, b, z)) (hk : h[k]? = some (cv_co a fs)) (hbl : b < fs.length) (hfit : cv_fit z.toNat v = true)
    (kk : cv_Good cl D cy A sv as0 M.1.2.2.2.1 p l e R s m args below meth c Q (pc + len, L, st, h.set k (cv_co a (fs.set b v)), cN, sN)) : cv_Good cl D cy A sv as0 M.1.2.2.2.1 p l e R s m args below meth c Q (pc, L, v :: cv_r k :: st, h, cN, sN) := by
  obtain ⟨hx, hb, hml, hown, hts, hr, hlk, hnm, hK, hA, hSF, r1, r2, r3, r4⟩ := C0
  obtain ⟨hd, hlen, hok⟩ := ok
  intro as ws H locs ls stv has hH hP hD hS hL hst
  have : len = 3 := by simpa [cv_lenok, cv_len] using hlen
  subst this
  obtain ⟨xv, stv1, rfl, hxv, hst1⟩ := cv_relS_cons hst
  obtain ⟨_, stv2, rfl, ⟨ad, had, rfl⟩, hst2⟩ := cv_relS_cons hst1
  obtain ⟨ad', en, e1, e2, hE⟩ := hH.2.2 k _ hk
  cases had.symm.trans e1
  obtain ⟨vs, rfl, g1, g2⟩ := hE
  obtain ⟨C, T, N, ty, c1, c2, c3, c4, c5, c6⟩ := hok
  dsimp only at c1 c2 c3 c4 c5 c6
  rw [← c5] at hfit
  obtain ⟨f1, f2⟩ := cv_fit_ok hfit hxv
  obtain ⟨k1, k2, tys0, ks, k3, -⟩ := hcls a C T N c1
  have hE' : cv_relE cy sv as (cv_co a (fs.set b v)) (.inr (a, vs.set b xv)) := by
    refine ⟨_, rfl, by simpa using g1, fun j w hw => ?_⟩
    rcases cv_set_get hw with ⟨rfl, rfl⟩ | ⟨q, hw⟩
    · exact ⟨xv, List.getElem?_set_self (by omega), hxv⟩
    · obtain ⟨y, y1, y2⟩ := g2 j w hw
      exact ⟨y, by rw [List.getElem?_set_ne (fun q' => q q'.symm)]; exact y1, y2⟩
  have go := fun (H1 : Heap) (locs1 : List Loc) (hP1 : va_P D cl (ws.set k (ad, .inr (a, vs.set b xv))) H1) (hD1 : va_D A (ws.set k (ad, .inr (a, vs.set b xv)))) (hS1 : va_S A s.heap H1 locs1) => kk as _ H1 locs1 ls stv2 has (cv_relH_set hH e1 hE') hP1 hD1 hS1 hL hst2
  cases hfin : (T b).2.2.2 with
  | false => exact va_put hx hb hts k1 tys0 k3 k2 hown hK hP hD hS k e2 c1 b c2 (hts _ c3) (fun x h => h) hfin c4 f1 f2 (by omega) hd go
  | true =>
    obtain ⟨d1, d2⟩ := c6 hfin
    exact va_putF hx hb hts k1 tys0 k3 k2 hown hK hP hD hS k e2 c1 b c2 (hts _ c3) (fun x h => h) hfin (hnm.trans d1) d2 c4 f1 f2 (by omega) hd go
end CVR
end
section
/-! ===== rows at frames of the small machine: what is made; natives ===== -/
def cv_dv (t : Nat) : Value := match t with
  | 3 => .long 0
  | 4 => .null
  | 5 => .null
  | _ => .int 0
theorem cv_dv_ok {sv : Nat → Value} {as : List Nat} {t : Nat} (h : t ≤ 4) : cv_dn sv as (cv_dfl t) (cv_dv t) := by
  match t, h with
  | 0, _ => exact rfl
  | 1, _ => exact rfl
  | 2, _ => exact rfl
  | 3, _ => exact rfl
  | 4, _ => exact rfl
theorem cv_dv_ty {ty : FieldType} (h : cv_kd ty ≤ 4) : defaultValue ty = cv_dv (cv_kd ty) := by
  cases ty <;> first | rfl | (simp [cv_kd] at h)
theorem cv_rep {α : Type} {n k : Nat} {x y : α} (h : (List.replicate n x)[k]? = some y) : y = x := by
  rw [List.getElem?_replicate] at h
  split at h
  · cases h; rfl
  · cases h
section CVR
variable {Ts : List Jvm.Cond} {cl : List vw_C} {D : va_G} {cy : Nat → ClassId} {A : Nat → Prop} {sv : Nat → Value} {as0 : List Nat} {X : cv_X} {M : cv_M} {mt : Nat → cv_M} {F : cv_F} {p : Program} {l : Launch} {e : Env} {R : Room} {s : State} {m : MethodId} {args : Array Value} {below : List Frame} {meth : Method} {c : Code} {Q : State → Prop}
theorem cv_new_ok {pc len a b : Nat} {z : Int} {L : cv_L} {st : List cv_V} {h : cv_H} {cN sN : Nat} {i : Nat} {ks : List Nat} (C0 : cv_Cx Ts cl D cy A sv X M p R s m args meth c) (hcls : cv_cls Ts cl F) (ok : cv_ok Ts cl mt M (pc, .new i, len, a, b, z)) (hks : F[a]? = some ks) (h1 : cN + 1 ≤ M.2.2.1) (h2 : sN + ks.length ≤ M.2.2.2.1)
    (kk : cv_Good cl D cy A sv as0 M.1.2.2.2.1 p l e R s m args below meth c Q (pc + len, L, cv_r h.length :: st, h ++ [cv_co a (ks.map cv_dfl)], cN + 1, sN + ks.length)) : cv_Good cl D cy A sv as0 M.1.2.2.2.1 p l e R s m args below meth c Q (pc, L, st, h, cN, sN) := by
  obtain ⟨hx, hb, hml, hown, hts, hr, hlk, hnm, hK, hA, hSF, r1, r2, r3, r4⟩ := C0
  obtain ⟨hd, hlen, hok⟩ := ok
  intro as ws H locs ls stv has hH hP hD hS hL hst
  have : len = 3 := by simpa [cv_lenok, cv_len] using hlen
  subst this
  obtain ⟨C, T, N, c1, c2, c3, c4⟩ := hok
  dsimp only at c1 c2 c3 c4
  obtain ⟨k1, k2, ty, ks', k3, k4, k5, k6⟩ := hcls a C T N c1
  cases hks.symm.trans k4
  have hfs : ∀ j, j < N → defaultValue (ty j) = vp_V (ks.map cv_dv) j := by
    intro j hj
    obtain ⟨q1, q2, -⟩ := k6 j hj
    rw [cv_dv_ty q2]
    unfold vp_V
    rw [List.getD_eq_getElem?_getD, List.getElem?_map, q1]
    rfl
  subst k5
  refine va_new hx hb hts k1 ty k3 hown (hts _ c2) (hts _ c3) (hts _ c4) hK hP hD hS hA c1 hfs (by rw [r1]; exact h1) (by rw [r2]; exact h2) hd fun q H1 hP1 hD1 hS1 => ?_
  have hpre : as <+: as ++ [q] := List.prefix_append _ _
  refine kk (as ++ [q]) _ H1 locs ls (.ref q :: stv) (has.trans hpre) (cv_relH_push hH (e := .inr (a, ks.map cv_dv)) ?_) hP1 hD1 hS1 (cv_relL_up hpre hL) ⟨⟨q, ?_, rfl⟩, cv_relS_up hpre hst⟩
  · refine ⟨_, rfl, by simp, fun j w hw => ?_⟩
    rw [List.getElem?_map] at hw ⊢
    cases hkj : ks[j]? with
    | none => rw [hkj] at hw; cases hw
    | some t =>
      rw [hkj] at hw
      cases hw
      have hjl := (List.getElem?_eq_some_iff.mp hkj).1
      obtain ⟨q1, q2, -⟩ := k6 j hjl
      cases hkj.symm.trans q1
      exact ⟨_, rfl, cv_dv_ok q2⟩
  · rw [← hH.1, List.getElem?_append_right (Nat.le_refl _)]
    simp
theorem cv_newa_ok {pc len a b : Nat} {z : Int} {L : cv_L} {st : List cv_V} {h : cv_H} {cN sN : Nat} {at0 : ArrayType} {u : Int32} (C0 : cv_Cx Ts cl D cy A sv X M p R s m args meth c) (ok : cv_ok Ts cl mt M (pc, .newarray at0, len, a, b, z)) (h0 : 0 ≤ u) (hm : u.toNatClampNeg ≤ 10000) (ha : a ≤ 3) (h1 : cN + 1 ≤ M.2.2.1) (h2 : sN + u.toNatClampNeg ≤ M.2.2.2.1)
    (kk : cv_Good cl D cy A sv as0 M.1.2.2.2.1 p l e R s m args below meth c Q (pc + len, L, cv_r h.length :: st, h ++ [bif a == 3 then cv_cl (List.replicate u.toNatClampNeg 0) else cv_ci a (List.replicate u.toNatClampNeg 0)], cN + 1, sN + u.toNatClampNeg)) : cv_Good cl D cy A sv as0 M.1.2.2.2.1 p l e R s m args below meth c Q (pc, L, cv_i u :: st, h, cN, sN) := by
  obtain ⟨hx, hb, hml, hown, hts, hr, hlk, hnm, hK, hA, hSF, r1, r2, r3, r4⟩ := C0
  obtain ⟨hd, hlen, hok⟩ := ok
  intro as ws H locs ls stv has hH hP hD hS hL hst
  have : len = 2 := by simpa [cv_lenok, cv_len] using hlen
  subst this
  obtain ⟨_, stv1, rfl, hu1, hst1⟩ := cv_relS_cons hst
  cases hu1
  obtain ⟨c1, c2⟩ := hok
  dsimp only at c1 c2
  have hn0 : ¬ u < 0 := by
    rw [Int32.lt_iff_toInt_lt]
    rw [Int32.le_iff_toInt_le] at h0
    omega
  have go := fun (q : Nat) (en : va_E) (H1 : Heap) (hE : cv_relE cy sv (as ++ [q]) (bif a == 3 then cv_cl (List.replicate u.toNatClampNeg 0) else cv_ci a (List.replicate u.toNatClampNeg 0)) en) (hP1 : va_P D cl (ws ++ [(q, en)]) H1) (hD1 : va_D A (ws ++ [(q, en)])) (hS1 : va_S A s.heap H1 locs) =>
    kk (as ++ [q]) _ H1 locs ls (.ref q :: stv1) (has.trans (List.prefix_append _ _)) (cv_relH_push hH hE) hP1 hD1 hS1 (cv_relL_up (List.prefix_append _ _) hL) ⟨⟨q, by rw [← hH.1, List.getElem?_append_right (Nat.le_refl _)]; simp, rfl⟩, cv_relS_up (List.prefix_append _ _) hst1⟩
  dsimp only at go hd ⊢
  cases at0 <;> first | (exfalso; simp [cv_ak] at c2; omega) | skip
  case int =>
    cases c2
    refine va_newa (a0 := (u.toNatClampNeg, .inl fun _ => 0)) (N' := u.toNatClampNeg) hx hb (hts _ c1) rfl hK hP hD hS hA (fun _ => rfl) hn0 rfl (Nat.le_trans (Nat.mul_le_mul hm (show componentBytes .int ≤ 8 by decide)) (by decide)) (by rw [r1]; exact h1) (by rw [r2]; exact h2) hd fun q cA H1 hK1 hP1 hD1 hS1 => ?_
    have e : cA = cy 0 := Option.some.inj ((show s.vm.findClass _ = some cA from (hK1.2 6 (cA, .int) rfl).2).symm.trans (show s.vm.findClass _ = some (cy 0) from (hK.2 0 _ rfl).2))
    subst e
    exact go q (.inl (cy 0, u.toNatClampNeg, .inl fun _ => 0)) H1 ⟨by decide, fun _ => 0, by (simp only [List.length_replicate]) <;> rfl, fun k w hw => by rw [cv_rep hw]⟩ hP1 hD1 hS1
  case byte =>
    cases c2
    refine va_newa (a0 := (u.toNatClampNeg, .inl fun _ => 0)) (N' := u.toNatClampNeg) hx hb (hts _ c1) rfl hK hP hD hS hA (fun _ => rfl) hn0 rfl (Nat.le_trans (Nat.mul_le_mul hm (show componentBytes .byte ≤ 8 by decide)) (by decide)) (by rw [r1]; exact h1) (by rw [r2]; exact h2) hd fun q cA H1 hK1 hP1 hD1 hS1 => ?_
    have e : cA = cy 1 := Option.some.inj ((show s.vm.findClass _ = some cA from (hK1.2 6 (cA, .byte) rfl).2).symm.trans (show s.vm.findClass _ = some (cy 1) from (hK.2 1 _ rfl).2))
    subst e
    exact go q (.inl (cy 1, u.toNatClampNeg, .inl fun _ => 0)) H1 ⟨by decide, fun _ => 0, by (simp only [List.length_replicate]) <;> rfl, fun k w hw => by rw [cv_rep hw]⟩ hP1 hD1 hS1
  case boolean =>
    cases c2
    refine va_newa (a0 := (u.toNatClampNeg, .inl fun _ => 0)) (N' := u.toNatClampNeg) hx hb (hts _ c1) rfl hK hP hD hS hA (fun _ => rfl) hn0 rfl (Nat.le_trans (Nat.mul_le_mul hm (show componentBytes .boolean ≤ 8 by decide)) (by decide)) (by rw [r1]; exact h1) (by rw [r2]; exact h2) hd fun q cA H1 hK1 hP1 hD1 hS1 => ?_
    have e : cA = cy 2 := Option.some.inj ((show s.vm.findClass _ = some cA from (hK1.2 6 (cA, .boolean) rfl).2).symm.trans (show s.vm.findClass _ = some (cy 2) from (hK.2 2 _ rfl).2))
    subst e
    exact go q (.inl (cy 2, u.toNatClampNeg, .inl fun _ => 0)) H1 ⟨by decide, fun _ => 0, by (simp only [List.length_replicate]) <;> rfl, fun k w hw => by rw [cv_rep hw]⟩ hP1 hD1 hS1
  case long =>
    cases c2
    refine va_newa (a0 := (u.toNatClampNeg, .inr (.inl fun _ => 0))) (N' := u.toNatClampNeg) hx hb (hts _ c1) rfl hK hP hD hS hA (fun _ => rfl) hn0 rfl (Nat.le_trans (Nat.mul_le_mul hm (show componentBytes .long ≤ 8 by decide)) (by decide)) (by rw [r1]; exact h1) (by rw [r2]; exact h2) hd fun q cA H1 hK1 hP1 hD1 hS1 => ?_
    have e : cA = cy 3 := Option.some.inj ((show s.vm.findClass _ = some cA from (hK1.2 6 (cA, .long) rfl).2).symm.trans (show s.vm.findClass _ = some (cy 3) from (hK.2 3 _ rfl).2))
    subst e
    exact go q (.inl (cy 3, u.toNatClampNeg, .inr (.inl fun _ => 0))) H1 ⟨fun _ => 0, by (simp only [List.length_replicate]) <;> rfl, fun k w hw => by rw [cv_rep hw]⟩ hP1 hD1 hS1
theorem cv_anew_ok {pc len a b : Nat} {z : Int} {L : cv_L} {st : List cv_V} {h : cv_H} {cN sN : Nat} {i : Nat} {u : Int32} (C0 : cv_Cx Ts cl D cy A sv X M p R s m args meth c) (ok : cv_ok Ts cl mt M (pc, .anewarray i, len, a, b, z)) (h0 : 0 ≤ u) (hm : u.toNatClampNeg ≤ 10000) (ha : a = 4 ∨ a = 5) (h1 : cN + 1 ≤ M.2.2.1) (h2 : sN + u.toNatClampNeg ≤ M.2.2.2.1)
    (kk : cv_Good cl D cy A sv as0 M.1.2.2.2.1 p l e R s m args below meth c Q (pc + len, L, cv_r h.length :: st, h ++ [cv_cr a (List.replicate u.toNatClampNeg none)], cN + 1, sN + u.toNatClampNeg)) : cv_Good cl D cy A sv as0 M.1.2.2.2.1 p l e R s m args below meth c Q (pc, L, cv_i u :: st, h, cN, sN) := by
  obtain ⟨hx, hb, hml, hown, hts, hr, hlk, hnm, hK, hA, hSF, r1, r2, r3, r4⟩ := C0
  obtain ⟨hd, hlen, hok⟩ := ok
  intro as ws H locs ls stv has hH hP hD hS hL hst
  have : len = 3 := by simpa [cv_lenok, cv_len] using hlen
  subst this
  obtain ⟨_, stv1, rfl, hu1, hst1⟩ := cv_relS_cons hst
  cases hu1
  have c1 := hok
  dsimp only at c1
  obtain ⟨-, -, -, -, ⟨-, -, ao1, ao2⟩, -⟩ := hSF
  have hn0 : ¬ u < 0 := by
    rw [Int32.lt_iff_toInt_lt]
    rw [Int32.le_iff_toInt_le] at h0
    omega
  have go := fun (q : Nat) (en : va_E) (H1 : Heap) (hE : cv_relE cy sv (as ++ [q]) (cv_cr a (List.replicate u.toNatClampNeg none)) en) (hP1 : va_P D cl (ws ++ [(q, en)]) H1) (hD1 : va_D A (ws ++ [(q, en)])) (hS1 : va_S A s.heap H1 locs) =>
    kk (as ++ [q]) _ H1 locs ls (.ref q :: stv1) (has.trans (List.prefix_append _ _)) (cv_relH_push hH hE) hP1 hD1 hS1 (cv_relL_up (List.prefix_append _ _) hL) ⟨⟨q, by rw [← hH.1, List.getElem?_append_right (Nat.le_refl _)]; simp, rfl⟩, cv_relS_up (List.prefix_append _ _) hst1⟩
  dsimp only at go hd ⊢
  rcases ha with rfl | rfl
  · refine va_newq (N' := u.toNatClampNeg) hx hb hown (hts _ c1) ao1 hK hP hD hS hA hn0 rfl (by omega) (by rw [r1]; exact h1) (by rw [r2]; exact h2) hd fun q cA H1 hK1 hP1 hD1 hS1 => ?_
    obtain ⟨_, _, _, _, _, w1⟩ := (hK1.2 6 (cA, .object "SagGates$Gate") rfl).2
    obtain ⟨_, _, _, _, _, w2⟩ := (hK.2 4 _ rfl).2
    have e : cA = cy 4 := Option.some.inj (w1.symm.trans w2)
    subst e
    exact go q (.inl (cy 4, u.toNatClampNeg, .inr (.inr (.inr (.inr fun _ => none))))) H1 ⟨.inl rfl, fun _ => none, by (simp only [List.length_replicate]) <;> rfl, fun k w hw => by rw [cv_rep hw]; rfl⟩ hP1 hD1 hS1
  · refine va_newq (N' := u.toNatClampNeg) hx hb hown (hts _ c1) ao2 hK hP hD hS hA hn0 rfl (by omega) (by rw [r1]; exact h1) (by rw [r2]; exact h2) hd fun q cA H1 hK1 hP1 hD1 hS1 => ?_
    obtain ⟨_, _, _, _, _, w1⟩ := (hK1.2 6 (cA, .object "SagGates$Told") rfl).2
    obtain ⟨_, _, _, _, _, w2⟩ := (hK.2 5 _ rfl).2
    have e : cA = cy 5 := Option.some.inj (w1.symm.trans w2)
    subst e
    exact go q (.inl (cy 5, u.toNatClampNeg, .inr (.inr (.inr (.inr fun _ => none))))) H1 ⟨.inr rfl, fun _ => none, by (simp only [List.length_replicate]) <;> rfl, fun k w hw => by rw [cv_rep hw]; rfl⟩ hP1 hD1 hS1
theorem cv_mmax_ok {pc len b : Nat} {z : Int} {L : cv_L} {st : List cv_V} {h : cv_H} {cN sN : Nat} {i : Nat} {x y : Int32} (C0 : cv_Cx Ts cl D cy A sv X M p R s m args meth c) (ok : cv_ok Ts cl mt M (pc, .invokestatic i, len, 9001, b, z)) (h1 : 1 ≤ M.2.2.2.2.1) (h2 : cv_wid st + 15 ≤ M.2.2.2.2.2) (h3 : cN ≤ M.2.2.1) (h4 : sN ≤ M.2.2.2.1)
    (kk : cv_Good cl D cy A sv as0 M.1.2.2.2.1 p l e R s m args below meth c Q (pc + len, L, cv_i (if x < y then y else x) :: st, h, cN, sN)) : cv_Good cl D cy A sv as0 M.1.2.2.2.1 p l e R s m args below meth c Q (pc, L, cv_i y :: cv_i x :: st, h, cN, sN) := by
  obtain ⟨hx, hb, hml, hown, hts, hr, hlk, hnm, hK, hA, hSF, r1, r2, r3, r4⟩ := C0
  obtain ⟨hsv, -⟩ := hSF
  obtain ⟨hd, hlen, hok⟩ := ok
  intro as ws H locs ls stv has hH hP hD hS hL hst
  have : len = 3 := by simpa [cv_lenok, cv_len] using hlen
  subst this
  obtain ⟨_, stv1, rfl, hy1, hst1⟩ := cv_relS_cons hst
  cases hy1
  obtain ⟨_, stv2, rfl, hx1, hst2⟩ := cv_relS_cons hst1
  cases hx1
  have hls : ls.size = M.1.2.2.2.1 := by obtain ⟨lv, g, -⟩ := hL; exact g.1
  have hw := cv_wid_ok hsv hst2
  have go := kk as ws H locs ls (_ :: stv2) has hH hP hD hS hL ⟨rfl, hst2⟩
  dsimp only at go hd hok ⊢
  obtain ⟨c1, c2, c3, c4⟩ := hok.1 rfl
  exact va_mmax hx hb (by rw [hml]; exact hls.symm) hown (hts _ c1) (hts _ c2) (hts _ c3) (hts _ c4) (by omega) (by rw [hw]; omega) (by omega) (by omega) hd go
theorem cv_mmin_ok {pc len b : Nat} {z : Int} {L : cv_L} {st : List cv_V} {h : cv_H} {cN sN : Nat} {i : Nat} {x y : Int32} (C0 : cv_Cx Ts cl D cy A sv X M p R s m args meth c) (ok : cv_ok Ts cl mt M (pc, .invokestatic i, len, 9002, b, z)) (h1 : 1 ≤ M.2.2.2.2.1) (h2 : cv_wid st + 15 ≤ M.2.2.2.2.2) (h3 : cN ≤ M.2.2.1) (h4 : sN ≤ M.2.2.2.1)
    (kk : cv_Good cl D cy A sv as0 M.1.2.2.2.1 p l e R s m args below meth c Q (pc + len, L, cv_i (if y < x then y else x) :: st, h, cN, sN)) : cv_Good cl D cy A sv as0 M.1.2.2.2.1 p l e R s m args below meth c Q (pc, L, cv_i y :: cv_i x :: st, h, cN, sN) := by
  obtain ⟨hx, hb, hml, hown, hts, hr, hlk, hnm, hK, hA, hSF, r1, r2, r3, r4⟩ := C0
  obtain ⟨hsv, -⟩ := hSF
  obtain ⟨hd, hlen, hok⟩ := ok
  intro as ws H locs ls stv has hH hP hD hS hL hst
  have : len = 3 := by simpa [cv_lenok, cv_len] using hlen
  subst this
  obtain ⟨_, stv1, rfl, hy1, hst1⟩ := cv_relS_cons hst
  cases hy1
  obtain ⟨_, stv2, rfl, hx1, hst2⟩ := cv_relS_cons hst1
  cases hx1
  have hls : ls.size = M.1.2.2.2.1 := by obtain ⟨lv, g, -⟩ := hL; exact g.1
  have hw := cv_wid_ok hsv hst2
  have go := kk as ws H locs ls (_ :: stv2) has hH hP hD hS hL ⟨rfl, hst2⟩
  dsimp only at go hd hok ⊢
  obtain ⟨c1, c2, c3, c4⟩ := hok.2.1 rfl
  exact va_mmin hx hb (by rw [hml]; exact hls.symm) hown (hts _ c1) (hts _ c2) (hts _ c3) (hts _ c4) (by omega) (by rw [hw]; omega) (by omega) (by omega) hd go
theorem cv_mabs_ok {pc len b : Nat} {z : Int} {L : cv_L} {st : List cv_V} {h : cv_H} {cN sN : Nat} {i : Nat} {x  : Int32} (C0 : cv_Cx Ts cl D cy A sv X M p R s m args meth c) (ok : cv_ok Ts cl mt M (pc, .invokestatic i, len, 9003, b, z)) (h1 : 1 ≤ M.2.2.2.2.1) (h2 : cv_wid st + 15 ≤ M.2.2.2.2.2) (h3 : cN ≤ M.2.2.1) (h4 : sN ≤ M.2.2.2.1)
    (kk : cv_Good cl D cy A sv as0 M.1.2.2.2.1 p l e R s m args below meth c Q (pc + len, L, cv_i (if 0 ≤ x then x else 0 - x) :: st, h, cN, sN)) : cv_Good cl D cy A sv as0 M.1.2.2.2.1 p l e R s m args below meth c Q (pc, L, cv_i x :: st, h, cN, sN) := by
  obtain ⟨hx, hb, hml, hown, hts, hr, hlk, hnm, hK, hA, hSF, r1, r2, r3, r4⟩ := C0
  obtain ⟨hsv, -⟩ := hSF
  obtain ⟨hd, hlen, hok⟩ := ok
  intro as ws H locs ls stv has hH hP hD hS hL hst
  have : len = 3 := by simpa [cv_lenok, cv_len] using hlen
  subst this
  obtain ⟨_, stv1, rfl, hx1, hst1⟩ := cv_relS_cons hst
  cases hx1
  have hls : ls.size = M.1.2.2.2.1 := by obtain ⟨lv, g, -⟩ := hL; exact g.1
  have hw := cv_wid_ok hsv hst1
  have go := kk as ws H locs ls (_ :: stv1) has hH hP hD hS hL ⟨rfl, hst1⟩
  dsimp only at go hd hok ⊢
  obtain ⟨c1, c2, c3, c4⟩ := hok.2.2.1 rfl
  exact va_mabs hx hb (by rw [hml]; exact hls.symm) hown (hts _ c1) (hts _ c2) (hts _ c3) (hts _ c4) (by omega) (by rw [hw]; omega) (by omega) (by omega) hd go
theorem cv_mmaxL_ok {pc len b : Nat} {z : Int} {L : cv_L} {st : List cv_V} {h : cv_H} {cN sN : Nat} {i : Nat} {x y : Int64} (C0 : cv_Cx Ts cl D cy A sv X M p R s m args meth c) (ok : cv_ok Ts cl mt M (pc, .invokestatic i, len, 9004, b, z)) (h1 : 1 ≤ M.2.2.2.2.1) (h2 : cv_wid st + 15 ≤ M.2.2.2.2.2) (h3 : cN ≤ M.2.2.1) (h4 : sN ≤ M.2.2.2.1)
    (kk : cv_Good cl D cy A sv as0 M.1.2.2.2.1 p l e R s m args below meth c Q (pc + len, L, cv_l (if y < x then x else y) :: st, h, cN, sN)) : cv_Good cl D cy A sv as0 M.1.2.2.2.1 p l e R s m args below meth c Q (pc, L, cv_l y :: cv_l x :: st, h, cN, sN) := by
  obtain ⟨hx, hb, hml, hown, hts, hr, hlk, hnm, hK, hA, hSF, r1, r2, r3, r4⟩ := C0
  obtain ⟨hsv, -⟩ := hSF
  obtain ⟨hd, hlen, hok⟩ := ok
  intro as ws H locs ls stv has hH hP hD hS hL hst
  have : len = 3 := by simpa [cv_lenok, cv_len] using hlen
  subst this
  obtain ⟨_, stv1, rfl, hy1, hst1⟩ := cv_relS_cons hst
  cases hy1
  obtain ⟨_, stv2, rfl, hx1, hst2⟩ := cv_relS_cons hst1
  cases hx1
  have hls : ls.size = M.1.2.2.2.1 := by obtain ⟨lv, g, -⟩ := hL; exact g.1
  have hw := cv_wid_ok hsv hst2
  have go := kk as ws H locs ls (_ :: stv2) has hH hP hD hS hL ⟨rfl, hst2⟩
  dsimp only at go hd hok ⊢
  obtain ⟨c1, c2, c3, c4⟩ := hok.2.2.2.1 rfl
  exact va_mmax_long hx hb (by rw [hml]; exact hls.symm) hown (hts _ c1) (hts _ c2) (hts _ c3) (hts _ c4) (by omega) (by rw [hw]; omega) (by omega) (by omega) hd go
theorem cv_mminL_ok {pc len b : Nat} {z : Int} {L : cv_L} {st : List cv_V} {h : cv_H} {cN sN : Nat} {i : Nat} {x y : Int64} (C0 : cv_Cx Ts cl D cy A sv X M p R s m args meth c) (ok : cv_ok Ts cl mt M (pc, .invokestatic i, len, 9005, b, z)) (h1 : 1 ≤ M.2.2.2.2.1) (h2 : cv_wid st + 15 ≤ M.2.2.2.2.2) (h3 : cN ≤ M.2.2.1) (h4 : sN ≤ M.2.2.2.1)
    (kk : cv_Good cl D cy A sv as0 M.1.2.2.2.1 p l e R s m args below meth c Q (pc + len, L, cv_l (if y < x then y else x) :: st, h, cN, sN)) : cv_Good cl D cy A sv as0 M.1.2.2.2.1 p l e R s m args below meth c Q (pc, L, cv_l y :: cv_l x :: st, h, cN, sN) := by
  obtain ⟨hx, hb, hml, hown, hts, hr, hlk, hnm, hK, hA, hSF, r1, r2, r3, r4⟩ := C0
  obtain ⟨hsv, -⟩ := hSF
  obtain ⟨hd, hlen, hok⟩ := ok
  intro as ws H locs ls stv has hH hP hD hS hL hst
  have : len = 3 := by simpa [cv_lenok, cv_len] using hlen
  subst this
  obtain ⟨_, stv1, rfl, hy1, hst1⟩ := cv_relS_cons hst
  cases hy1
  obtain ⟨_, stv2, rfl, hx1, hst2⟩ := cv_relS_cons hst1
  cases hx1
  have hls : ls.size = M.1.2.2.2.1 := by obtain ⟨lv, g, -⟩ := hL; exact g.1
  have hw := cv_wid_ok hsv hst2
  have go := kk as ws H locs ls (_ :: stv2) has hH hP hD hS hL ⟨rfl, hst2⟩
  dsimp only at go hd hok ⊢
  obtain ⟨c1, c2, c3, c4⟩ := hok.2.2.2.2.1 rfl
  exact va_mmin_long hx hb (by rw [hml]; exact hls.symm) hown (hts _ c1) (hts _ c2) (hts _ c3) (hts _ c4) (by omega) (by rw [hw]; omega) (by omega) (by omega) hd go
theorem cv_mabsL_ok {pc len b : Nat} {z : Int} {L : cv_L} {st : List cv_V} {h : cv_H} {cN sN : Nat} {i : Nat} {x  : Int64} (C0 : cv_Cx Ts cl D cy A sv X M p R s m args meth c) (ok : cv_ok Ts cl mt M (pc, .invokestatic i, len, 9006, b, z)) (h1 : 1 ≤ M.2.2.2.2.1) (h2 : cv_wid st + 15 ≤ M.2.2.2.2.2) (h3 : cN ≤ M.2.2.1) (h4 : sN ≤ M.2.2.2.1)
    (kk : cv_Good cl D cy A sv as0 M.1.2.2.2.1 p l e R s m args below meth c Q (pc + len, L, cv_l (if 0 < x then x else -x) :: st, h, cN, sN)) : cv_Good cl D cy A sv as0 M.1.2.2.2.1 p l e R s m args below meth c Q (pc, L, cv_l x :: st, h, cN, sN) := by
  obtain ⟨hx, hb, hml, hown, hts, hr, hlk, hnm, hK, hA, hSF, r1, r2, r3, r4⟩ := C0
  obtain ⟨hsv, -⟩ := hSF
  obtain ⟨hd, hlen, hok⟩ := ok
  intro as ws H locs ls stv has hH hP hD hS hL hst
  have : len = 3 := by simpa [cv_lenok, cv_len] using hlen
  subst this
  obtain ⟨_, stv1, rfl, hx1, hst1⟩ := cv_relS_cons hst
  cases hx1
  have hls : ls.size = M.1.2.2.2.1 := by obtain ⟨lv, g, -⟩ := hL; exact g.1
  have hw := cv_wid_ok hsv hst1
  have go := kk as ws H locs ls (_ :: stv1) has hH hP hD hS hL ⟨rfl, hst1⟩
  dsimp only at go hd hok ⊢
  obtain ⟨c1, c2, c3, c4⟩ := hok.2.2.2.2.2.1 rfl
  exact va_mabs_long hx hb (by rw [hml]; exact hls.symm) hown (hts _ c1) (hts _ c2) (hts _ c3) (hts _ c4) (by omega) (by rw [hw]; omega) (by omega) (by omega) hd go
theorem cv_obj_ok {pc len b : Nat} {z : Int} {L : cv_L} {st : List cv_V} {h : cv_H} {cN sN : Nat} {i k : Nat} (C0 : cv_Cx Ts cl D cy A sv X M p R s m args meth c) (ok : cv_ok Ts cl mt M (pc, .invokespecial i, len, 9999, b, z)) (h1 : 1 ≤ M.2.2.2.2.1) (h2 : cv_wid st + 12 ≤ M.2.2.2.2.2) (h3 : cN ≤ M.2.2.1) (h4 : sN ≤ M.2.2.2.1)
    (kk : cv_Good cl D cy A sv as0 M.1.2.2.2.1 p l e R s m args below meth c Q (pc + len, L, st, h, cN, sN)) : cv_Good cl D cy A sv as0 M.1.2.2.2.1 p l e R s m args below meth c Q (pc, L, cv_r k :: st, h, cN, sN) := by
  obtain ⟨hx, hb, hml, hown, hts, hr, hlk, hnm, hK, hA, hSF, r1, r2, r3, r4⟩ := C0
  obtain ⟨hsv, -⟩ := hSF
  obtain ⟨hd, hlen, hok⟩ := ok
  intro as ws H locs ls stv has hH hP hD hS hL hst
  have : len = 3 := by simpa [cv_lenok, cv_len] using hlen
  subst this
  obtain ⟨_, stv1, rfl, ⟨ad, had, rfl⟩, hst1⟩ := cv_relS_cons hst
  obtain ⟨c1, c2, c3⟩ := hok.1 rfl
  have hls : ls.size = M.1.2.2.2.1 := by obtain ⟨lv, g, -⟩ := hL; exact g.1
  have hw := cv_wid_ok hsv hst1
  exact W.objInit hx hb hown (hts _ c1) (hts _ c2) (hts _ c3) rfl (by rw [hml]; exact hls) rfl hd (by omega) (by show 2 * 0 + _ + 12 ≤ _; rw [hw]; omega) (kk as ws H locs ls stv1 has hH hP hD hS hL hst1)
end CVR
end
