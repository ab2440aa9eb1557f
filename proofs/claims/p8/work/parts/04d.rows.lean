/-! ===== rows at frames of the small machine: branches, the stack, conversions ===== -/
section CVR
variable {Ts : List Jvm.Cond} {cl : List vw_C} {D : va_G} {cy : Nat → ClassId} {A : Nat → Prop} {sv : Nat → Value} {as0 : List Nat} {X : cv_X} {M : cv_M} {mt : Nat → cv_M} {F : cv_F} {p : Program} {l : Launch} {e : Env} {R : Room} {s : State} {m : MethodId} {args : Array Value} {below : List Frame} {meth : Method} {c : Code} {Q : State → Prop}
theorem cv_jmp_ok {pc : Nat} {off : Int} (h : cv_jmp pc off = true) : (pc : Int) + off = (cv_tgt pc off : Int) := by
  simpa [cv_jmp, cv_tgt] using h
theorem cv_icmp_ok {pc len a b : Nat} {z : Int} {L : cv_L} {st : List cv_V} {h : cv_H} {cN sN : Nat} {o : Jvm.ClassFile.Cond} {off : Int} {x y : Int32} (C0 : cv_Cx Ts cl D cy A sv X M p R s m args meth c) (ok : cv_ok Ts cl mt M (pc, .if_icmp o off, len, a, b, z)) (hj : cv_jmp pc off = true)
    (kk : cv_Good cl D cy A sv as0 M.1.2.2.2.1 p l e R s m args below meth c Q ((bif cv_cmp o x y then cv_tgt pc off else pc + len), L, st, h, cN, sN)) : cv_Good cl D cy A sv as0 M.1.2.2.2.1 p l e R s m args below meth c Q (pc, L, cv_i y :: cv_i x :: st, h, cN, sN) := by
  obtain ⟨hx, hb, hml, hown, hts, hr, hlk, hnm, hK, hA, hSF, r1, r2, r3, r4⟩ := C0
  obtain ⟨hd, hlen, hok⟩ := ok
  intro as ws H locs ls stv has hH hP hD hS hL hst
  obtain ⟨_, stv1, rfl, hy1, hst1⟩ := cv_relS_cons hst
  obtain ⟨_, stv2, rfl, hx1, hst2⟩ := cv_relS_cons hst1
  cases hy1
  cases hx1
  have : len = 3 := by simpa [cv_lenok, cv_len] using hlen
  subst this
  have go := kk as ws H locs ls stv2 has hH hP hD hS hL hst2
  have ht := cv_jmp_ok hj
  dsimp only at go hd ⊢
  have kt : cv_cmp o x y = true → W p l e R s m args below meth c H locs cN sN Q (F0 m (cv_tgt pc off) ls stv2) := fun q => by rw [q] at go; exact go
  have kf : cv_cmp o x y = false → W p l e R s m args below meth c H locs cN sN Q (F0 m (pc + 3) ls stv2) := fun q => by rw [q] at go; exact go
  cases o with
  | eq => exact lv_icmp_eq hx hb hd ht (fun q => kt (by simp [cv_cmp, q])) (fun q => kf (by simp [cv_cmp, q]))
  | ne => exact lv_icmp_ne hx hb hd ht (fun q => kt (by simp [cv_cmp, q])) (fun q => kf (by simp [cv_cmp, q]))
  | lt => exact lv_icmp_lt hx hb hd ht (fun q => kt (by simpa [cv_cmp] using q)) (fun q => kf (by simpa [cv_cmp] using q))
  | ge => exact lv_icmp_ge hx hb hd ht (fun q => kt (by simpa [cv_cmp] using q)) (fun q => kf (by simpa [cv_cmp] using q))
  | gt => exact lv_icmp_gt hx hb hd ht (fun q => kt (by simpa [cv_cmp] using q)) (fun q => kf (by simpa [cv_cmp] using q))
  | le => exact lv_icmp_le hx hb hd ht (fun q => kt (by simpa [cv_cmp] using q)) (fun q => kf (by simpa [cv_cmp] using q))
theorem cv_if_ok {pc len a b : Nat} {z : Int} {L : cv_L} {st : List cv_V} {h : cv_H} {cN sN : Nat} {o : Jvm.ClassFile.Cond} {off : Int} {x  : Int32} (C0 : cv_Cx Ts cl D cy A sv X M p R s m args meth c) (ok : cv_ok Ts cl mt M (pc, .ifCond o off, len, a, b, z)) (hj : cv_jmp pc off = true)
    (kk : cv_Good cl D cy A sv as0 M.1.2.2.2.1 p l e R s m args below meth c Q ((bif cv_cmp o x 0 then cv_tgt pc off else pc + len), L, st, h, cN, sN)) : cv_Good cl D cy A sv as0 M.1.2.2.2.1 p l e R s m args below meth c Q (pc, L, cv_i x :: st, h, cN, sN) := by
  obtain ⟨hx, hb, hml, hown, hts, hr, hlk, hnm, hK, hA, hSF, r1, r2, r3, r4⟩ := C0
  obtain ⟨hd, hlen, hok⟩ := ok
  intro as ws H locs ls stv has hH hP hD hS hL hst
  obtain ⟨_, stv1, rfl, hx1, hst1⟩ := cv_relS_cons hst
  cases hx1
  have : len = 3 := by simpa [cv_lenok, cv_len] using hlen
  subst this
  have go := kk as ws H locs ls stv1 has hH hP hD hS hL hst1
  have ht := cv_jmp_ok hj
  dsimp only at go hd ⊢
  have kt : cv_cmp o x 0 = true → W p l e R s m args below meth c H locs cN sN Q (F0 m (cv_tgt pc off) ls stv1) := fun q => by rw [q] at go; exact go
  have kf : cv_cmp o x 0 = false → W p l e R s m args below meth c H locs cN sN Q (F0 m (pc + 3) ls stv1) := fun q => by rw [q] at go; exact go
  cases o with
  | eq => exact lv_if_eq hx hb hd ht (fun q => kt (by simp [cv_cmp, q])) (fun q => kf (by simp [cv_cmp, q]))
  | ne => exact lv_if_ne hx hb hd ht (fun q => kt (by simp [cv_cmp, q])) (fun q => kf (by simp [cv_cmp, q]))
  | lt => exact lv_if_lt hx hb hd ht (fun q => kt (by simpa [cv_cmp] using q)) (fun q => kf (by simpa [cv_cmp] using q))
  | ge => exact lv_if_ge hx hb hd ht (fun q => kt (by simpa [cv_cmp] using q)) (fun q => kf (by simpa [cv_cmp] using q))
  | gt => exact lv_if_gt hx hb hd ht (fun q => kt (by simpa [cv_cmp] using q)) (fun q => kf (by simpa [cv_cmp] using q))
  | le => exact lv_if_le hx hb hd ht (fun q => kt (by simpa [cv_cmp] using q)) (fun q => kf (by simpa [cv_cmp] using q))
theorem cv_goto_ok {pc len a b : Nat} {z : Int} {L : cv_L} {st : List cv_V} {h : cv_H} {cN sN : Nat} {off : Int} (C0 : cv_Cx Ts cl D cy A sv X M p R s m args meth c) (ok : cv_ok Ts cl mt M (pc, .goto off, len, a, b, z)) (hj : cv_jmp pc off = true)
    (kk : cv_Good cl D cy A sv as0 M.1.2.2.2.1 p l e R s m args below meth c Q (cv_tgt pc off, L, st, h, cN, sN)) : cv_Good cl D cy A sv as0 M.1.2.2.2.1 p l e R s m args below meth c Q (pc, L, st, h, cN, sN) := by
  obtain ⟨hx, hb, hml, hown, hts, hr, hlk, hnm, hK, hA, hSF, r1, r2, r3, r4⟩ := C0
  obtain ⟨hd, hlen, hok⟩ := ok
  intro as ws H locs ls stv has hH hP hD hS hL hst
  have : len = 3 := by simpa [cv_lenok, cv_len] using hlen
  subst this
  exact lv_goto hx hb hd (cv_jmp_ok hj) (kk as ws H locs ls stv has hH hP hD hS hL hst)
theorem cv_iinc_ok {pc len a b : Nat} {z : Int} {L : cv_L} {st : List cv_V} {h : cv_H} {cN sN : Nat} {i : Nat} {n : Int} {x : Int32} (C0 : cv_Cx Ts cl D cy A sv X M p R s m args meth c) (ok : cv_ok Ts cl mt M (pc, .iinc i n, len, a, b, z)) (hg : cv_get L i = some (cv_i x))
    (kk : cv_Good cl D cy A sv as0 M.1.2.2.2.1 p l e R s m args below meth c Q (pc + len, cv_set L i (cv_i (x + Int32.ofInt n)), st, h, cN, sN)) : cv_Good cl D cy A sv as0 M.1.2.2.2.1 p l e R s m args below meth c Q (pc, L, st, h, cN, sN) := by
  obtain ⟨hx, hb, hml, hown, hts, hr, hlk, hnm, hK, hA, hSF, r1, r2, r3, r4⟩ := C0
  obtain ⟨hsv, -⟩ := hSF
  obtain ⟨hd, hlen, hok⟩ := ok
  intro as ws H locs ls stv has hH hP hD hS hL hst
  have : len = 3 := by simpa [cv_lenok, cv_len] using hlen
  subst this
  obtain ⟨lv, g1, g2⟩ := hL
  obtain ⟨_, hx1, hm⟩ := g2 _ (cv_get_mem hg)
  cases hx1
  obtain ⟨k9, hkk⟩ := List.getElem?_of_mem hm
  have hdn : cv_dn sv as (cv_i (x + Int32.ofInt n)) (.int (x + Int32.ofInt n)) := rfl
  exact lv_iinc hx hb hd g1 hkk rfl hok rfl (fun ls' hl' => kk as ws H locs ls' stv has hH hP hD hS (cv_relL_set hsv g2 hdn hl') hst)
theorem cv_dup_ok {pc len a b : Nat} {z : Int} {L : cv_L} {st : List cv_V} {h : cv_H} {cN sN : Nat} {v : cv_V} (C0 : cv_Cx Ts cl D cy A sv X M p R s m args meth c) (ok : cv_ok Ts cl mt M (pc, .dup, len, a, b, z)) (hv : cv_isL v = false)
    (kk : cv_Good cl D cy A sv as0 M.1.2.2.2.1 p l e R s m args below meth c Q (pc + len, L, v :: v :: st, h, cN, sN)) : cv_Good cl D cy A sv as0 M.1.2.2.2.1 p l e R s m args below meth c Q (pc, L, v :: st, h, cN, sN) := by
  obtain ⟨hx, hb, hml, hown, hts, hr, hlk, hnm, hK, hA, hSF, r1, r2, r3, r4⟩ := C0
  obtain ⟨hsv, -⟩ := hSF
  obtain ⟨hd, hlen, hok⟩ := ok
  intro as ws H locs ls stv has hH hP hD hS hL hst
  have : len = 1 := by simpa [cv_lenok, cv_len] using hlen
  subst this
  obtain ⟨x, stv1, rfl, hdn, hst1⟩ := cv_relS_cons hst
  exact lv_dup hx hb hd (by rw [cv_cat hsv hdn, hv]; rfl) (kk as ws H locs ls (x :: x :: stv1) has hH hP hD hS hL ⟨hdn, hdn, hst1⟩)
theorem cv_pop_ok {pc len a b : Nat} {z : Int} {L : cv_L} {st : List cv_V} {h : cv_H} {cN sN : Nat} {v : cv_V} (C0 : cv_Cx Ts cl D cy A sv X M p R s m args meth c) (ok : cv_ok Ts cl mt M (pc, .pop, len, a, b, z)) (hv : cv_isL v = false)
    (kk : cv_Good cl D cy A sv as0 M.1.2.2.2.1 p l e R s m args below meth c Q (pc + len, L, st, h, cN, sN)) : cv_Good cl D cy A sv as0 M.1.2.2.2.1 p l e R s m args below meth c Q (pc, L, v :: st, h, cN, sN) := by
  obtain ⟨hx, hb, hml, hown, hts, hr, hlk, hnm, hK, hA, hSF, r1, r2, r3, r4⟩ := C0
  obtain ⟨hsv, -⟩ := hSF
  obtain ⟨hd, hlen, hok⟩ := ok
  intro as ws H locs ls stv has hH hP hD hS hL hst
  have : len = 1 := by simpa [cv_lenok, cv_len] using hlen
  subst this
  obtain ⟨x, stv1, rfl, hdn, hst1⟩ := cv_relS_cons hst
  exact lv_pop hx hb hd (by rw [cv_cat hsv hdn, hv]; rfl) (kk as ws H locs ls stv1 has hH hP hD hS hL hst1)
theorem cv_dup2_ok {pc len a b : Nat} {z : Int} {L : cv_L} {st : List cv_V} {h : cv_H} {cN sN : Nat} {v w : cv_V} (C0 : cv_Cx Ts cl D cy A sv X M p R s m args meth c) (ok : cv_ok Ts cl mt M (pc, .dup2, len, a, b, z)) (hv : cv_isL v = false) (hw : cv_isL w = false)
    (kk : cv_Good cl D cy A sv as0 M.1.2.2.2.1 p l e R s m args below meth c Q (pc + len, L, v :: w :: v :: w :: st, h, cN, sN)) : cv_Good cl D cy A sv as0 M.1.2.2.2.1 p l e R s m args below meth c Q (pc, L, v :: w :: st, h, cN, sN) := by
  obtain ⟨hx, hb, hml, hown, hts, hr, hlk, hnm, hK, hA, hSF, r1, r2, r3, r4⟩ := C0
  obtain ⟨hsv, -⟩ := hSF
  obtain ⟨hd, hlen, hok⟩ := ok
  intro as ws H locs ls stv has hH hP hD hS hL hst
  have : len = 1 := by simpa [cv_lenok, cv_len] using hlen
  subst this
  obtain ⟨x, stv1, rfl, hdn, hst1⟩ := cv_relS_cons hst
  obtain ⟨y, stv2, rfl, hdn2, hst2⟩ := cv_relS_cons hst1
  exact lv_dup2_11 hx hb hd (by rw [cv_cat hsv hdn, hv]; rfl) (by rw [cv_cat hsv hdn2, hw]; rfl) (kk as ws H locs ls (x :: y :: x :: y :: stv2) has hH hP hD hS hL ⟨hdn, hdn2, hdn, hdn2, hst2⟩)
theorem cv_i2c_ok {pc len a b : Nat} {z : Int} {L : cv_L} {st : List cv_V} {h : cv_H} {cN sN : Nat} {x : Int32} (C0 : cv_Cx Ts cl D cy A sv X M p R s m args meth c) (ok : cv_ok Ts cl mt M (pc, .i2c, len, a, b, z))
    (kk : cv_Good cl D cy A sv as0 M.1.2.2.2.1 p l e R s m args below meth c Q (pc + len, L, cv_i (x.toUInt32 % 65536).toInt32 :: st, h, cN, sN)) : cv_Good cl D cy A sv as0 M.1.2.2.2.1 p l e R s m args below meth c Q (pc, L, cv_i x :: st, h, cN, sN) := by
  obtain ⟨hx, hb, hml, hown, hts, hr, hlk, hnm, hK, hA, hSF, r1, r2, r3, r4⟩ := C0
  obtain ⟨hd, hlen, hok⟩ := ok
  intro as ws H locs ls stv has hH hP hD hS hL hst
  obtain ⟨_, stv1, rfl, hx1, hst1⟩ := cv_relS_cons hst
  cases hx1
  have : len = 1 := by simpa [cv_lenok, cv_len] using hlen
  subst this
  exact lv_i2c hx hb hd rfl (kk as ws H locs ls (_ :: stv1) has hH hP hD hS hL ⟨rfl, hst1⟩)
theorem cv_i2b_ok {pc len a b : Nat} {z : Int} {L : cv_L} {st : List cv_V} {h : cv_H} {cN sN : Nat} {x : Int32} (C0 : cv_Cx Ts cl D cy A sv X M p R s m args meth c) (ok : cv_ok Ts cl mt M (pc, .i2b, len, a, b, z))
    (kk : cv_Good cl D cy A sv as0 M.1.2.2.2.1 p l e R s m args below meth c Q (pc + len, L, cv_i x.toInt8.toInt32 :: st, h, cN, sN)) : cv_Good cl D cy A sv as0 M.1.2.2.2.1 p l e R s m args below meth c Q (pc, L, cv_i x :: st, h, cN, sN) := by
  obtain ⟨hx, hb, hml, hown, hts, hr, hlk, hnm, hK, hA, hSF, r1, r2, r3, r4⟩ := C0
  obtain ⟨hd, hlen, hok⟩ := ok
  intro as ws H locs ls stv has hH hP hD hS hL hst
  obtain ⟨_, stv1, rfl, hx1, hst1⟩ := cv_relS_cons hst
  cases hx1
  have : len = 1 := by simpa [cv_lenok, cv_len] using hlen
  subst this
  exact lv_i2b hx hb hd rfl (kk as ws H locs ls (_ :: stv1) has hH hP hD hS hL ⟨rfl, hst1⟩)
theorem cv_i2l_ok {pc len a b : Nat} {z : Int} {L : cv_L} {st : List cv_V} {h : cv_H} {cN sN : Nat} {x : Int32} (C0 : cv_Cx Ts cl D cy A sv X M p R s m args meth c) (ok : cv_ok Ts cl mt M (pc, .i2l, len, a, b, z))
    (kk : cv_Good cl D cy A sv as0 M.1.2.2.2.1 p l e R s m args below meth c Q (pc + len, L, cv_l x.toInt64 :: st, h, cN, sN)) : cv_Good cl D cy A sv as0 M.1.2.2.2.1 p l e R s m args below meth c Q (pc, L, cv_i x :: st, h, cN, sN) := by
  obtain ⟨hx, hb, hml, hown, hts, hr, hlk, hnm, hK, hA, hSF, r1, r2, r3, r4⟩ := C0
  obtain ⟨hd, hlen, hok⟩ := ok
  intro as ws H locs ls stv has hH hP hD hS hL hst
  obtain ⟨_, stv1, rfl, hx1, hst1⟩ := cv_relS_cons hst
  cases hx1
  have : len = 1 := by simpa [cv_lenok, cv_len] using hlen
  subst this
  exact lv_i2l hx hb hd rfl (kk as ws H locs ls (_ :: stv1) has hH hP hD hS hL ⟨rfl, hst1⟩)
theorem cv_l2i_ok {pc len a b : Nat} {z : Int} {L : cv_L} {st : List cv_V} {h : cv_H} {cN sN : Nat} {x : Int64} (C0 : cv_Cx Ts cl D cy A sv X M p R s m args meth c) (ok : cv_ok Ts cl mt M (pc, .l2i, len, a, b, z))
    (kk : cv_Good cl D cy A sv as0 M.1.2.2.2.1 p l e R s m args below meth c Q (pc + len, L, cv_i x.toInt32 :: st, h, cN, sN)) : cv_Good cl D cy A sv as0 M.1.2.2.2.1 p l e R s m args below meth c Q (pc, L, cv_l x :: st, h, cN, sN) := by
  obtain ⟨hx, hb, hml, hown, hts, hr, hlk, hnm, hK, hA, hSF, r1, r2, r3, r4⟩ := C0
  obtain ⟨hd, hlen, hok⟩ := ok
  intro as ws H locs ls stv has hH hP hD hS hL hst
  obtain ⟨_, stv1, rfl, hx1, hst1⟩ := cv_relS_cons hst
  cases hx1
  have : len = 1 := by simpa [cv_lenok, cv_len] using hlen
  subst this
  exact lv_l2i hx hb hd rfl (kk as ws H locs ls (_ :: stv1) has hH hP hD hS hL ⟨rfl, hst1⟩)
theorem cv_ineg_ok {pc len a b : Nat} {z : Int} {L : cv_L} {st : List cv_V} {h : cv_H} {cN sN : Nat} {x : Int32} (C0 : cv_Cx Ts cl D cy A sv X M p R s m args meth c) (ok : cv_ok Ts cl mt M (pc, .ineg, len, a, b, z))
    (kk : cv_Good cl D cy A sv as0 M.1.2.2.2.1 p l e R s m args below meth c Q (pc + len, L, cv_i (-x) :: st, h, cN, sN)) : cv_Good cl D cy A sv as0 M.1.2.2.2.1 p l e R s m args below meth c Q (pc, L, cv_i x :: st, h, cN, sN) := by
  obtain ⟨hx, hb, hml, hown, hts, hr, hlk, hnm, hK, hA, hSF, r1, r2, r3, r4⟩ := C0
  obtain ⟨hd, hlen, hok⟩ := ok
  intro as ws H locs ls stv has hH hP hD hS hL hst
  obtain ⟨_, stv1, rfl, hx1, hst1⟩ := cv_relS_cons hst
  cases hx1
  have : len = 1 := by simpa [cv_lenok, cv_len] using hlen
  subst this
  exact lv_ineg hx hb hd (kk as ws H locs ls (_ :: stv1) has hH hP hD hS hL ⟨rfl, hst1⟩)
theorem cv_lneg_ok {pc len a b : Nat} {z : Int} {L : cv_L} {st : List cv_V} {h : cv_H} {cN sN : Nat} {x : Int64} (C0 : cv_Cx Ts cl D cy A sv X M p R s m args meth c) (ok : cv_ok Ts cl mt M (pc, .lneg, len, a, b, z))
    (kk : cv_Good cl D cy A sv as0 M.1.2.2.2.1 p l e R s m args below meth c Q (pc + len, L, cv_l (-x) :: st, h, cN, sN)) : cv_Good cl D cy A sv as0 M.1.2.2.2.1 p l e R s m args below meth c Q (pc, L, cv_l x :: st, h, cN, sN) := by
  obtain ⟨hx, hb, hml, hown, hts, hr, hlk, hnm, hK, hA, hSF, r1, r2, r3, r4⟩ := C0
  obtain ⟨hd, hlen, hok⟩ := ok
  intro as ws H locs ls stv has hH hP hD hS hL hst
  obtain ⟨_, stv1, rfl, hx1, hst1⟩ := cv_relS_cons hst
  cases hx1
  have : len = 1 := by simpa [cv_lenok, cv_len] using hlen
  subst this
  exact lv_lneg hx hb hd (kk as ws H locs ls (_ :: stv1) has hH hP hD hS hL ⟨rfl, hst1⟩)
theorem cv_lcmp_ok {pc len a b : Nat} {z : Int} {L : cv_L} {st : List cv_V} {h : cv_H} {cN sN : Nat} {x y : Int64} (C0 : cv_Cx Ts cl D cy A sv X M p R s m args meth c) (ok : cv_ok Ts cl mt M (pc, .lcmp, len, a, b, z))
    (kk : cv_Good cl D cy A sv as0 M.1.2.2.2.1 p l e R s m args below meth c Q (pc + len, L, cv_i (lg_cmp x y) :: st, h, cN, sN)) : cv_Good cl D cy A sv as0 M.1.2.2.2.1 p l e R s m args below meth c Q (pc, L, cv_l y :: cv_l x :: st, h, cN, sN) := by
  obtain ⟨hx, hb, hml, hown, hts, hr, hlk, hnm, hK, hA, hSF, r1, r2, r3, r4⟩ := C0
  obtain ⟨hd, hlen, hok⟩ := ok
  intro as ws H locs ls stv has hH hP hD hS hL hst
  obtain ⟨_, stv1, rfl, hy1, hst1⟩ := cv_relS_cons hst
  obtain ⟨_, stv2, rfl, hx1, hst2⟩ := cv_relS_cons hst1
  cases hy1
  cases hx1
  have : len = 1 := by simpa [cv_lenok, cv_len] using hlen
  subst this
  have go := kk as ws H locs ls (.int (lg_cmp x y) :: stv2) has hH hP hD hS hL ⟨rfl, hst2⟩
  exact W.lcmp hx hb hd go
theorem cv_lshr_ok {pc len a b : Nat} {z : Int} {L : cv_L} {st : List cv_V} {h : cv_H} {cN sN : Nat} {x : Int64} {y : Int32} (C0 : cv_Cx Ts cl D cy A sv X M p R s m args meth c) (ok : cv_ok Ts cl mt M (pc, .lshr, len, a, b, z))
    (kk : cv_Good cl D cy A sv as0 M.1.2.2.2.1 p l e R s m args below meth c Q (pc + len, L, cv_l (x >>> (y.toInt64 &&& 63)) :: st, h, cN, sN)) : cv_Good cl D cy A sv as0 M.1.2.2.2.1 p l e R s m args below meth c Q (pc, L, cv_i y :: cv_l x :: st, h, cN, sN) := by
  obtain ⟨hx, hb, hml, hown, hts, hr, hlk, hnm, hK, hA, hSF, r1, r2, r3, r4⟩ := C0
  obtain ⟨hd, hlen, hok⟩ := ok
  intro as ws H locs ls stv has hH hP hD hS hL hst
  obtain ⟨_, stv1, rfl, hy1, hst1⟩ := cv_relS_cons hst
  obtain ⟨_, stv2, rfl, hx1, hst2⟩ := cv_relS_cons hst1
  cases hy1
  cases hx1
  have : len = 1 := by simpa [cv_lenok, cv_len] using hlen
  subst this
  exact lv_lshr hx hb hd rfl (kk as ws H locs ls (_ :: stv2) has hH hP hD hS hL ⟨rfl, hst2⟩)
theorem cv_table_ok {pc len a b : Nat} {z : Int} {L : cv_L} {st : List cv_V} {h : cv_H} {cN sN : Nat} {d lo hi : Int} {offs : Array Int} {x : Int32} {off : Int} (C0 : cv_Cx Ts cl D cy A sv X M p R s m args meth c) (ok : cv_ok Ts cl mt M (pc, .tableswitch d lo hi offs, len, a, b, z)) (hj : cv_jmp pc off = true) (hc : ((decide (x.toInt < lo) || decide (hi < x.toInt)) = true ∧ off = d) ∨ ((decide (x.toInt < lo) || decide (hi < x.toInt)) = false ∧ offs[(x.toInt - lo).toNat]? = some off))
    (kk : cv_Good cl D cy A sv as0 M.1.2.2.2.1 p l e R s m args below meth c Q (cv_tgt pc off, L, st, h, cN, sN)) : cv_Good cl D cy A sv as0 M.1.2.2.2.1 p l e R s m args below meth c Q (pc, L, cv_i x :: st, h, cN, sN) := by
  obtain ⟨hx, hb, hml, hown, hts, hr, hlk, hnm, hK, hA, hSF, r1, r2, r3, r4⟩ := C0
  obtain ⟨hd, hlen, hok⟩ := ok
  intro as ws H locs ls stv has hH hP hD hS hL hst
  obtain ⟨_, stv1, rfl, hx1, hst1⟩ := cv_relS_cons hst
  cases hx1
  have go := kk as ws H locs ls stv1 has hH hP hD hS hL hst1
  rcases hc with ⟨w1, rfl⟩ | ⟨w1, w2⟩
  · simp only [Bool.or_eq_true, decide_eq_true_eq] at w1
    exact lv_tableOut hx hb hd w1 (cv_jmp_ok hj) go
  · simp only [Bool.or_eq_false_iff, decide_eq_false_iff_not] at w1
    exact lv_tableIn hx hb hd w1.1 w1.2 w2 (cv_jmp_ok hj) go
end CVR
