/-! ===== rows at frames of the small machine: what is made; natives ===== -/
def cv_dv (t : Nat) : Value := match t with
  | 3 => .long 0
  | 4 => .null
  | 5 => .null
  | _ => .int 0
theorem cv_dv_ok {sv : Nat → Value} {as : List Nat} {t : Nat} (h : t ≤ 4) : cv_dn sv as (cv_dfl t) (cv_dv t) := by
  match t, h with
  | 0, _ => exact rfl
  | 1, _ => exact rfl
  | 2, _ => exact rfl
  | 3, _ => exact rfl
  | 4, _ => exact rfl
theorem cv_dv_ty {ty : FieldType} (h : cv_kd ty ≤ 4) : defaultValue ty = cv_dv (cv_kd ty) := by
  cases ty <;> first | rfl | (simp [cv_kd] at h)
theorem cv_rep {α : Type} {n k : Nat} {x y : α} (h : (List.replicate n x)[k]? = some y) : y = x := by
  rw [List.getElem?_replicate] at h
  split at h
  · cases h; rfl
  · cases h
section CVR
variable {Ts : List Jvm.Cond} {cl : List vw_C} {D : va_G} {cy : Nat → ClassId} {A : Nat → Prop} {sv : Nat → Value} {as0 : List Nat} {X : cv_X} {M : cv_M} {mt : Nat → cv_M} {F : cv_F} {p : Program} {l : Launch} {e : Env} {R : Room} {s : State} {m : MethodId} {args : Array Value} {below : List Frame} {meth : Method} {c : Code} {Q : State → Prop}
theorem cv_new_ok {pc len a b : Nat} {z : Int} {L : cv_L} {st : List cv_V} {h : cv_H} {cN sN : Nat} {i : Nat} {ks : List Nat} (C0 : cv_Cx Ts cl D cy A sv X M p R s m args meth c) (hcls : cv_cls Ts cl F) (ok : cv_ok Ts cl mt M (pc, .new i, len, a, b, z)) (hks : F[a]? = some ks) (h1 : cN + 1 ≤ M.2.2.1) (h2 : sN + ks.length ≤ M.2.2.2.1)
    (kk : cv_Good cl D cy A sv as0 M.1.2.2.2.1 p l e R s m args below meth c Q (pc + len, L, cv_r h.length :: st, h ++ [cv_co a (ks.map cv_dfl)], cN + 1, sN + ks.length)) : cv_Good cl D cy A sv as0 M.1.2.2.2.1 p l e R s m args below meth c Q (pc, L, st, h, cN, sN) := by
  obtain ⟨hx, hb, hml, hown, hts, hr, hlk, hnm, hK, hA, hSF, r1, r2, r3, r4⟩ := C0
  obtain ⟨hd, hlen, hok⟩ := ok
  intro as ws H locs ls stv has hH hP hD hS hL hst
  have : len = 3 := by simpa [cv_lenok, cv_len] using hlen
  subst this
  obtain ⟨C, T, N, c1, c2, c3, c4⟩ := hok
  dsimp only at c1 c2 c3 c4
  obtain ⟨k1, k2, ty, ks', k3, k4, k5, k6⟩ := hcls a C T N c1
  cases hks.symm.trans k4
  have hfs : ∀ j, j < N → defaultValue (ty j) = vp_V (ks.map cv_dv) j := by
    intro j hj
    obtain ⟨q1, q2, -⟩ := k6 j hj
    rw [cv_dv_ty q2]
    unfold vp_V
    rw [List.getD_eq_getElem?_getD, List.getElem?_map, q1]
    rfl
  subst k5
  refine va_new hx hb hts k1 ty k3 hown (hts _ c2) (hts _ c3) (hts _ c4) hK hP hD hS hA c1 hfs (by rw [r1]; exact h1) (by rw [r2]; exact h2) hd fun q H1 hP1 hD1 hS1 => ?_
  have hpre : as <+: as ++ [q] := List.prefix_append _ _
  refine kk (as ++ [q]) _ H1 locs ls (.ref q :: stv) (has.trans hpre) (cv_relH_push hH (e := .inr (a, ks.map cv_dv)) ?_) hP1 hD1 hS1 (cv_relL_up hpre hL) ⟨⟨q, ?_, rfl⟩, cv_relS_up hpre hst⟩
  · refine ⟨_, rfl, by simp, fun j w hw => ?_⟩
    rw [List.getElem?_map] at hw ⊢
    cases hkj : ks[j]? with
    | none => rw [hkj] at hw; cases hw
    | some t =>
      rw [hkj] at hw
      cases hw
      have hjl := (List.getElem?_eq_some_iff.mp hkj).1
      obtain ⟨q1, q2, -⟩ := k6 j hjl
      cases hkj.symm.trans q1
      exact ⟨_, rfl, cv_dv_ok q2⟩
  · rw [← hH.1, List.getElem?_append_right (Nat.le_refl _)]
    simp
theorem cv_newa_ok {pc len a b : Nat} {z : Int} {L : cv_L} {st : List cv_V} {h : cv_H} {cN sN : Nat} {at0 : ArrayType} {u : Int32} (C0 : cv_Cx Ts cl D cy A sv X M p R s m args meth c) (ok : cv_ok Ts cl mt M (pc, .newarray at0, len, a, b, z)) (h0 : 0 ≤ u) (hm : u.toNatClampNeg ≤ 10000) (ha : a ≤ 3) (h1 : cN + 1 ≤ M.2.2.1) (h2 : sN + u.toNatClampNeg ≤ M.2.2.2.1)
    (kk : cv_Good cl D cy A sv as0 M.1.2.2.2.1 p l e R s m args below meth c Q (pc + len, L, cv_r h.length :: st, h ++ [bif a == 3 then cv_cl (List.replicate u.toNatClampNeg 0) else cv_ci a (List.replicate u.toNatClampNeg 0)], cN + 1, sN + u.toNatClampNeg)) : cv_Good cl D cy A sv as0 M.1.2.2.2.1 p l e R s m args below meth c Q (pc, L, cv_i u :: st, h, cN, sN) := by
  obtain ⟨hx, hb, hml, hown, hts, hr, hlk, hnm, hK, hA, hSF, r1, r2, r3, r4⟩ := C0
  obtain ⟨hd, hlen, hok⟩ := ok
  intro as ws H locs ls stv has hH hP hD hS hL hst
  have : len = 2 := by simpa [cv_lenok, cv_len] using hlen
  subst this
  obtain ⟨_, stv1, rfl, hu1, hst1⟩ := cv_relS_cons hst
  cases hu1
  obtain ⟨c1, c2⟩ := hok
  dsimp only at c1 c2
  have hn0 : ¬ u < 0 := by
    rw [Int32.lt_iff_toInt_lt]
    rw [Int32.le_iff_toInt_le] at h0
    omega
  have go := fun (q : Nat) (en : va_E) (H1 : Heap) (hE : cv_relE cy sv (as ++ [q]) (bif a == 3 then cv_cl (List.replicate u.toNatClampNeg 0) else cv_ci a (List.replicate u.toNatClampNeg 0)) en) (hP1 : va_P D cl (ws ++ [(q, en)]) H1) (hD1 : va_D A (ws ++ [(q, en)])) (hS1 : va_S A s.heap H1 locs) =>
    kk (as ++ [q]) _ H1 locs ls (.ref q :: stv1) (has.trans (List.prefix_append _ _)) (cv_relH_push hH hE) hP1 hD1 hS1 (cv_relL_up (List.prefix_append _ _) hL) ⟨⟨q, by rw [← hH.1, List.getElem?_append_right (Nat.le_refl _)]; simp, rfl⟩, cv_relS_up (List.prefix_append _ _) hst1⟩
  dsimp only at go hd ⊢
  cases at0 <;> first | (exfalso; simp [cv_ak] at c2; omega) | skip
  case int =>
    cases c2
    refine va_newa (a0 := (u.toNatClampNeg, .inl fun _ => 0)) (N' := u.toNatClampNeg) hx hb (hts _ c1) rfl hK hP hD hS hA (fun _ => rfl) hn0 rfl (Nat.le_trans (Nat.mul_le_mul hm (show componentBytes .int ≤ 8 by decide)) (by decide)) (by rw [r1]; exact h1) (by rw [r2]; exact h2) hd fun q cA H1 hK1 hP1 hD1 hS1 => ?_
    have e : cA = cy 0 := Option.some.inj ((show s.vm.findClass _ = some cA from (hK1.2 6 (cA, .int) rfl).2).symm.trans (show s.vm.findClass _ = some (cy 0) from (hK.2 0 _ rfl).2))
    subst e
    exact go q (.inl (cy 0, u.toNatClampNeg, .inl fun _ => 0)) H1 ⟨by decide, fun _ => 0, by (simp only [List.length_replicate]) <;> rfl, fun k w hw => by rw [cv_rep hw]⟩ hP1 hD1 hS1
  case byte =>
    cases c2
    refine va_newa (a0 := (u.toNatClampNeg, .inl fun _ => 0)) (N' := u.toNatClampNeg) hx hb (hts _ c1) rfl hK hP hD hS hA (fun _ => rfl) hn0 rfl (Nat.le_trans (Nat.mul_le_mul hm (show componentBytes .byte ≤ 8 by decide)) (by decide)) (by rw [r1]; exact h1) (by rw [r2]; exact h2) hd fun q cA H1 hK1 hP1 hD1 hS1 => ?_
    have e : cA = cy 1 := Option.some.inj ((show s.vm.findClass _ = some cA from (hK1.2 6 (cA, .byte) rfl).2).symm.trans (show s.vm.findClass _ = some (cy 1) from (hK.2 1 _ rfl).2))
    subst e
    exact go q (.inl (cy 1, u.toNatClampNeg, .inl fun _ => 0)) H1 ⟨by decide, fun _ => 0, by (simp only [List.length_replicate]) <;> rfl, fun k w hw => by rw [cv_rep hw]⟩ hP1 hD1 hS1
  case boolean =>
    cases c2
    refine va_newa (a0 := (u.toNatClampNeg, .inl fun _ => 0)) (N' := u.toNatClampNeg) hx hb (hts _ c1) rfl hK hP hD hS hA (fun _ => rfl) hn0 rfl (Nat.le_trans (Nat.mul_le_mul hm (show componentBytes .boolean ≤ 8 by decide)) (by decide)) (by rw [r1]; exact h1) (by rw [r2]; exact h2) hd fun q cA H1 hK1 hP1 hD1 hS1 => ?_
    have e : cA = cy 2 := Option.some.inj ((show s.vm.findClass _ = some cA from (hK1.2 6 (cA, .boolean) rfl).2).symm.trans (show s.vm.findClass _ = some (cy 2) from (hK.2 2 _ rfl).2))
    subst e
    exact go q (.inl (cy 2, u.toNatClampNeg, .inl fun _ => 0)) H1 ⟨by decide, fun _ => 0, by (simp only [List.length_replicate]) <;> rfl, fun k w hw => by rw [cv_rep hw]⟩ hP1 hD1 hS1
  case long =>
    cases c2
    refine va_newa (a0 := (u.toNatClampNeg, .inr (.inl fun _ => 0))) (N' := u.toNatClampNeg) hx hb (hts _ c1) rfl hK hP hD hS hA (fun _ => rfl) hn0 rfl (Nat.le_trans (Nat.mul_le_mul hm (show componentBytes .long ≤ 8 by decide)) (by decide)) (by rw [r1]; exact h1) (by rw [r2]; exact h2) hd fun q cA H1 hK1 hP1 hD1 hS1 => ?_
    have e : cA = cy 3 := Option.some.inj ((show s.vm.findClass _ = some cA from (hK1.2 6 (cA, .long) rfl).2).symm.trans (show s.vm.findClass _ = some (cy 3) from (hK.2 3 _ rfl).2))
    subst e
    exact go q (.inl (cy 3, u.toNatClampNeg, .inr (.inl fun _ => 0))) H1 ⟨fun _ => 0, by (simp only [List.length_replicate]) <;> rfl, fun k w hw => by rw [cv_rep hw]⟩ hP1 hD1 hS1
theorem cv_anew_ok {pc len a b : Nat} {z : Int} {L : cv_L} {st : List cv_V} {h : cv_H} {cN sN : Nat} {i : Nat} {u : Int32} (C0 : cv_Cx Ts cl D cy A sv X M p R s m args meth c) (ok : cv_ok Ts cl mt M (pc, .anewarray i, len, a, b, z)) (h0 : 0 ≤ u) (hm : u.toNatClampNeg ≤ 10000) (ha : a = 4 ∨ a = 5) (h1 : cN + 1 ≤ M.2.2.1) (h2 : sN + u.toNatClampNeg ≤ M.2.2.2.1)
    (kk : cv_Good cl D cy A sv as0 M.1.2.2.2.1 p l e R s m args below meth c Q (pc + len, L, cv_r h.length :: st, h ++ [cv_cr a (List.replicate u.toNatClampNeg none)], cN + 1, sN + u.toNatClampNeg)) : cv_Good cl D cy A sv as0 M.1.2.2.2.1 p l e R s m args below meth c Q (pc, L, cv_i u :: st, h, cN, sN) := by
  obtain ⟨hx, hb, hml, hown, hts, hr, hlk, hnm, hK, hA, hSF, r1, r2, r3, r4⟩ := C0
  obtain ⟨hd, hlen, hok⟩ := ok
  intro as ws H locs ls stv has hH hP hD hS hL hst
  have : len = 3 := by simpa [cv_lenok, cv_len] using hlen
  subst this
  obtain ⟨_, stv1, rfl, hu1, hst1⟩ := cv_relS_cons hst
  cases hu1
  have c1 := hok
  dsimp only at c1
  obtain ⟨-, -, -, -, ⟨-, -, ao1, ao2⟩, -⟩ := hSF
  have hn0 : ¬ u < 0 := by
    rw [Int32.lt_iff_toInt_lt]
    rw [Int32.le_iff_toInt_le] at h0
    omega
  have go := fun (q : Nat) (en : va_E) (H1 : Heap) (hE : cv_relE cy sv (as ++ [q]) (cv_cr a (List.replicate u.toNatClampNeg none)) en) (hP1 : va_P D cl (ws ++ [(q, en)]) H1) (hD1 : va_D A (ws ++ [(q, en)])) (hS1 : va_S A s.heap H1 locs) =>
    kk (as ++ [q]) _ H1 locs ls (.ref q :: stv1) (has.trans (List.prefix_append _ _)) (cv_relH_push hH hE) hP1 hD1 hS1 (cv_relL_up (List.prefix_append _ _) hL) ⟨⟨q, by rw [← hH.1, List.getElem?_append_right (Nat.le_refl _)]; simp, rfl⟩, cv_relS_up (List.prefix_append _ _) hst1⟩
  dsimp only at go hd ⊢
  rcases ha with rfl | rfl
  · refine va_newq (N' := u.toNatClampNeg) hx hb hown (hts _ c1) ao1 hK hP hD hS hA hn0 rfl (by omega) (by rw [r1]; exact h1) (by rw [r2]; exact h2) hd fun q cA H1 hK1 hP1 hD1 hS1 => ?_
    obtain ⟨_, _, _, _, _, w1⟩ := (hK1.2 6 (cA, .object "SagGates$Gate") rfl).2
    obtain ⟨_, _, _, _, _, w2⟩ := (hK.2 4 _ rfl).2
    have e : cA = cy 4 := Option.some.inj (w1.symm.trans w2)
    subst e
    exact go q (.inl (cy 4, u.toNatClampNeg, .inr (.inr (.inr (.inr fun _ => none))))) H1 ⟨.inl rfl, fun _ => none, by (simp only [List.length_replicate]) <;> rfl, fun k w hw => by rw [cv_rep hw]; rfl⟩ hP1 hD1 hS1
  · refine va_newq (N' := u.toNatClampNeg) hx hb hown (hts _ c1) ao2 hK hP hD hS hA hn0 rfl (by omega) (by rw [r1]; exact h1) (by rw [r2]; exact h2) hd fun q cA H1 hK1 hP1 hD1 hS1 => ?_
    obtain ⟨_, _, _, _, _, w1⟩ := (hK1.2 6 (cA, .object "SagGates$Told") rfl).2
    obtain ⟨_, _, _, _, _, w2⟩ := (hK.2 5 _ rfl).2
    have e : cA = cy 5 := Option.some.inj (w1.symm.trans w2)
    subst e
    exact go q (.inl (cy 5, u.toNatClampNeg, .inr (.inr (.inr (.inr fun _ => none))))) H1 ⟨.inr rfl, fun _ => none, by (simp only [List.length_replicate]) <;> rfl, fun k w hw => by rw [cv_rep hw]; rfl⟩ hP1 hD1 hS1
theorem cv_mmax_ok {pc len b : Nat} {z : Int} {L : cv_L} {st : List cv_V} {h : cv_H} {cN sN : Nat} {i : Nat} {x y : Int32} (C0 : cv_Cx Ts cl D cy A sv X M p R s m args meth c) (ok : cv_ok Ts cl mt M (pc, .invokestatic i, len, 9001, b, z)) (h1 : 1 ≤ M.2.2.2.2.1) (h2 : cv_wid st + 15 ≤ M.2.2.2.2.2) (h3 : cN ≤ M.2.2.1) (h4 : sN ≤ M.2.2.2.1)
    (kk : cv_Good cl D cy A sv as0 M.1.2.2.2.1 p l e R s m args below meth c Q (pc + len, L, cv_i (if x < y then y else x) :: st, h, cN, sN)) : cv_Good cl D cy A sv as0 M.1.2.2.2.1 p l e R s m args below meth c Q (pc, L, cv_i y :: cv_i x :: st, h, cN, sN) := by
  obtain ⟨hx, hb, hml, hown, hts, hr, hlk, hnm, hK, hA, hSF, r1, r2, r3, r4⟩ := C0
  obtain ⟨hsv, -⟩ := hSF
  obtain ⟨hd, hlen, hok⟩ := ok
  intro as ws H locs ls stv has hH hP hD hS hL hst
  have : len = 3 := by simpa [cv_lenok, cv_len] using hlen
  subst this
  obtain ⟨_, stv1, rfl, hy1, hst1⟩ := cv_relS_cons hst
  cases hy1
  obtain ⟨_, stv2, rfl, hx1, hst2⟩ := cv_relS_cons hst1
  cases hx1
  have hls : ls.size = M.1.2.2.2.1 := by obtain ⟨lv, g, -⟩ := hL; exact g.1
  have hw := cv_wid_ok hsv hst2
  have go := kk as ws H locs ls (_ :: stv2) has hH hP hD hS hL ⟨rfl, hst2⟩
  dsimp only at go hd hok ⊢
  obtain ⟨c1, c2, c3, c4⟩ := hok.1 rfl
  exact va_mmax hx hb (by rw [hml]; exact hls.symm) hown (hts _ c1) (hts _ c2) (hts _ c3) (hts _ c4) (by omega) (by rw [hw]; omega) (by omega) (by omega) hd go
theorem cv_mmin_ok {pc len b : Nat} {z : Int} {L : cv_L} {st : List cv_V} {h : cv_H} {cN sN : Nat} {i : Nat} {x y : Int32} (C0 : cv_Cx Ts cl D cy A sv X M p R s m args meth c) (ok : cv_ok Ts cl mt M (pc, .invokestatic i, len, 9002, b, z)) (h1 : 1 ≤ M.2.2.2.2.1) (h2 : cv_wid st + 15 ≤ M.2.2.2.2.2) (h3 : cN ≤ M.2.2.1) (h4 : sN ≤ M.2.2.2.1)
    (kk : cv_Good cl D cy A sv as0 M.1.2.2.2.1 p l e R s m args below meth c Q (pc + len, L, cv_i (if y < x then y else x) :: st, h, cN, sN)) : cv_Good cl D cy A sv as0 M.1.2.2.2.1 p l e R s m args below meth c Q (pc, L, cv_i y :: cv_i x :: st, h, cN, sN) := by
  obtain ⟨hx, hb, hml, hown, hts, hr, hlk, hnm, hK, hA, hSF, r1, r2, r3, r4⟩ := C0
  obtain ⟨hsv, -⟩ := hSF
  obtain ⟨hd, hlen, hok⟩ := ok
  intro as ws H locs ls stv has hH hP hD hS hL hst
  have : len = 3 := by simpa [cv_lenok, cv_len] using hlen
  subst this
  obtain ⟨_, stv1, rfl, hy1, hst1⟩ := cv_relS_cons hst
  cases hy1
  obtain ⟨_, stv2, rfl, hx1, hst2⟩ := cv_relS_cons hst1
  cases hx1
  have hls : ls.size = M.1.2.2.2.1 := by obtain ⟨lv, g, -⟩ := hL; exact g.1
  have hw := cv_wid_ok hsv hst2
  have go := kk as ws H locs ls (_ :: stv2) has hH hP hD hS hL ⟨rfl, hst2⟩
  dsimp only at go hd hok ⊢
  obtain ⟨c1, c2, c3, c4⟩ := hok.2.1 rfl
  exact va_mmin hx hb (by rw [hml]; exact hls.symm) hown (hts _ c1) (hts _ c2) (hts _ c3) (hts _ c4) (by omega) (by rw [hw]; omega) (by omega) (by omega) hd go
theorem cv_mabs_ok {pc len b : Nat} {z : Int} {L : cv_L} {st : List cv_V} {h : cv_H} {cN sN : Nat} {i : Nat} {x  : Int32} (C0 : cv_Cx Ts cl D cy A sv X M p R s m args meth c) (ok : cv_ok Ts cl mt M (pc, .invokestatic i, len, 9003, b, z)) (h1 : 1 ≤ M.2.2.2.2.1) (h2 : cv_wid st + 15 ≤ M.2.2.2.2.2) (h3 : cN ≤ M.2.2.1) (h4 : sN ≤ M.2.2.2.1)
    (kk : cv_Good cl D cy A sv as0 M.1.2.2.2.1 p l e R s m args below meth c Q (pc + len, L, cv_i (if 0 ≤ x then x else 0 - x) :: st, h, cN, sN)) : cv_Good cl D cy A sv as0 M.1.2.2.2.1 p l e R s m args below meth c Q (pc, L, cv_i x :: st, h, cN, sN) := by
  obtain ⟨hx, hb, hml, hown, hts, hr, hlk, hnm, hK, hA, hSF, r1, r2, r3, r4⟩ := C0
  obtain ⟨hsv, -⟩ := hSF
  obtain ⟨hd, hlen, hok⟩ := ok
  intro as ws H locs ls stv has hH hP hD hS hL hst
  have : len = 3 := by simpa [cv_lenok, cv_len] using hlen
  subst this
  obtain ⟨_, stv1, rfl, hx1, hst1⟩ := cv_relS_cons hst
  cases hx1
  have hls : ls.size = M.1.2.2.2.1 := by obtain ⟨lv, g, -⟩ := hL; exact g.1
  have hw := cv_wid_ok hsv hst1
  have go := kk as ws H locs ls (_ :: stv1) has hH hP hD hS hL ⟨rfl, hst1⟩
  dsimp only at go hd hok ⊢
  obtain ⟨c1, c2, c3, c4⟩ := hok.2.2.1 rfl
  exact va_mabs hx hb (by rw [hml]; exact hls.symm) hown (hts _ c1) (hts _ c2) (hts _ c3) (hts _ c4) (by omega) (by rw [hw]; omega) (by omega) (by omega) hd go
theorem cv_mmaxL_ok {pc len b : Nat} {z : Int} {L : cv_L} {st : List cv_V} {h : cv_H} {cN sN : Nat} {i : Nat} {x y : Int64} (C0 : cv_Cx Ts cl D cy A sv X M p R s m args meth c) (ok : cv_ok Ts cl mt M (pc, .invokestatic i, len, 9004, b, z)) (h1 : 1 ≤ M.2.2.2.2.1) (h2 : cv_wid st + 15 ≤ M.2.2.2.2.2) (h3 : cN ≤ M.2.2.1) (h4 : sN ≤ M.2.2.2.1)
    (kk : cv_Good cl D cy A sv as0 M.1.2.2.2.1 p l e R s m args below meth c Q (pc + len, L, cv_l (if y < x then x else y) :: st, h, cN, sN)) : cv_Good cl D cy A sv as0 M.1.2.2.2.1 p l e R s m args below meth c Q (pc, L, cv_l y :: cv_l x :: st, h, cN, sN) := by
  obtain ⟨hx, hb, hml, hown, hts, hr, hlk, hnm, hK, hA, hSF, r1, r2, r3, r4⟩ := C0
  obtain ⟨hsv, -⟩ := hSF
  obtain ⟨hd, hlen, hok⟩ := ok
  intro as ws H locs ls stv has hH hP hD hS hL hst
  have : len = 3 := by simpa [cv_lenok, cv_len] using hlen
  subst this
  obtain ⟨_, stv1, rfl, hy1, hst1⟩ := cv_relS_cons hst
  cases hy1
  obtain ⟨_, stv2, rfl, hx1, hst2⟩ := cv_relS_cons hst1
  cases hx1
  have hls : ls.size = M.1.2.2.2.1 := by obtain ⟨lv, g, -⟩ := hL; exact g.1
  have hw := cv_wid_ok hsv hst2
  have go := kk as ws H locs ls (_ :: stv2) has hH hP hD hS hL ⟨rfl, hst2⟩
  dsimp only at go hd hok ⊢
  obtain ⟨c1, c2, c3, c4⟩ := hok.2.2.2.1 rfl
  exact va_mmax_long hx hb (by rw [hml]; exact hls.symm) hown (hts _ c1) (hts _ c2) (hts _ c3) (hts _ c4) (by omega) (by rw [hw]; omega) (by omega) (by omega) hd go
theorem cv_mminL_ok {pc len b : Nat} {z : Int} {L : cv_L} {st : List cv_V} {h : cv_H} {cN sN : Nat} {i : Nat} {x y : Int64} (C0 : cv_Cx Ts cl D cy A sv X M p R s m args meth c) (ok : cv_ok Ts cl mt M (pc, .invokestatic i, len, 9005, b, z)) (h1 : 1 ≤ M.2.2.2.2.1) (h2 : cv_wid st + 15 ≤ M.2.2.2.2.2) (h3 : cN ≤ M.2.2.1) (h4 : sN ≤ M.2.2.2.1)
    (kk : cv_Good cl D cy A sv as0 M.1.2.2.2.1 p l e R s m args below meth c Q (pc + len, L, cv_l (if y < x then y else x) :: st, h, cN, sN)) : cv_Good cl D cy A sv as0 M.1.2.2.2.1 p l e R s m args below meth c Q (pc, L, cv_l y :: cv_l x :: st, h, cN, sN) := by
  obtain ⟨hx, hb, hml, hown, hts, hr, hlk, hnm, hK, hA, hSF, r1, r2, r3, r4⟩ := C0
  obtain ⟨hsv, -⟩ := hSF
  obtain ⟨hd, hlen, hok⟩ := ok
  intro as ws H locs ls stv has hH hP hD hS hL hst
  have : len = 3 := by simpa [cv_lenok, cv_len] using hlen
  subst this
  obtain ⟨_, stv1, rfl, hy1, hst1⟩ := cv_relS_cons hst
  cases hy1
  obtain ⟨_, stv2, rfl, hx1, hst2⟩ := cv_relS_cons hst1
  cases hx1
  have hls : ls.size = M.1.2.2.2.1 := by obtain ⟨lv, g, -⟩ := hL; exact g.1
  have hw := cv_wid_ok hsv hst2
  have go := kk as ws H locs ls (_ :: stv2) has hH hP hD hS hL ⟨rfl, hst2⟩
  dsimp only at go hd hok ⊢
  obtain ⟨c1, c2, c3, c4⟩ := hok.2.2.2.2.1 rfl
  exact va_mmin_long hx hb (by rw [hml]; exact hls.symm) hown (hts _ c1) (hts _ c2) (hts _ c3) (hts _ c4) (by omega) (by rw [hw]; omega) (by omega) (by omega) hd go
theorem cv_mabsL_ok {pc len b : Nat} {z : Int} {L : cv_L} {st : List cv_V} {h : cv_H} {cN sN : Nat} {i : Nat} {x  : Int64} (C0 : cv_Cx Ts cl D cy A sv X M p R s m args meth c) (ok : cv_ok Ts cl mt M (pc, .invokestatic i, len, 9006, b, z)) (h1 : 1 ≤ M.2.2.2.2.1) (h2 : cv_wid st + 15 ≤ M.2.2.2.2.2) (h3 : cN ≤ M.2.2.1) (h4 : sN ≤ M.2.2.2.1)
    (kk : cv_Good cl D cy A sv as0 M.1.2.2.2.1 p l e R s m args below meth c Q (pc + len, L, cv_l (if 0 < x then x else -x) :: st, h, cN, sN)) : cv_Good cl D cy A sv as0 M.1.2.2.2.1 p l e R s m args below meth c Q (pc, L, cv_l x :: st, h, cN, sN) := by
  obtain ⟨hx, hb, hml, hown, hts, hr, hlk, hnm, hK, hA, hSF, r1, r2, r3, r4⟩ := C0
  obtain ⟨hsv, -⟩ := hSF
  obtain ⟨hd, hlen, hok⟩ := ok
  intro as ws H locs ls stv has hH hP hD hS hL hst
  have : len = 3 := by simpa [cv_lenok, cv_len] using hlen
  subst this
  obtain ⟨_, stv1, rfl, hx1, hst1⟩ := cv_relS_cons hst
  cases hx1
  have hls : ls.size = M.1.2.2.2.1 := by obtain ⟨lv, g, -⟩ := hL; exact g.1
  have hw := cv_wid_ok hsv hst1
  have go := kk as ws H locs ls (_ :: stv1) has hH hP hD hS hL ⟨rfl, hst1⟩
  dsimp only at go hd hok ⊢
  obtain ⟨c1, c2, c3, c4⟩ := hok.2.2.2.2.2.1 rfl
  exact va_mabs_long hx hb (by rw [hml]; exact hls.symm) hown (hts _ c1) (hts _ c2) (hts _ c3) (hts _ c4) (by omega) (by rw [hw]; omega) (by omega) (by omega) hd go
theorem cv_obj_ok {pc len b : Nat} {z : Int} {L : cv_L} {st : List cv_V} {h : cv_H} {cN sN : Nat} {i k : Nat} (C0 : cv_Cx Ts cl D cy A sv X M p R s m args meth c) (ok : cv_ok Ts cl mt M (pc, .invokespecial i, len, 9999, b, z)) (h1 : 1 ≤ M.2.2.2.2.1) (h2 : cv_wid st + 12 ≤ M.2.2.2.2.2) (h3 : cN ≤ M.2.2.1) (h4 : sN ≤ M.2.2.2.1)
    (kk : cv_Good cl D cy A sv as0 M.1.2.2.2.1 p l e R s m args below meth c Q (pc + len, L, st, h, cN, sN)) : cv_Good cl D cy A sv as0 M.1.2.2.2.1 p l e R s m args below meth c Q (pc, L, cv_r k :: st, h, cN, sN) := by
  obtain ⟨hx, hb, hml, hown, hts, hr, hlk, hnm, hK, hA, hSF, r1, r2, r3, r4⟩ := C0
  obtain ⟨hsv, -⟩ := hSF
  obtain ⟨hd, hlen, hok⟩ := ok
  intro as ws H locs ls stv has hH hP hD hS hL hst
  have : len = 3 := by simpa [cv_lenok, cv_len] using hlen
  subst this
  obtain ⟨_, stv1, rfl, ⟨ad, had, rfl⟩, hst1⟩ := cv_relS_cons hst
  obtain ⟨c1, c2, c3⟩ := hok.1 rfl
  have hls : ls.size = M.1.2.2.2.1 := by obtain ⟨lv, g, -⟩ := hL; exact g.1
  have hw := cv_wid_ok hsv hst1
  exact W.objInit hx hb hown (hts _ c1) (hts _ c2) (hts _ c3) rfl (by rw [hml]; exact hls) rfl hd (by omega) (by show 2 * 0 + _ + 12 ≤ _; rw [hw]; omega) (kk as ws H locs ls stv1 has hH hP hD hS hL hst1)
end CVR
