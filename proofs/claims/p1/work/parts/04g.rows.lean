/-! ===== rows at abstract frames: what is made; Object.<init> ===== -/
def av_dv (t : Nat) : Value := match t with
  | 3 => .long 0
  | 4 => .null
  | 5 => .null
  | _ => .int 0
theorem av_dv_ok {sv : Nat → Value} {as : List Nat} {t : Nat} (h : t ≤ 4) : av_dn sv as (av_dfl t) (av_dv t) := by
  match t, h with
  | 0, _ => exact ⟨0, rfl, by decide, by decide⟩
  | 1, _ => exact ⟨0, rfl, by decide, by decide⟩
  | 2, _ => exact ⟨0, rfl, by decide, by decide⟩
  | 3, _ => exact ⟨0, rfl, by decide, by decide⟩
  | 4, _ => exact rfl
theorem av_dv_ty {ty : FieldType} (h : av_kd ty ≤ 4) : defaultValue ty = av_dv (av_kd ty) := by
  cases ty <;> first | rfl | (simp [av_kd] at h)
theorem av_rep {α : Type} {n k : Nat} {x y : α} (h : (List.replicate n x)[k]? = some y) : y = x := by
  rw [List.getElem?_replicate] at h
  split at h
  · cases h; rfl
  · cases h
section AVR
variable {Ts : List Jvm.Cond} {cl : List vw_C} {D : va_G} {cy : Nat → ClassId} {A : Nat → Prop} {sv : Nat → Value} {as0 : List Nat} {X : av_X} {M : av_M} {mt : Nat → av_M} {F : av_F} {p : Program} {l : Launch} {e : Env} {R : Room} {s : State} {m : MethodId} {args : Array Value} {below : List Frame} {meth : Method} {c : Code} {Q : State → Prop}
theorem av_new_ok {pc len a b i : Nat} {z : Int} {ks : List Nat} {L : av_L} {st : List av_V} {h : av_H} {cN sN : Nat} (C0 : av_Cx Ts cl D cy A sv X M p R s m args meth c) (hcls : av_cls Ts cl F) (ok : av_ok Ts cl mt M (pc, .new i, len, a, b, z)) (hks : F[a]? = some ks) (h1 : cN + 1 ≤ M.2.2.1) (h2 : sN + ks.length ≤ M.2.2.2.1)
    (kk : av_Good cl D cy A sv as0 M.1.2.2.2.1 p l e R s m args below meth c Q (pc + len, L, av_r h.length :: st, h ++ [.inr (a, ks.map av_dfl)], cN + 1, sN + ks.length)) : av_Good cl D cy A sv as0 M.1.2.2.2.1 p l e R s m args below meth c Q (pc, L, st, h, cN, sN) := by
  obtain ⟨hx, hb, hml, hown, hts, hr, hlk, hnm, hK, hA, hSF, r1, r2, -⟩ := C0
  obtain ⟨hd, hlen, hok⟩ := ok
  intro as ws H locs ls stv has hH hP hD hS hL hst
  have : len = 3 := by simpa [av_lenok, av_len] using hlen
  subst this
  obtain ⟨C, T, N, c1, c2, c3, c4⟩ := hok
  dsimp only at c1 c2 c3 c4
  obtain ⟨k1, k2, ty, ks', k3, k4, k5, k6⟩ := hcls a C T N c1
  cases hks.symm.trans k4
  have hfs : ∀ j, j < N → defaultValue (ty j) = vp_V (ks.map av_dv) j := by
    intro j hj
    obtain ⟨q1, q2, -⟩ := k6 j hj
    rw [av_dv_ty q2]
    unfold vp_V
    rw [List.getD_eq_getElem?_getD, List.getElem?_map, q1]
    rfl
  subst k5
  refine va_new hx hb hts k1 ty k3 hown (hts _ c2) (hts _ c3) (hts _ c4) hK hP hD hS hA c1 hfs (by rw [r1]; exact h1) (by rw [r2]; exact h2) hd fun q H1 hP1 hD1 hS1 => ?_
  have hpre : as <+: as ++ [q] := List.prefix_append _ _
  refine kk (as ++ [q]) _ H1 locs ls (.ref q :: stv) (has.trans hpre) (av_relH_push hH (e := .inr (a, ks.map av_dv)) ?_) hP1 hD1 hS1 (av_relL_up hpre hL) ⟨⟨q, ?_, rfl⟩, av_relS_up hpre hst⟩
  · refine ⟨_, rfl, by simp, fun j w hw => ?_⟩
    rw [List.getElem?_map] at hw ⊢
    cases hkj : ks[j]? with
    | none => rw [hkj] at hw; cases hw
    | some t =>
      rw [hkj] at hw
      cases hw
      have hjl := (List.getElem?_eq_some_iff.mp hkj).1
      obtain ⟨q1, q2, -⟩ := k6 j hjl
      cases hkj.symm.trans q1
      exact ⟨_, rfl, av_dv_ok q2⟩
  · rw [← hH.1, List.getElem?_append_right (Nat.le_refl _)]
    simp
theorem av_newa_ok {pc len a b : Nat} {at0 : ArrayType} {z : Int} {u : Int × Int} {L : av_L} {st : List av_V} {h : av_H} {cN sN : Nat} (C0 : av_Cx Ts cl D cy A sv X M p R s m args meth c) (ok : av_ok Ts cl mt M (pc, .newarray at0, len, a, b, z)) (hu : u.1 = u.2) (h0 : 0 ≤ u.1) (hm : u.1 ≤ 10000) (ha : a ≤ 3) (h1 : cN + 1 ≤ M.2.2.1) (h2 : sN + u.1.toNat ≤ M.2.2.2.1)
    (kk : av_Good cl D cy A sv as0 M.1.2.2.2.1 p l e R s m args below meth c Q (pc + len, L, av_r h.length :: st, h ++ [.inl (a, List.replicate u.1.toNat (av_dfl a))], cN + 1, sN + u.1.toNat)) : av_Good cl D cy A sv as0 M.1.2.2.2.1 p l e R s m args below meth c Q (pc, L, av_i u :: st, h, cN, sN) := by
  obtain ⟨hx, hb, hml, hown, hts, hr, hlk, hnm, hK, hA, hSF, r1, r2, -⟩ := C0
  obtain ⟨hd, hlen, hok⟩ := ok
  intro as ws H locs ls stv has hH hP hD hS hL hst
  obtain ⟨_, stv1, rfl, ⟨n, rfl, hn⟩, hst1⟩ := av_relS_cons hst
  have : len = 2 := by simpa [av_lenok, av_len] using hlen
  subst this
  obtain ⟨c1, c2⟩ := hok
  dsimp only at c1 c2
  have hn0 : ¬ n < 0 := by rw [Int32.lt_iff_toInt_lt]; have : (0 : Int32).toInt = 0 := by decide
                           omega
  have hcl : n.toNatClampNeg = u.1.toNat := by rw [av_clamp]; omega
  have go := fun (q : Nat) (en : va_E) (H1 : Heap) (hE : av_relE cy sv (as ++ [q]) (.inl (a, List.replicate u.1.toNat (av_dfl a))) en) (hP1 : va_P D cl (ws ++ [(q, en)]) H1) (hD1 : va_D A (ws ++ [(q, en)])) (hS1 : va_S A s.heap H1 locs) =>
    kk (as ++ [q]) _ H1 locs ls (.ref q :: stv1) (has.trans (List.prefix_append _ _)) (av_relH_push hH hE) hP1 hD1 hS1 (av_relL_up (List.prefix_append _ _) hL) ⟨⟨q, by rw [← hH.1, List.getElem?_append_right (Nat.le_refl _)]; simp, rfl⟩, av_relS_up (List.prefix_append _ _) hst1⟩
  dsimp only at go hd ⊢
  cases at0 <;> first | (exfalso; simp [av_ak] at c2; omega) | skip
  case int =>
    cases c2
    refine va_newa (a0 := (u.1.toNat, .inl fun _ => 0)) (N' := u.1.toNat) hx hb (hts _ c1) rfl hK hP hD hS hA (fun _ => rfl) hn0 hcl (Nat.le_trans (Nat.mul_le_mul (show u.1.toNat ≤ 10000 by omega) (show componentBytes .int ≤ 8 by decide)) (by decide)) (by rw [r1]; exact h1) (by rw [r2]; exact h2) hd fun q cA H1 hK1 hP1 hD1 hS1 => ?_
    have e : cA = cy 0 := Option.some.inj ((show s.vm.findClass _ = some cA from (hK1.2 6 (cA, .int) rfl).2).symm.trans (show s.vm.findClass _ = some (cy 0) from (hK.2 0 _ rfl).2))
    subst e
    exact go q (.inl (cy 0, u.1.toNat, .inl fun _ => 0)) H1 (.inl ⟨by decide, fun _ => 0, by (simp only [List.length_replicate]) <;> rfl, fun k w hw => by rw [av_rep hw]; exact ⟨0, rfl, by decide, by decide⟩⟩) hP1 hD1 hS1
  case byte =>
    cases c2
    refine va_newa (a0 := (u.1.toNat, .inl fun _ => 0)) (N' := u.1.toNat) hx hb (hts _ c1) rfl hK hP hD hS hA (fun _ => rfl) hn0 hcl (Nat.le_trans (Nat.mul_le_mul (show u.1.toNat ≤ 10000 by omega) (show componentBytes .byte ≤ 8 by decide)) (by decide)) (by rw [r1]; exact h1) (by rw [r2]; exact h2) hd fun q cA H1 hK1 hP1 hD1 hS1 => ?_
    have e : cA = cy 1 := Option.some.inj ((show s.vm.findClass _ = some cA from (hK1.2 6 (cA, .byte) rfl).2).symm.trans (show s.vm.findClass _ = some (cy 1) from (hK.2 1 _ rfl).2))
    subst e
    exact go q (.inl (cy 1, u.1.toNat, .inl fun _ => 0)) H1 (.inl ⟨by decide, fun _ => 0, by (simp only [List.length_replicate]) <;> rfl, fun k w hw => by rw [av_rep hw]; exact ⟨0, rfl, by decide, by decide⟩⟩) hP1 hD1 hS1
  case boolean =>
    cases c2
    refine va_newa (a0 := (u.1.toNat, .inl fun _ => 0)) (N' := u.1.toNat) hx hb (hts _ c1) rfl hK hP hD hS hA (fun _ => rfl) hn0 hcl (Nat.le_trans (Nat.mul_le_mul (show u.1.toNat ≤ 10000 by omega) (show componentBytes .boolean ≤ 8 by decide)) (by decide)) (by rw [r1]; exact h1) (by rw [r2]; exact h2) hd fun q cA H1 hK1 hP1 hD1 hS1 => ?_
    have e : cA = cy 2 := Option.some.inj ((show s.vm.findClass _ = some cA from (hK1.2 6 (cA, .boolean) rfl).2).symm.trans (show s.vm.findClass _ = some (cy 2) from (hK.2 2 _ rfl).2))
    subst e
    exact go q (.inl (cy 2, u.1.toNat, .inl fun _ => 0)) H1 (.inl ⟨by decide, fun _ => 0, by (simp only [List.length_replicate]) <;> rfl, fun k w hw => by rw [av_rep hw]; exact ⟨0, rfl, by decide, by decide⟩⟩) hP1 hD1 hS1
  case long =>
    cases c2
    refine va_newa (a0 := (u.1.toNat, .inr (.inl fun _ => 0))) (N' := u.1.toNat) hx hb (hts _ c1) rfl hK hP hD hS hA (fun _ => rfl) hn0 hcl (Nat.le_trans (Nat.mul_le_mul (show u.1.toNat ≤ 10000 by omega) (show componentBytes .long ≤ 8 by decide)) (by decide)) (by rw [r1]; exact h1) (by rw [r2]; exact h2) hd fun q cA H1 hK1 hP1 hD1 hS1 => ?_
    have e : cA = cy 3 := Option.some.inj ((show s.vm.findClass _ = some cA from (hK1.2 6 (cA, .long) rfl).2).symm.trans (show s.vm.findClass _ = some (cy 3) from (hK.2 3 _ rfl).2))
    subst e
    exact go q (.inl (cy 3, u.1.toNat, .inr (.inl fun _ => 0))) H1 (.inr (.inl ⟨rfl, fun _ => 0, by (simp only [List.length_replicate]) <;> rfl, fun k w hw => by rw [av_rep hw]; exact ⟨0, rfl, by decide, by decide⟩⟩)) hP1 hD1 hS1
theorem av_anew_ok {pc len a b i : Nat} {z : Int} {u : Int × Int} {L : av_L} {st : List av_V} {h : av_H} {cN sN : Nat} (C0 : av_Cx Ts cl D cy A sv X M p R s m args meth c) (ok : av_ok Ts cl mt M (pc, .anewarray i, len, a, b, z)) (hu : u.1 = u.2) (h0 : 0 ≤ u.1) (hm : u.1 ≤ 10000) (ha : a = 4 ∨ a = 5) (h1 : cN + 1 ≤ M.2.2.1) (h2 : sN + u.1.toNat ≤ M.2.2.2.1)
    (kk : av_Good cl D cy A sv as0 M.1.2.2.2.1 p l e R s m args below meth c Q (pc + len, L, av_r h.length :: st, h ++ [.inl (a, List.replicate u.1.toNat (.inl none))], cN + 1, sN + u.1.toNat)) : av_Good cl D cy A sv as0 M.1.2.2.2.1 p l e R s m args below meth c Q (pc, L, av_i u :: st, h, cN, sN) := by
  obtain ⟨hx, hb, hml, hown, hts, hr, hlk, hnm, hK, hA, hSF, r1, r2, -⟩ := C0
  obtain ⟨hd, hlen, hok⟩ := ok
  intro as ws H locs ls stv has hH hP hD hS hL hst
  obtain ⟨_, stv1, rfl, ⟨n, rfl, hn⟩, hst1⟩ := av_relS_cons hst
  have : len = 3 := by simpa [av_lenok, av_len] using hlen
  subst this
  have c1 := hok
  dsimp only at c1
  obtain ⟨-, -, -, -, ⟨-, ao1, ao2⟩, -⟩ := hSF
  have hn0 : ¬ n < 0 := by rw [Int32.lt_iff_toInt_lt]; have : (0 : Int32).toInt = 0 := by decide
                           omega
  have hcl : n.toNatClampNeg = u.1.toNat := by rw [av_clamp]; omega
  have go := fun (q : Nat) (en : va_E) (H1 : Heap) (hE : av_relE cy sv (as ++ [q]) (.inl (a, List.replicate u.1.toNat (.inl none))) en) (hP1 : va_P D cl (ws ++ [(q, en)]) H1) (hD1 : va_D A (ws ++ [(q, en)])) (hS1 : va_S A s.heap H1 locs) =>
    kk (as ++ [q]) _ H1 locs ls (.ref q :: stv1) (has.trans (List.prefix_append _ _)) (av_relH_push hH hE) hP1 hD1 hS1 (av_relL_up (List.prefix_append _ _) hL) ⟨⟨q, by rw [← hH.1, List.getElem?_append_right (Nat.le_refl _)]; simp, rfl⟩, av_relS_up (List.prefix_append _ _) hst1⟩
  dsimp only at go hd ⊢
  rcases ha with rfl | rfl
  · refine va_newq (N' := u.1.toNat) hx hb hown (hts _ c1) ao1 hK hP hD hS hA hn0 hcl (by omega) (by rw [r1]; exact h1) (by rw [r2]; exact h2) hd fun q cA H1 hK1 hP1 hD1 hS1 => ?_
    obtain ⟨_, _, _, _, _, w1⟩ := (hK1.2 6 (cA, .object "SagGates$Gate") rfl).2
    obtain ⟨_, _, _, _, _, w2⟩ := (hK.2 4 _ rfl).2
    have e : cA = cy 4 := Option.some.inj (w1.symm.trans w2)
    subst e
    exact go q (.inl (cy 4, u.1.toNat, .inr (.inr (.inr (.inr fun _ => none))))) H1 (.inr (.inr ⟨.inl rfl, fun _ => none, by (simp only [List.length_replicate]) <;> rfl, fun k w hw => by rw [av_rep hw]; rfl⟩)) hP1 hD1 hS1
  · refine va_newq (N' := u.1.toNat) hx hb hown (hts _ c1) ao2 hK hP hD hS hA hn0 hcl (by omega) (by rw [r1]; exact h1) (by rw [r2]; exact h2) hd fun q cA H1 hK1 hP1 hD1 hS1 => ?_
    obtain ⟨_, _, _, _, _, w1⟩ := (hK1.2 6 (cA, .object "SagGates$Told") rfl).2
    obtain ⟨_, _, _, _, _, w2⟩ := (hK.2 5 _ rfl).2
    have e : cA = cy 5 := Option.some.inj (w1.symm.trans w2)
    subst e
    exact go q (.inl (cy 5, u.1.toNat, .inr (.inr (.inr (.inr fun _ => none))))) H1 (.inr (.inr ⟨.inr rfl, fun _ => none, by (simp only [List.length_replicate]) <;> rfl, fun k w hw => by rw [av_rep hw]; rfl⟩)) hP1 hD1 hS1
theorem av_mm_ok {pc len a b i : Nat} {z : Int} {u w : Int × Int} {L : av_L} {st : List av_V} {h : av_H} {cN sN : Nat} (C0 : av_Cx Ts cl D cy A sv X M p R s m args meth c) (ok : av_ok Ts cl mt M (pc, .invokestatic i, len, a, b, z)) (ha : a = 9001 ∨ a = 9002) (h1 : 1 ≤ M.2.2.2.2.1) (h2 : av_wid st + 13 ≤ M.2.2.2.2.2) (h3 : cN ≤ M.2.2.1) (h4 : sN ≤ M.2.2.2.1)
    (kk : av_Good cl D cy A sv as0 M.1.2.2.2.1 p l e R s m args below meth c Q (pc + len, L, av_i (bif a == 9001 then av_b2 (fun x y => if x < y then y else x) u w else av_b2 (fun x y => if y < x then y else x) u w) :: st, h, cN, sN)) : av_Good cl D cy A sv as0 M.1.2.2.2.1 p l e R s m args below meth c Q (pc, L, av_i w :: av_i u :: st, h, cN, sN) := by
  obtain ⟨hx, hb, hml, hown, hts, hr, hlk, hnm, hK, hA, hSF, r1, r2, r3, r4⟩ := C0
  obtain ⟨hsv, -⟩ := hSF
  obtain ⟨hd, hlen, hok⟩ := ok
  intro as ws H locs ls stv has hH hP hD hS hL hst
  obtain ⟨_, stv1, rfl, ⟨y, rfl, hy⟩, hst1⟩ := av_relS_cons hst
  obtain ⟨_, stv2, rfl, ⟨x, rfl, hx'⟩, hst2⟩ := av_relS_cons hst1
  have : len = 3 := by simpa [av_lenok, av_len] using hlen
  subst this
  have hls : ls.size = M.1.2.2.2.1 := by obtain ⟨lv, g, -⟩ := hL; exact g.1
  have hw := av_wid_ok hsv hst2
  have go := fun x (hx : av_dn sv as (av_i (bif a == 9001 then av_b2 (fun x y => if x < y then y else x) u w else av_b2 (fun x y => if y < x then y else x) u w)) x) => kk as ws H locs ls (x :: stv2) has hH hP hD hS hL ⟨hx, hst2⟩
  dsimp only at go hd hok ⊢
  rcases ha with rfl | rfl
  · obtain ⟨c1, c2, c3, c4⟩ := hok.1 rfl
    exact va_mmax hx hb (by rw [hml]; exact hls.symm) hown (hts _ c1) (hts _ c2) (hts _ c3) (hts _ c4) (by omega) (by rw [hw]; omega) (by omega) (by omega) hd (go _ ⟨_, rfl, av_b2_ok (fun x y => if x < y then y else x) hx' hy⟩)
  · obtain ⟨c1, c2, c3, c4⟩ := hok.2.1 rfl
    exact va_mmin hx hb (by rw [hml]; exact hls.symm) hown (hts _ c1) (hts _ c2) (hts _ c3) (hts _ c4) (by omega) (by rw [hw]; omega) (by omega) (by omega) hd (go _ ⟨_, rfl, av_b2_ok (fun x y => if y < x then y else x) hx' hy⟩)
theorem av_obj_ok {pc len a b i k : Nat} {z : Int} {L : av_L} {st : List av_V} {h : av_H} {cN sN : Nat} (C0 : av_Cx Ts cl D cy A sv X M p R s m args meth c) (ok : av_ok Ts cl mt M (pc, .invokespecial i, len, a, b, z)) (ha : a = 9999) (h1 : 1 ≤ M.2.2.2.2.1) (h2 : av_wid st + 12 ≤ M.2.2.2.2.2)
    (kk : av_Good cl D cy A sv as0 M.1.2.2.2.1 p l e R s m args below meth c Q (pc + len, L, st, h, cN, sN)) : av_Good cl D cy A sv as0 M.1.2.2.2.1 p l e R s m args below meth c Q (pc, L, av_r k :: st, h, cN, sN) := by
  obtain ⟨hx, hb, hml, hown, hts, hr, hlk, hnm, hK, hA, hSF, r1, r2, r3, r4⟩ := C0
  obtain ⟨hsv, -⟩ := hSF
  obtain ⟨hd, hlen, hok⟩ := ok
  intro as ws H locs ls stv has hH hP hD hS hL hst
  obtain ⟨_, stv1, rfl, ⟨ad, had, rfl⟩, hst1⟩ := av_relS_cons hst
  have : len = 3 := by simpa [av_lenok, av_len] using hlen
  subst this
  obtain ⟨c1, c2, c3⟩ := hok.1 ha
  have hls : ls.size = M.1.2.2.2.1 := by obtain ⟨lv, g, -⟩ := hL; exact g.1
  have hw := av_wid_ok hsv hst1
  exact W.objInit hx hb hown (hts _ c1) (hts _ c2) (hts _ c3) rfl (by rw [hml]; exact hls) rfl hd (by omega) (by show 2 * 0 + _ + 12 ≤ _; rw [hw]; omega) (kk as ws H locs ls stv1 has hH hP hD hS hL hst1)
end AVR
