/-! ===== rows at frames of the small machine: stores, fields ===== -/
theorem cv_set_get {α : Type} {xs : List α} {i k : Nat} {v w : α} (h : (xs.set i v)[k]? = some w) : (k = i ∧ w = v) ∨ (k ≠ i ∧ xs[k]? = some w) := by
  by_cases hk : i = k
  · subst hk
    have hlt : i < xs.length := by
      have := (List.getElem?_eq_some_iff.mp h).1
      simpa using this
    rw [List.getElem?_set_self hlt] at h
    cases h
    exact .inl ⟨rfl, rfl⟩
  · rw [List.getElem?_set_ne hk] at h
    exact .inr ⟨fun q => hk q.symm, h⟩
theorem cv_upd_ok {xs : List Int32} {f : Nat → Int32} (hf : ∀ (k : Nat) (x : Int32), xs[k]? = some x → f k = x) (i : Nat) (y : Int32) : ∀ (k : Nat) (x : Int32), (xs.set i y)[k]? = some x → upd f i y k = x := by
  intro k x hw
  rcases cv_set_get hw with ⟨rfl, rfl⟩ | ⟨q, hw⟩
  · rw [pk_us]
  · rw [pk_un q]; exact hf k x hw
theorem cv_updL_ok {xs : List Int64} {f : Nat → Int64} (hf : ∀ (k : Nat) (x : Int64), xs[k]? = some x → f k = x) (i : Nat) (y : Int64) : ∀ (k : Nat) (x : Int64), (xs.set i y)[k]? = some x → vp_updL f i y k = x := by
  intro k x hw
  unfold vp_updL
  rcases cv_set_get hw with ⟨rfl, rfl⟩ | ⟨q, hw⟩
  · rw [if_pos rfl]
  · rw [if_neg q]; exact hf k x hw
theorem cv_fit_ok {sv : Nat → Value} {as : List Nat} {ty : FieldType} {v : cv_V} {x : Value} (hf : cv_fit (cv_kd ty) v = true) (hd : cv_dn sv as v x) : narrow ty x = x ∧ fits ty x = true := by
  cases ty with
  | int =>
    match v, hf, hd with
    | .inl n, _, hd => rw [show x = .int n from hd]; exact ⟨rfl, rfl⟩
  | boolean =>
    match v, hf, hd with
    | .inl n, hf, hd =>
      rw [show x = .int n from hd]
      simp only [cv_kd, cv_fit, Bool.or_eq_true, decide_eq_true_eq] at hf
      rcases hf with rfl | rfl
      · exact ⟨rfl, rfl⟩
      · exact ⟨rfl, rfl⟩
  | long =>
    match v, hf, hd with
    | .inr (.inl n), _, hd => rw [show x = .long n from hd]; exact ⟨rfl, rfl⟩
  | object C =>
    match v, hf, hd with
    | .inr (.inr (.inl none)), _, hd => rw [show x = .null from hd]; exact ⟨rfl, rfl⟩
    | .inr (.inr (.inl (some k))), _, hd => obtain ⟨a, _, rfl⟩ := hd; exact ⟨rfl, rfl⟩
  | array C =>
    match v, hf, hd with
    | .inr (.inr (.inl none)), _, hd => rw [show x = .null from hd]; exact ⟨rfl, rfl⟩
    | .inr (.inr (.inl (some k))), _, hd => obtain ⟨a, _, rfl⟩ := hd; exact ⟨rfl, rfl⟩
  | _ => simp [cv_kd, cv_fit] at hf
section CVR
variable {Ts : List Jvm.Cond} {cl : List vw_C} {D : va_G} {cy : Nat → ClassId} {A : Nat → Prop} {sv : Nat → Value} {as0 : List Nat} {X : cv_X} {M : cv_M} {mt : Nat → cv_M} {F : cv_F} {p : Program} {l : Launch} {e : Env} {R : Room} {s : State} {m : MethodId} {args : Array Value} {below : List Frame} {meth : Method} {c : Code} {Q : State → Prop}
theorem cv_iast_ok {pc len a b : Nat} {z : Int} {L : cv_L} {st : List cv_V} {h : cv_H} {cN sN : Nat} {k : Nat} {i x : Int32} {xs : List Int32} (C0 : cv_Cx Ts cl D cy A sv X M p R s m args meth c) (ok : cv_ok Ts cl mt M (pc, .iastore, len, a, b, z)) (hk : h[k]? = some (cv_ci 0 xs)) (hi : cv_ix i xs.length = true)
    (kk : cv_Good cl D cy A sv as0 M.1.2.2.2.1 p l e R s m args below meth c Q (pc + len, L, st, h.set k (cv_ci 0 (xs.set i.toNatClampNeg x)), cN, sN)) : cv_Good cl D cy A sv as0 M.1.2.2.2.1 p l e R s m args below meth c Q (pc, L, cv_i x :: cv_i i :: cv_r k :: st, h, cN, sN) := by
  obtain ⟨hx, hb, hml, hown, hts, hr, hlk, hnm, hK, hA, hSF, r1, r2, r3, r4⟩ := C0
  obtain ⟨hd, hlen, hok⟩ := ok
  intro as ws H locs ls stv has hH hP hD hS hL hst
  have : len = 1 := by simpa [cv_lenok, cv_len] using hlen
  subst this
  obtain ⟨xv, stv1, rfl, hxv, hst1⟩ := cv_relS_cons hst
  cases hxv
  obtain ⟨_, stv2, rfl, hi1, hst2⟩ := cv_relS_cons hst1
  cases hi1
  obtain ⟨_, stv3, rfl, ⟨ad, had, rfl⟩, hst3⟩ := cv_relS_cons hst2
  obtain ⟨ad', en, e1, e2, hE⟩ := hH.2.2 k _ hk
  cases had.symm.trans e1
  have hin := cv_ix_in hi
  have go := fun (en : va_E) (hE' : cv_relE cy sv as (cv_ci 0 (xs.set i.toNatClampNeg x)) en) (H1 : Heap) (locs1 : List Loc) (hP1 : va_P D cl (ws.set k (ad, en)) H1) (hD1 : va_D A (ws.set k (ad, en))) (hS1 : va_S A s.heap H1 locs1) => kk as _ H1 locs1 ls stv3 has (cv_relH_set hH e1 hE') hP1 hD1 hS1 hL hst3
  dsimp only at go hd ⊢
  obtain ⟨_, f, rfl, hf⟩ := hE
  refine va_iast hx hb hK hP hD hS k 0 e2 rfl hin hd fun H1 locs1 hP1 hD1 hS1 => go _ ?_ H1 locs1 hP1 hD1 hS1
  exact ⟨by omega, upd f i.toNatClampNeg x, by simp, cv_upd_ok hf _ _⟩
theorem cv_bast_ok {pc len a b : Nat} {z : Int} {L : cv_L} {st : List cv_V} {h : cv_H} {cN sN : Nat} {k t : Nat} {i x : Int32} {xs : List Int32} (C0 : cv_Cx Ts cl D cy A sv X M p R s m args meth c) (ok : cv_ok Ts cl mt M (pc, .bastore, len, a, b, z)) (hk : h[k]? = some (cv_ci t xs)) (ht : t = 1 ∨ t = 2) (hi : cv_ix i xs.length = true)
    (kk : cv_Good cl D cy A sv as0 M.1.2.2.2.1 p l e R s m args below meth c Q (pc + len, L, st, h.set k (cv_ci t (xs.set i.toNatClampNeg (cv_nar t x))), cN, sN)) : cv_Good cl D cy A sv as0 M.1.2.2.2.1 p l e R s m args below meth c Q (pc, L, cv_i x :: cv_i i :: cv_r k :: st, h, cN, sN) := by
  obtain ⟨hx, hb, hml, hown, hts, hr, hlk, hnm, hK, hA, hSF, r1, r2, r3, r4⟩ := C0
  obtain ⟨hd, hlen, hok⟩ := ok
  intro as ws H locs ls stv has hH hP hD hS hL hst
  have : len = 1 := by simpa [cv_lenok, cv_len] using hlen
  subst this
  obtain ⟨xv, stv1, rfl, hxv, hst1⟩ := cv_relS_cons hst
  cases hxv
  obtain ⟨_, stv2, rfl, hi1, hst2⟩ := cv_relS_cons hst1
  cases hi1
  obtain ⟨_, stv3, rfl, ⟨ad, had, rfl⟩, hst3⟩ := cv_relS_cons hst2
  obtain ⟨ad', en, e1, e2, hE⟩ := hH.2.2 k _ hk
  cases had.symm.trans e1
  have hin := cv_ix_in hi
  have go := fun (en : va_E) (hE' : cv_relE cy sv as (cv_ci t (xs.set i.toNatClampNeg (cv_nar t x))) en) (H1 : Heap) (locs1 : List Loc) (hP1 : va_P D cl (ws.set k (ad, en)) H1) (hD1 : va_D A (ws.set k (ad, en))) (hS1 : va_S A s.heap H1 locs1) => kk as _ H1 locs1 ls stv3 has (cv_relH_set hH e1 hE') hP1 hD1 hS1 hL hst3
  dsimp only at go hd ⊢
  obtain ⟨_, f, rfl, hf⟩ := hE
  rcases ht with rfl | rfl
  · refine va_bast hx hb hK hP hD hS k 1 e2 rfl hin hd fun H1 locs1 hP1 hD1 hS1 => go _ ?_ H1 locs1 hP1 hD1 hS1
    exact ⟨by omega, upd f i.toNatClampNeg (vp_nar .byte x), by simp, cv_upd_ok hf _ _⟩
  · refine va_zast hx hb hK hP hD hS k 2 e2 rfl hin hd fun H1 locs1 hP1 hD1 hS1 => go _ ?_ H1 locs1 hP1 hD1 hS1
    exact ⟨by omega, upd f i.toNatClampNeg (vp_nar .boolean x), by simp, cv_upd_ok hf _ _⟩
theorem cv_last_ok {pc len a b : Nat} {z : Int} {L : cv_L} {st : List cv_V} {h : cv_H} {cN sN : Nat} {k : Nat} {i : Int32} {x : Int64} {xs : List Int64} (C0 : cv_Cx Ts cl D cy A sv X M p R s m args meth c) (ok : cv_ok Ts cl mt M (pc, .lastore, len, a, b, z)) (hk : h[k]? = some (cv_cl xs)) (hi : cv_ix i xs.length = true)
    (kk : cv_Good cl D cy A sv as0 M.1.2.2.2.1 p l e R s m args below meth c Q (pc + len, L, st, h.set k (cv_cl (xs.set i.toNatClampNeg x)), cN, sN)) : cv_Good cl D cy A sv as0 M.1.2.2.2.1 p l e R s m args below meth c Q (pc, L, cv_l x :: cv_i i :: cv_r k :: st, h, cN, sN) := by
  obtain ⟨hx, hb, hml, hown, hts, hr, hlk, hnm, hK, hA, hSF, r1, r2, r3, r4⟩ := C0
  obtain ⟨hd, hlen, hok⟩ := ok
  intro as ws H locs ls stv has hH hP hD hS hL hst
  have : len = 1 := by simpa [cv_lenok, cv_len] using hlen
  subst this
  obtain ⟨xv, stv1, rfl, hxv, hst1⟩ := cv_relS_cons hst
  cases hxv
  obtain ⟨_, stv2, rfl, hi1, hst2⟩ := cv_relS_cons hst1
  cases hi1
  obtain ⟨_, stv3, rfl, ⟨ad, had, rfl⟩, hst3⟩ := cv_relS_cons hst2
  obtain ⟨ad', en, e1, e2, hE⟩ := hH.2.2 k _ hk
  cases had.symm.trans e1
  have hin := cv_ix_in hi
  have go := fun (en : va_E) (hE' : cv_relE cy sv as (cv_cl (xs.set i.toNatClampNeg x)) en) (H1 : Heap) (locs1 : List Loc) (hP1 : va_P D cl (ws.set k (ad, en)) H1) (hD1 : va_D A (ws.set k (ad, en))) (hS1 : va_S A s.heap H1 locs1) => kk as _ H1 locs1 ls stv3 has (cv_relH_set hH e1 hE') hP1 hD1 hS1 hL hst3
  dsimp only at go hd ⊢
  obtain ⟨f, rfl, hf⟩ := hE
  refine va_last hx hb hK hP hD hS k 3 e2 rfl hin hd fun H1 locs1 hP1 hD1 hS1 => go _ ?_ H1 locs1 hP1 hD1 hS1
  exact ⟨vp_updL f i.toNatClampNeg x, by simp, cv_updL_ok hf _ _⟩
theorem cv_aast_ok {pc len a b : Nat} {z : Int} {L : cv_L} {st : List cv_V} {h : cv_H} {cN sN : Nat} {k t o ci : Nat} {i : Int32} {xs : List (Option Nat)} {fs : List cv_V} (C0 : cv_Cx Ts cl D cy A sv X M p R s m args meth c) (hcl4 : ∃ T N, cl[1]? = some ("SagGates$Gate", T, N)) (hcl5 : ∃ T N, cl[7]? = some ("SagGates$Told", T, N)) (ok : cv_ok Ts cl mt M (pc, .aastore, len, a, b, z)) (hk : h[k]? = some (cv_cr t xs)) (ho : h[o]? = some (cv_co ci fs)) (hci : ci = (bif t == 4 then 1 else 7)) (hi : cv_ix i xs.length = true)
    (kk : cv_Good cl D cy A sv as0 M.1.2.2.2.1 p l e R s m args below meth c Q (pc + len, L, st, h.set k (cv_cr t (xs.set i.toNatClampNeg (some o))), cN, sN)) : cv_Good cl D cy A sv as0 M.1.2.2.2.1 p l e R s m args below meth c Q (pc, L, cv_r o :: cv_i i :: cv_r k :: st, h, cN, sN) := by
  obtain ⟨hx, hb, hml, hown, hts, hr, hlk, hnm, hK, hA, hSF, r1, r2, r3, r4⟩ := C0
  obtain ⟨hd, hlen, hok⟩ := ok
  intro as ws H locs ls stv has hH hP hD hS hL hst
  have : len = 1 := by simpa [cv_lenok, cv_len] using hlen
  subst this
  obtain ⟨xv, stv1, rfl, hxv, hst1⟩ := cv_relS_cons hst
  obtain ⟨aj, haj, rfl⟩ := hxv
  obtain ⟨_, stv2, rfl, hi1, hst2⟩ := cv_relS_cons hst1
  cases hi1
  obtain ⟨_, stv3, rfl, ⟨ad, had, rfl⟩, hst3⟩ := cv_relS_cons hst2
  obtain ⟨ad', en, e1, e2, hE⟩ := hH.2.2 k _ hk
  cases had.symm.trans e1
  have hin := cv_ix_in hi
  have go := fun (en : va_E) (hE' : cv_relE cy sv as (cv_cr t (xs.set i.toNatClampNeg (some o))) en) (H1 : Heap) (locs1 : List Loc) (hP1 : va_P D cl (ws.set k (ad, en)) H1) (hD1 : va_D A (ws.set k (ad, en))) (hS1 : va_S A s.heap H1 locs1) => kk as _ H1 locs1 ls stv3 has (cv_relH_set hH e1 hE') hP1 hD1 hS1 hL hst3
  dsimp only at go hd ⊢
  obtain ⟨aj', ej, j1, j2, hEj⟩ := hH.2.2 o _ ho
  cases haj.symm.trans j1
  obtain ⟨vs, rfl, -, -⟩ := hEj
  obtain ⟨ht, f, rfl, hf⟩ := hE
  have hup : ∀ (k : Nat) (w : Option Nat), (xs.set i.toNatClampNeg (some o))[k]? = some w → cv_dn sv as (.inr (.inr (.inl w))) (va_rf (va_up f i.toNatClampNeg (some aj) k)) := by
    intro k w hw
    rcases cv_set_get hw with ⟨rfl, rfl⟩ | ⟨q, hw⟩
    · rw [va_up_self]; exact ⟨aj, haj, rfl⟩
    · rw [va_up_ne _ _ q]; exact hf k w hw
  rcases ht with rfl | rfl
  · subst hci
    obtain ⟨T, N, hc4⟩ := hcl4
    refine va_astq hx hb hK hP hD hS k 4 o 1 (r := ("SagGates$Gate", T, N)) e2 rfl j2 hc4 hin hd fun H1 locs1 hP1 hD1 hS1 => go _ ?_ H1 locs1 hP1 hD1 hS1
    exact ⟨.inl rfl, va_up f i.toNatClampNeg (some aj), by simp, hup⟩
  · subst hci
    obtain ⟨T, N, hc5⟩ := hcl5
    refine va_astq hx hb hK hP hD hS k 5 o 7 (r := ("SagGates$Told", T, N)) e2 rfl j2 hc5 hin hd fun H1 locs1 hP1 hD1 hS1 => go _ ?_ H1 locs1 hP1 hD1 hS1
    exact ⟨.inr rfl, va_up f i.toNatClampNeg (some aj), by simp, hup⟩
theorem cv_getf_ok {pc len a b : Nat} {z : Int} {L : cv_L} {st : List cv_V} {h : cv_H} {cN sN : Nat} {k i : Nat} {v : cv_V} {fs : List cv_V} (C0 : cv_Cx Ts cl D cy A sv X M p R s m args meth c) (hcls : cv_cls Ts cl F) (ok : cv_ok Ts cl mt M (pc, .getfield i, len, a, b, z)) (hk : h[k]? = some (cv_co a fs)) (hv : fs[b]? = some v) (ha : a ≠ 100)
    (kk : cv_Good cl D cy A sv as0 M.1.2.2.2.1 p l e R s m args below meth c Q (pc + len, L, v :: st, h, cN, sN)) : cv_Good cl D cy A sv as0 M.1.2.2.2.1 p l e R s m args below meth c Q (pc, L, cv_r k :: st, h, cN, sN) := by
  obtain ⟨hx, hb, hml, hown, hts, hr, hlk, hnm, hK, hA, hSF, r1, r2, r3, r4⟩ := C0
  obtain ⟨hd, hlen, hok⟩ := ok
  intro as ws H locs ls stv has hH hP hD hS hL hst
  have : len = 3 := by simpa [cv_lenok, cv_len] using hlen
  subst this
  obtain ⟨_, stv1, rfl, ⟨ad, had, rfl⟩, hst1⟩ := cv_relS_cons hst
  obtain ⟨ad', en, e1, e2, hE⟩ := hH.2.2 k _ hk
  cases had.symm.trans e1
  obtain ⟨vs, rfl, g1, g2⟩ := hE
  obtain ⟨x, g3, g4⟩ := g2 b v hv
  obtain ⟨C, T, N, c1, c2, c3⟩ := hok.2 ha
  exact va_get hx hb hts (hcls a C T N c1).1 hown hK hP k e2 c1 b c2 (hts _ c3) (fun x h => h) g3 hd (kk as ws H locs ls (x :: stv1) has hH hP hD hS hL ⟨g4, hst1⟩)
theorem cv_getS_ok {pc len b : Nat} {z : Int} {L : cv_L} {st : List cv_V} {h : cv_H} {cN sN : Nat} {i : Nat} (C0 : cv_Cx Ts cl D cy A sv X M p R s m args meth c) (ok : cv_ok Ts cl mt M (pc, .getfield i, len, 100, b, z))
    (kk : cv_Good cl D cy A sv as0 M.1.2.2.2.1 p l e R s m args below meth c Q (pc + len, L, (bif b == 0 then cv_s 1 else cv_i 0) :: st, h, cN, sN)) : cv_Good cl D cy A sv as0 M.1.2.2.2.1 p l e R s m args below meth c Q (pc, L, cv_s 0 :: st, h, cN, sN) := by
  obtain ⟨hx, hb, hml, hown, hts, hr, hlk, hnm, hK, hA, hSF, r1, r2, r3, r4⟩ := C0
  obtain ⟨hsv, ⟨q0, q1, a1, a2, a3, a4, a5, a6⟩, -⟩ := hSF
  obtain ⟨hd, hlen, hok⟩ := ok
  intro as ws H locs ls stv has hH hP hD hS hL hst
  have : len = 3 := by simpa [cv_lenok, cv_len] using hlen
  subst this
  obtain ⟨x, stv1, rfl, hxs, hst1⟩ := cv_relS_cons hst
  have hok1 := hok.1 rfl
  have go := fun x (hx : cv_dn sv as (bif b == 0 then cv_s 1 else cv_i 0) x) => kk as ws H locs ls (x :: stv1) has hH hP hD hS hL ⟨hx, hst1⟩
  dsimp only at go hd hok1 ⊢
  rw [show x = sv 0 from hxs, a1]
  by_cases hb0 : b = 0
  · subst hb0
    exact vk_getf hx hb a5 hS hown (hts _ (hok1.1 rfl)) (fun x h => h) hd (go _ a2.symm)
  · have e : (b == 0) = false := by simpa using hb0
    rw [e] at go
    exact vk_getf hx hb a6 hS hown (hts _ (hok1.2 hb0)) (fun x h => h) hd (go _ rfl)
theorem cv_putf_ok {pc len a b : Nat} {z : Int} {L : cv_L} {st : List cv_V} {h : cv_H} {cN sN : Nat} {k i : Nat} {v : cv_V} {fs : List cv_V} (C0 : cv_Cx Ts cl D cy A sv X M p R s m args meth c) (hcls : cv_cls Ts cl F) (ok : cv_ok Ts cl mt M (pc, .putfield i, len, a, b, z)) (hk : h[k]? = some (cv_co a fs)) (hbl : b < fs.length) (hfit : cv_fit z.toNat v = true)
    (kk : cv_Good cl D cy A sv as0 M.1.2.2.2.1 p l e R s m args below meth c Q (pc + len, L, st, h.set k (cv_co a (fs.set b v)), cN, sN)) : cv_Good cl D cy A sv as0 M.1.2.2.2.1 p l e R s m args below meth c Q (pc, L, v :: cv_r k :: st, h, cN, sN) := by
  obtain ⟨hx, hb, hml, hown, hts, hr, hlk, hnm, hK, hA, hSF, r1, r2, r3, r4⟩ := C0
  obtain ⟨hd, hlen, hok⟩ := ok
  intro as ws H locs ls stv has hH hP hD hS hL hst
  have : len = 3 := by simpa [cv_lenok, cv_len] using hlen
  subst this
  obtain ⟨xv, stv1, rfl, hxv, hst1⟩ := cv_relS_cons hst
  obtain ⟨_, stv2, rfl, ⟨ad, had, rfl⟩, hst2⟩ := cv_relS_cons hst1
  obtain ⟨ad', en, e1, e2, hE⟩ := hH.2.2 k _ hk
  cases had.symm.trans e1
  obtain ⟨vs, rfl, g1, g2⟩ := hE
  obtain ⟨C, T, N, ty, c1, c2, c3, c4, c5, c6⟩ := hok
  dsimp only at c1 c2 c3 c4 c5 c6
  rw [← c5] at hfit
  obtain ⟨f1, f2⟩ := cv_fit_ok hfit hxv
  obtain ⟨k1, k2, tys0, ks, k3, -⟩ := hcls a C T N c1
  have hE' : cv_relE cy sv as (cv_co a (fs.set b v)) (.inr (a, vs.set b xv)) := by
    refine ⟨_, rfl, by simpa using g1, fun j w hw => ?_⟩
    rcases cv_set_get hw with ⟨rfl, rfl⟩ | ⟨q, hw⟩
    · exact ⟨xv, List.getElem?_set_self (by omega), hxv⟩
    · obtain ⟨y, y1, y2⟩ := g2 j w hw
      exact ⟨y, by rw [List.getElem?_set_ne (fun q' => q q'.symm)]; exact y1, y2⟩
  have go := fun (H1 : Heap) (locs1 : List Loc) (hP1 : va_P D cl (ws.set k (ad, .inr (a, vs.set b xv))) H1) (hD1 : va_D A (ws.set k (ad, .inr (a, vs.set b xv)))) (hS1 : va_S A s.heap H1 locs1) => kk as _ H1 locs1 ls stv2 has (cv_relH_set hH e1 hE') hP1 hD1 hS1 hL hst2
  cases hfin : (T b).2.2.2 with
  | false => exact va_put hx hb hts k1 tys0 k3 k2 hown hK hP hD hS k e2 c1 b c2 (hts _ c3) (fun x h => h) hfin c4 f1 f2 (by omega) hd go
  | true =>
    obtain ⟨d1, d2⟩ := c6 hfin
    exact va_putF hx hb hts k1 tys0 k3 k2 hown hK hP hD hS k e2 c1 b c2 (hts _ c3) (fun x h => h) hfin (hnm.trans d1) d2 c4 f1 f2 (by omega) hd go
end CVR
