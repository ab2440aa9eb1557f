/-! ===== rows at abstract frames: stores, fields, what is made ===== -/
theorem av_set_get {α : Type} {xs : List α} {i k : Nat} {v w : α} (h : (xs.set i v)[k]? = some w) : (k = i ∧ w = v) ∨ (k ≠ i ∧ xs[k]? = some w) := by
  by_cases hk : i = k
  · subst hk
    have hlt : i < xs.length := by
      have := (List.getElem?_eq_some_iff.mp h).1
      simpa using this
    rw [List.getElem?_set_self hlt] at h
    cases h
    exact .inl ⟨rfl, rfl⟩
  · rw [List.getElem?_set_ne hk] at h
    exact .inr ⟨fun q => hk q.symm, h⟩
section AVR
variable {Ts : List Jvm.Cond} {cl : List vw_C} {D : va_G} {cy : Nat → ClassId} {A : Nat → Prop} {sv : Nat → Value} {as0 : List Nat} {X : av_X} {M : av_M} {mt : Nat → av_M} {F : av_F} {p : Program} {l : Launch} {e : Env} {R : Room} {s : State} {m : MethodId} {args : Array Value} {below : List Frame} {meth : Method} {c : Code} {Q : State → Prop}
theorem av_st_ok {pc len a b t t' k : Nat} {ins : Instr} {z : Int} {i : Int × Int} {v : av_V} {xs : List av_V} {L : av_L} {st : List av_V} {h : av_H} {cN sN : Nat} (C0 : av_Cx Ts cl D cy A sv X M p R s m args meth c) (ok : av_ok Ts cl mt M (pc, ins, len, a, b, z)) (ht : av_stk ins = some t) (ht4 : t ≠ 4) (hk : h[k]? = some (.inl (t', xs))) (htt : (t' == t || (t == 1 && t' == 2) || (t == 4 && t' == 5)) = true)
    (hi : i.1 = i.2) (h0 : 0 ≤ i.1) (hl : i.1 < (xs.length : Int)) (hfit : av_fit t' v = true)
    (kk : av_Good cl D cy A sv as0 M.1.2.2.2.1 p l e R s m args below meth c Q (pc + len, L, st, h.set k (.inl (t', xs.set i.1.toNat v)), cN, sN)) : av_Good cl D cy A sv as0 M.1.2.2.2.1 p l e R s m args below meth c Q (pc, L, v :: av_i i :: av_r k :: st, h, cN, sN) := by
  obtain ⟨hx, hb, -, -, -, -, -, -, hK, -⟩ := C0
  obtain ⟨hd, hlen, -⟩ := ok
  intro as ws H locs ls stv has hH hP hD hS hL hst
  obtain ⟨xv, stv1, rfl, hxv, hst1⟩ := av_relS_cons hst
  obtain ⟨_, stv2, rfl, ⟨n, rfl, hn⟩, hst2⟩ := av_relS_cons hst1
  obtain ⟨_, stv3, rfl, ⟨ad, had, rfl⟩, hst3⟩ := av_relS_cons hst2
  obtain ⟨ad', en, e1, e2, hE⟩ := hH.2.2 k _ hk
  cases had.symm.trans e1
  have hin : vp_in n xs.length := vp_in_iff.mpr ⟨by omega, by omega⟩
  have hcl : n.toNatClampNeg = i.1.toNat := by rw [av_clamp]; omega
  simp only [Bool.or_eq_true, Bool.and_eq_true, beq_iff_eq] at htt
  have hint : ∀ y : Int32, xv = .int y → ∀ (f : Nat → Int32), (∀ (k : Nat) (w : av_V), xs[k]? = some w → av_dn sv as w (.int (f k))) → ∀ (k : Nat) (w : av_V), (xs.set i.1.toNat v)[k]? = some w → av_dn sv as w (.int (upd f n.toNatClampNeg y k)) := by
    intro y hy f hf k w hw
    rw [hcl]
    rcases av_set_get hw with ⟨rfl, rfl⟩ | ⟨q, hw⟩
    · rw [pk_us, ← hy]; exact hxv
    · rw [pk_un q]; exact hf k w hw
  have go := fun (en : va_E) (hE' : av_relE cy sv as (.inl (t', xs.set i.1.toNat v)) en) (H1 : Heap) (locs1 : List Loc) (hP1 : va_P D cl (ws.set k (ad, en)) H1) (hD1 : va_D A (ws.set k (ad, en))) (hS1 : va_S A s.heap H1 locs1) => kk as _ H1 locs1 ls stv3 has (av_relH_set hH e1 hE') hP1 hD1 hS1 hL hst3
  dsimp only at go hd ⊢
  cases ins <;> first | (cases ht; done) | skip
  case iastore =>
    have : len = 1 := by simpa [av_lenok, av_len] using hlen
    subst this
    cases ht
    have : t' = 0 := by omega
    subst this
    obtain ⟨y, rfl⟩ : ∃ y : Int32, xv = .int y := by
      match v, hfit, hxv with
      | .inr (.inl _), _, hxv => obtain ⟨y, q, _⟩ := hxv; exact ⟨y, q⟩
    rcases hE with ⟨_, f, rfl, hf⟩ | ⟨q, _⟩ | ⟨q, _⟩
    · refine va_iast hx hb hK hP hD hS k 0 e2 rfl hin hd fun H1 locs1 hP1 hD1 hS1 => go _ ?_ H1 locs1 hP1 hD1 hS1
      exact .inl ⟨by omega, upd f n.toNatClampNeg y, by simp, hint y rfl f hf⟩
    · omega
    · omega
  case bastore =>
    have : len = 1 := by simpa [av_lenok, av_len] using hlen
    subst this
    cases ht
    obtain ⟨y, hy⟩ : ∃ y : Int32, xv = .int y := by
      rcases (show t' = 1 ∨ t' = 2 by omega) with rfl | rfl
      · match v, hfit, hxv with
        | .inr (.inl _), _, hxv => obtain ⟨y, q, _⟩ := hxv; exact ⟨y, q⟩
      · match v, hfit, hxv with
        | .inr (.inl _), _, hxv => obtain ⟨y, q, _⟩ := hxv; exact ⟨y, q⟩
    rcases (show t' = 1 ∨ t' = 2 by omega) with rfl | rfl
    · have hnar := (av_fit_ok (ty := .byte) hfit hxv).1
      subst hy
      have hnb : vp_nar .byte y = y := by unfold vp_nar; rw [hnar]
      rcases hE with ⟨_, f, rfl, hf⟩ | ⟨q, _⟩ | ⟨q, _⟩
      · refine va_bast hx hb hK hP hD hS k 1 e2 rfl hin hd fun H1 locs1 hP1 hD1 hS1 => go _ ?_ H1 locs1 hP1 hD1 hS1
        exact .inl ⟨by omega, upd f n.toNatClampNeg (vp_nar .byte y), by simp, by rw [hnb]; exact hint y rfl f hf⟩
      · omega
      · omega
    · have hnar := (av_fit_ok (ty := .boolean) hfit hxv).1
      subst hy
      have hnb : vp_nar .boolean y = y := by unfold vp_nar; rw [hnar]
      rcases hE with ⟨_, f, rfl, hf⟩ | ⟨q, _⟩ | ⟨q, _⟩
      · refine va_zast hx hb hK hP hD hS k 2 e2 rfl hin hd fun H1 locs1 hP1 hD1 hS1 => go _ ?_ H1 locs1 hP1 hD1 hS1
        exact .inl ⟨by omega, upd f n.toNatClampNeg (vp_nar .boolean y), by simp, by rw [hnb]; exact hint y rfl f hf⟩
      · omega
      · omega
  case aastore => cases ht; exact absurd rfl ht4
theorem av_sta_ok {pc len a b t' k j ci : Nat} {z : Int} {i : Int × Int} {xs fs : List av_V} {L : av_L} {st : List av_V} {h : av_H} {cN sN : Nat} (C0 : av_Cx Ts cl D cy A sv X M p R s m args meth c) (ok : av_ok Ts cl mt M (pc, .aastore, len, a, b, z)) (hcl4 : ∃ T N, cl[1]? = some ("SagGates$Gate", T, N)) (hcl5 : ∃ T N, cl[7]? = some ("SagGates$Told", T, N)) (hk : h[k]? = some (.inl (t', xs))) (htt : t' = 4 ∨ t' = 5)
    (hi : i.1 = i.2) (h0 : 0 ≤ i.1) (hl : i.1 < (xs.length : Int)) (hj : h[j]? = some (.inr (ci, fs))) (hci : ci = (bif t' == 4 then 1 else 7))
    (kk : av_Good cl D cy A sv as0 M.1.2.2.2.1 p l e R s m args below meth c Q (pc + len, L, st, h.set k (.inl (t', xs.set i.1.toNat (av_r j))), cN, sN)) : av_Good cl D cy A sv as0 M.1.2.2.2.1 p l e R s m args below meth c Q (pc, L, av_r j :: av_i i :: av_r k :: st, h, cN, sN) := by
  obtain ⟨hx, hb, -, -, -, -, -, -, hK, -⟩ := C0
  obtain ⟨hd, hlen, -⟩ := ok
  intro as ws H locs ls stv has hH hP hD hS hL hst
  obtain ⟨_, stv1, rfl, ⟨aj, haj, rfl⟩, hst1⟩ := av_relS_cons hst
  obtain ⟨_, stv2, rfl, ⟨n, rfl, hn⟩, hst2⟩ := av_relS_cons hst1
  obtain ⟨_, stv3, rfl, ⟨ad, had, rfl⟩, hst3⟩ := av_relS_cons hst2
  obtain ⟨ad', en, e1, e2, hE⟩ := hH.2.2 k _ hk
  cases had.symm.trans e1
  obtain ⟨aj', ej, j1, j2, hEj⟩ := hH.2.2 j _ hj
  cases haj.symm.trans j1
  obtain ⟨vs, rfl, -, -⟩ := hEj
  have hin : vp_in n xs.length := vp_in_iff.mpr ⟨by omega, by omega⟩
  have hcl : n.toNatClampNeg = i.1.toNat := by rw [av_clamp]; omega
  have : len = 1 := by simpa [av_lenok, av_len] using hlen
  subst this
  have go := fun (en : va_E) (hE' : av_relE cy sv as (.inl (t', xs.set i.1.toNat (av_r j))) en) (H1 : Heap) (locs1 : List Loc) (hP1 : va_P D cl (ws.set k (ad, en)) H1) (hD1 : va_D A (ws.set k (ad, en))) (hS1 : va_S A s.heap H1 locs1) => kk as _ H1 locs1 ls stv3 has (av_relH_set hH e1 hE') hP1 hD1 hS1 hL hst3
  dsimp only at go hd ⊢
  have hup : ∀ (f : Nat → Option Nat), (∀ (k : Nat) (w : av_V), xs[k]? = some w → av_dn sv as w (va_rf (f k))) → ∀ (k : Nat) (w : av_V), (xs.set i.1.toNat (av_r j))[k]? = some w → av_dn sv as w (va_rf (va_up f n.toNatClampNeg (some aj) k)) := by
    intro f hf k w hw
    rw [hcl]
    rcases av_set_get hw with ⟨rfl, rfl⟩ | ⟨q, hw⟩
    · rw [va_up_self]; exact ⟨aj, haj, rfl⟩
    · rw [va_up_ne _ _ q]; exact hf k w hw
  rcases htt with rfl | rfl
  · subst hci
    obtain ⟨T, N, hc4⟩ := hcl4
    rcases hE with ⟨q, _⟩ | ⟨q, _⟩ | ⟨_, f, rfl, hf⟩
    · omega
    · omega
    · refine va_astq hx hb hK hP hD hS k 4 j 1 (r := ("SagGates$Gate", T, N)) e2 rfl j2 hc4 hin hd fun H1 locs1 hP1 hD1 hS1 => go _ ?_ H1 locs1 hP1 hD1 hS1
      exact .inr (.inr ⟨.inl rfl, va_up f n.toNatClampNeg (some aj), by simp, hup f hf⟩)
  · subst hci
    obtain ⟨T, N, hc5⟩ := hcl5
    rcases hE with ⟨q, _⟩ | ⟨q, _⟩ | ⟨_, f, rfl, hf⟩
    · omega
    · omega
    · refine va_astq hx hb hK hP hD hS k 5 j 7 (r := ("SagGates$Told", T, N)) e2 rfl j2 hc5 hin hd fun H1 locs1 hP1 hD1 hS1 => go _ ?_ H1 locs1 hP1 hD1 hS1
      exact .inr (.inr ⟨.inr rfl, va_up f n.toNatClampNeg (some aj), by simp, hup f hf⟩)
theorem av_getf_ok {pc len a b k i : Nat} {z : Int} {v : av_V} {fs : List av_V} {L : av_L} {st : List av_V} {h : av_H} {cN sN : Nat} (C0 : av_Cx Ts cl D cy A sv X M p R s m args meth c) (hcls : av_cls Ts cl F) (ok : av_ok Ts cl mt M (pc, .getfield i, len, a, b, z)) (hk : h[k]? = some (.inr (a, fs))) (hv : fs[b]? = some v) (ha : a ≠ 100)
    (kk : av_Good cl D cy A sv as0 M.1.2.2.2.1 p l e R s m args below meth c Q (pc + len, L, v :: st, h, cN, sN)) : av_Good cl D cy A sv as0 M.1.2.2.2.1 p l e R s m args below meth c Q (pc, L, av_r k :: st, h, cN, sN) := by
  obtain ⟨hx, hb, hml, hown, hts, hr, hlk, hnm, hK, -⟩ := C0
  obtain ⟨hd, hlen, hok⟩ := ok
  intro as ws H locs ls stv has hH hP hD hS hL hst
  obtain ⟨_, stv1, rfl, ⟨ad, had, rfl⟩, hst1⟩ := av_relS_cons hst
  obtain ⟨ad', en, e1, e2, hE⟩ := hH.2.2 k _ hk
  cases had.symm.trans e1
  obtain ⟨vs, rfl, g1, g2⟩ := hE
  obtain ⟨x, g3, g4⟩ := g2 b v hv
  have : len = 3 := by simpa [av_lenok, av_len] using hlen
  subst this
  obtain ⟨C, T, N, c1, c2, c3⟩ := hok.2 ha
  exact va_get hx hb hts (hcls a C T N c1).1 hown hK hP k e2 c1 b c2 (hts _ c3) (fun x h => h) g3 hd (kk as ws H locs ls (x :: stv1) has hH hP hD hS hL ⟨g4, hst1⟩)
theorem av_getS_ok {pc len b i : Nat} {z : Int} {L : av_L} {st : List av_V} {h : av_H} {cN sN : Nat} (C0 : av_Cx Ts cl D cy A sv X M p R s m args meth c) (ok : av_ok Ts cl mt M (pc, .getfield i, len, 100, b, z))
    (kk : av_Good cl D cy A sv as0 M.1.2.2.2.1 p l e R s m args below meth c Q (pc + len, L, (bif b == 0 then av_s 1 else av_c 0) :: st, h, cN, sN)) : av_Good cl D cy A sv as0 M.1.2.2.2.1 p l e R s m args below meth c Q (pc, L, av_s 0 :: st, h, cN, sN) := by
  obtain ⟨hx, hb, hml, hown, hts, hr, hlk, hnm, hK, -, hSF, -⟩ := C0
  obtain ⟨hsv, ⟨q0, q1, a1, a2, a3, a4, a5, a6, f, a7, a8⟩, h2, h3, -, h4⟩ := hSF
  obtain ⟨hd, hlen, hok⟩ := ok
  intro as ws H locs ls stv has hH hP hD hS hL hst
  obtain ⟨x, stv1, rfl, hxs, hst1⟩ := av_relS_cons hst
  have : len = 3 := by simpa [av_lenok, av_len] using hlen
  subst this
  have hok1 := hok.1 rfl
  have go := fun x (hx : av_dn sv as (bif b == 0 then av_s 1 else av_c 0) x) => kk as ws H locs ls (x :: stv1) has hH hP hD hS hL ⟨hx, hst1⟩
  dsimp only at go hd hok1 ⊢
  rw [show x = sv 0 from hxs, a1]
  by_cases hb0 : b = 0
  · subst hb0
    exact vk_getf hx hb a5 hS hown (hts _ (hok1.1 rfl)) (fun x h => h) hd (go _ a2.symm)
  · have e : (b == 0) = false := by simpa using hb0
    rw [e] at go
    exact vk_getf hx hb a6 hS hown (hts _ (hok1.2 hb0)) (fun x h => h) hd (go _ (av_dn_c 0))
theorem av_putf_ok {pc len a b k i : Nat} {z : Int} {v : av_V} {fs : List av_V} {L : av_L} {st : List av_V} {h : av_H} {cN sN : Nat} (C0 : av_Cx Ts cl D cy A sv X M p R s m args meth c) (hcls : av_cls Ts cl F) (ok : av_ok Ts cl mt M (pc, .putfield i, len, a, b, z)) (hk : h[k]? = some (.inr (a, fs))) (hbl : b < fs.length) (hfit : av_fit z.toNat v = true)
    (kk : av_Good cl D cy A sv as0 M.1.2.2.2.1 p l e R s m args below meth c Q (pc + len, L, st, h.set k (.inr (a, fs.set b v)), cN, sN)) : av_Good cl D cy A sv as0 M.1.2.2.2.1 p l e R s m args below meth c Q (pc, L, v :: av_r k :: st, h, cN, sN) := by
  obtain ⟨hx, hb, hml, hown, hts, hr, hlk, hnm, hK, -⟩ := C0
  obtain ⟨hd, hlen, hok⟩ := ok
  intro as ws H locs ls stv has hH hP hD hS hL hst
  obtain ⟨xv, stv1, rfl, hxv, hst1⟩ := av_relS_cons hst
  obtain ⟨_, stv2, rfl, ⟨ad, had, rfl⟩, hst2⟩ := av_relS_cons hst1
  obtain ⟨ad', en, e1, e2, hE⟩ := hH.2.2 k _ hk
  cases had.symm.trans e1
  obtain ⟨vs, rfl, g1, g2⟩ := hE
  have : len = 3 := by simpa [av_lenok, av_len] using hlen
  subst this
  obtain ⟨C, T, N, ty, c1, c2, c3, c4, c5, c6⟩ := hok
  dsimp only at c1 c2 c3 c4 c5 c6
  rw [← c5] at hfit
  obtain ⟨f1, f2⟩ := av_fit_ok hfit hxv
  obtain ⟨k1, k2, tys0, ks, k3, -⟩ := hcls a C T N c1
  have hE' : av_relE cy sv as (.inr (a, fs.set b v)) (.inr (a, vs.set b xv)) := by
    refine ⟨_, rfl, by simpa using g1, fun j w hw => ?_⟩
    rcases av_set_get hw with ⟨rfl, rfl⟩ | ⟨q, hw⟩
    · exact ⟨xv, List.getElem?_set_self (by omega), hxv⟩
    · obtain ⟨y, y1, y2⟩ := g2 j w hw
      exact ⟨y, by rw [List.getElem?_set_ne (fun q' => q q'.symm)]; exact y1, y2⟩
  have go := fun (H1 : Heap) (locs1 : List Loc) (hP1 : va_P D cl (ws.set k (ad, .inr (a, vs.set b xv))) H1) (hD1 : va_D A (ws.set k (ad, .inr (a, vs.set b xv)))) (hS1 : va_S A s.heap H1 locs1) => kk as _ H1 locs1 ls stv2 has (av_relH_set hH e1 hE') hP1 hD1 hS1 hL hst2
  cases hfin : (T b).2.2.2 with
  | false => exact va_put hx hb hts k1 tys0 k3 k2 hown hK hP hD hS k e2 c1 b c2 (hts _ c3) (fun x h => h) hfin c4 f1 f2 (by omega) hd go
  | true =>
    obtain ⟨d1, d2⟩ := c6 hfin
    exact va_putF hx hb hts k1 tys0 k3 k2 hown hK hP hD hS k e2 c1 b c2 (hts _ c3) (fun x h => h) hfin (hnm.trans d1) d2 c4 f1 f2 (by omega) hd go
end AVR
