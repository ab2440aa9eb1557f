section CWP
variable {Ds : List cw_D} {sh : List Nat} {G : Int} {P : cv_H → Prop} {dp wm : Nat} {v0 : cw_U → Option cv_V} {X : cv_X} {pc len a b c n : Nat} {zz : Int} {e : cw_E} {z : cw_Z} {r : cw_R} {L : cv_L} {st : List cv_V} {h : cv_H}
def cw_isO (c : cv_C) : Bool := match c with
  | .inr (.inr (.inr _)) => true
  | _ => false
theorem cw_fld_row {k : Nat} {c0 c' : cv_C} (hk : h[k]? = some c0) (h0 : cw_isO c0 = false) (h1 : cw_isO c' = false) (o : Option cv_V) (f : Nat) : cw_fld (h.set k c') o f = cw_fld h o f := by
  rcases o with _ | x | x | (_ | k') | x <;> try rfl
  unfold cw_fld
  by_cases e : k' = k
  · subst e
    dsimp only
    rw [List.getElem?_set_self (cw_lt_of hk), hk]
    rcases c0 with x | x | x | x <;> rcases c' with y | y | y | y <;> first | rfl | (cases h0; done) | (cases h1; done)
  · dsimp only
    rw [List.getElem?_set_ne (fun q => e q.symm)]
theorem cw_val_row {k : Nat} {c0 c' : cv_C} (hk : h[k]? = some c0) (h0 : cw_isO c0 = false) (h1 : cw_isO c' = false) : cw_val L (h.set k c') = cw_val L h := by
  funext u
  unfold cw_val
  rw [cw_fld_row hk h0 h1, cw_fld_row hk h0 h1, cw_fld_row hk h0 h1]
/-- a row is written -/
theorem cw_wrow {k d s : Nat} {c0 c' : cv_C} {z' : cw_Z} {st' : List cv_V} {o : Option cv_S} (hPok : cw_Pok Ds sh dp P) (hdp : cw_dpok Ds dp) (hS : cw_St Ds sh G P v0 e z L st h) (hr : r = [(none, e, z')]) (ho : o = some (pc + len, L, st', h.set k c', c, n)) (hz : cw_Zr G sh (cw_val L h) z' st')
    (hk : sh[k]? = some d) (hc : h[k]? = some c0) (h0 : cw_isO c0 = false) (h1 : cw_isO c' = false) (hc' : cw_cell Ds sh G (h.set k c') k d) (hm : cw_may wm dp d s = true) (hs : ∀ i, (match Ds[d]? with
      | some (.inr (.inr (.inr _))) => i ≠ s
      | some (.inl (_, _, p, _)) => s ≠ 0 ∧ s ≠ 1 + i % p
      | _ => s ≠ 0) → cw_sl c' i = cw_sl c0 i) (hs1 : ∀ t n rs, Ds[d]? = some (.inl (t, n, 1, rs)) → s = 0) : cw_Rs Ds sh G P wm v0 pc len r h o c n := by
  have hw := cw_Inv_set hPok hdp hS.2.2 hk hc hc' hm hs hs1
  refine ⟨none, e, z', L, st', h.set k c', by rw [hr]; exact List.mem_singleton_self _, ho, ⟨?_, ?_, hw.1⟩, hw.2⟩
  · rw [cw_val_row hc h0 h1]; exact hS.1
  · rw [cw_val_row hc h0 h1]; exact hz
theorem cw_cell_iw {k d t m p j : Nat} {rs : List (Int × Int)} {xs : List Int32} {y : Int32} (hD : Ds[d]? = some (.inl (t, m, p, rs))) (hk : h[k]? = some (cv_ci t xs)) (hl : xs.length = m) (hx : ∀ (i : Nat) (x : Int32), xs[i]? = some x → ∃ r, rs[i % p]? = some r ∧ r.1 ≤ x.toInt ∧ x.toInt ≤ r.2) (hj : j < m) (hy : ∀ r, rs[j % p]? = some r → r.1 ≤ y.toInt ∧ y.toInt ≤ r.2) : cw_cell Ds sh G (h.set k (cv_ci t (xs.set j y))) k d := by
  unfold cw_cell
  rw [hD]
  refine ⟨xs.set j y, List.getElem?_set_self (cw_lt_of hk), by rw [List.length_set]; exact hl, fun i x hi => ?_⟩
  by_cases e : j = i
  · subst e
    rw [List.getElem?_set_self (by omega)] at hi
    cases hi
    obtain ⟨x0, hx0⟩ := cw_get_lt (xs := xs) (j := j) (by omega)
    obtain ⟨r, h1, -⟩ := hx j x0 hx0
    exact ⟨r, h1, hy r h1⟩
  · rw [List.getElem?_set_ne e] at hi
    exact hx i x hi
theorem cw_sl_iw {t j i : Nat} {xs : List Int32} {y : Int32} (h : i ≠ j) : cw_sl (cv_ci t (xs.set j y)) i = cw_sl (cv_ci t xs) i := by
  show ((xs.set j y)[i]?).map cv_i = (xs[i]?).map cv_i
  rw [List.getElem?_set_ne (fun q => h q.symm)]
theorem cw_iastore_ok (hPok : cw_Pok Ds sh dp P) (hdp : cw_dpok Ds dp) (hlen : Ds.length ≤ 1000) (hS : cw_St Ds sh G P v0 e z L st h) (hr : cw_one Ds wm dp (pc, .iastore, len, a, b, zz) e z = some r) : cw_Rs Ds sh G P wm v0 pc len r h (cv_one X (pc, .iastore, len, a, b, zz) (pc, L, st, h, c, n)) c n := by
  rcases z with _ | ⟨⟨w | w | w, p1⟩, _ | ⟨⟨x | x | x, p2⟩, _ | ⟨⟨u | u | d, p3⟩, z⟩⟩⟩ <;> first | (cases hr; done) | skip
  match st, hS.2.1 with
  | v1 :: v2 :: v3 :: st, ⟨⟨⟨y, hy, hw⟩, _⟩, ⟨⟨i, hi, hx⟩, _⟩, ⟨hd, _⟩, hZ⟩ =>
  subst hi hy
  replace hr : (match Ds[d]? with
    | some (.inl (0, n, p, rs)) => bif cw_ix x n && (cw_may wm dp d (cw_sel p rs x).2 && (cw_sel p rs x).1.all (fun r => cw_in w r)) then some [((none : Option Nat), e, z)] else none
    | _ => none) = some r := hr
  split at hr
  · rename_i m p rs hD
    obtain ⟨h1, h2⟩ := cv_bif hr
    cases h2
    simp only [Bool.and_eq_true, List.all_eq_true] at h1
    obtain ⟨h1, h3, h4⟩ := h1
    obtain ⟨k, rfl, hk, hc⟩ := cw_ref_ok hS.2.2 hd hD hlen
    obtain ⟨xs, hx1, hx2, hx3⟩ := cw_cell_i hD hc
    obtain ⟨i1, i2, i3⟩ := cw_ix_ok h1 hx
    have hsel := cw_sel_ok (p := p) (rs := rs) hx i3
    refine cw_wrow (s := (cw_sel p rs x).2) (c' := cv_ci 0 (xs.set i.toNatClampNeg y)) hPok hdp hS rfl ?_ hZ hk hx1 rfl rfl (cw_cell_iw hD hx1 hx2 hx3 i2 fun r hr => ?_) h3 (fun j hj => ?_) (fun t n rs' q => ?_)
    · show (match h[k]? with
        | some (.inl (0, xs)) => bif cv_ix i xs.length then some _ else none
        | _ => none) = _
      rw [hx1]
      show (bif cv_ix i xs.length then some _ else none) = _
      rw [hx2, i1]
      rfl
    · have := h4 r (hsel.1 r hr)
      unfold cw_in at this
      simp only [Bool.and_eq_true, cw_le_iff] at this
      have := hw.1
      have := hw.2.1
      omega
    · rw [hD] at hj
      refine cw_sl_iw fun q => ?_
      subst q
      rcases hsel.2.1 with q | q
      · exact hj.1 q
      · exact hj.2 q
    · rw [hD] at q
      cases q
      exact hsel.2.2 rfl
  · cases hr
theorem cw_nar1 (x : Int32) : -128 ≤ x.toInt8.toInt32.toInt ∧ x.toInt8.toInt32.toInt ≤ 127 := by
  rw [Int8.toInt_toInt32]
  have h1 := x.toInt8.toInt_lt
  have h2 := x.toInt8.le_toInt
  omega
theorem cw_bastore_ok (hPok : cw_Pok Ds sh dp P) (hdp : cw_dpok Ds dp) (hlen : Ds.length ≤ 1000) (hS : cw_St Ds sh G P v0 e z L st h) (hr : cw_one Ds wm dp (pc, .bastore, len, a, b, zz) e z = some r) : cw_Rs Ds sh G P wm v0 pc len r h (cv_one X (pc, .bastore, len, a, b, zz) (pc, L, st, h, c, n)) c n := by
  rcases z with _ | ⟨⟨w | w | w, p1⟩, _ | ⟨⟨x | x | x, p2⟩, _ | ⟨⟨u | u | d, p3⟩, z⟩⟩⟩ <;> first | (cases hr; done) | skip
  match st, hS.2.1 with
  | v1 :: v2 :: v3 :: st, ⟨⟨⟨y, hy, hw⟩, _⟩, ⟨⟨i, hi, hx⟩, _⟩, ⟨hd, _⟩, hZ⟩ =>
  subst hi hy
  replace hr : (match Ds[d]? with
    | some (.inl (1, n, 1, [r])) => bif cw_ix x n && (cw_may wm dp d 0 && cw_in (-128, 127, 0) r) then some [((none : Option Nat), e, z)] else none
    | some (.inl (2, n, 1, [r])) => bif cw_ix x n && (cw_may wm dp d 0 && cw_in (0, 1, 0) r) then some [(none, e, z)] else none
    | _ => none) = some r := hr
  have key : ∀ (t m : Nat) (rg : Int × Int), (t = 1 ∨ t = 2) → Ds[d]? = some (.inl (t, m, 1, [rg])) → cw_ix x m = true → cw_may wm dp d 0 = true → (rg.1 ≤ (cv_nar t y).toInt ∧ (cv_nar t y).toInt ≤ rg.2) → cw_Rs Ds sh G P wm v0 pc len [((none : Option Nat), e, z)] h (cv_one X (pc, .bastore, len, a, b, zz) (pc, L, cv_i y :: cv_i i :: v3 :: st, h, c, n)) c n := by
    intro t m rg ht hD h1 h3 h4
    obtain ⟨k, rfl, hk, hc⟩ := cw_ref_ok hS.2.2 hd hD hlen
    obtain ⟨xs, hx1, hx2, hx3⟩ := cw_cell_i hD hc
    obtain ⟨i1, i2, i3⟩ := cw_ix_ok h1 hx
    refine cw_wrow (s := 0) (c' := cv_ci t (xs.set i.toNatClampNeg (cv_nar t y))) hPok hdp hS rfl ?_ hZ hk hx1 rfl rfl (cw_cell_iw hD hx1 hx2 hx3 i2 fun r hr => ?_) h3 (fun j hj => ?_) (fun t n rs' q => rfl)
    · show (match h[k]? with
        | some (.inl (t, xs)) => bif (t == 1 || t == 2) && cv_ix i xs.length then some _ else none
        | _ => none) = _
      rw [hx1]
      show (bif (t == 1 || t == 2) && cv_ix i xs.length then some _ else none) = _
      have ht2 : (t == 1 || t == 2) = true := by rcases ht with rfl | rfl <;> rfl
      rw [hx2, i1, ht2]
      rfl
    · rw [Nat.mod_one] at hr
      cases hr
      exact h4
    · rw [hD] at hj
      exact absurd rfl hj.1
  split at hr
  · rename_i m rg hD
    obtain ⟨h1, h2⟩ := cv_bif hr
    cases h2
    simp only [Bool.and_eq_true, cw_in, cw_le_iff] at h1
    refine key 1 m rg (.inl rfl) hD h1.1 h1.2.1 ?_
    have := cw_nar1 y
    show rg.1 ≤ y.toInt8.toInt32.toInt ∧ y.toInt8.toInt32.toInt ≤ rg.2
    omega
  · rename_i m rg hD
    obtain ⟨h1, h2⟩ := cv_bif hr
    cases h2
    simp only [Bool.and_eq_true, cw_in, cw_le_iff] at h1
    refine key 2 m rg (.inr rfl) hD h1.1 h1.2.1 ?_
    have := cw_and_ok (x := y) (y := 1) (by decide)
    have e1 : (1 : Int32).toInt = 1 := rfl
    rw [e1] at this
    show rg.1 ≤ (y &&& 1).toInt ∧ (y &&& 1).toInt ≤ rg.2
    omega
  · cases hr
theorem cw_lastore_ok (hPok : cw_Pok Ds sh dp P) (hdp : cw_dpok Ds dp) (hlen : Ds.length ≤ 1000) (hS : cw_St Ds sh G P v0 e z L st h) (hr : cw_one Ds wm dp (pc, .lastore, len, a, b, zz) e z = some r) : cw_Rs Ds sh G P wm v0 pc len r h (cv_one X (pc, .lastore, len, a, b, zz) (pc, L, st, h, c, n)) c n := by
  rcases z with _ | ⟨⟨w | w | w, p1⟩, _ | ⟨⟨x | x | x, p2⟩, _ | ⟨⟨u | u | d, p3⟩, z⟩⟩⟩ <;> first | (cases hr; done) | skip
  match st, hS.2.1 with
  | v1 :: v2 :: v3 :: st, ⟨⟨⟨y, hy, hw⟩, _⟩, ⟨⟨i, hi, hx⟩, _⟩, ⟨hd, _⟩, hZ⟩ =>
  subst hi hy
  replace hr : (match Ds[d]? with
    | some (.inr (.inl n)) => bif cw_ix x n && cw_may wm dp d 0 then some [((none : Option Nat), e, z)] else none
    | _ => none) = some r := hr
  split at hr
  · rename_i m hD
    obtain ⟨h1, h2⟩ := cv_bif hr
    cases h2
    simp only [Bool.and_eq_true] at h1
    obtain ⟨k, rfl, hk, hc⟩ := cw_ref_ok hS.2.2 hd hD hlen
    obtain ⟨xs, hx1, hx2⟩ := cw_cell_l hD hc
    obtain ⟨i1, i2, i3⟩ := cw_ix_ok h1.1 hx
    refine cw_wrow (s := 0) (c' := cv_cl (xs.set i.toNatClampNeg y)) hPok hdp hS rfl ?_ hZ hk hx1 rfl rfl ?_ h1.2 (fun j hj => ?_) (fun t n rs' q => rfl)
    · show (match h[k]? with
        | some (.inr (.inl xs)) => bif cv_ix i xs.length then some _ else none
        | _ => none) = _
      rw [hx1]
      show (bif cv_ix i xs.length then some _ else none) = _
      rw [hx2, i1]
      rfl
    · unfold cw_cell
      rw [hD]
      exact ⟨_, List.getElem?_set_self (cw_lt_of hx1), by rw [List.length_set]; exact hx2⟩
    · rw [hD] at hj
      exact absurd rfl hj
  · cases hr
theorem cw_aastore_ok (hPok : cw_Pok Ds sh dp P) (hdp : cw_dpok Ds dp) (hlen : Ds.length ≤ 1000) (hS : cw_St Ds sh G P v0 e z L st h) (hr : cw_one Ds wm dp (pc, .aastore, len, a, b, zz) e z = some r) : cw_Rs Ds sh G P wm v0 pc len r h (cv_one X (pc, .aastore, len, a, b, zz) (pc, L, st, h, c, n)) c n := by
  rcases z with _ | ⟨⟨w | w | d2, p1⟩, _ | ⟨⟨x | x | x, p2⟩, _ | ⟨⟨u | u | d, p3⟩, z⟩⟩⟩ <;> first | (cases hr; done) | skip
  match st, hS.2.1 with
  | v1 :: v2 :: v3 :: st, ⟨⟨hv, _⟩, ⟨⟨i, hi, hx⟩, _⟩, ⟨hd, _⟩, hZ⟩ =>
  subst hi
  replace hr : (match Ds[d]?, Ds[d2]? with
    | some (.inr (.inr (.inl (t, n, d')))), some (.inr (.inr (.inr (ci, _)))) => bif cw_ix x n && (cw_may wm dp d 0 && (d2 == d' && (Nat.ble d' 999 && ci == (bif t == 4 then 1 else 7)))) then some [((none : Option Nat), e, z)] else none
    | _, _ => none) = some r := hr
  split at hr
  · rename_i t m d' ci fs hD hD2
    obtain ⟨h1, h2⟩ := cv_bif hr
    cases h2
    simp only [Bool.and_eq_true, beq_iff_eq] at h1
    obtain ⟨h1, h3, rfl, h5, h6⟩ := h1
    obtain ⟨k, rfl, hk, hc⟩ := cw_ref_ok hS.2.2 hd hD hlen
    obtain ⟨ko, rfl, hko, hco⟩ := cw_ref_ok hS.2.2 hv hD2 hlen
    obtain ⟨xs, hx1, hx2, hx3⟩ := cw_cell_r hD hc
    obtain ⟨vs, hv1, -, -⟩ := cw_cell_o hD2 hco
    obtain ⟨i1, i2, i3⟩ := cw_ix_ok h1 hx
    refine cw_wrow (s := 0) (c' := cv_cr t (xs.set i.toNatClampNeg (some ko))) hPok hdp hS rfl ?_ hZ hk hx1 rfl rfl ?_ h3 (fun j hj => ?_) (fun t n rs' q => rfl)
    · show (match h[k]?, h[ko]? with
        | some (.inr (.inr (.inl (t, xs)))), some (.inr (.inr (.inr (ci, _)))) => bif cv_ix i xs.length && (ci == (bif t == 4 then 1 else 7)) then some _ else none
        | _, _ => none) = _
      rw [hx1, hv1]
      show (bif cv_ix i xs.length && (ci == (bif t == 4 then 1 else 7)) then some _ else none) = _
      rw [hx2, i1, h6, beq_self_eq_true]
      rfl
    · unfold cw_cell
      rw [hD]
      refine ⟨_, List.getElem?_set_self (cw_lt_of hx1), by rw [List.length_set]; exact hx2, fun j o hj => ?_⟩
      by_cases ej : i.toNatClampNeg = j
      · subst ej
        rw [List.getElem?_set_self (by omega)] at hj
        cases hj
        exact ⟨ko, rfl, hko⟩
      · rw [List.getElem?_set_ne ej] at hj
        exact hx3 j o hj
    · rw [hD] at hj
      exact absurd rfl hj
  · cases hr
/-! fields -/
theorem cw_upath_ok {p : cw_P} {f : Nat} {u : cw_U} {k : Nat} {v : cv_V} (hu : cw_upath p (f + 1) = some u) (hp : cw_pr G sh (cw_val L h) p (cv_r k)) (hf : cw_fld h (some (cv_r k)) f = some v) : cw_val L h u = some v := by
  rcases p with _ | ⟨⟨⟨i, cc⟩, d⟩ | ⟨q | l⟩⟩
  · cases hu
  · replace hu : (bif decide (d = 0) && Nat.ble (f + 1) 99 then (bif cc == 0 then some (i, f + 1) else bif Nat.ble cc 99 then some (i, cc + 100 * (f + 1)) else none) else none) = some u := hu
    obtain ⟨h1, hu2⟩ := cv_bif hu
    clear hu
    simp only [Bool.and_eq_true, decide_eq_true_eq] at h1
    obtain ⟨rfl, h99⟩ := h1
    obtain ⟨w, g1, g2⟩ := hp
    have g2 := cw_eqd_0 g2
    subst g2
    cases hc0 : cc == 0 with
    | true =>
      rw [hc0, cond_true] at hu2
      cases hu2
      simp only [beq_iff_eq] at hc0
      subst hc0
      have g1 : cv_get L i = some (cv_r k) := g1
      show (bif (f + 1) == 0 then _ else bif Nat.ble (f + 1) 99 then cw_fld h (cv_get L i) (f + 1 - 1) else _) = _
      rw [h99, g1]
      exact hf
    | false =>
      rw [hc0, cond_false] at hu2
      have hc0' : ¬ cc = 0 := by simpa using hc0
      obtain ⟨h2, hu3⟩ := cv_bif hu2
      clear hu2
      cases hu3
      have h2' := Nat.le_of_ble_eq_true h2
      have g1 : (bif cc == 0 then cv_get L i else bif Nat.ble cc 99 then cw_fld h (cv_get L i) (cc - 1) else _) = some (cv_r k) := g1
      rw [hc0, cond_false, h2, cond_true] at g1
      unfold cw_val
      have e0 : (cc + 100 * (f + 1) == 0) = false := by simp
      have e1 : Nat.ble (cc + 100 * (f + 1)) 99 = false := by
        cases hb : Nat.ble (cc + 100 * (f + 1)) 99 with
        | false => rfl
        | true => have := Nat.le_of_ble_eq_true hb; omega
      have e2 : (cc + 100 * (f + 1)) % 100 = cc := by omega
      have e3 : (cc + 100 * (f + 1)) / 100 = f + 1 := by omega
      have e4 : Nat.ble 1 cc = true := Nat.ble_eq_true_of_le (by omega)
      dsimp only
      rw [e0, cond_false, e1, cond_false, e2, e4, cond_true, e3, g1]
      exact hf
  · cases hu
  · cases hu
theorem cw_fld_at {k f ci : Nat} {vs : List cv_V} (hk : h[k]? = some (cv_co ci vs)) : cw_fld h (some (cv_r k)) f = vs[f]? := by
  show (match h[k]? with
    | some (.inr (.inr (.inr (_, fs)))) => fs[f]?
    | _ => none) = _
  rw [hk]
theorem cw_getfield_ok {ix : Nat} (hlen : Ds.length ≤ 1000) (hS : cw_St Ds sh G P v0 e z L st h) (hr : cw_one Ds wm dp (pc, .getfield ix, len, a, b, zz) e z = some r) : cw_Rs Ds sh G P wm v0 pc len r h (cv_one X (pc, .getfield ix, len, a, b, zz) (pc, L, st, h, c, n)) c n := by
  rcases z with _ | ⟨⟨w | w | d, p1⟩, z⟩
  · cases hr
  · rcases z with _ | ⟨⟨x | x | x, p2⟩, z⟩ <;> (cases hr; done)
  · rcases z with _ | ⟨⟨x | x | x, p2⟩, z⟩ <;> (cases hr; done)
  match st, hS.2.1 with
  | v1 :: st, ⟨⟨hd, hp⟩, hZ⟩ =>
  replace hr : (match Ds[d]? with
    | some (.inr (.inr (.inr (ci, fs)))) => bif ci == a then (match fs[b]? with
        | some x => (match cw_upath p1 (b + 1) with
          | some u => (match cw_get e u with
            | some (a', _) => some [((none : Option Nat), e, (a', some (.inl (u, 0))) :: z)]
            | none => some [(none, e, (x, some (.inl (u, 0))) :: z)])
          | none => some [(none, e, (x, none) :: z)])
        | none => none) else none
    | _ => none) = some r := hr
  split at hr
  · rename_i ci fs hD
    obtain ⟨h1, h2⟩ := cv_bif hr
    obtain ⟨k, rfl, hk, hc⟩ := cw_ref_ok hS.2.2 hd hD hlen
    obtain ⟨vs, hv1, hv2, hv3⟩ := cw_cell_o hD hc
    cases hf : fs[b]? with
    | none => rw [hf] at h2; cases h2
    | some x =>
      rw [hf] at h2
      dsimp only at h2
      obtain ⟨v, hv, hg⟩ := hv3 b x hf
      have hone : cv_one X (pc, .getfield ix, len, a, b, zz) (pc, L, cv_r k :: st, h, c, n) = some (pc + len, L, v :: st, h, c, n) := by
        show (match h[k]? with
          | some (.inr (.inr (.inr (ci, fs)))) => bif ci == a then (fs[b]?).map _ else none
          | _ => none) = _
        rw [hv1]
        show (bif ci == a then (vs[b]?).map _ else none) = _
        rw [h1, hv]
        rfl
      cases hu : cw_upath p1 (b + 1) with
      | none =>
        rw [hu] at h2
        cases h2
        exact cw_pure hS rfl hone ⟨⟨hg, trivial⟩, hZ⟩
      | some u =>
        rw [hu] at h2
        have hval : cw_val L h u = some v := cw_upath_ok hu hp (by rw [cw_fld_at hv1]; exact hv)
        dsimp only at h2
        cases he : cw_get e u with
        | none =>
          rw [he] at h2
          cases h2
          exact cw_pure hS rfl hone ⟨⟨hg, v, hval, cw_eqd_rf⟩, hZ⟩
        | some ao =>
          obtain ⟨a', o⟩ := ao
          rw [he] at h2
          cases h2
          obtain ⟨v', g1, g2, -⟩ := cw_get_ok hS.1 he
          rw [hval] at g1
          cases g1
          exact cw_pure hS rfl hone ⟨⟨g2, v, hval, cw_eqd_rf⟩, hZ⟩
  · cases hr
theorem cw_fld_set {k f g ci : Nat} {vs : List cv_V} {v : cv_V} (hk : h[k]? = some (cv_co ci vs)) (hg : g ≠ f) (o : Option cv_V) : cw_fld (h.set k (cv_co ci (vs.set f v))) o g = cw_fld h o g := by
  rcases o with _ | x | x | (_ | k') | x <;> try rfl
  unfold cw_fld
  by_cases e : k' = k
  · subst e
    dsimp only
    rw [List.getElem?_set_self (cw_lt_of hk), hk]
    dsimp only
    rw [List.getElem?_set_ne (fun q => hg q.symm)]
  · dsimp only
    rw [List.getElem?_set_ne (fun q => e q.symm)]
theorem cw_val_set {k f ci : Nat} {vs : List cv_V} {v w : cv_V} {u : cw_U} (hk : h[k]? = some (cv_co ci vs)) (hu : cw_has u.2 (f + 1) = false) (hv : cw_val L h u = some w) : cw_val L (h.set k (cv_co ci (vs.set f v))) u = some w := by
  unfold cw_has at hu
  simp only [Bool.or_eq_false_iff, beq_eq_false_iff_ne] at hu
  refine cw_val_hp hv (fun k' x h1 h2 h3 h4 => ?_) (fun k1 k2 x h1 h2 h3 h4 => ?_)
  · rw [cw_fld_set hk (by omega)]; exact h4
  · rw [cw_fld_set hk (by omega)]; exact h4
theorem cw_uref_ok {p : cw_P} {i : Nat} {v : cv_V} (hu : cw_uref p = some i) (hp : cw_pr G sh (cw_val L h) p v) : cv_get L i = some v := by
  rcases p with _ | ⟨⟨⟨j, cc⟩, d⟩ | ⟨q | l⟩⟩
  · cases hu
  · rcases cc with _ | cc
    · obtain ⟨h1, h2⟩ := cv_bif (show (bif decide (d = 0) then some j else none) = some i from hu)
      cases h2
      simp only [decide_eq_true_eq] at h1
      subst h1
      obtain ⟨w, g1, g2⟩ := hp
      have g2 := cw_eqd_0 g2
      subst g2
      exact g1
    · cases hu
  · cases hu
  · cases hu
theorem cw_putfield_ok {ix : Nat} (hPok : cw_Pok Ds sh dp P) (hdp : cw_dpok Ds dp) (hlen : Ds.length ≤ 1000) (hS : cw_St Ds sh G P v0 e z L st h) (hr : cw_one Ds wm dp (pc, .putfield ix, len, a, b, zz) e z = some r) : cw_Rs Ds sh G P wm v0 pc len r h (cv_one X (pc, .putfield ix, len, a, b, zz) (pc, L, st, h, c, n)) c n := by
  rcases z with _ | ⟨⟨x, pv⟩, z⟩
  · cases hr
  rcases z with _ | ⟨⟨y | y | d, p⟩, z⟩
  · rcases x with x | x | x <;> (cases hr; done)
  · rcases x with x | x | x <;> (cases hr; done)
  · rcases x with x | x | x <;> (cases hr; done)
  match st, hS.2.1 with
  | v :: v2 :: st, ⟨⟨hv, hpv⟩, ⟨hd, hp⟩, hZ⟩ =>
  replace hr : (match Ds[d]? with
    | some (.inr (.inr (.inr (ci, fs)))) => bif ci == a && (cw_may wm dp d b && Nat.ble b 98) then (match fs[b]? with
        | some y => bif cw_sub x y && (match zz.toNat, y with
            | 0, .inl _ => true
            | 2, .inl w => cw_le 0 w.1 && cw_le w.2.1 1
            | 4, .inr (.inr d') => Nat.ble d' 999
            | _, _ => false) then
            (some [((none : Option Nat), (match cw_uref p with
              | some i => ((i, b + 1), x, cw_org e (i, b + 1) pv) :: e.filter (fun q => !cw_has q.1.2 (b + 1))
              | none => e.filter (fun q => !cw_has q.1.2 (b + 1))), cw_clr (fun u => cw_has u.2 (b + 1)) z)]) else none
        | none => none) else none
    | _ => none) = some r := hr
  split at hr
  · rename_i ci fs hD
    obtain ⟨h1, h2⟩ := cv_bif hr
    simp only [Bool.and_eq_true] at h1
    obtain ⟨h1, hm, h98⟩ := h1
    have h98 := Nat.le_of_ble_eq_true h98
    obtain ⟨k, rfl, hk, hc⟩ := cw_ref_ok hS.2.2 hd hD hlen
    obtain ⟨vs, hv1, hv2, hv3⟩ := cw_cell_o hD hc
    cases hf : fs[b]? with
    | none => rw [hf] at h2; cases h2
    | some y =>
      rw [hf] at h2
      obtain ⟨h3, h2⟩ := cv_bif h2
      cases h2
      rw [Bool.and_eq_true] at h3
      have hy := cw_sub_ok h3.1 hv
      have hb : b < vs.length := by have := (List.getElem?_eq_some_iff.mp hf).1; omega
      have hfit : cv_fit zz.toNat v = true := by
        have h4 := h3.2
        generalize zz.toNat = t at h4
        rcases y with w | w | d'
        · obtain ⟨m, rfl, hw⟩ := hy
          rcases t with _ | _ | _ | _ | _ | t
          · rfl
          · cases h4
          · simp only [Bool.and_eq_true, cw_le_iff] at h4
            have g1 := hw.1
            have g2 := hw.2.1
            show (decide (m = 0) || decide (m = 1)) = true
            have : m.toInt = 0 ∨ m.toInt = 1 := by omega
            simp only [Bool.or_eq_true, decide_eq_true_eq]
            rcases this with q | q
            · exact .inl (Int32.toInt_inj.mp (by rw [q]; rfl))
            · exact .inr (Int32.toInt_inj.mp (by rw [q]; rfl))
          · cases h4
          · cases h4
          · cases h4
        · rcases t with _ | _ | _ | _ | _ | t <;> cases h4
        · rcases t with _ | _ | _ | _ | _ | t
          · cases h4
          · cases h4
          · cases h4
          · cases h4
          · have h5 := Nat.le_of_ble_eq_true h4
            rcases hy with ⟨-, k', rfl, -⟩ | ⟨j, hj, rfl⟩
            · rfl
            · omega
          · cases h4
      have hone : cv_one X (pc, .putfield ix, len, a, b, zz) (pc, L, v :: cv_r k :: st, h, c, n) = some (pc + len, L, st, h.set k (cv_co ci (vs.set b v)), c, n) := by
        show (match h[k]? with
          | some (.inr (.inr (.inr (ci, fs)))) => bif ci == a && (decide (b < fs.length) && cv_fit zz.toNat v) then some _ else none
          | _ => none) = _
        rw [hv1]
        show (bif ci == a && (decide (b < vs.length) && cv_fit zz.toNat v) then some _ else none) = _
        rw [h1, hfit, decide_eq_true hb]
        rfl
      have hw := cw_Inv_set (wm := wm) (s := b) (c' := cv_co ci (vs.set b v)) hPok hdp hS.2.2 hk hv1 (by
          unfold cw_cell
          rw [hD]
          refine ⟨_, List.getElem?_set_self (cw_lt_of hv1), by rw [List.length_set]; exact hv2, fun i x' hi => ?_⟩
          by_cases ei : b = i
          · subst ei
            rw [hf] at hi
            cases hi
            exact ⟨v, List.getElem?_set_self hb, hy⟩
          · rw [List.getElem?_set_ne ei]
            exact hv3 i x' hi) hm (fun i hi => by
          rw [hD] at hi
          show (vs.set b v)[i]? = vs[i]?
          exact List.getElem?_set_ne (fun q => hi q.symm)) (fun t n rs q => by rw [hD] at q; cases q)
      have hE' : cw_Er G sh v0 (e.filter (fun q => !cw_has q.1.2 (b + 1))) (cw_val L (h.set k (cv_co ci (vs.set b v)))) := by
        refine cw_Er_mv hS.1 fun t ht => ?_
        obtain ⟨ht1, ht2⟩ := List.mem_filter.mp ht
        exact ⟨ht1, fun w hw _ => cw_val_set hv1 (by simpa using ht2) hw⟩
      rw [hone]
      refine ⟨none, _, _, _, _, _, List.mem_singleton_self _, rfl, ⟨?_, cw_Zr_clr (fun u hu w hw => cw_val_set hv1 hu hw) hZ, hw.1⟩, hw.2⟩
      cases hu : cw_uref p with
      | none => exact hE'
      | some i =>
        refine cw_Er_cons (v := v) hE' ?_ hv (cw_org_ok hS.1 hpv)
        have hi := cw_uref_ok hu hp
        show (bif (b + 1) == 0 then _ else bif Nat.ble (b + 1) 99 then cw_fld _ (cv_get L i) (b + 1 - 1) else _) = _
        rw [Nat.ble_eq_true_of_le (by omega), hi]
        show cw_fld _ (some (cv_r k)) b = _
        rw [cw_fld_at (List.getElem?_set_self (cw_lt_of hv1))]
        exact List.getElem?_set_self hb
  · cases hr
end CWP
