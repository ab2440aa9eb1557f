/-! ===== one row's step ===== -/
def cw_Xok (X : cv_X) : Prop := ∀ j, (j = 4 ∨ j = 5) → ∃ xs, X j = some xs ∧ xs.length = 9
def cw_St (Ds : List cw_D) (sh : List Nat) (G : Int) (P : cv_H → Prop) (v0 : cw_U → Option cv_V) (e : cw_E) (z : cw_Z) (L : cv_L) (st : List cv_V) (h : cv_H) : Prop := cw_Er G sh v0 e (cw_val L h) ∧ cw_Zr G sh (cw_val L h) z st ∧ cw_Inv Ds sh G P h
def cw_Rs (Ds : List cw_D) (sh : List Nat) (G : Int) (P : cv_H → Prop) (wm : Nat) (v0 : cw_U → Option cv_V) (pc len : Nat) (r : cw_R) (h : cv_H) (o : Option cv_S) (c n : Nat) : Prop :=
  ∃ t e' z' L' st' h', (t, e', z') ∈ r ∧ o = some ((match t with
    | none => pc + len
    | some p => p), L', st', h', c, n) ∧ cw_St Ds sh G P v0 e' z' L' st' h' ∧ cw_Fr Ds sh wm h h'
section CWO
variable {Ds : List cw_D} {sh : List Nat} {G : Int} {P : cv_H → Prop} {dp wm : Nat} {v0 : cw_U → Option cv_V} {X : cv_X} {pc len a b c n : Nat} {zz : Int} {e : cw_E} {z : cw_Z} {r : cw_R} {L : cv_L} {st : List cv_V} {h : cv_H}
/-- the stack alone changes -/
theorem cw_pure {z' : cw_Z} {st' : List cv_V} {o : Option cv_S} (hS : cw_St Ds sh G P v0 e z L st h) (hr : r = [(none, e, z')]) (ho : o = some (pc + len, L, st', h, c, n)) (hz : cw_Zr G sh (cw_val L h) z' st') : cw_Rs Ds sh G P wm v0 pc len r h o c n :=
  ⟨none, e, z', L, st', h, by rw [hr]; exact List.mem_singleton_self _, ho, ⟨hS.1, hz, hS.2.2⟩, cw_Fr_refl⟩
theorem cw_eqd_rf {v : cv_V} : cw_eqd v v 0 := .inl ⟨rfl, rfl⟩
theorem cw_push_ok {q : cv_Q} {x : cw_A} (h : cw_push q = some x) : ∃ v, cv_push q = some v ∧ cw_ga G sh x v := by
  have hi : ∀ x : Int32, cw_ga G sh (cw_int (x.toInt, x.toInt, 0)) (cv_i x) := fun x => ⟨x, rfl, Int.le_refl _, Int.le_refl _, cw_tg0⟩
  have hl : ∀ x : Int64, cw_ga G sh (cw_lng (x.toInt, x.toInt, 0)) (cv_l x) := fun x => ⟨x, rfl, Int.le_refl _, Int.le_refl _, cw_tg0⟩
  obtain ⟨pc, i, len, a, b, zz⟩ := q
  cases i
  all_goals first | (cases h; done) | skip
  case iconst => cases h; exact ⟨_, rfl, hi _⟩
  case bipush => cases h; exact ⟨_, rfl, hi _⟩
  case sipush => cases h; exact ⟨_, rfl, hi _⟩
  case ldc =>
    obtain ⟨h1, h2⟩ := cv_bif (show (bif a == 0 then some _ else none) = some x from h)
    cases h2
    refine ⟨_, rfl, ?_⟩
    show cw_ga G sh _ (bif a == 0 then _ else _)
    rw [h1]
    exact hi _
  case ldc_w => cases h; exact ⟨_, rfl, hi _⟩
  case ldc2_w => cases h; exact ⟨_, rfl, hl _⟩
  case lconst => cases h; exact ⟨_, rfl, hl _⟩
  case getstatic =>
    match a, h with
    | 4, h => cases h; exact ⟨_, rfl, .inr ⟨4, rfl, rfl⟩⟩
    | 5, h => cases h; exact ⟨_, rfl, .inr ⟨5, rfl, rfl⟩⟩
theorem cw_kd_ok {k : Nat} {x : cw_A} {v : cv_V} (h : cw_kd k x = true) (hg : cw_ga G sh x v) : cv_kind k v = true ∧ (k = 2 → cw_dok x = true → cv_isR v = true) := by
  rcases x with w | w | d
  · obtain ⟨n, rfl, -⟩ := hg
    rcases k with _ | _ | _ | _ | k <;> first | (cases h; done) | exact ⟨rfl, fun h => by omega⟩
  · obtain ⟨n, rfl, -⟩ := hg
    rcases k with _ | _ | _ | _ | k <;> first | (cases h; done) | exact ⟨rfl, fun h => by omega⟩
  · rcases k with _ | _ | _ | _ | k <;> first | (cases h; done) | skip
    rcases hg with ⟨hd, k, rfl, -⟩ | ⟨j, hj, rfl⟩
    · exact ⟨rfl, fun _ _ => rfl⟩
    · refine ⟨rfl, fun _ h => ?_⟩
      have := Nat.le_of_ble_eq_true h
      omega
theorem cw_load_ok {q : cv_Q} {i k : Nat} (hl : cv_load q.2.1 = some (i, k)) (hp : cv_push q = none) {x : cw_A} {o : Option Int} (hg : cw_get e (i, 0) = some (x, o)) (hk : cw_kd k x = true) (hS : cw_St Ds sh G P v0 e z L st h) : cw_Rs Ds sh G P wm v0 pc q.2.2.1 [(none, e, (x, some (.inl ((i, 0), 0))) :: z)] h (cv_one X q (pc, L, st, h, c, n)) c n := by
  obtain ⟨v, g1, g2, -⟩ := cw_get_ok hS.1 hg
  have g1' : cv_get L i = some v := g1
  refine cw_pure (st' := v :: st) hS rfl ?_ ⟨⟨g2, v, g1, cw_eqd_rf⟩, hS.2.1⟩
  unfold cv_one
  dsimp only
  rw [hp]
  dsimp only
  rw [hl]
  dsimp only
  rw [g1']
  dsimp only
  rw [(cw_kd_ok hk g2).1]
  rfl
theorem cw_store_ok {q : cv_Q} {i k : Nat} {x : cw_A} {p : cw_P} (hl : cv_store q.2.1 = some (i, k)) (hp : cv_push q = none) (hld : cv_load q.2.1 = none) (hk : (cw_kd k x && cw_dok x) = true) (hS : cw_St Ds sh G P v0 e ((x, p) :: z) L st h) : cw_Rs Ds sh G P wm v0 pc q.2.2.1 (bif k == 3 then [(none, cw_stL e i x, cw_clr (fun u => u.1 == i || (u.1 == i + 1 || u.1 + 1 == i)) z)] else [(none, cw_st e i x (cw_org e (i, 0) p), cw_clr (fun u => u.1 == i || u.1 + 1 == i) z)]) h (cv_one X q (pc, L, st, h, c, n)) c n := by
  obtain ⟨hE, hZ, hI⟩ := hS
  match st, hZ with
  | v :: st, hZ =>
  simp only [Bool.and_eq_true] at hk
  have hkk := cw_kd_ok hk.1 hZ.1.1
  have hone : cv_one X q (pc, L, v :: st, h, c, n) = some (pc + q.2.2.1, (bif k == 3 then cv_setL L i v else cv_set L i v), st, h, c, n) := by
    unfold cv_one
    dsimp only
    rw [hp]
    dsimp only
    rw [hld]
    dsimp only
    rw [hl]
    dsimp only
    have : (bif k == 2 then cv_isR v else cv_kind k v) = true := by
      cases h2 : k == 2 with
      | false => exact hkk.1
      | true => exact hkk.2 (by simpa using h2) hk.2
    rw [this]
    rfl
  rw [hone]
  cases h3 : k == 3 with
  | true =>
    exact ⟨none, _, _, _, _, _, List.mem_singleton_self _, rfl, ⟨cw_Er_stL hE hZ.1.1, cw_Zr_stL hZ.2, hI⟩, cw_Fr_refl⟩
  | false =>
    exact ⟨none, _, _, _, _, _, List.mem_singleton_self _, rfl, ⟨cw_Er_st hE hZ.1.1 (cw_org_ok hE hZ.1.2), cw_Zr_st hZ.2, hI⟩, cw_Fr_refl⟩
theorem cw_iinc_ok {i : Nat} {m : Int} (hS : cw_St Ds sh G P v0 e z L st h) (hr : cw_one Ds wm dp (pc, .iinc i m, len, a, b, zz) e z = some r) : cw_Rs Ds sh G P wm v0 pc len r h (cv_one X (pc, .iinc i m, len, a, b, zz) (pc, L, st, h, c, n)) c n := by
  obtain ⟨hE, hZ, hI⟩ := hS
  replace hr : (match cw_get e (i, 0) with
    | some (.inl w, o) => let d := (Int32.ofInt m).toInt
      bif cw_le (-2147483648) (w.1 + d) && cw_le (w.2.1 + d) 2147483647 then
        some [((none : Option Nat), cw_st e i (cw_int (w.1 + d, w.2.1 + d, 0)) (o.map (· + d)), cw_clr (fun u => u.1 == i || u.1 + 1 == i) z)]
      else some [(none, cw_st e i (cw_int cw_top) none, cw_clr (fun u => u.1 == i || u.1 + 1 == i) z)]
    | _ => none) = some r := hr
  cases hg : cw_get e (i, 0) with
  | none => rw [hg] at hr; cases hr
  | some ao =>
    obtain ⟨x, o⟩ := ao
    rw [hg] at hr
    rcases x with w | w | d
    · obtain ⟨v, g1, ⟨y, rfl, g2⟩, g3⟩ := cw_get_ok hE hg
      have g1' : cv_get L i = some (cv_i y) := g1
      have hone : cv_one X (pc, .iinc i m, len, a, b, zz) (pc, L, st, h, c, n) = some (pc + len, cv_set L i (cv_i (y + Int32.ofInt m)), st, h, c, n) := by
        show (match cv_get L i with
          | some (.inl x) => _
          | _ => _) = _
        rw [g1']
      rw [hone]
      dsimp only at hr
      cases hc : (cw_le (-2147483648) (w.1 + (Int32.ofInt m).toInt) && cw_le (w.2.1 + (Int32.ofInt m).toInt) 2147483647) with
      | false =>
        rw [hc] at hr
        cases hr
        exact ⟨none, _, _, _, _, _, List.mem_singleton_self _, rfl, ⟨cw_Er_st hE ⟨_, rfl, cw_top_ok _⟩ (fun d q => by cases q), cw_Zr_st hZ, hI⟩, cw_Fr_refl⟩
      | true =>
        rw [hc] at hr
        cases hr
        simp only [Bool.and_eq_true, cw_le_iff] at hc
        have e1 : (y + Int32.ofInt m).toInt = y.toInt + (Int32.ofInt m).toInt := by
          have := g2.1
          have := g2.2.1
          rw [Int32.toInt_add, cw_bm (by omega) (by omega)]
        refine ⟨none, _, _, _, _, _, List.mem_singleton_self _, rfl, ⟨cw_Er_st hE ⟨_, rfl, ?_, ?_, cw_tg0⟩ (fun d q => ?_), cw_Zr_st hZ, hI⟩, cw_Fr_refl⟩
        · rw [e1]; have := g2.1; show w.1 + _ ≤ _; omega
        · rw [e1]; have := g2.2.1; show _ ≤ w.2.1 + _; omega
        · cases o with
          | none => cases q
          | some d0 =>
            cases q
            obtain ⟨w0, k1, k2⟩ := g3 d0 rfl
            exact ⟨w0, k1, cw_eqd_tr k2 (.inr ⟨y, _, rfl, rfl, e1⟩)⟩
    · cases hr
    · cases hr
theorem cw_goto_ok {off : Int} (hS : cw_St Ds sh G P v0 e z L st h) (hr : cw_one Ds wm dp (pc, .goto off, len, a, b, zz) e z = some r) : cw_Rs Ds sh G P wm v0 pc len r h (cv_one X (pc, .goto off, len, a, b, zz) (pc, L, st, h, c, n)) c n := by
  obtain ⟨h1, h2⟩ := cv_bif (show (bif cv_jmp pc off then some [(some (cv_tgt pc off), e, z)] else none) = some r from hr)
  cases h2
  refine ⟨_, _, _, L, st, h, List.mem_singleton_self _, ?_, hS, cw_Fr_refl⟩
  show (bif cv_jmp pc off then _ else none) = _
  rw [h1]
  rfl
/-! rows -/
theorem cw_ix_ok {w : cw_W} {m : Nat} {x : Int32} (h : cw_ix w m = true) (hw : cw_wok G w x.toInt) : cv_ix x m = true ∧ x.toNatClampNeg < m ∧ (x.toNatClampNeg : Int) = x.toInt := by
  unfold cw_ix at h
  simp only [Bool.and_eq_true, cw_le_iff] at h
  have h1 := hw.1
  have h2 := hw.2.1
  have e : x.toNatClampNeg = x.toInt.toNat := rfl
  have h3 : (x.toNatClampNeg : Int) = x.toInt := by rw [e]; omega
  have h4 : x.toNatClampNeg < m := by omega
  refine ⟨?_, h4, h3⟩
  unfold cv_ix
  have h0 : (0 : Int32) ≤ x := by rw [Int32.le_iff_toInt_le]; show (0 : Int) ≤ _; omega
  simp only [Bool.and_eq_true, decide_eq_true_eq]
  exact ⟨h0, h4⟩
theorem cw_sel_ok {p : Nat} {rs : List (Int × Int)} {w : cw_W} {x : Int32} {j : Nat} (hw : cw_wok G w x.toInt) (hj : (j : Int) = x.toInt) : (∀ r, rs[j % p]? = some r → r ∈ (cw_sel p rs w).1) ∧ ((cw_sel p rs w).2 = 0 ∨ (cw_sel p rs w).2 = 1 + j % p) ∧ (p = 1 → (cw_sel p rs w).2 = 0) := by
  unfold cw_sel
  cases hc : (Nat.ble 16 w.2.2 && (cw_md w.2.2 == p && Nat.ble 2 p)) with
  | false => exact ⟨fun r hr => List.mem_of_getElem? hr, .inl rfl, fun _ => rfl⟩
  | true =>
    simp only [Bool.and_eq_true, Nat.ble_eq, beq_iff_eq] at hc
    obtain ⟨h1, h2, h3⟩ := hc
    have h4 := hw.2.2.2.2.2 h1
    rw [h2, ← hj] at h4
    have h5 : j % p = cw_rs w.2.2 := by
      have : ((j % p : Nat) : Int) = (cw_rs w.2.2 : Int) := by rw [Int.natCast_emod]; exact h4
      omega
    rw [cond_true, ← h5]
    cases hr : rs[j % p]? with
    | none => exact ⟨(fun r q => by cases q), .inl rfl, fun _ => rfl⟩
    | some r => exact ⟨fun r' q => (by cases q; exact List.mem_singleton_self _), .inr rfl, fun q => by omega⟩
theorem cw_hull_ok : ∀ {l : List (Int × Int)} {r : Int × Int}, r ∈ l → (cw_hull l).1 ≤ r.1 ∧ r.2 ≤ (cw_hull l).2
  | [q], r, h => by
    rcases List.mem_singleton.mp h with rfl
    exact ⟨Int.le_refl _, Int.le_refl _⟩
  | q :: q' :: l, r, h => by
    show cw_mn q.1 (cw_hull (q' :: l)).1 ≤ _ ∧ _ ≤ cw_mx q.2 (cw_hull (q' :: l)).2
    rcases List.mem_cons.mp h with rfl | h
    · exact ⟨cw_mn_l, cw_mx_l⟩
    · have ih := cw_hull_ok h
      exact ⟨Int.le_trans cw_mn_r ih.1, Int.le_trans ih.2 cw_mx_r⟩
theorem cw_ref_ok {d : Nat} {v : cv_V} {D : cw_D} (hI : cw_Inv Ds sh G P h) (hg : cw_ga G sh (.inr (.inr d)) v) (hD : Ds[d]? = some D) (hlen : Ds.length ≤ 1000) : ∃ k, v = cv_r k ∧ sh[k]? = some d ∧ cw_cell Ds sh G h k d := by
  rcases hg with ⟨hd, k, rfl, hk⟩ | ⟨j, rfl, rfl⟩
  · exact ⟨k, rfl, hk, hI.1 k d hk⟩
  · have := (List.getElem?_eq_some_iff.mp hD).1
    omega
theorem cw_cell_i {k d t m p : Nat} {rs : List (Int × Int)} (hD : Ds[d]? = some (.inl (t, m, p, rs))) (hc : cw_cell Ds sh G h k d) : ∃ xs, h[k]? = some (cv_ci t xs) ∧ xs.length = m ∧ ∀ (i : Nat) (x : Int32), xs[i]? = some x → ∃ r, rs[i % p]? = some r ∧ r.1 ≤ x.toInt ∧ x.toInt ≤ r.2 := by
  unfold cw_cell at hc; rw [hD] at hc; exact hc
theorem cw_cell_l {k d m : Nat} (hD : Ds[d]? = some (.inr (.inl m))) (hc : cw_cell Ds sh G h k d) : ∃ xs, h[k]? = some (cv_cl xs) ∧ xs.length = m := by
  unfold cw_cell at hc; rw [hD] at hc; exact hc
theorem cw_cell_r {k d t m d' : Nat} (hD : Ds[d]? = some (.inr (.inr (.inl (t, m, d'))))) (hc : cw_cell Ds sh G h k d) : ∃ xs, h[k]? = some (cv_cr t xs) ∧ xs.length = m ∧ ∀ (i : Nat) (o : Option Nat), xs[i]? = some o → ∃ k' : Nat, o = some k' ∧ sh[k']? = some d' := by
  unfold cw_cell at hc; rw [hD] at hc; exact hc
theorem cw_cell_o {k d ci : Nat} {fs : List cw_A} (hD : Ds[d]? = some (.inr (.inr (.inr (ci, fs))))) (hc : cw_cell Ds sh G h k d) : ∃ vs, h[k]? = some (cv_co ci vs) ∧ vs.length = fs.length ∧ ∀ (i : Nat) (x : cw_A), fs[i]? = some x → ∃ v, vs[i]? = some v ∧ cw_ga G sh x v := by
  unfold cw_cell at hc; rw [hD] at hc; exact hc
theorem cw_get_lt {α : Type} {xs : List α} {j : Nat} (h : j < xs.length) : ∃ x, xs[j]? = some x := ⟨xs[j], List.getElem?_eq_getElem h⟩
theorem cw_iaload_ok (hX : cw_Xok X) (hlen : Ds.length ≤ 1000) (hS : cw_St Ds sh G P v0 e z L st h) (hr : cw_one Ds wm dp (pc, .iaload, len, a, b, zz) e z = some r) : cw_Rs Ds sh G P wm v0 pc len r h (cv_one X (pc, .iaload, len, a, b, zz) (pc, L, st, h, c, n)) c n := by
  rcases z with _ | ⟨⟨w | w | w, p1⟩, _ | ⟨⟨x | x | d, p2⟩, z⟩⟩ <;> first | (cases hr; done) | skip
  match st, hS.2.1 with
  | v1 :: v2 :: st, ⟨⟨⟨i, hi, hw⟩, _⟩, ⟨hd, _⟩, hZ⟩ =>
  subst hi
  replace hr : (bif d == 1004 || d == 1005 then (bif cw_ix w 9 then some [((none : Option Nat), e, (cw_int cw_top, (none : cw_P)) :: z)] else none) else (match Ds[d]? with
    | some (.inl (0, n, p, rs)) => bif cw_ix w n then (let r := cw_hull (cw_sel p rs w).1; some [(none, e, (cw_int (r.1, r.2, 0), none) :: z)]) else none
    | _ => none)) = some r := hr
  cases hs : (d == 1004 || d == 1005) with
  | true =>
    rw [hs, cond_true] at hr
    obtain ⟨h1, h2⟩ := cv_bif hr
    cases h2
    simp only [Bool.or_eq_true, beq_iff_eq] at hs
    obtain ⟨j, rfl, hj⟩ : ∃ j, v2 = cv_s j ∧ (j = 4 ∨ j = 5) := by
      rcases hd with ⟨hd, -⟩ | ⟨j, e1, e2⟩
      · omega
      · exact ⟨j, e2, by omega⟩
    obtain ⟨xs, hx1, hx2⟩ := hX j hj
    obtain ⟨i1, i2, i3⟩ := cw_ix_ok h1 hw
    obtain ⟨y, hy⟩ := cw_get_lt (xs := xs) (j := i.toNatClampNeg) (by omega)
    refine cw_pure (st' := cv_i y :: st) hS rfl ?_ ⟨⟨⟨y, rfl, cw_top_ok y⟩, trivial⟩, hZ⟩
    show (match X j with
      | some xs => bif cv_ix i xs.length && !(j == 1) then (xs[i.toNatClampNeg]?).map _ else none
      | none => none) = _
    rw [hx1]
    show (bif cv_ix i xs.length && !(j == 1) then (xs[i.toNatClampNeg]?).map _ else none) = _
    have hj1 : (!(j == 1)) = true := by rcases hj with rfl | rfl <;> rfl
    rw [hx2, i1, hj1, hy]
    rfl
  | false =>
    rw [hs, cond_false] at hr
    split at hr
    · rename_i m p rs hD
      obtain ⟨h1, h2⟩ := cv_bif hr
      cases h2
      obtain ⟨k, rfl, hk, hc⟩ := cw_ref_ok hS.2.2 hd hD hlen
      obtain ⟨xs, hx1, hx2, hx3⟩ := cw_cell_i hD hc
      obtain ⟨i1, i2, i3⟩ := cw_ix_ok h1 hw
      obtain ⟨y, hy⟩ := cw_get_lt (xs := xs) (j := i.toNatClampNeg) (by omega)
      obtain ⟨rg, g1, g2, g3⟩ := hx3 _ _ hy
      have hh := cw_hull_ok ((cw_sel_ok hw i3).1 rg g1)
      refine cw_pure (st' := cv_i y :: st) hS rfl ?_ ⟨⟨⟨y, rfl, by dsimp only; omega, by dsimp only; omega, cw_tg0⟩, trivial⟩, hZ⟩
      show (match h[k]? with
        | some (.inl (0, xs)) => bif cv_ix i xs.length then (xs[i.toNatClampNeg]?).map _ else none
        | _ => none) = _
      rw [hx1]
      show (bif cv_ix i xs.length then (xs[i.toNatClampNeg]?).map _ else none) = _
      rw [hx2, i1, hy]
      rfl
    · cases hr
theorem cw_baload_ok (hlen : Ds.length ≤ 1000) (hS : cw_St Ds sh G P v0 e z L st h) (hr : cw_one Ds wm dp (pc, .baload, len, a, b, zz) e z = some r) : cw_Rs Ds sh G P wm v0 pc len r h (cv_one X (pc, .baload, len, a, b, zz) (pc, L, st, h, c, n)) c n := by
  rcases z with _ | ⟨⟨w | w | w, p1⟩, _ | ⟨⟨x | x | d, p2⟩, z⟩⟩ <;> first | (cases hr; done) | skip
  match st, hS.2.1 with
  | v1 :: v2 :: st, ⟨⟨⟨i, hi, hw⟩, _⟩, ⟨hd, _⟩, hZ⟩ =>
  subst hi
  replace hr : (match Ds[d]? with
    | some (.inl (t, n, p, rs)) => bif (t == 1 || t == 2) && cw_ix w n then (let r := cw_hull (cw_sel p rs w).1; some [((none : Option Nat), e, (cw_int (r.1, r.2, 0), (none : cw_P)) :: z)]) else none
    | _ => none) = some r := hr
  split at hr
  · rename_i t m p rs hD
    obtain ⟨h1, h2⟩ := cv_bif hr
    cases h2
    simp only [Bool.and_eq_true] at h1
    obtain ⟨k, rfl, hk, hc⟩ := cw_ref_ok hS.2.2 hd hD hlen
    obtain ⟨xs, hx1, hx2, hx3⟩ := cw_cell_i hD hc
    obtain ⟨i1, i2, i3⟩ := cw_ix_ok h1.2 hw
    obtain ⟨y, hy⟩ := cw_get_lt (xs := xs) (j := i.toNatClampNeg) (by omega)
    obtain ⟨rg, g1, g2, g3⟩ := hx3 _ _ hy
    have hh := cw_hull_ok ((cw_sel_ok hw i3).1 rg g1)
    refine cw_pure (st' := cv_i y :: st) hS rfl ?_ ⟨⟨⟨y, rfl, by dsimp only; omega, by dsimp only; omega, cw_tg0⟩, trivial⟩, hZ⟩
    show (match h[k]? with
      | some (.inl (t, xs)) => bif (t == 1 || t == 2) && cv_ix i xs.length then (xs[i.toNatClampNeg]?).map _ else none
      | _ => none) = _
    rw [hx1]
    show (bif (t == 1 || t == 2) && cv_ix i xs.length then (xs[i.toNatClampNeg]?).map _ else none) = _
    rw [hx2, i1, hy, h1.1]
    rfl
  · cases hr
theorem cw_laload_ok (hlen : Ds.length ≤ 1000) (hS : cw_St Ds sh G P v0 e z L st h) (hr : cw_one Ds wm dp (pc, .laload, len, a, b, zz) e z = some r) : cw_Rs Ds sh G P wm v0 pc len r h (cv_one X (pc, .laload, len, a, b, zz) (pc, L, st, h, c, n)) c n := by
  rcases z with _ | ⟨⟨w | w | w, p1⟩, _ | ⟨⟨x | x | d, p2⟩, z⟩⟩ <;> first | (cases hr; done) | skip
  match st, hS.2.1 with
  | v1 :: v2 :: st, ⟨⟨⟨i, hi, hw⟩, _⟩, ⟨hd, _⟩, hZ⟩ =>
  subst hi
  replace hr : (match Ds[d]? with
    | some (.inr (.inl n)) => bif cw_ix w n then some [((none : Option Nat), e, (cw_lng cw_topL, (none : cw_P)) :: z)] else none
    | _ => none) = some r := hr
  split at hr
  · rename_i m hD
    obtain ⟨h1, h2⟩ := cv_bif hr
    cases h2
    obtain ⟨k, rfl, hk, hc⟩ := cw_ref_ok hS.2.2 hd hD hlen
    obtain ⟨xs, hx1, hx2⟩ := cw_cell_l hD hc
    obtain ⟨i1, i2, i3⟩ := cw_ix_ok h1 hw
    obtain ⟨y, hy⟩ := cw_get_lt (xs := xs) (j := i.toNatClampNeg) (by omega)
    refine cw_pure (st' := cv_l y :: st) hS rfl ?_ ⟨⟨⟨y, rfl, cw_topL_ok y⟩, trivial⟩, hZ⟩
    show (match h[k]? with
      | some (.inr (.inl xs)) => bif cv_ix i xs.length then (xs[i.toNatClampNeg]?).map _ else none
      | _ => none) = _
    rw [hx1]
    show (bif cv_ix i xs.length then (xs[i.toNatClampNeg]?).map _ else none) = _
    rw [hx2, i1, hy]
    rfl
  · cases hr
theorem cw_aaload_ok (hlen : Ds.length ≤ 1000) (hS : cw_St Ds sh G P v0 e z L st h) (hr : cw_one Ds wm dp (pc, .aaload, len, a, b, zz) e z = some r) : cw_Rs Ds sh G P wm v0 pc len r h (cv_one X (pc, .aaload, len, a, b, zz) (pc, L, st, h, c, n)) c n := by
  rcases z with _ | ⟨⟨w | w | w, p1⟩, _ | ⟨⟨x | x | d, p2⟩, z⟩⟩ <;> first | (cases hr; done) | skip
  match st, hS.2.1 with
  | v1 :: v2 :: st, ⟨⟨⟨i, hi, hw⟩, _⟩, ⟨hd, _⟩, hZ⟩ =>
  subst hi
  replace hr : (match Ds[d]? with
    | some (.inr (.inr (.inl (_, n, d')))) => bif cw_ix w n && Nat.ble d' 999 then some [((none : Option Nat), e, (cw_rf d', (none : cw_P)) :: z)] else none
    | _ => none) = some r := hr
  split at hr
  · rename_i t m d' hD
    obtain ⟨h1, h2⟩ := cv_bif hr
    cases h2
    simp only [Bool.and_eq_true, Nat.ble_eq] at h1
    obtain ⟨k, rfl, hk, hc⟩ := cw_ref_ok hS.2.2 hd hD hlen
    obtain ⟨xs, hx1, hx2, hx3⟩ := cw_cell_r hD hc
    obtain ⟨i1, i2, i3⟩ := cw_ix_ok h1.1 hw
    obtain ⟨y, hy⟩ := cw_get_lt (xs := xs) (j := i.toNatClampNeg) (by omega)
    obtain ⟨k', rfl, hk'⟩ := hx3 _ _ hy
    refine cw_pure (st' := cv_r k' :: st) hS rfl ?_ ⟨⟨.inl ⟨by omega, k', rfl, hk'⟩, trivial⟩, hZ⟩
    show (match h[k]? with
      | some (.inr (.inr (.inl (_, xs)))) => bif cv_ix i xs.length then (xs[i.toNatClampNeg]?).map _ else none
      | _ => none) = _
    rw [hx1]
    show (bif cv_ix i xs.length then (xs[i.toNatClampNeg]?).map _ else none) = _
    rw [hx2, i1, hy]
    rfl
  · cases hr
end CWO
