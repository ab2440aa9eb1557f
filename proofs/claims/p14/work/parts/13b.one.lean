section
/-! ===== the cells as the check knows them ===== -/
def cw_sl (c : cv_C) (i : Nat) : Option cv_V := match c with
  | .inl (_, xs) => (xs[i]?).map cv_i
  | .inr (.inl xs) => (xs[i]?).map cv_l
  | .inr (.inr (.inl (_, xs))) => (xs[i]?).map (fun o => .inr (.inr (.inl o)))
  | .inr (.inr (.inr (_, fs))) => fs[i]?
def cw_at (h : cv_H) (k i : Nat) : Option cv_V := match h[k]? with
  | some c => cw_sl c i
  | none => none
def cw_tch (Ds : List cw_D) (m d i : Nat) : Bool := match Ds[d]? with
  | some (.inr (.inr (.inr _))) => cw_bit m d i
  | some (.inl (_, _, p, _)) => cw_bit m d 0 || cw_bit m d (1 + i % p)
  | _ => cw_bit m d 0
def cw_prot (Ds : List cw_D) (m d i : Nat) : Bool := match Ds[d]? with
  | some (.inr (.inr (.inr _))) => cw_bit m d i
  | some (.inl (_, _, p, _)) => bif p == 1 then cw_bit m d 0 else cw_bit m d (1 + i % p)
  | _ => cw_bit m d 0
def cw_Fr (Ds : List cw_D) (sh : List Nat) (m : Nat) (h h' : cv_H) : Prop := (∀ k : Nat, sh[k]? = none → h'[k]? = h[k]?) ∧ ∀ k d i : Nat, sh[k]? = some d → cw_tch Ds m d i = false → cw_at h' k i = cw_at h k i
def cw_cell (Ds : List cw_D) (sh : List Nat) (G : Int) (h : cv_H) (k d : Nat) : Prop := match Ds[d]? with
  | some (.inl (t, n, p, rs)) => ∃ xs, h[k]? = some (cv_ci t xs) ∧ xs.length = n ∧ ∀ (i : Nat) (x : Int32), xs[i]? = some x → ∃ r, rs[i % p]? = some r ∧ r.1 ≤ x.toInt ∧ x.toInt ≤ r.2
  | some (.inr (.inl n)) => ∃ xs, h[k]? = some (cv_cl xs) ∧ xs.length = n
  | some (.inr (.inr (.inl (t, n, d')))) => ∃ xs, h[k]? = some (cv_cr t xs) ∧ xs.length = n ∧ ∀ (i : Nat) (o : Option Nat), xs[i]? = some o → ∃ k' : Nat, o = some k' ∧ sh[k']? = some d'
  | some (.inr (.inr (.inr (ci, fs)))) => ∃ vs, h[k]? = some (cv_co ci vs) ∧ vs.length = fs.length ∧ ∀ (i : Nat) (a : cw_A), fs[i]? = some a → ∃ v, vs[i]? = some v ∧ cw_ga G sh a v
  | none => False
/-- a row of which some places are kept is not written at an unknown place -/
def cw_dpok (Ds : List cw_D) (dp : Nat) : Prop := ∀ d t n p rs, Ds[d]? = some (.inl (t, n, p, rs)) → 1 ≤ p ∧ (cw_bit dp d 0 = false → ∀ r, r < p → cw_bit dp d (1 + r) = false)
def cw_Pok (Ds : List cw_D) (sh : List Nat) (dp : Nat) (P : cv_H → Prop) : Prop := ∀ h h', P h → (∀ k d i : Nat, sh[k]? = some d → cw_prot Ds dp d i = true → cw_at h' k i = cw_at h k i) → P h'
def cw_Inv (Ds : List cw_D) (sh : List Nat) (G : Int) (P : cv_H → Prop) (h : cv_H) : Prop := (∀ k d : Nat, sh[k]? = some d → cw_cell Ds sh G h k d) ∧ P h
section CWH
variable {Ds : List cw_D} {sh : List Nat} {G : Int} {P : cv_H → Prop} {dp wm : Nat}
theorem cw_Fr_refl {h : cv_H} {m : Nat} : cw_Fr Ds sh m h h := ⟨fun _ _ => rfl, fun _ _ _ _ _ => rfl⟩
theorem cw_Fr_tr {h h1 h2 : cv_H} {m : Nat} (a : cw_Fr Ds sh m h h1) (b : cw_Fr Ds sh m h1 h2) : cw_Fr Ds sh m h h2 :=
  ⟨fun k hk => (b.1 k hk).trans (a.1 k hk), fun k d i hk ht => (b.2 k d i hk ht).trans (a.2 k d i hk ht)⟩
theorem cw_bit_land {m m' d s : Nat} (h : (Nat.land m m' == m) = true) (hb : cw_bit m' d s = false) : cw_bit m d s = false := by
  simp only [beq_iff_eq] at h
  unfold cw_bit at hb ⊢
  have e : m &&& m' = m := h
  rw [← e, Nat.testBit_and, hb, Bool.and_false]
theorem cw_Fr_mono {h h1 : cv_H} {m m' : Nat} (hm : (Nat.land m m' == m) = true) (a : cw_Fr Ds sh m h h1) : cw_Fr Ds sh m' h h1 := by
  refine ⟨a.1, fun k d i hk ht => a.2 k d i hk ?_⟩
  unfold cw_tch at ht ⊢
  split
  · rename_i q; rw [q] at ht; exact cw_bit_land hm ht
  · rename_i q; rw [q] at ht
    simp only [Bool.or_eq_false_iff] at ht ⊢
    exact ⟨cw_bit_land hm ht.1, cw_bit_land hm ht.2⟩
  · rename_i q1 q2
    split at ht
    · rename_i q; exact absurd q (q1 _)
    · rename_i q; exact absurd q (q2 _ _ _ _)
    · exact cw_bit_land hm ht
theorem cw_at_set {h : cv_H} {k k' i : Nat} {c : cv_C} (hk : k < h.length) : cw_at (h.set k c) k' i = if k' = k then cw_sl c i else cw_at h k' i := by
  unfold cw_at
  by_cases e : k' = k
  · subst e
    rw [if_pos rfl, List.getElem?_set_self hk]
  · rw [if_neg e, List.getElem?_set_ne (fun q => e q.symm)]
theorem cw_lt_of {h : cv_H} {k : Nat} {c : cv_C} (e : h[k]? = some c) : k < h.length := (List.getElem?_eq_some_iff.mp e).1
/-- a cell that is not written stays -/
theorem cw_cell_mv {h h' : cv_H} {k d : Nat} (hc : cw_cell Ds sh G h k d) (e : h'[k]? = h[k]?) : cw_cell Ds sh G h' k d := by
  unfold cw_cell at hc ⊢
  rw [e]
  exact hc
/-- one cell written -/
theorem cw_Inv_set {h : cv_H} {k d s : Nat} {c c' : cv_C} (hPok : cw_Pok Ds sh dp P) (hdp : cw_dpok Ds dp) (hI : cw_Inv Ds sh G P h) (hk : sh[k]? = some d) (hc : h[k]? = some c) (hc' : cw_cell Ds sh G (h.set k c') k d)
    (hm : cw_may wm dp d s = true) (hs : ∀ i, (match Ds[d]? with
      | some (.inr (.inr (.inr _))) => i ≠ s
      | some (.inl (_, _, p, _)) => s ≠ 0 ∧ s ≠ 1 + i % p
      | _ => s ≠ 0) → cw_sl c' i = cw_sl c i) (hs1 : ∀ t n rs, Ds[d]? = some (.inl (t, n, 1, rs)) → s = 0) : cw_Inv Ds sh G P (h.set k c') ∧ cw_Fr Ds sh wm h (h.set k c') := by
  have hlt := cw_lt_of hc
  unfold cw_may at hm
  simp only [Bool.and_eq_true, Bool.not_eq_true'] at hm
  have hat : ∀ k' i, cw_at (h.set k c') k' i = if k' = k then cw_sl c' i else cw_at h k' i := fun k' i => cw_at_set hlt
  have hat0 : ∀ i, cw_at h k i = cw_sl c i := fun i => by unfold cw_at; rw [hc]
  refine ⟨⟨fun k1 d1 hk1 => ?_, hPok h _ hI.2 fun k1 d1 i hk1 hp => ?_⟩, fun k1 hk1 => ?_, fun k1 d1 i hk1 ht => ?_⟩
  · by_cases e : k1 = k
    · subst e
      rw [hk] at hk1
      cases hk1
      exact hc'
    · exact cw_cell_mv (hI.1 k1 d1 hk1) (List.getElem?_set_ne (fun q => e q.symm))
  · rw [hat]
    by_cases e : k1 = k
    · subst e
      rw [hk] at hk1
      cases hk1
      rw [if_pos rfl, hat0]
      refine hs i ?_
      unfold cw_prot at hp
      split
      · rename_i q
        rw [q] at hp
        intro e
        subst e
        replace hp : cw_bit dp d i = true := hp
        rw [hp] at hm
        exact absurd hm.2 (by simp)
      · rename_i t n p rs q
        rw [q] at hp
        have hd := hdp d t n p rs q
        dsimp only at hp
        cases hp1 : p == 1 with
        | true =>
          rw [hp1, cond_true] at hp
          simp only [beq_iff_eq] at hp1
          subst hp1
          constructor
          · intro e; rw [e, hp] at hm; exact absurd hm.2 (by simp)
          · intro e
            have := hs1 t n rs q
            omega
        | false =>
          rw [hp1, cond_false] at hp
          constructor
          · intro e
            rw [e] at hm
            have := hd.2 hm.2 (i % p) (Nat.mod_lt _ (by omega))
            rw [this] at hp
            cases hp
          · intro e
            rw [e, hp] at hm
            exact absurd hm.2 (by simp)
      · rename_i q1 q2
        split at hp
        · rename_i q; exact absurd q (q1 _)
        · rename_i q; exact absurd q (q2 _ _ _ _)
        · intro e
          rw [e, hp] at hm
          exact absurd hm.2 (by simp)
    · rw [if_neg e]
  · by_cases e : k1 = k
    · subst e; rw [hk] at hk1; cases hk1
    · exact List.getElem?_set_ne (fun q => e q.symm)
  · rw [hat]
    by_cases e : k1 = k
    · subst e
      rw [hk] at hk1
      cases hk1
      rw [if_pos rfl, hat0]
      refine hs i ?_
      unfold cw_tch at ht
      split
      · rename_i q
        rw [q] at ht
        intro e
        subst e
        replace ht : cw_bit wm d i = false := ht
        rw [ht] at hm
        exact absurd hm.1 (by simp)
      · rename_i t n p rs q
        rw [q] at ht
        simp only [Bool.or_eq_false_iff] at ht
        constructor
        · intro e; rw [e, ht.1] at hm; exact absurd hm.1 (by simp)
        · intro e; rw [e, ht.2] at hm; exact absurd hm.1 (by simp)
      · rename_i q1 q2
        split at ht
        · rename_i q; exact absurd q (q1 _)
        · rename_i q; exact absurd q (q2 _ _ _ _)
        · intro e
          rw [e, ht] at hm
          exact absurd hm.1 (by simp)
    · rw [if_neg e]
end CWH
end
section
/-! ===== one row's step ===== -/
def cw_Xok (X : cv_X) : Prop := ∀ j, (j = 4 ∨ j = 5) → ∃ xs, X j = some xs ∧ xs.length = 9
def cw_St (Ds : List cw_D) (sh : List Nat) (G : Int) (P : cv_H → Prop) (v0 : cw_U → Option cv_V) (e : cw_E) (z : cw_Z) (L : cv_L) (st : List cv_V) (h : cv_H) : Prop := cw_Er G sh v0 e (cw_val L h) ∧ cw_Zr G sh (cw_val L h) z st ∧ cw_Inv Ds sh G P h
def cw_Rs (Ds : List cw_D) (sh : List Nat) (G : Int) (P : cv_H → Prop) (wm : Nat) (v0 : cw_U → Option cv_V) (pc len : Nat) (r : cw_R) (h : cv_H) (o : Option cv_S) (c n : Nat) : Prop :=
  ∃ t e' z' L' st' h', (t, e', z') ∈ r ∧ o = some ((match t with
    | none => pc + len
    | some p => p), L', st', h', c, n) ∧ cw_St Ds sh G P v0 e' z' L' st' h' ∧ cw_Fr Ds sh wm h h'
section CWO
variable {Ds : List cw_D} {sh : List Nat} {G : Int} {P : cv_H → Prop} {dp wm : Nat} {v0 : cw_U → Option cv_V} {X : cv_X} {pc len a b c n : Nat} {zz : Int} {e : cw_E} {z : cw_Z} {r : cw_R} {L : cv_L} {st : List cv_V} {h : cv_H}
/-- the stack alone changes -/
theorem cw_pure {z' : cw_Z} {st' : List cv_V} {o : Option cv_S} (hS : cw_St Ds sh G P v0 e z L st h) (hr : r = [(none, e, z')]) (ho : o = some (pc + len, L, st', h, c, n)) (hz : cw_Zr G sh (cw_val L h) z' st') : cw_Rs Ds sh G P wm v0 pc len r h o c n :=
  ⟨none, e, z', L, st', h, by rw [hr]; exact List.mem_singleton_self _, ho, ⟨hS.1, hz, hS.2.2⟩, cw_Fr_refl⟩
theorem cw_eqd_rf {v : cv_V} : cw_eqd v v 0 := .inl ⟨rfl, rfl⟩
theorem cw_push_ok {q : cv_Q} {x : cw_A} (h : cw_push q = some x) : ∃ v, cv_push q = some v ∧ cw_ga G sh x v := by
  have hi : ∀ x : Int32, cw_ga G sh (cw_int (x.toInt, x.toInt, 0)) (cv_i x) := fun x => ⟨x, rfl, Int.le_refl _, Int.le_refl _, cw_tg0⟩
  have hl : ∀ x : Int64, cw_ga G sh (cw_lng (x.toInt, x.toInt, 0)) (cv_l x) := fun x => ⟨x, rfl, Int.le_refl _, Int.le_refl _, cw_tg0⟩
  obtain ⟨pc, i, len, a, b, zz⟩ := q
  cases i
  all_goals first | (cases h; done) | skip
  case iconst => cases h; exact ⟨_, rfl, hi _⟩
  case bipush => cases h; exact ⟨_, rfl, hi _⟩
  case sipush => cases h; exact ⟨_, rfl, hi _⟩
  case ldc =>
    obtain ⟨h1, h2⟩ := cv_bif (show (bif a == 0 then some _ else none) = some x from h)
    cases h2
    refine ⟨_, rfl, ?_⟩
    show cw_ga G sh _ (bif a == 0 then _ else _)
    rw [h1]
    exact hi _
  case ldc_w => cases h; exact ⟨_, rfl, hi _⟩
  case ldc2_w => cases h; exact ⟨_, rfl, hl _⟩
  case lconst => cases h; exact ⟨_, rfl, hl _⟩
  case getstatic =>
    match a, h with
    | 4, h => cases h; exact ⟨_, rfl, .inr ⟨4, rfl, rfl⟩⟩
    | 5, h => cases h; exact ⟨_, rfl, .inr ⟨5, rfl, rfl⟩⟩
theorem cw_kd_ok {k : Nat} {x : cw_A} {v : cv_V} (h : cw_kd k x = true) (hg : cw_ga G sh x v) : cv_kind k v = true ∧ (k = 2 → cw_dok x = true → cv_isR v = true) := by
  rcases x with w | w | d
  · obtain ⟨n, rfl, -⟩ := hg
    rcases k with _ | _ | _ | _ | k <;> first | (cases h; done) | exact ⟨rfl, fun h => by omega⟩
  · obtain ⟨n, rfl, -⟩ := hg
    rcases k with _ | _ | _ | _ | k <;> first | (cases h; done) | exact ⟨rfl, fun h => by omega⟩
  · rcases k with _ | _ | _ | _ | k <;> first | (cases h; done) | skip
    rcases hg with ⟨hd, k, rfl, -⟩ | ⟨j, hj, rfl⟩
    · exact ⟨rfl, fun _ _ => rfl⟩
    · refine ⟨rfl, fun _ h => ?_⟩
      have := Nat.le_of_ble_eq_true h
      omega
theorem cw_load_ok {q : cv_Q} {i k : Nat} (hl : cv_load q.2.1 = some (i, k)) (hp : cv_push q = none) {x : cw_A} {o : Option Int} (hg : cw_get e (i, 0) = some (x, o)) (hk : cw_kd k x = true) (hS : cw_St Ds sh G P v0 e z L st h) : cw_Rs Ds sh G P wm v0 pc q.2.2.1 [(none, e, (x, some (.inl ((i, 0), 0))) :: z)] h (cv_one X q (pc, L, st, h, c, n)) c n := by
  obtain ⟨v, g1, g2, -⟩ := cw_get_ok hS.1 hg
  have g1' : cv_get L i = some v := g1
  refine cw_pure (st' := v :: st) hS rfl ?_ ⟨⟨g2, v, g1, cw_eqd_rf⟩, hS.2.1⟩
  unfold cv_one
  dsimp only
  rw [hp]
  dsimp only
  rw [hl]
  dsimp only
  rw [g1']
  dsimp only
  rw [(cw_kd_ok hk g2).1]
  rfl
theorem cw_store_ok {q : cv_Q} {i k : Nat} {x : cw_A} {p : cw_P} (hl : cv_store q.2.1 = some (i, k)) (hp : cv_push q = none) (hld : cv_load q.2.1 = none) (hk : (cw_kd k x && cw_dok x) = true) (hS : cw_St Ds sh G P v0 e ((x, p) :: z) L st h) : cw_Rs Ds sh G P wm v0 pc q.2.2.1 (bif k == 3 then [(none, cw_stL e i x, cw_clr (fun u => u.1 == i || (u.1 == i + 1 || u.1 + 1 == i)) z)] else [(none, cw_st e i x (cw_org e (i, 0) p), cw_clr (fun u => u.1 == i || u.1 + 1 == i) z)]) h (cv_one X q (pc, L, st, h, c, n)) c n := by
  obtain ⟨hE, hZ, hI⟩ := hS
  match st, hZ with
  | v :: st, hZ =>
  simp only [Bool.and_eq_true] at hk
  have hkk := cw_kd_ok hk.1 hZ.1.1
  have hone : cv_one X q (pc, L, v :: st, h, c, n) = some (pc + q.2.2.1, (bif k == 3 then cv_setL L i v else cv_set L i v), st, h, c, n) := by
    unfold cv_one
    dsimp only
    rw [hp]
    dsimp only
    rw [hld]
    dsimp only
    rw [hl]
    dsimp only
    have : (bif k == 2 then cv_isR v else cv_kind k v) = true := by
      cases h2 : k == 2 with
      | false => exact hkk.1
      | true => exact hkk.2 (by simpa using h2) hk.2
    rw [this]
    rfl
  rw [hone]
  cases h3 : k == 3 with
  | true =>
    exact ⟨none, _, _, _, _, _, List.mem_singleton_self _, rfl, ⟨cw_Er_stL hE hZ.1.1, cw_Zr_stL hZ.2, hI⟩, cw_Fr_refl⟩
  | false =>
    exact ⟨none, _, _, _, _, _, List.mem_singleton_self _, rfl, ⟨cw_Er_st hE hZ.1.1 (cw_org_ok hE hZ.1.2), cw_Zr_st hZ.2, hI⟩, cw_Fr_refl⟩
theorem cw_iinc_ok {i : Nat} {m : Int} (hS : cw_St Ds sh G P v0 e z L st h) (hr : cw_one Ds wm dp (pc, .iinc i m, len, a, b, zz) e z = some r) : cw_Rs Ds sh G P wm v0 pc len r h (cv_one X (pc, .iinc i m, len, a, b, zz) (pc, L, st, h, c, n)) c n := by
  obtain ⟨hE, hZ, hI⟩ := hS
  replace hr : (match cw_get e (i, 0) with
    | some (.inl w, o) => let d := (Int32.ofInt m).toInt
      bif cw_le (-2147483648) (w.1 + d) && cw_le (w.2.1 + d) 2147483647 then
        some [((none : Option Nat), cw_st e i (cw_int (w.1 + d, w.2.1 + d, 0)) (o.map (· + d)), cw_clr (fun u => u.1 == i || u.1 + 1 == i) z)]
      else some [(none, cw_st e i (cw_int cw_top) none, cw_clr (fun u => u.1 == i || u.1 + 1 == i) z)]
    | _ => none) = some r := hr
  cases hg : cw_get e (i, 0) with
  | none => rw [hg] at hr; cases hr
  | some ao =>
    obtain ⟨x, o⟩ := ao
    rw [hg] at hr
    rcases x with w | w | d
    · obtain ⟨v, g1, ⟨y, rfl, g2⟩, g3⟩ := cw_get_ok hE hg
      have g1' : cv_get L i = some (cv_i y) := g1
      have hone : cv_one X (pc, .iinc i m, len, a, b, zz) (pc, L, st, h, c, n) = some (pc + len, cv_set L i (cv_i (y + Int32.ofInt m)), st, h, c, n) := by
        show (match cv_get L i with
          | some (.inl x) => _
          | _ => _) = _
        rw [g1']
      rw [hone]
      dsimp only at hr
      cases hc : (cw_le (-2147483648) (w.1 + (Int32.ofInt m).toInt) && cw_le (w.2.1 + (Int32.ofInt m).toInt) 2147483647) with
      | false =>
        rw [hc] at hr
        cases hr
        exact ⟨none, _, _, _, _, _, List.mem_singleton_self _, rfl, ⟨cw_Er_st hE ⟨_, rfl, cw_top_ok _⟩ (fun d q => by cases q), cw_Zr_st hZ, hI⟩, cw_Fr_refl⟩
      | true =>
        rw [hc] at hr
        cases hr
        simp only [Bool.and_eq_true, cw_le_iff] at hc
        have e1 : (y + Int32.ofInt m).toInt = y.toInt + (Int32.ofInt m).toInt := by
          have := g2.1
          have := g2.2.1
          rw [Int32.toInt_add, cw_bm (by omega) (by omega)]
        refine ⟨none, _, _, _, _, _, List.mem_singleton_self _, rfl, ⟨cw_Er_st hE ⟨_, rfl, ?_, ?_, cw_tg0⟩ (fun d q => ?_), cw_Zr_st hZ, hI⟩, cw_Fr_refl⟩
        · rw [e1]; have := g2.1; show w.1 + _ ≤ _; omega
        · rw [e1]; have := g2.2.1; show _ ≤ w.2.1 + _; omega
        · cases o with
          | none => cases q
          | some d0 =>
            cases q
            obtain ⟨w0, k1, k2⟩ := g3 d0 rfl
            exact ⟨w0, k1, cw_eqd_tr k2 (.inr ⟨y, _, rfl, rfl, e1⟩)⟩
    · cases hr
    · cases hr
theorem cw_goto_ok {off : Int} (hS : cw_St Ds sh G P v0 e z L st h) (hr : cw_one Ds wm dp (pc, .goto off, len, a, b, zz) e z = some r) : cw_Rs Ds sh G P wm v0 pc len r h (cv_one X (pc, .goto off, len, a, b, zz) (pc, L, st, h, c, n)) c n := by
  obtain ⟨h1, h2⟩ := cv_bif (show (bif cv_jmp pc off then some [(some (cv_tgt pc off), e, z)] else none) = some r from hr)
  cases h2
  refine ⟨_, _, _, L, st, h, List.mem_singleton_self _, ?_, hS, cw_Fr_refl⟩
  show (bif cv_jmp pc off then _ else none) = _
  rw [h1]
  rfl
/-! rows -/
theorem cw_ix_ok {w : cw_W} {m : Nat} {x : Int32} (h : cw_ix w m = true) (hw : cw_wok G w x.toInt) : cv_ix x m = true ∧ x.toNatClampNeg < m ∧ (x.toNatClampNeg : Int) = x.toInt := by
  unfold cw_ix at h
  simp only [Bool.and_eq_true, cw_le_iff] at h
  have h1 := hw.1
  have h2 := hw.2.1
  have e : x.toNatClampNeg = x.toInt.toNat := rfl
  have h3 : (x.toNatClampNeg : Int) = x.toInt := by rw [e]; omega
  have h4 : x.toNatClampNeg < m := by omega
  refine ⟨?_, h4, h3⟩
  unfold cv_ix
  have h0 : (0 : Int32) ≤ x := by rw [Int32.le_iff_toInt_le]; show (0 : Int) ≤ _; omega
  simp only [Bool.and_eq_true, decide_eq_true_eq]
  exact ⟨h0, h4⟩
theorem cw_sel_ok {p : Nat} {rs : List (Int × Int)} {w : cw_W} {x : Int32} {j : Nat} (hw : cw_wok G w x.toInt) (hj : (j : Int) = x.toInt) : (∀ r, rs[j % p]? = some r → r ∈ (cw_sel p rs w).1) ∧ ((cw_sel p rs w).2 = 0 ∨ (cw_sel p rs w).2 = 1 + j % p) ∧ (p = 1 → (cw_sel p rs w).2 = 0) := by
  unfold cw_sel
  cases hc : (Nat.ble 16 w.2.2 && (cw_md w.2.2 == p && Nat.ble 2 p)) with
  | false => exact ⟨fun r hr => List.mem_of_getElem? hr, .inl rfl, fun _ => rfl⟩
  | true =>
    simp only [Bool.and_eq_true, Nat.ble_eq, beq_iff_eq] at hc
    obtain ⟨h1, h2, h3⟩ := hc
    have h4 := hw.2.2.2.2.2 h1
    rw [h2, ← hj] at h4
    have h5 : j % p = cw_rs w.2.2 := by
      have : ((j % p : Nat) : Int) = (cw_rs w.2.2 : Int) := by rw [Int.natCast_emod]; exact h4
      omega
    rw [cond_true, ← h5]
    cases hr : rs[j % p]? with
    | none => exact ⟨(fun r q => by cases q), .inl rfl, fun _ => rfl⟩
    | some r => exact ⟨fun r' q => (by cases q; exact List.mem_singleton_self _), .inr rfl, fun q => by omega⟩
theorem cw_hull_ok : ∀ {l : List (Int × Int)} {r : Int × Int}, r ∈ l → (cw_hull l).1 ≤ r.1 ∧ r.2 ≤ (cw_hull l).2
  | [q], r, h => by
    rcases List.mem_singleton.mp h with rfl
    exact ⟨Int.le_refl _, Int.le_refl _⟩
  | q :: q' :: l, r, h => by
    show cw_mn q.1 (cw_hull (q' :: l)).1 ≤ _ ∧ _ ≤ cw_mx q.2 (cw_hull (q' :: l)).2
    rcases List.mem_cons.mp h with rfl | h
    · exact ⟨cw_mn_l, cw_mx_l⟩
    · have ih := cw_hull_ok h
      exact ⟨Int.le_trans cw_mn_r ih.1, Int.le_trans ih.2 cw_mx_r⟩
theorem cw_ref_ok {d : Nat} {v : cv_V} {D : cw_D} (hI : cw_Inv Ds sh G P h) (hg : cw_ga G sh (.inr (.inr d)) v) (hD : Ds[d]? = some D) (hlen : Ds.length ≤ 1000) : ∃ k, v = cv_r k ∧ sh[k]? = some d ∧ cw_cell Ds sh G h k d := by
  rcases hg with ⟨hd, k, rfl, hk⟩ | ⟨j, rfl, rfl⟩
  · exact ⟨k, rfl, hk, hI.1 k d hk⟩
  · have := (List.getElem?_eq_some_iff.mp hD).1
    omega
theorem cw_cell_i {k d t m p : Nat} {rs : List (Int × Int)} (hD : Ds[d]? = some (.inl (t, m, p, rs))) (hc : cw_cell Ds sh G h k d) : ∃ xs, h[k]? = some (cv_ci t xs) ∧ xs.length = m ∧ ∀ (i : Nat) (x : Int32), xs[i]? = some x → ∃ r, rs[i % p]? = some r ∧ r.1 ≤ x.toInt ∧ x.toInt ≤ r.2 := by
  unfold cw_cell at hc; rw [hD] at hc; exact hc
theorem cw_cell_l {k d m : Nat} (hD : Ds[d]? = some (.inr (.inl m))) (hc : cw_cell Ds sh G h k d) : ∃ xs, h[k]? = some (cv_cl xs) ∧ xs.length = m := by
  unfold cw_cell at hc; rw [hD] at hc; exact hc
theorem cw_cell_r {k d t m d' : Nat} (hD : Ds[d]? = some (.inr (.inr (.inl (t, m, d'))))) (hc : cw_cell Ds sh G h k d) : ∃ xs, h[k]? = some (cv_cr t xs) ∧ xs.length = m ∧ ∀ (i : Nat) (o : Option Nat), xs[i]? = some o → ∃ k' : Nat, o = some k' ∧ sh[k']? = some d' := by
  unfold cw_cell at hc; rw [hD] at hc; exact hc
theorem cw_cell_o {k d ci : Nat} {fs : List cw_A} (hD : Ds[d]? = some (.inr (.inr (.inr (ci, fs))))) (hc : cw_cell Ds sh G h k d) : ∃ vs, h[k]? = some (cv_co ci vs) ∧ vs.length = fs.length ∧ ∀ (i : Nat) (x : cw_A), fs[i]? = some x → ∃ v, vs[i]? = some v ∧ cw_ga G sh x v := by
  unfold cw_cell at hc; rw [hD] at hc; exact hc
theorem cw_get_lt {α : Type} {xs : List α} {j : Nat} (h : j < xs.length) : ∃ x, xs[j]? = some x := ⟨xs[j], List.getElem?_eq_getElem h⟩
theorem cw_iaload_ok (hX : cw_Xok X) (hlen : Ds.length ≤ 1000) (hS : cw_St Ds sh G P v0 e z L st h) (hr : cw_one Ds wm dp (pc, .iaload, len, a, b, zz) e z = some r) : cw_Rs Ds sh G P wm v0 pc len r h (cv_one X (pc, .iaload, len, a, b, zz) (pc, L, st, h, c, n)) c n := by
  rcases z with _ | ⟨⟨w | w | w, p1⟩, _ | ⟨⟨x | x | d, p2⟩, z⟩⟩ <;> first | (cases hr; done) | skip
  match st, hS.2.1 with
  | v1 :: v2 :: st, ⟨⟨⟨i, hi, hw⟩, _⟩, ⟨hd, _⟩, hZ⟩ =>
  subst hi
  replace hr : (bif d == 1004 || d == 1005 then (bif cw_ix w 9 then some [((none : Option Nat), e, (cw_int cw_top, (none : cw_P)) :: z)] else none) else (match Ds[d]? with
    | some (.inl (0, n, p, rs)) => bif cw_ix w n then (let r := cw_hull (cw_sel p rs w).1; some [(none, e, (cw_int (r.1, r.2, 0), none) :: z)]) else none
    | _ => none)) = some r := hr
  cases hs : (d == 1004 || d == 1005) with
  | true =>
    rw [hs, cond_true] at hr
    obtain ⟨h1, h2⟩ := cv_bif hr
    cases h2
    simp only [Bool.or_eq_true, beq_iff_eq] at hs
    obtain ⟨j, rfl, hj⟩ : ∃ j, v2 = cv_s j ∧ (j = 4 ∨ j = 5) := by
      rcases hd with ⟨hd, -⟩ | ⟨j, e1, e2⟩
      · omega
      · exact ⟨j, e2, by omega⟩
    obtain ⟨xs, hx1, hx2⟩ := hX j hj
    obtain ⟨i1, i2, i3⟩ := cw_ix_ok h1 hw
    obtain ⟨y, hy⟩ := cw_get_lt (xs := xs) (j := i.toNatClampNeg) (by omega)
    refine cw_pure (st' := cv_i y :: st) hS rfl ?_ ⟨⟨⟨y, rfl, cw_top_ok y⟩, trivial⟩, hZ⟩
    show (match X j with
      | some xs => bif cv_ix i xs.length && !(j == 1) then (xs[i.toNatClampNeg]?).map _ else none
      | none => none) = _
    rw [hx1]
    show (bif cv_ix i xs.length && !(j == 1) then (xs[i.toNatClampNeg]?).map _ else none) = _
    have hj1 : (!(j == 1)) = true := by rcases hj with rfl | rfl <;> rfl
    rw [hx2, i1, hj1, hy]
    rfl
  | false =>
    rw [hs, cond_false] at hr
    split at hr
    · rename_i m p rs hD
      obtain ⟨h1, h2⟩ := cv_bif hr
      cases h2
      obtain ⟨k, rfl, hk, hc⟩ := cw_ref_ok hS.2.2 hd hD hlen
      obtain ⟨xs, hx1, hx2, hx3⟩ := cw_cell_i hD hc
      obtain ⟨i1, i2, i3⟩ := cw_ix_ok h1 hw
      obtain ⟨y, hy⟩ := cw_get_lt (xs := xs) (j := i.toNatClampNeg) (by omega)
      obtain ⟨rg, g1, g2, g3⟩ := hx3 _ _ hy
      have hh := cw_hull_ok ((cw_sel_ok hw i3).1 rg g1)
      refine cw_pure (st' := cv_i y :: st) hS rfl ?_ ⟨⟨⟨y, rfl, by dsimp only; omega, by dsimp only; omega, cw_tg0⟩, trivial⟩, hZ⟩
      show (match h[k]? with
        | some (.inl (0, xs)) => bif cv_ix i xs.length then (xs[i.toNatClampNeg]?).map _ else none
        | _ => none) = _
      rw [hx1]
      show (bif cv_ix i xs.length then (xs[i.toNatClampNeg]?).map _ else none) = _
      rw [hx2, i1, hy]
      rfl
    · cases hr
theorem cw_baload_ok (hlen : Ds.length ≤ 1000) (hS : cw_St Ds sh G P v0 e z L st h) (hr : cw_one Ds wm dp (pc, .baload, len, a, b, zz) e z = some r) : cw_Rs Ds sh G P wm v0 pc len r h (cv_one X (pc, .baload, len, a, b, zz) (pc, L, st, h, c, n)) c n := by
  rcases z with _ | ⟨⟨w | w | w, p1⟩, _ | ⟨⟨x | x | d, p2⟩, z⟩⟩ <;> first | (cases hr; done) | skip
  match st, hS.2.1 with
  | v1 :: v2 :: st, ⟨⟨⟨i, hi, hw⟩, _⟩, ⟨hd, _⟩, hZ⟩ =>
  subst hi
  replace hr : (match Ds[d]? with
    | some (.inl (t, n, p, rs)) => bif (t == 1 || t == 2) && cw_ix w n then (let r := cw_hull (cw_sel p rs w).1; some [((none : Option Nat), e, (cw_int (r.1, r.2, 0), (none : cw_P)) :: z)]) else none
    | _ => none) = some r := hr
  split at hr
  · rename_i t m p rs hD
    obtain ⟨h1, h2⟩ := cv_bif hr
    cases h2
    simp only [Bool.and_eq_true] at h1
    obtain ⟨k, rfl, hk, hc⟩ := cw_ref_ok hS.2.2 hd hD hlen
    obtain ⟨xs, hx1, hx2, hx3⟩ := cw_cell_i hD hc
    obtain ⟨i1, i2, i3⟩ := cw_ix_ok h1.2 hw
    obtain ⟨y, hy⟩ := cw_get_lt (xs := xs) (j := i.toNatClampNeg) (by omega)
    obtain ⟨rg, g1, g2, g3⟩ := hx3 _ _ hy
    have hh := cw_hull_ok ((cw_sel_ok hw i3).1 rg g1)
    refine cw_pure (st' := cv_i y :: st) hS rfl ?_ ⟨⟨⟨y, rfl, by dsimp only; omega, by dsimp only; omega, cw_tg0⟩, trivial⟩, hZ⟩
    show (match h[k]? with
      | some (.inl (t, xs)) => bif (t == 1 || t == 2) && cv_ix i xs.length then (xs[i.toNatClampNeg]?).map _ else none
      | _ => none) = _
    rw [hx1]
    show (bif (t == 1 || t == 2) && cv_ix i xs.length then (xs[i.toNatClampNeg]?).map _ else none) = _
    rw [hx2, i1, hy, h1.1]
    rfl
  · cases hr
theorem cw_laload_ok (hlen : Ds.length ≤ 1000) (hS : cw_St Ds sh G P v0 e z L st h) (hr : cw_one Ds wm dp (pc, .laload, len, a, b, zz) e z = some r) : cw_Rs Ds sh G P wm v0 pc len r h (cv_one X (pc, .laload, len, a, b, zz) (pc, L, st, h, c, n)) c n := by
  rcases z with _ | ⟨⟨w | w | w, p1⟩, _ | ⟨⟨x | x | d, p2⟩, z⟩⟩ <;> first | (cases hr; done) | skip
  match st, hS.2.1 with
  | v1 :: v2 :: st, ⟨⟨⟨i, hi, hw⟩, _⟩, ⟨hd, _⟩, hZ⟩ =>
  subst hi
  replace hr : (match Ds[d]? with
    | some (.inr (.inl n)) => bif cw_ix w n then some [((none : Option Nat), e, (cw_lng cw_topL, (none : cw_P)) :: z)] else none
    | _ => none) = some r := hr
  split at hr
  · rename_i m hD
    obtain ⟨h1, h2⟩ := cv_bif hr
    cases h2
    obtain ⟨k, rfl, hk, hc⟩ := cw_ref_ok hS.2.2 hd hD hlen
    obtain ⟨xs, hx1, hx2⟩ := cw_cell_l hD hc
    obtain ⟨i1, i2, i3⟩ := cw_ix_ok h1 hw
    obtain ⟨y, hy⟩ := cw_get_lt (xs := xs) (j := i.toNatClampNeg) (by omega)
    refine cw_pure (st' := cv_l y :: st) hS rfl ?_ ⟨⟨⟨y, rfl, cw_topL_ok y⟩, trivial⟩, hZ⟩
    show (match h[k]? with
      | some (.inr (.inl xs)) => bif cv_ix i xs.length then (xs[i.toNatClampNeg]?).map _ else none
      | _ => none) = _
    rw [hx1]
    show (bif cv_ix i xs.length then (xs[i.toNatClampNeg]?).map _ else none) = _
    rw [hx2, i1, hy]
    rfl
  · cases hr
theorem cw_aaload_ok (hlen : Ds.length ≤ 1000) (hS : cw_St Ds sh G P v0 e z L st h) (hr : cw_one Ds wm dp (pc, .aaload, len, a, b, zz) e z = some r) : cw_Rs Ds sh G P wm v0 pc len r h (cv_one X (pc, .aaload, len, a, b, zz) (pc, L, st, h, c, n)) c n := by
  rcases z with _ | ⟨⟨w | w | w, p1⟩, _ | ⟨⟨x | x | d, p2⟩, z⟩⟩ <;> first | (cases hr; done) | skip
  match st, hS.2.1 with
  | v1 :: v2 :: st, ⟨⟨⟨i, hi, hw⟩, _⟩, ⟨hd, _⟩, hZ⟩ =>
  subst hi
  replace hr : (match Ds[d]? with
    | some (.inr (.inr (.inl (_, n, d')))) => bif cw_ix w n && Nat.ble d' 999 then some [((none : Option Nat), e, (cw_rf d', (none : cw_P)) :: z)] else none
    | _ => none) = some r := hr
  split at hr
  · rename_i t m d' hD
    obtain ⟨h1, h2⟩ := cv_bif hr
    cases h2
    simp only [Bool.and_eq_true, Nat.ble_eq] at h1
    obtain ⟨k, rfl, hk, hc⟩ := cw_ref_ok hS.2.2 hd hD hlen
    obtain ⟨xs, hx1, hx2, hx3⟩ := cw_cell_r hD hc
    obtain ⟨i1, i2, i3⟩ := cw_ix_ok h1.1 hw
    obtain ⟨y, hy⟩ := cw_get_lt (xs := xs) (j := i.toNatClampNeg) (by omega)
    obtain ⟨k', rfl, hk'⟩ := hx3 _ _ hy
    refine cw_pure (st' := cv_r k' :: st) hS rfl ?_ ⟨⟨.inl ⟨by omega, k', rfl, hk'⟩, trivial⟩, hZ⟩
    show (match h[k]? with
      | some (.inr (.inr (.inl (_, xs)))) => bif cv_ix i xs.length then (xs[i.toNatClampNeg]?).map _ else none
      | _ => none) = _
    rw [hx1]
    show (bif cv_ix i xs.length then (xs[i.toNatClampNeg]?).map _ else none) = _
    rw [hx2, i1, hy]
    rfl
  · cases hr
end CWO
end
section
section CWP
variable {Ds : List cw_D} {sh : List Nat} {G : Int} {P : cv_H → Prop} {dp wm : Nat} {v0 : cw_U → Option cv_V} {X : cv_X} {pc len a b c n : Nat} {zz : Int} {e : cw_E} {z : cw_Z} {r : cw_R} {L : cv_L} {st : List cv_V} {h : cv_H}
def cw_isO (c : cv_C) : Bool := match c with
  | .inr (.inr (.inr _)) => true
  | _ => false
theorem cw_fld_row {k : Nat} {c0 c' : cv_C} (hk : h[k]? = some c0) (h0 : cw_isO c0 = false) (h1 : cw_isO c' = false) (o : Option cv_V) (f : Nat) : cw_fld (h.set k c') o f = cw_fld h o f := by
  rcases o with _ | x | x | (_ | k') | x <;> try rfl
  unfold cw_fld
  by_cases e : k' = k
  · subst e
    dsimp only
    rw [List.getElem?_set_self (cw_lt_of hk), hk]
    rcases c0 with x | x | x | x <;> rcases c' with y | y | y | y <;> first | rfl | (cases h0; done) | (cases h1; done)
  · dsimp only
    rw [List.getElem?_set_ne (fun q => e q.symm)]
theorem cw_val_row {k : Nat} {c0 c' : cv_C} (hk : h[k]? = some c0) (h0 : cw_isO c0 = false) (h1 : cw_isO c' = false) : cw_val L (h.set k c') = cw_val L h := by
  funext u
  unfold cw_val
  rw [cw_fld_row hk h0 h1, cw_fld_row hk h0 h1, cw_fld_row hk h0 h1]
/-- a row is written -/
theorem cw_wrow {k d s : Nat} {c0 c' : cv_C} {z' : cw_Z} {st' : List cv_V} {o : Option cv_S} (hPok : cw_Pok Ds sh dp P) (hdp : cw_dpok Ds dp) (hS : cw_St Ds sh G P v0 e z L st h) (hr : r = [(none, e, z')]) (ho : o = some (pc + len, L, st', h.set k c', c, n)) (hz : cw_Zr G sh (cw_val L h) z' st')
    (hk : sh[k]? = some d) (hc : h[k]? = some c0) (h0 : cw_isO c0 = false) (h1 : cw_isO c' = false) (hc' : cw_cell Ds sh G (h.set k c') k d) (hm : cw_may wm dp d s = true) (hs : ∀ i, (match Ds[d]? with
      | some (.inr (.inr (.inr _))) => i ≠ s
      | some (.inl (_, _, p, _)) => s ≠ 0 ∧ s ≠ 1 + i % p
      | _ => s ≠ 0) → cw_sl c' i = cw_sl c0 i) (hs1 : ∀ t n rs, Ds[d]? = some (.inl (t, n, 1, rs)) → s = 0) : cw_Rs Ds sh G P wm v0 pc len r h o c n := by
  have hw := cw_Inv_set hPok hdp hS.2.2 hk hc hc' hm hs hs1
  refine ⟨none, e, z', L, st', h.set k c', by rw [hr]; exact List.mem_singleton_self _, ho, ⟨?_, ?_, hw.1⟩, hw.2⟩
  · rw [cw_val_row hc h0 h1]; exact hS.1
  · rw [cw_val_row hc h0 h1]; exact hz
theorem cw_cell_iw {k d t m p j : Nat} {rs : List (Int × Int)} {xs : List Int32} {y : Int32} (hD : Ds[d]? = some (.inl (t, m, p, rs))) (hk : h[k]? = some (cv_ci t xs)) (hl : xs.length = m) (hx : ∀ (i : Nat) (x : Int32), xs[i]? = some x → ∃ r, rs[i % p]? = some r ∧ r.1 ≤ x.toInt ∧ x.toInt ≤ r.2) (hj : j < m) (hy : ∀ r, rs[j % p]? = some r → r.1 ≤ y.toInt ∧ y.toInt ≤ r.2) : cw_cell Ds sh G (h.set k (cv_ci t (xs.set j y))) k d := by
  unfold cw_cell
  rw [hD]
  refine ⟨xs.set j y, List.getElem?_set_self (cw_lt_of hk), by rw [List.length_set]; exact hl, fun i x hi => ?_⟩
  by_cases e : j = i
  · subst e
    rw [List.getElem?_set_self (by omega)] at hi
    cases hi
    obtain ⟨x0, hx0⟩ := cw_get_lt (xs := xs) (j := j) (by omega)
    obtain ⟨r, h1, -⟩ := hx j x0 hx0
    exact ⟨r, h1, hy r h1⟩
  · rw [List.getElem?_set_ne e] at hi
    exact hx i x hi
theorem cw_sl_iw {t j i : Nat} {xs : List Int32} {y : Int32} (h : i ≠ j) : cw_sl (cv_ci t (xs.set j y)) i = cw_sl (cv_ci t xs) i := by
  show ((xs.set j y)[i]?).map cv_i = (xs[i]?).map cv_i
  rw [List.getElem?_set_ne (fun q => h q.symm)]
theorem cw_iastore_ok (hPok : cw_Pok Ds sh dp P) (hdp : cw_dpok Ds dp) (hlen : Ds.length ≤ 1000) (hS : cw_St Ds sh G P v0 e z L st h) (hr : cw_one Ds wm dp (pc, .iastore, len, a, b, zz) e z = some r) : cw_Rs Ds sh G P wm v0 pc len r h (cv_one X (pc, .iastore, len, a, b, zz) (pc, L, st, h, c, n)) c n := by
  rcases z with _ | ⟨⟨w | w | w, p1⟩, _ | ⟨⟨x | x | x, p2⟩, _ | ⟨⟨u | u | d, p3⟩, z⟩⟩⟩ <;> first | (cases hr; done) | skip
  match st, hS.2.1 with
  | v1 :: v2 :: v3 :: st, ⟨⟨⟨y, hy, hw⟩, _⟩, ⟨⟨i, hi, hx⟩, _⟩, ⟨hd, _⟩, hZ⟩ =>
  subst hi hy
  replace hr : (match Ds[d]? with
    | some (.inl (0, n, p, rs)) => bif cw_ix x n && (cw_may wm dp d (cw_sel p rs x).2 && (cw_sel p rs x).1.all (fun r => cw_in w r)) then some [((none : Option Nat), e, z)] else none
    | _ => none) = some r := hr
  split at hr
  · rename_i m p rs hD
    obtain ⟨h1, h2⟩ := cv_bif hr
    cases h2
    simp only [Bool.and_eq_true, List.all_eq_true] at h1
    obtain ⟨h1, h3, h4⟩ := h1
    obtain ⟨k, rfl, hk, hc⟩ := cw_ref_ok hS.2.2 hd hD hlen
    obtain ⟨xs, hx1, hx2, hx3⟩ := cw_cell_i hD hc
    obtain ⟨i1, i2, i3⟩ := cw_ix_ok h1 hx
    have hsel := cw_sel_ok (p := p) (rs := rs) hx i3
    refine cw_wrow (s := (cw_sel p rs x).2) (c' := cv_ci 0 (xs.set i.toNatClampNeg y)) hPok hdp hS rfl ?_ hZ hk hx1 rfl rfl (cw_cell_iw hD hx1 hx2 hx3 i2 fun r hr => ?_) h3 (fun j hj => ?_) (fun t n rs' q => ?_)
    · show (match h[k]? with
        | some (.inl (0, xs)) => bif cv_ix i xs.length then some _ else none
        | _ => none) = _
      rw [hx1]
      show (bif cv_ix i xs.length then some _ else none) = _
      rw [hx2, i1]
      rfl
    · have := h4 r (hsel.1 r hr)
      unfold cw_in at this
      simp only [Bool.and_eq_true, cw_le_iff] at this
      have := hw.1
      have := hw.2.1
      omega
    · rw [hD] at hj
      refine cw_sl_iw fun q => ?_
      subst q
      rcases hsel.2.1 with q | q
      · exact hj.1 q
      · exact hj.2 q
    · rw [hD] at q
      cases q
      exact hsel.2.2 rfl
  · cases hr
theorem cw_nar1 (x : Int32) : -128 ≤ x.toInt8.toInt32.toInt ∧ x.toInt8.toInt32.toInt ≤ 127 := by
  rw [Int8.toInt_toInt32]
  have h1 := x.toInt8.toInt_lt
  have h2 := x.toInt8.le_toInt
  omega
theorem cw_bastore_ok (hPok : cw_Pok Ds sh dp P) (hdp : cw_dpok Ds dp) (hlen : Ds.length ≤ 1000) (hS : cw_St Ds sh G P v0 e z L st h) (hr : cw_one Ds wm dp (pc, .bastore, len, a, b, zz) e z = some r) : cw_Rs Ds sh G P wm v0 pc len r h (cv_one X (pc, .bastore, len, a, b, zz) (pc, L, st, h, c, n)) c n := by
  rcases z with _ | ⟨⟨w | w | w, p1⟩, _ | ⟨⟨x | x | x, p2⟩, _ | ⟨⟨u | u | d, p3⟩, z⟩⟩⟩ <;> first | (cases hr; done) | skip
  match st, hS.2.1 with
  | v1 :: v2 :: v3 :: st, ⟨⟨⟨y, hy, hw⟩, _⟩, ⟨⟨i, hi, hx⟩, _⟩, ⟨hd, _⟩, hZ⟩ =>
  subst hi hy
  replace hr : (match Ds[d]? with
    | some (.inl (1, n, 1, [r])) => bif cw_ix x n && (cw_may wm dp d 0 && cw_in (-128, 127, 0) r) then some [((none : Option Nat), e, z)] else none
    | some (.inl (2, n, 1, [r])) => bif cw_ix x n && (cw_may wm dp d 0 && cw_in (0, 1, 0) r) then some [(none, e, z)] else none
    | _ => none) = some r := hr
  have key : ∀ (t m : Nat) (rg : Int × Int), (t = 1 ∨ t = 2) → Ds[d]? = some (.inl (t, m, 1, [rg])) → cw_ix x m = true → cw_may wm dp d 0 = true → (rg.1 ≤ (cv_nar t y).toInt ∧ (cv_nar t y).toInt ≤ rg.2) → cw_Rs Ds sh G P wm v0 pc len [((none : Option Nat), e, z)] h (cv_one X (pc, .bastore, len, a, b, zz) (pc, L, cv_i y :: cv_i i :: v3 :: st, h, c, n)) c n := by
    intro t m rg ht hD h1 h3 h4
    obtain ⟨k, rfl, hk, hc⟩ := cw_ref_ok hS.2.2 hd hD hlen
    obtain ⟨xs, hx1, hx2, hx3⟩ := cw_cell_i hD hc
    obtain ⟨i1, i2, i3⟩ := cw_ix_ok h1 hx
    refine cw_wrow (s := 0) (c' := cv_ci t (xs.set i.toNatClampNeg (cv_nar t y))) hPok hdp hS rfl ?_ hZ hk hx1 rfl rfl (cw_cell_iw hD hx1 hx2 hx3 i2 fun r hr => ?_) h3 (fun j hj => ?_) (fun t n rs' q => rfl)
    · show (match h[k]? with
        | some (.inl (t, xs)) => bif (t == 1 || t == 2) && cv_ix i xs.length then some _ else none
        | _ => none) = _
      rw [hx1]
      show (bif (t == 1 || t == 2) && cv_ix i xs.length then some _ else none) = _
      have ht2 : (t == 1 || t == 2) = true := by rcases ht with rfl | rfl <;> rfl
      rw [hx2, i1, ht2]
      rfl
    · rw [Nat.mod_one] at hr
      cases hr
      exact h4
    · rw [hD] at hj
      exact absurd rfl hj.1
  split at hr
  · rename_i m rg hD
    obtain ⟨h1, h2⟩ := cv_bif hr
    cases h2
    simp only [Bool.and_eq_true, cw_in, cw_le_iff] at h1
    refine key 1 m rg (.inl rfl) hD h1.1 h1.2.1 ?_
    have := cw_nar1 y
    show rg.1 ≤ y.toInt8.toInt32.toInt ∧ y.toInt8.toInt32.toInt ≤ rg.2
    omega
  · rename_i m rg hD
    obtain ⟨h1, h2⟩ := cv_bif hr
    cases h2
    simp only [Bool.and_eq_true, cw_in, cw_le_iff] at h1
    refine key 2 m rg (.inr rfl) hD h1.1 h1.2.1 ?_
    have := cw_and_ok (x := y) (y := 1) (by decide)
    have e1 : (1 : Int32).toInt = 1 := rfl
    rw [e1] at this
    show rg.1 ≤ (y &&& 1).toInt ∧ (y &&& 1).toInt ≤ rg.2
    omega
  · cases hr
theorem cw_lastore_ok (hPok : cw_Pok Ds sh dp P) (hdp : cw_dpok Ds dp) (hlen : Ds.length ≤ 1000) (hS : cw_St Ds sh G P v0 e z L st h) (hr : cw_one Ds wm dp (pc, .lastore, len, a, b, zz) e z = some r) : cw_Rs Ds sh G P wm v0 pc len r h (cv_one X (pc, .lastore, len, a, b, zz) (pc, L, st, h, c, n)) c n := by
  rcases z with _ | ⟨⟨w | w | w, p1⟩, _ | ⟨⟨x | x | x, p2⟩, _ | ⟨⟨u | u | d, p3⟩, z⟩⟩⟩ <;> first | (cases hr; done) | skip
  match st, hS.2.1 with
  | v1 :: v2 :: v3 :: st, ⟨⟨⟨y, hy, hw⟩, _⟩, ⟨⟨i, hi, hx⟩, _⟩, ⟨hd, _⟩, hZ⟩ =>
  subst hi hy
  replace hr : (match Ds[d]? with
    | some (.inr (.inl n)) => bif cw_ix x n && cw_may wm dp d 0 then some [((none : Option Nat), e, z)] else none
    | _ => none) = some r := hr
  split at hr
  · rename_i m hD
    obtain ⟨h1, h2⟩ := cv_bif hr
    cases h2
    simp only [Bool.and_eq_true] at h1
    obtain ⟨k, rfl, hk, hc⟩ := cw_ref_ok hS.2.2 hd hD hlen
    obtain ⟨xs, hx1, hx2⟩ := cw_cell_l hD hc
    obtain ⟨i1, i2, i3⟩ := cw_ix_ok h1.1 hx
    refine cw_wrow (s := 0) (c' := cv_cl (xs.set i.toNatClampNeg y)) hPok hdp hS rfl ?_ hZ hk hx1 rfl rfl ?_ h1.2 (fun j hj => ?_) (fun t n rs' q => rfl)
    · show (match h[k]? with
        | some (.inr (.inl xs)) => bif cv_ix i xs.length then some _ else none
        | _ => none) = _
      rw [hx1]
      show (bif cv_ix i xs.length then some _ else none) = _
      rw [hx2, i1]
      rfl
    · unfold cw_cell
      rw [hD]
      exact ⟨_, List.getElem?_set_self (cw_lt_of hx1), by rw [List.length_set]; exact hx2⟩
    · rw [hD] at hj
      exact absurd rfl hj
  · cases hr
theorem cw_aastore_ok (hPok : cw_Pok Ds sh dp P) (hdp : cw_dpok Ds dp) (hlen : Ds.length ≤ 1000) (hS : cw_St Ds sh G P v0 e z L st h) (hr : cw_one Ds wm dp (pc, .aastore, len, a, b, zz) e z = some r) : cw_Rs Ds sh G P wm v0 pc len r h (cv_one X (pc, .aastore, len, a, b, zz) (pc, L, st, h, c, n)) c n := by
  rcases z with _ | ⟨⟨w | w | d2, p1⟩, _ | ⟨⟨x | x | x, p2⟩, _ | ⟨⟨u | u | d, p3⟩, z⟩⟩⟩ <;> first | (cases hr; done) | skip
  match st, hS.2.1 with
  | v1 :: v2 :: v3 :: st, ⟨⟨hv, _⟩, ⟨⟨i, hi, hx⟩, _⟩, ⟨hd, _⟩, hZ⟩ =>
  subst hi
  replace hr : (match Ds[d]?, Ds[d2]? with
    | some (.inr (.inr (.inl (t, n, d')))), some (.inr (.inr (.inr (ci, _)))) => bif cw_ix x n && (cw_may wm dp d 0 && (d2 == d' && (Nat.ble d' 999 && ci == (bif t == 4 then 1 else 7)))) then some [((none : Option Nat), e, z)] else none
    | _, _ => none) = some r := hr
  split at hr
  · rename_i t m d' ci fs hD hD2
    obtain ⟨h1, h2⟩ := cv_bif hr
    cases h2
    simp only [Bool.and_eq_true, beq_iff_eq] at h1
    obtain ⟨h1, h3, rfl, h5, h6⟩ := h1
    obtain ⟨k, rfl, hk, hc⟩ := cw_ref_ok hS.2.2 hd hD hlen
    obtain ⟨ko, rfl, hko, hco⟩ := cw_ref_ok hS.2.2 hv hD2 hlen
    obtain ⟨xs, hx1, hx2, hx3⟩ := cw_cell_r hD hc
    obtain ⟨vs, hv1, -, -⟩ := cw_cell_o hD2 hco
    obtain ⟨i1, i2, i3⟩ := cw_ix_ok h1 hx
    refine cw_wrow (s := 0) (c' := cv_cr t (xs.set i.toNatClampNeg (some ko))) hPok hdp hS rfl ?_ hZ hk hx1 rfl rfl ?_ h3 (fun j hj => ?_) (fun t n rs' q => rfl)
    · show (match h[k]?, h[ko]? with
        | some (.inr (.inr (.inl (t, xs)))), some (.inr (.inr (.inr (ci, _)))) => bif cv_ix i xs.length && (ci == (bif t == 4 then 1 else 7)) then some _ else none
        | _, _ => none) = _
      rw [hx1, hv1]
      show (bif cv_ix i xs.length && (ci == (bif t == 4 then 1 else 7)) then some _ else none) = _
      rw [hx2, i1, h6, beq_self_eq_true]
      rfl
    · unfold cw_cell
      rw [hD]
      refine ⟨_, List.getElem?_set_self (cw_lt_of hx1), by rw [List.length_set]; exact hx2, fun j o hj => ?_⟩
      by_cases ej : i.toNatClampNeg = j
      · subst ej
        rw [List.getElem?_set_self (by omega)] at hj
        cases hj
        exact ⟨ko, rfl, hko⟩
      · rw [List.getElem?_set_ne ej] at hj
        exact hx3 j o hj
    · rw [hD] at hj
      exact absurd rfl hj
  · cases hr
/-! fields -/
theorem cw_upath_ok {p : cw_P} {f : Nat} {u : cw_U} {k : Nat} {v : cv_V} (hu : cw_upath p (f + 1) = some u) (hp : cw_pr G sh (cw_val L h) p (cv_r k)) (hf : cw_fld h (some (cv_r k)) f = some v) : cw_val L h u = some v := by
  rcases p with _ | ⟨⟨⟨i, cc⟩, d⟩ | ⟨q | l⟩⟩
  · cases hu
  · replace hu : (bif decide (d = 0) && Nat.ble (f + 1) 99 then (bif cc == 0 then some (i, f + 1) else bif Nat.ble cc 99 then some (i, cc + 100 * (f + 1)) else none) else none) = some u := hu
    obtain ⟨h1, hu2⟩ := cv_bif hu
    clear hu
    simp only [Bool.and_eq_true, decide_eq_true_eq] at h1
    obtain ⟨rfl, h99⟩ := h1
    obtain ⟨w, g1, g2⟩ := hp
    have g2 := cw_eqd_0 g2
    subst g2
    cases hc0 : cc == 0 with
    | true =>
      rw [hc0, cond_true] at hu2
      cases hu2
      simp only [beq_iff_eq] at hc0
      subst hc0
      have g1 : cv_get L i = some (cv_r k) := g1
      show (bif (f + 1) == 0 then _ else bif Nat.ble (f + 1) 99 then cw_fld h (cv_get L i) (f + 1 - 1) else _) = _
      rw [h99, g1]
      exact hf
    | false =>
      rw [hc0, cond_false] at hu2
      have hc0' : ¬ cc = 0 := by simpa using hc0
      obtain ⟨h2, hu3⟩ := cv_bif hu2
      clear hu2
      cases hu3
      have h2' := Nat.le_of_ble_eq_true h2
      have g1 : (bif cc == 0 then cv_get L i else bif Nat.ble cc 99 then cw_fld h (cv_get L i) (cc - 1) else _) = some (cv_r k) := g1
      rw [hc0, cond_false, h2, cond_true] at g1
      unfold cw_val
      have e0 : (cc + 100 * (f + 1) == 0) = false := by simp
      have e1 : Nat.ble (cc + 100 * (f + 1)) 99 = false := by
        cases hb : Nat.ble (cc + 100 * (f + 1)) 99 with
        | false => rfl
        | true => have := Nat.le_of_ble_eq_true hb; omega
      have e2 : (cc + 100 * (f + 1)) % 100 = cc := by omega
      have e3 : (cc + 100 * (f + 1)) / 100 = f + 1 := by omega
      have e4 : Nat.ble 1 cc = true := Nat.ble_eq_true_of_le (by omega)
      dsimp only
      rw [e0, cond_false, e1, cond_false, e2, e4, cond_true, e3, g1]
      exact hf
  · cases hu
  · cases hu
theorem cw_fld_at {k f ci : Nat} {vs : List cv_V} (hk : h[k]? = some (cv_co ci vs)) : cw_fld h (some (cv_r k)) f = vs[f]? := by
  show (match h[k]? with
    | some (.inr (.inr (.inr (_, fs)))) => fs[f]?
    | _ => none) = _
  rw [hk]
theorem cw_getfield_ok {ix : Nat} (hlen : Ds.length ≤ 1000) (hS : cw_St Ds sh G P v0 e z L st h) (hr : cw_one Ds wm dp (pc, .getfield ix, len, a, b, zz) e z = some r) : cw_Rs Ds sh G P wm v0 pc len r h (cv_one X (pc, .getfield ix, len, a, b, zz) (pc, L, st, h, c, n)) c n := by
  rcases z with _ | ⟨⟨w | w | d, p1⟩, z⟩
  · cases hr
  · rcases z with _ | ⟨⟨x | x | x, p2⟩, z⟩ <;> (cases hr; done)
  · rcases z with _ | ⟨⟨x | x | x, p2⟩, z⟩ <;> (cases hr; done)
  match st, hS.2.1 with
  | v1 :: st, ⟨⟨hd, hp⟩, hZ⟩ =>
  replace hr : (match Ds[d]? with
    | some (.inr (.inr (.inr (ci, fs)))) => bif ci == a then (match fs[b]? with
        | some x => (match cw_upath p1 (b + 1) with
          | some u => (match cw_get e u with
            | some (a', _) => some [((none : Option Nat), e, (a', some (.inl (u, 0))) :: z)]
            | none => some [(none, e, (x, some (.inl (u, 0))) :: z)])
          | none => some [(none, e, (x, none) :: z)])
        | none => none) else none
    | _ => none) = some r := hr
  split at hr
  · rename_i ci fs hD
    obtain ⟨h1, h2⟩ := cv_bif hr
    obtain ⟨k, rfl, hk, hc⟩ := cw_ref_ok hS.2.2 hd hD hlen
    obtain ⟨vs, hv1, hv2, hv3⟩ := cw_cell_o hD hc
    cases hf : fs[b]? with
    | none => rw [hf] at h2; cases h2
    | some x =>
      rw [hf] at h2
      dsimp only at h2
      obtain ⟨v, hv, hg⟩ := hv3 b x hf
      have hone : cv_one X (pc, .getfield ix, len, a, b, zz) (pc, L, cv_r k :: st, h, c, n) = some (pc + len, L, v :: st, h, c, n) := by
        show (match h[k]? with
          | some (.inr (.inr (.inr (ci, fs)))) => bif ci == a then (fs[b]?).map _ else none
          | _ => none) = _
        rw [hv1]
        show (bif ci == a then (vs[b]?).map _ else none) = _
        rw [h1, hv]
        rfl
      cases hu : cw_upath p1 (b + 1) with
      | none =>
        rw [hu] at h2
        cases h2
        exact cw_pure hS rfl hone ⟨⟨hg, trivial⟩, hZ⟩
      | some u =>
        rw [hu] at h2
        have hval : cw_val L h u = some v := cw_upath_ok hu hp (by rw [cw_fld_at hv1]; exact hv)
        dsimp only at h2
        cases he : cw_get e u with
        | none =>
          rw [he] at h2
          cases h2
          exact cw_pure hS rfl hone ⟨⟨hg, v, hval, cw_eqd_rf⟩, hZ⟩
        | some ao =>
          obtain ⟨a', o⟩ := ao
          rw [he] at h2
          cases h2
          obtain ⟨v', g1, g2, -⟩ := cw_get_ok hS.1 he
          rw [hval] at g1
          cases g1
          exact cw_pure hS rfl hone ⟨⟨g2, v, hval, cw_eqd_rf⟩, hZ⟩
  · cases hr
theorem cw_fld_set {k f g ci : Nat} {vs : List cv_V} {v : cv_V} (hk : h[k]? = some (cv_co ci vs)) (hg : g ≠ f) (o : Option cv_V) : cw_fld (h.set k (cv_co ci (vs.set f v))) o g = cw_fld h o g := by
  rcases o with _ | x | x | (_ | k') | x <;> try rfl
  unfold cw_fld
  by_cases e : k' = k
  · subst e
    dsimp only
    rw [List.getElem?_set_self (cw_lt_of hk), hk]
    dsimp only
    rw [List.getElem?_set_ne (fun q => hg q.symm)]
  · dsimp only
    rw [List.getElem?_set_ne (fun q => e q.symm)]
theorem cw_val_set {k f ci : Nat} {vs : List cv_V} {v w : cv_V} {u : cw_U} (hk : h[k]? = some (cv_co ci vs)) (hu : cw_has u.2 (f + 1) = false) (hv : cw_val L h u = some w) : cw_val L (h.set k (cv_co ci (vs.set f v))) u = some w := by
  unfold cw_has at hu
  simp only [Bool.or_eq_false_iff, beq_eq_false_iff_ne] at hu
  refine cw_val_hp hv (fun k' x h1 h2 h3 h4 => ?_) (fun k1 k2 x h1 h2 h3 h4 => ?_)
  · rw [cw_fld_set hk (by omega)]; exact h4
  · rw [cw_fld_set hk (by omega)]; exact h4
theorem cw_uref_ok {p : cw_P} {i : Nat} {v : cv_V} (hu : cw_uref p = some i) (hp : cw_pr G sh (cw_val L h) p v) : cv_get L i = some v := by
  rcases p with _ | ⟨⟨⟨j, cc⟩, d⟩ | ⟨q | l⟩⟩
  · cases hu
  · rcases cc with _ | cc
    · obtain ⟨h1, h2⟩ := cv_bif (show (bif decide (d = 0) then some j else none) = some i from hu)
      cases h2
      simp only [decide_eq_true_eq] at h1
      subst h1
      obtain ⟨w, g1, g2⟩ := hp
      have g2 := cw_eqd_0 g2
      subst g2
      exact g1
    · cases hu
  · cases hu
  · cases hu
theorem cw_putfield_ok {ix : Nat} (hPok : cw_Pok Ds sh dp P) (hdp : cw_dpok Ds dp) (hlen : Ds.length ≤ 1000) (hS : cw_St Ds sh G P v0 e z L st h) (hr : cw_one Ds wm dp (pc, .putfield ix, len, a, b, zz) e z = some r) : cw_Rs Ds sh G P wm v0 pc len r h (cv_one X (pc, .putfield ix, len, a, b, zz) (pc, L, st, h, c, n)) c n := by
  rcases z with _ | ⟨⟨x, pv⟩, z⟩
  · cases hr
  rcases z with _ | ⟨⟨y | y | d, p⟩, z⟩
  · rcases x with x | x | x <;> (cases hr; done)
  · rcases x with x | x | x <;> (cases hr; done)
  · rcases x with x | x | x <;> (cases hr; done)
  match st, hS.2.1 with
  | v :: v2 :: st, ⟨⟨hv, hpv⟩, ⟨hd, hp⟩, hZ⟩ =>
  replace hr : (match Ds[d]? with
    | some (.inr (.inr (.inr (ci, fs)))) => bif ci == a && (cw_may wm dp d b && Nat.ble b 98) then (match fs[b]? with
        | some y => bif cw_sub x y && (match zz.toNat, y with
            | 0, .inl _ => true
            | 2, .inl w => cw_le 0 w.1 && cw_le w.2.1 1
            | 4, .inr (.inr d') => Nat.ble d' 999
            | _, _ => false) then
            (some [((none : Option Nat), (match cw_uref p with
              | some i => ((i, b + 1), x, cw_org e (i, b + 1) pv) :: e.filter (fun q => !cw_has q.1.2 (b + 1))
              | none => e.filter (fun q => !cw_has q.1.2 (b + 1))), cw_clr (fun u => cw_has u.2 (b + 1)) z)]) else none
        | none => none) else none
    | _ => none) = some r := hr
  split at hr
  · rename_i ci fs hD
    obtain ⟨h1, h2⟩ := cv_bif hr
    simp only [Bool.and_eq_true] at h1
    obtain ⟨h1, hm, h98⟩ := h1
    have h98 := Nat.le_of_ble_eq_true h98
    obtain ⟨k, rfl, hk, hc⟩ := cw_ref_ok hS.2.2 hd hD hlen
    obtain ⟨vs, hv1, hv2, hv3⟩ := cw_cell_o hD hc
    cases hf : fs[b]? with
    | none => rw [hf] at h2; cases h2
    | some y =>
      rw [hf] at h2
      obtain ⟨h3, h2⟩ := cv_bif h2
      cases h2
      rw [Bool.and_eq_true] at h3
      have hy := cw_sub_ok h3.1 hv
      have hb : b < vs.length := by have := (List.getElem?_eq_some_iff.mp hf).1; omega
      have hfit : cv_fit zz.toNat v = true := by
        have h4 := h3.2
        generalize zz.toNat = t at h4
        rcases y with w | w | d'
        · obtain ⟨m, rfl, hw⟩ := hy
          rcases t with _ | _ | _ | _ | _ | t
          · rfl
          · cases h4
          · simp only [Bool.and_eq_true, cw_le_iff] at h4
            have g1 := hw.1
            have g2 := hw.2.1
            show (decide (m = 0) || decide (m = 1)) = true
            have : m.toInt = 0 ∨ m.toInt = 1 := by omega
            simp only [Bool.or_eq_true, decide_eq_true_eq]
            rcases this with q | q
            · exact .inl (Int32.toInt_inj.mp (by rw [q]; rfl))
            · exact .inr (Int32.toInt_inj.mp (by rw [q]; rfl))
          · cases h4
          · cases h4
          · cases h4
        · rcases t with _ | _ | _ | _ | _ | t <;> cases h4
        · rcases t with _ | _ | _ | _ | _ | t
          · cases h4
          · cases h4
          · cases h4
          · cases h4
          · have h5 := Nat.le_of_ble_eq_true h4
            rcases hy with ⟨-, k', rfl, -⟩ | ⟨j, hj, rfl⟩
            · rfl
            · omega
          · cases h4
      have hone : cv_one X (pc, .putfield ix, len, a, b, zz) (pc, L, v :: cv_r k :: st, h, c, n) = some (pc + len, L, st, h.set k (cv_co ci (vs.set b v)), c, n) := by
        show (match h[k]? with
          | some (.inr (.inr (.inr (ci, fs)))) => bif ci == a && (decide (b < fs.length) && cv_fit zz.toNat v) then some _ else none
          | _ => none) = _
        rw [hv1]
        show (bif ci == a && (decide (b < vs.length) && cv_fit zz.toNat v) then some _ else none) = _
        rw [h1, hfit, decide_eq_true hb]
        rfl
      have hw := cw_Inv_set (wm := wm) (s := b) (c' := cv_co ci (vs.set b v)) hPok hdp hS.2.2 hk hv1 (by
          unfold cw_cell
          rw [hD]
          refine ⟨_, List.getElem?_set_self (cw_lt_of hv1), by rw [List.length_set]; exact hv2, fun i x' hi => ?_⟩
          by_cases ei : b = i
          · subst ei
            rw [hf] at hi
            cases hi
            exact ⟨v, List.getElem?_set_self hb, hy⟩
          · rw [List.getElem?_set_ne ei]
            exact hv3 i x' hi) hm (fun i hi => by
          rw [hD] at hi
          show (vs.set b v)[i]? = vs[i]?
          exact List.getElem?_set_ne (fun q => hi q.symm)) (fun t n rs q => by rw [hD] at q; cases q)
      have hE' : cw_Er G sh v0 (e.filter (fun q => !cw_has q.1.2 (b + 1))) (cw_val L (h.set k (cv_co ci (vs.set b v)))) := by
        refine cw_Er_mv hS.1 fun t ht => ?_
        obtain ⟨ht1, ht2⟩ := List.mem_filter.mp ht
        exact ⟨ht1, fun w hw _ => cw_val_set hv1 (by simpa using ht2) hw⟩
      rw [hone]
      refine ⟨none, _, _, _, _, _, List.mem_singleton_self _, rfl, ⟨?_, cw_Zr_clr (fun u hu w hw => cw_val_set hv1 hu hw) hZ, hw.1⟩, hw.2⟩
      cases hu : cw_uref p with
      | none => exact hE'
      | some i =>
        refine cw_Er_cons (v := v) hE' ?_ hv (cw_org_ok hS.1 hpv)
        have hi := cw_uref_ok hu hp
        show (bif (b + 1) == 0 then _ else bif Nat.ble (b + 1) 99 then cw_fld _ (cv_get L i) (b + 1 - 1) else _) = _
        rw [Nat.ble_eq_true_of_le (by omega), hi]
        show cw_fld _ (some (cv_r k)) b = _
        rw [cw_fld_at (List.getElem?_set_self (cw_lt_of hv1))]
        exact List.getElem?_set_self hb
  · cases hr
end CWP
end
section
section CWB
variable {Ds : List cw_D} {sh : List Nat} {G : Int} {P : cv_H → Prop} {dp wm : Nat} {v0 : cw_U → Option cv_V} {X : cv_X} {pc len a b c n : Nat} {zz : Int} {e : cw_E} {z : cw_Z} {r : cw_R} {L : cv_L} {st : List cv_V} {h : cv_H}
theorem cw_br_ok {off : Int} {t f : Option cw_E} {bb : Bool} {o : Option cv_S} (hr : cw_br pc off t f z = some r) (hI : cw_Inv Ds sh G P h) (hz : cw_Zr G sh (cw_val L h) z st) (ht : bb = true → ∃ e', t = some e' ∧ cw_Er G sh v0 e' (cw_val L h)) (hf : bb = false → ∃ e', f = some e' ∧ cw_Er G sh v0 e' (cw_val L h))
    (ho : o = (bif cv_jmp pc off then some ((bif bb then cv_tgt pc off else pc + len), L, st, h, c, n) else none)) : cw_Rs Ds sh G P wm v0 pc len r h o c n := by
  unfold cw_br at hr
  obtain ⟨h1, h2⟩ := cv_bif hr
  cases h2
  rw [h1, cond_true] at ho
  cases bb with
  | true =>
    obtain ⟨e', rfl, he⟩ := ht rfl
    exact ⟨some (cv_tgt pc off), e', z, L, st, h, by simp, ho, ⟨he, hz, hI⟩, cw_Fr_refl⟩
  | false =>
    obtain ⟨e', rfl, he⟩ := hf rfl
    exact ⟨none, e', z, L, st, h, by simp, ho, ⟨he, hz, hI⟩, cw_Fr_refl⟩
theorem cw_rf2_ok {o : Jvm.ClassFile.Cond} {x y : cw_W} {p p' : cw_P} {m k : Int32} {vl : cw_U → Option cv_V} (hE : cw_Er G sh v0 e vl) (hx : cw_wok G x m.toInt) (hy : cw_wok G y k.toInt) (hp : cw_pr G sh vl p (cv_i m)) (hp' : cw_pr G sh vl p' (cv_i k)) (hc : cw_cmpZ o m.toInt k.toInt) : ∃ e', cw_rf2 e o x p y p' = some e' ∧ cw_Er G sh v0 e' vl := by
  obtain ⟨x', y', h1, h2, h3⟩ := cw_cond_ok hx hy hc
  refine ⟨_, ?_, cw_rfn_ok (cw_rfn_ok hE hp h2) hp' h3⟩
  unfold cw_rf2
  rw [h1]
theorem cw_icmp_ok {o : Jvm.ClassFile.Cond} {off : Int} (hS : cw_St Ds sh G P v0 e z L st h) (hr : cw_one Ds wm dp (pc, .if_icmp o off, len, a, b, zz) e z = some r) : cw_Rs Ds sh G P wm v0 pc len r h (cv_one X (pc, .if_icmp o off, len, a, b, zz) (pc, L, st, h, c, n)) c n := by
  rcases z with _ | ⟨⟨y | y | y, p'⟩, _ | ⟨⟨x | x | x, p⟩, z⟩⟩ <;> first | (cases hr; done) | skip
  match st, hS.2.1 with
  | v1 :: v2 :: st, ⟨⟨⟨k, hk, hy⟩, hp'⟩, ⟨⟨m, hm, hx⟩, hp⟩, hZ⟩ =>
  subst hk hm
  refine cw_br_ok (bb := cv_cmp o m k) (show cw_br pc off (cw_rf2 e o x p y p') (cw_rf2 e (cw_neg o) x p y p') z = some r from hr) hS.2.2 hZ (fun hb => ?_) (fun hb => ?_) rfl
  · exact cw_rf2_ok hS.1 hx hy hp hp' (cw_cmp_Z.mp hb)
  · refine cw_rf2_ok hS.1 hx hy hp hp' (cw_neg_Z.mp fun q => ?_)
    rw [cw_cmp_Z.mpr q] at hb
    cases hb
theorem cw_rf1_ok {o : Jvm.ClassFile.Cond} {x : cw_W} {p : cw_P} {m : Int32} {vl : cw_U → Option cv_V} (hE : cw_Er G sh v0 e vl) (hx : cw_wok G x m.toInt) (hp : cw_pr G sh vl p (cv_i m)) (hc : cw_cmpZ o m.toInt 0) : ∃ e', cw_rf1 e o x p = some e' ∧ cw_Er G sh v0 e' vl := by
  have gen : ∃ e', (match cw_cond o x (0, 0, 0) with
    | some (x', _) => some (cw_rfn e p x')
    | none => none) = some e' ∧ cw_Er G sh v0 e' vl := by
    obtain ⟨x', y', h1, h2, -⟩ := cw_cond_ok (y := (0, 0, 0)) (b := 0) hx ⟨Int.le_refl _, Int.le_refl _, cw_tg0⟩ hc
    exact ⟨_, by rw [h1], cw_rfn_ok hE hp h2⟩
  rcases p with _ | ⟨⟨u, d⟩ | ⟨⟨u, n⟩ | l⟩⟩
  · exact gen
  · exact gen
  · unfold cw_rf1
    dsimp only
    cases hg : cw_get e u with
    | none => exact ⟨e, rfl, hE⟩
    | some ao =>
      obtain ⟨w, oo⟩ := ao
      rcases w with w | w | w
      · exact ⟨e, rfl, hE⟩
      · obtain ⟨v, g1, ⟨y, rfl, g2⟩, -⟩ := cw_get_ok hE hg
        obtain ⟨y', m', k1, k2, k3, k4⟩ := hp
        rw [g1] at k1
        cases k1
        cases k2
        have hc' : cw_cmpZ o y.toInt n := by
          cases o <;> simp only [cw_cmpZ] at hc ⊢ <;> omega
        obtain ⟨w', y'', h1, h2, -⟩ := cw_cond_ok (y := (n, n, 0)) (b := n) g2 ⟨Int.le_refl _, Int.le_refl _, cw_tg0⟩ hc'
        refine ⟨cw_put e u (cw_lng w'), ?_, cw_put_ok hE g1 ⟨y, rfl, h2⟩⟩
        dsimp only
        rw [h1]
      · exact ⟨e, rfl, hE⟩
  · exact gen
theorem cw_ifc_ok {o : Jvm.ClassFile.Cond} {off : Int} (hS : cw_St Ds sh G P v0 e z L st h) (hr : cw_one Ds wm dp (pc, .ifCond o off, len, a, b, zz) e z = some r) : cw_Rs Ds sh G P wm v0 pc len r h (cv_one X (pc, .ifCond o off, len, a, b, zz) (pc, L, st, h, c, n)) c n := by
  rcases z with _ | ⟨⟨x | x | x, p⟩, z⟩
  · cases hr
  rotate_left
  · rcases z with _ | ⟨⟨y | y | y, p2⟩, z⟩ <;> (cases hr; done)
  · rcases z with _ | ⟨⟨y | y | y, p2⟩, z⟩ <;> (cases hr; done)
  match st, hS.2.1 with
  | v1 :: st, ⟨⟨⟨m, hm, hx⟩, hp⟩, hZ⟩ =>
  subst hm
  refine cw_br_ok (bb := cv_cmp o m 0) (show cw_br pc off (cw_rf1 e o x p) (cw_rf1 e (cw_neg o) x p) z = some r from hr) hS.2.2 hZ (fun hb => ?_) (fun hb => ?_) rfl
  · exact cw_rf1_ok hS.1 hx hp (cw_cmp_Z.mp hb)
  · refine cw_rf1_ok hS.1 hx hp (cw_neg_Z.mp fun q => ?_)
    rw [cw_cmp_Z.mpr (show cw_cmpZ o m.toInt (0 : Int32).toInt from q)] at hb
    cases hb
theorem cw_dup_ok (hS : cw_St Ds sh G P v0 e z L st h) (hr : cw_one Ds wm dp (pc, .dup, len, a, b, zz) e z = some r) : cw_Rs Ds sh G P wm v0 pc len r h (cv_one X (pc, .dup, len, a, b, zz) (pc, L, st, h, c, n)) c n := by
  rcases z with _ | ⟨x, z⟩
  · cases hr
  match st, hS.2.1 with
  | v1 :: st, ⟨⟨h1, h2⟩, hZ⟩ =>
  obtain ⟨g1, g2⟩ := cv_bif (show (bif !cw_isL x.1 then some [((none : Option Nat), e, x :: x :: z)] else none) = some r from hr)
  cases g2
  refine cw_pure (st' := v1 :: v1 :: st) hS rfl ?_ ⟨⟨h1, h2⟩, ⟨h1, h2⟩, hZ⟩
  rw [cw_isL_ga h1] at g1
  show (bif !cv_isL v1 then some _ else none) = _
  rw [g1]
  rfl
theorem cw_pop_ok (hS : cw_St Ds sh G P v0 e z L st h) (hr : cw_one Ds wm dp (pc, .pop, len, a, b, zz) e z = some r) : cw_Rs Ds sh G P wm v0 pc len r h (cv_one X (pc, .pop, len, a, b, zz) (pc, L, st, h, c, n)) c n := by
  rcases z with _ | ⟨x, z⟩
  · cases hr
  match st, hS.2.1 with
  | v1 :: st, ⟨⟨h1, h2⟩, hZ⟩ =>
  obtain ⟨g1, g2⟩ := cv_bif (show (bif !cw_isL x.1 then some [((none : Option Nat), e, z)] else none) = some r from hr)
  cases g2
  refine cw_pure (st' := st) hS rfl ?_ hZ
  rw [cw_isL_ga h1] at g1
  show (bif !cv_isL v1 then some _ else none) = _
  rw [g1]
  rfl
theorem cw_dup2_ok (hS : cw_St Ds sh G P v0 e z L st h) (hr : cw_one Ds wm dp (pc, .dup2, len, a, b, zz) e z = some r) : cw_Rs Ds sh G P wm v0 pc len r h (cv_one X (pc, .dup2, len, a, b, zz) (pc, L, st, h, c, n)) c n := by
  rcases z with _ | ⟨x, _ | ⟨y, z⟩⟩
  · cases hr
  · obtain ⟨x1 | x1 | x1, p⟩ := x <;> (cases hr; done)
  match st, hS.2.1 with
  | v1 :: v2 :: st, ⟨⟨h1, h2⟩, ⟨h3, h4⟩, hZ⟩ =>
  obtain ⟨g1, g2⟩ := cv_bif (show (bif !cw_isL x.1 && !cw_isL y.1 then some [((none : Option Nat), e, x :: y :: x :: y :: z)] else none) = some r from hr)
  cases g2
  refine cw_pure (st' := v1 :: v2 :: v1 :: v2 :: st) hS rfl ?_ ⟨⟨h1, h2⟩, ⟨h3, h4⟩, ⟨h1, h2⟩, ⟨h3, h4⟩, hZ⟩
  rw [cw_isL_ga h1, cw_isL_ga h3] at g1
  show (bif !cv_isL v1 && !cv_isL v2 then some _ else none) = _
  rw [g1]
  rfl
theorem cw_ofNat {m : Nat} (h : m ≤ 10000) : (Int32.ofNat m).toInt = m := by
  rw [Int32.toInt_ofNat']
  have e : Int32.size = 4294967296 := rfl
  rw [e]
  exact cw_bm (by omega) (by omega)
theorem cw_alen_ok (hlen : Ds.length ≤ 1000) (hS : cw_St Ds sh G P v0 e z L st h) (hr : cw_one Ds wm dp (pc, .arraylength, len, a, b, zz) e z = some r) : cw_Rs Ds sh G P wm v0 pc len r h (cv_one X (pc, .arraylength, len, a, b, zz) (pc, L, st, h, c, n)) c n := by
  rcases z with _ | ⟨⟨w | w | d, p1⟩, z⟩
  · cases hr
  · rcases z with _ | ⟨⟨x | x | x, p2⟩, z⟩ <;> (cases hr; done)
  · rcases z with _ | ⟨⟨x | x | x, p2⟩, z⟩ <;> (cases hr; done)
  match st, hS.2.1 with
  | v1 :: st, ⟨⟨hd, hp⟩, hZ⟩ =>
  replace hr : (match Ds[d]? with
    | some (.inl (_, n, _, _)) => bif Nat.ble n 10000 then some [((none : Option Nat), e, (cw_int (n, n, 0), (none : cw_P)) :: z)] else none
    | some (.inr (.inr (.inl (_, n, _)))) => bif Nat.ble n 10000 then some [(none, e, (cw_int (n, n, 0), none) :: z)] else none
    | _ => none) = some r := hr
  split at hr
  · rename_i t m p rs hD
    obtain ⟨h1, h2⟩ := cv_bif hr
    cases h2
    obtain ⟨k, rfl, hk, hc⟩ := cw_ref_ok hS.2.2 hd hD hlen
    obtain ⟨xs, hx1, hx2, -⟩ := cw_cell_i hD hc
    have em := cw_ofNat (Nat.le_of_ble_eq_true h1)
    refine cw_pure (st' := cv_i (Int32.ofNat m) :: st) hS rfl ?_ ⟨⟨⟨_, rfl, by rw [em]; exact Int.le_refl _, by rw [em]; exact Int.le_refl _, cw_tg0⟩, trivial⟩, hZ⟩
    show (match h[k]? with
      | some (.inl (_, xs)) => some _
      | some (.inr (.inl xs)) => some _
      | some (.inr (.inr (.inl (_, xs)))) => some _
      | _ => none) = _
    rw [hx1, ← hx2]
  · rename_i t m d' hD
    obtain ⟨h1, h2⟩ := cv_bif hr
    cases h2
    obtain ⟨k, rfl, hk, hc⟩ := cw_ref_ok hS.2.2 hd hD hlen
    obtain ⟨xs, hx1, hx2, -⟩ := cw_cell_r hD hc
    have em := cw_ofNat (Nat.le_of_ble_eq_true h1)
    refine cw_pure (st' := cv_i (Int32.ofNat m) :: st) hS rfl ?_ ⟨⟨⟨_, rfl, by rw [em]; exact Int.le_refl _, by rw [em]; exact Int.le_refl _, cw_tg0⟩, trivial⟩, hZ⟩
    show (match h[k]? with
      | some (.inl (_, xs)) => some _
      | some (.inr (.inl xs)) => some _
      | some (.inr (.inr (.inl (_, xs)))) => some _
      | _ => none) = _
    rw [hx1, ← hx2]
  · cases hr
theorem cw_tg_nz {w : cw_W} {z z' : Int} (hw : cw_wok G w z) (h : z ≠ 0 → z' ≠ 0) : cw_tg G (bif cw_nz w then 1 else 0) z' := by
  cases hn : cw_nz w with
  | false => exact cw_tg0
  | true => exact ⟨fun _ => h (cw_nz_ok hn hw), fun h => absurd h (by decide), fun h => absurd h (by decide), fun h => absurd h (by decide)⟩
theorem cw_neg_nz {x : Int64} (h : x.toInt ≠ 0) : (-x).toInt ≠ 0 := by
  intro q
  have e : (-x).toInt = (0 : Int64).toInt := q
  have e2 := Int64.toInt_inj.mp e
  have e3 : x = 0 := by rw [← Int64.neg_neg (a := x), e2]; rfl
  exact h (by rw [e3]; rfl)
theorem cw_lcmp_ok (hS : cw_St Ds sh G P v0 e z L st h) (hr : cw_one Ds wm dp (pc, .lcmp, len, a, b, zz) e z = some r) : cw_Rs Ds sh G P wm v0 pc len r h (cv_one X (pc, .lcmp, len, a, b, zz) (pc, L, st, h, c, n)) c n := by
  rcases z with _ | ⟨⟨y | y | y, p'⟩, _ | ⟨⟨x | x | x, p⟩, z⟩⟩ <;> first | (cases hr; done) | skip
  match st, hS.2.1 with
  | v1 :: v2 :: st, ⟨⟨⟨k, hk, hy⟩, hp'⟩, ⟨⟨m, hm, hx⟩, hp⟩, hZ⟩ =>
  subst hk hm
  cases hr
  have hlt : (lg_cmp m k).toInt < 0 ↔ m.toInt < k.toInt := by
    unfold lg_cmp
    by_cases q1 : m > k
    · rw [if_pos q1]
      have := Int64.lt_iff_toInt_lt.mp q1
      constructor
      · intro q; exact absurd q (by decide)
      · intro q; omega
    · rw [if_neg q1]
      have h1 : ¬ k.toInt < m.toInt := fun q => q1 (Int64.lt_iff_toInt_lt.mpr q)
      by_cases q2 : m = k
      · rw [if_pos q2, q2]
        constructor
        · intro q; exact absurd q (by decide)
        · intro q; omega
      · rw [if_neg q2]
        have h2 : ¬ m.toInt = k.toInt := fun q => q2 (Int64.toInt_inj.mp q)
        constructor
        · intro q; omega
        · intro q; decide
  have heq : (lg_cmp m k).toInt = 0 ↔ m.toInt = k.toInt := by
    unfold lg_cmp
    by_cases q1 : m > k
    · rw [if_pos q1]
      have := Int64.lt_iff_toInt_lt.mp q1
      constructor
      · intro q; exact absurd q (by decide)
      · intro q; omega
    · rw [if_neg q1]
      by_cases q2 : m = k
      · rw [if_pos q2, q2]
        exact ⟨fun _ => rfl, fun _ => rfl⟩
      · rw [if_neg q2]
        have h2 : ¬ m.toInt = k.toInt := fun q => q2 (Int64.toInt_inj.mp q)
        constructor
        · intro q; exact absurd q (by decide)
        · intro q; omega
  have hb : -1 ≤ (lg_cmp m k).toInt ∧ (lg_cmp m k).toInt ≤ 1 := by
    unfold lg_cmp
    split
    · decide
    · split <;> decide
  refine cw_pure (st' := cv_i (lg_cmp m k) :: st) hS rfl rfl ⟨⟨⟨_, rfl, hb.1, hb.2, cw_tg0⟩, ?_⟩, hZ⟩
  dsimp only
  cases hc : cw_cst y with
  | false => exact trivial
  | true =>
    rw [cond_true]
    rcases p with _ | ⟨⟨u, d⟩ | ⟨q | l⟩⟩
    · exact trivial
    · dsimp only
      cases hd : decide (d = 0) with
      | false => exact trivial
      | true =>
        simp only [decide_eq_true_eq] at hd
        subst hd
        obtain ⟨w, g1, g2⟩ := hp
        have g2 := cw_eqd_0 g2
        subst g2
        have := cw_cst_ok hc hy
        exact ⟨m, lg_cmp m k, g1, rfl, by rw [← this]; exact hlt, by rw [← this]; exact heq⟩
    · exact trivial
    · exact trivial
theorem cw_lshr_ok (hS : cw_St Ds sh G P v0 e z L st h) (hr : cw_one Ds wm dp (pc, .lshr, len, a, b, zz) e z = some r) : cw_Rs Ds sh G P wm v0 pc len r h (cv_one X (pc, .lshr, len, a, b, zz) (pc, L, st, h, c, n)) c n := by
  rcases z with _ | ⟨⟨y | y | y, p'⟩, _ | ⟨⟨x | x | x, p⟩, z⟩⟩ <;> first | (cases hr; done) | skip
  match st, hS.2.1 with
  | v1 :: v2 :: st, ⟨⟨⟨k, hk, hy⟩, hp'⟩, ⟨⟨m, hm, hx⟩, hp⟩, hZ⟩ =>
  subst hk hm
  cases hr
  exact cw_pure hS rfl rfl ⟨⟨⟨_, rfl, cw_topL_ok _⟩, trivial⟩, hZ⟩
theorem cw_swt_ok {e : cw_E} {z : cw_Z} : ∀ {offs : List Int} {r : cw_R}, cw_swt pc offs e z = some r → ∀ o ∈ offs, cv_jmp pc o = true ∧ (some (cv_tgt pc o), e, z) ∈ r
  | [], r, h, o, ho => absurd ho List.not_mem_nil
  | q :: l, r, h, o, ho => by
    obtain ⟨h1, h2⟩ := cv_bif (show (bif cv_jmp pc q then (match cw_swt pc l e z with
      | some r => some ((some (cv_tgt pc q), e, z) :: r)
      | none => none) else none) = some r from h)
    cases hs : cw_swt pc l e z with
    | none => rw [hs] at h2; cases h2
    | some r' =>
      rw [hs] at h2
      cases h2
      rcases List.mem_cons.mp ho with rfl | ho
      · exact ⟨h1, List.mem_cons_self⟩
      · have := cw_swt_ok hs o ho
        exact ⟨this.1, List.mem_cons_of_mem _ this.2⟩
theorem cw_tsw_ok {d lo hi : Int} {offs : Array Int} (hS : cw_St Ds sh G P v0 e z L st h) (hr : cw_one Ds wm dp (pc, .tableswitch d lo hi offs, len, a, b, zz) e z = some r) : cw_Rs Ds sh G P wm v0 pc len r h (cv_one X (pc, .tableswitch d lo hi offs, len, a, b, zz) (pc, L, st, h, c, n)) c n := by
  rcases z with _ | ⟨⟨x | x | x, p⟩, z⟩
  · cases hr
  rotate_left
  · rcases z with _ | ⟨⟨y | y | y, p2⟩, z⟩ <;> (cases hr; done)
  · rcases z with _ | ⟨⟨y | y | y, p2⟩, z⟩ <;> (cases hr; done)
  match st, hS.2.1 with
  | v1 :: st, ⟨⟨⟨m, hm, hx⟩, hp⟩, hZ⟩ =>
  subst hm
  obtain ⟨h1, h2⟩ := cv_bif (show (bif decide (hi - lo < offs.size) then cw_swt pc (d :: offs.toList) e z else none) = some r from hr)
  simp only [decide_eq_true_eq] at h1
  have key := cw_swt_ok h2
  have go : ∀ o ∈ d :: offs.toList, cv_one X (pc, .tableswitch d lo hi offs, len, a, b, zz) (pc, L, cv_i m :: st, h, c, n) = (bif cv_jmp pc o then some (cv_tgt pc o, L, st, h, c, n) else none) → cw_Rs Ds sh G P wm v0 pc len r h (cv_one X (pc, .tableswitch d lo hi offs, len, a, b, zz) (pc, L, cv_i m :: st, h, c, n)) c n := by
    intro o ho hone
    obtain ⟨k1, k2⟩ := key o ho
    rw [hone, k1]
    exact ⟨_, e, z, L, st, h, k2, rfl, ⟨hS.1, hZ, hS.2.2⟩, cw_Fr_refl⟩
  have hone : cv_one X (pc, .tableswitch d lo hi offs, len, a, b, zz) (pc, L, cv_i m :: st, h, c, n) = (bif decide (m.toInt < lo) || decide (hi < m.toInt) then (bif cv_jmp pc d then some (cv_tgt pc d, L, st, h, c, n) else none) else
        (match offs[(m.toInt - lo).toNat]? with
        | some off => bif cv_jmp pc off then some (cv_tgt pc off, L, st, h, c, n) else none
        | none => none)) := rfl
  cases hc : (decide (m.toInt < lo) || decide (hi < m.toInt)) with
  | true =>
    rw [hc] at hone
    exact go d List.mem_cons_self hone
  | false =>
    rw [hc, cond_false] at hone
    simp only [Bool.or_eq_false_iff, decide_eq_false_iff_not] at hc
    have hlt : (m.toInt - lo).toNat < offs.size := by omega
    rw [Array.getElem?_eq_getElem hlt] at hone
    refine go offs[(m.toInt - lo).toNat] (List.mem_cons_of_mem _ ?_) hone
    rw [Array.mem_toList_iff]
    exact Array.getElem_mem hlt
theorem cw_arith_ok {i : Instr} {x y w : cw_W} {p p' : cw_P} (hb : cw_bin i x y = some w) (hS : cw_St Ds sh G P v0 e ((.inl y, p') :: (.inl x, p) :: z) L st h) : cw_Rs Ds sh G P wm v0 pc len [(none, e, (cw_int w, cw_binP i x p y) :: z)] h (cv_one X (pc, i, len, a, b, zz) (pc, L, st, h, c, n)) c n := by
  match st, hS.2.1 with
  | v1 :: v2 :: st, ⟨⟨⟨k, hk, hy⟩, hp'⟩, ⟨⟨m, hm, hx⟩, hp⟩, hZ⟩ =>
  subst hk hm
  obtain ⟨f, r, h1, h2, h3⟩ := cw_bin_ok hb hx hy
  have hone : cv_one X (pc, i, len, a, b, zz) (pc, L, cv_i k :: cv_i m :: st, h, c, n) = some (pc + len, L, cv_i r :: st, h, c, n) := by
    cases i
    all_goals first | (cases hb; done) | skip
    all_goals
      replace h1 := Option.some.inj h1
      subst h1
      first | (cases h2; rfl) | (show Option.map _ _ = _; rw [h2]; rfl)
  refine cw_pure hS rfl hone ⟨⟨⟨r, rfl, h3⟩, ?_⟩, hZ⟩
  dsimp only
  cases i
  all_goals first | exact trivial | skip
  case iadd =>
    replace h1 := Option.some.inj h1
    subst h1
    cases h2
    rcases p with _ | ⟨⟨u, d⟩ | ⟨q | l⟩⟩
    · exact trivial
    · show cw_pr G sh _ (bif _ then _ else _) _
      cases hc : (cw_cst y && (cw_le (-2147483648) (x.1 + y.1) && cw_le (x.2.1 + y.2.1) 2147483647)) with
      | false => exact trivial
      | true =>
        simp only [Bool.and_eq_true, cw_le_iff] at hc
        have hk := cw_cst_ok hc.1 hy
        obtain ⟨w0, g1, g2⟩ := hp
        refine ⟨w0, g1, cw_eqd_tr g2 (.inr ⟨m, _, rfl, rfl, ?_⟩)⟩
        have := hx.1; have := hx.2.1; have := hy.1; have := hy.2.1
        rw [Int32.toInt_add, cw_bm (by omega) (by omega)]
        omega
    · exact trivial
    · exact trivial
  case isub =>
    replace h1 := Option.some.inj h1
    subst h1
    cases h2
    rcases p with _ | ⟨⟨u, d⟩ | ⟨q | l⟩⟩
    · exact trivial
    · show cw_pr G sh _ (bif _ then _ else _) _
      cases hc : (cw_cst y && (cw_le (-2147483648) (x.1 - y.2.1) && cw_le (x.2.1 - y.1) 2147483647)) with
      | false => exact trivial
      | true =>
        simp only [Bool.and_eq_true, cw_le_iff] at hc
        have hk := cw_cst_ok hc.1 hy
        obtain ⟨w0, g1, g2⟩ := hp
        have e : d - y.1 = d + (- y.1) := rfl
        show ∃ w, _ ∧ cw_eqd w _ (d - y.1)
        rw [e]
        refine ⟨w0, g1, cw_eqd_tr g2 (.inr ⟨m, _, rfl, rfl, ?_⟩)⟩
        have := hx.1; have := hx.2.1; have := hy.1; have := hy.2.1
        rw [Int32.toInt_sub, cw_bm (by omega) (by omega)]
        omega
    · exact trivial
    · exact trivial
theorem cw_arithL_ok {i : Instr} {x y w : cw_W} {p p' : cw_P} (hb : cw_binL i x y = some w) (hS : cw_St Ds sh G P v0 e ((.inr (.inl y), p') :: (.inr (.inl x), p) :: z) L st h) : cw_Rs Ds sh G P wm v0 pc len [(none, e, (cw_lng w, none) :: z)] h (cv_one X (pc, i, len, a, b, zz) (pc, L, st, h, c, n)) c n := by
  match st, hS.2.1 with
  | v1 :: v2 :: st, ⟨⟨⟨k, hk, hy⟩, hp'⟩, ⟨⟨m, hm, hx⟩, hp⟩, hZ⟩ =>
  subst hk hm
  obtain ⟨f, r, h1, h2, h3⟩ := cw_binL_ok hb hx hy
  have hone : cv_one X (pc, i, len, a, b, zz) (pc, L, cv_l k :: cv_l m :: st, h, c, n) = some (pc + len, L, cv_l r :: st, h, c, n) := by
    cases i
    all_goals first | (cases hb; done) | skip
    all_goals
      replace h1 := Option.some.inj h1
      subst h1
      first | (cases h2; rfl) | (show Option.map _ _ = _; rw [h2]; rfl)
  exact cw_pure hS rfl hone ⟨⟨⟨r, rfl, h3⟩, trivial⟩, hZ⟩
end CWB
end
