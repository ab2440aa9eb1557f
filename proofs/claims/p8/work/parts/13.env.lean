/-! ===== variables, the stack, the cells ===== -/
def cw_fld (h : cv_H) (v : Option cv_V) (f : Nat) : Option cv_V := match v with
  | some (.inr (.inr (.inl (some k)))) => (match h[k]? with
    | some (.inr (.inr (.inr (_, fs)))) => fs[f]?
    | _ => none)
  | _ => none
def cw_val (L : cv_L) (h : cv_H) (u : cw_U) : Option cv_V :=
  bif u.2 == 0 then cv_get L u.1 else bif Nat.ble u.2 99 then cw_fld h (cv_get L u.1) (u.2 - 1) else bif Nat.ble 1 (u.2 % 100) then cw_fld h (cw_fld h (cv_get L u.1) (u.2 % 100 - 1)) (u.2 / 100 - 1) else none
def cw_eqd (v0 v : cv_V) (d : Int) : Prop := (d = 0 ∧ v0 = v) ∨ ∃ x0 x : Int32, v0 = cv_i x0 ∧ v = cv_i x ∧ x.toInt = x0.toInt + d
theorem cw_eqd_tr {a b c : cv_V} {d d' : Int} (h1 : cw_eqd a b d) (h2 : cw_eqd b c d') : cw_eqd a c (d + d') := by
  rcases h1 with ⟨rfl, rfl⟩ | ⟨x0, x, rfl, rfl, e⟩
  · rw [Int.zero_add]; exact h2
  · rcases h2 with ⟨rfl, rfl⟩ | ⟨y0, y, e1, rfl, e'⟩
    · exact .inr ⟨x0, x, rfl, rfl, by omega⟩
    · cases e1
      exact .inr ⟨x0, y, rfl, rfl, by omega⟩
theorem cw_eqd_0 {a b : cv_V} (h : cw_eqd a b 0) : a = b := by
  rcases h with ⟨-, rfl⟩ | ⟨x0, x, rfl, rfl, e⟩
  · rfl
  · have : x = x0 := Int32.toInt_inj.mp (by omega)
    rw [this]
section CWS
variable {G : Int} {sh : List Nat}
def cw_Er (G : Int) (sh : List Nat) (v0 : cw_U → Option cv_V) (e : cw_E) (vl : cw_U → Option cv_V) : Prop := ∀ t ∈ e, ∃ v, vl t.1 = some v ∧ cw_ga G sh t.2.1 v ∧ ∀ d, t.2.2 = some d → ∃ w, v0 t.1 = some w ∧ cw_eqd w v d
def cw_pr (G : Int) (sh : List Nat) (vl : cw_U → Option cv_V) (p : cw_P) (v : cv_V) : Prop := match p with
  | none => True
  | some (.inl (u, d)) => ∃ w, vl u = some w ∧ cw_eqd w v d
  | some (.inr (.inl (u, n))) => ∃ (y : Int64) (x : Int32), vl u = some (cv_l y) ∧ v = cv_i x ∧ (x.toInt < 0 ↔ y.toInt < n) ∧ (x.toInt = 0 ↔ y.toInt = n)
  | some (.inr (.inr l)) => ∀ x : Int32, v = cv_i x → x.toInt ≠ 0 → ∀ t ∈ l, ∃ w, vl t.1 = some w ∧ cw_ga G sh t.2 w
def cw_Zr (G : Int) (sh : List Nat) (vl : cw_U → Option cv_V) : cw_Z → List cv_V → Prop
  | [], [] => True
  | q :: z, v :: st => (cw_ga G sh q.1 v ∧ cw_pr G sh vl q.2 v) ∧ cw_Zr G sh vl z st
  | _, _ => False
theorem cw_ueq_iff {a b : cw_U} : cw_ueq a b = true ↔ a = b := by
  unfold cw_ueq
  obtain ⟨a1, a2⟩ := a
  obtain ⟨b1, b2⟩ := b
  simp
theorem cw_get_mem {e : cw_E} {u : cw_U} {a : cw_A} {o : Option Int} (h : cw_get e u = some (a, o)) : (u, a, o) ∈ e := by
  unfold cw_get at h
  cases hf : e.find? (fun q => cw_ueq q.1 u) with
  | none => rw [hf] at h; cases h
  | some q =>
    rw [hf] at h
    have h1 := List.mem_of_find?_eq_some hf
    have h2 := List.find?_some hf
    rw [cw_ueq_iff] at h2
    simp at h
    obtain ⟨q1, q2⟩ := q
    dsimp only at h2 h
    rw [← h2, ← h]
    exact h1
theorem cw_get_ok {v0 vl : cw_U → Option cv_V} {e : cw_E} {u : cw_U} {a : cw_A} {o : Option Int} (he : cw_Er G sh v0 e vl) (h : cw_get e u = some (a, o)) : ∃ v, vl u = some v ∧ cw_ga G sh a v ∧ ∀ d, o = some d → ∃ w, v0 u = some w ∧ cw_eqd w v d :=
  he _ (cw_get_mem h)
theorem cw_Er_mv {v0 vl vl' : cw_U → Option cv_V} {e e' : cw_E} (he : cw_Er G sh v0 e vl) (h : ∀ t ∈ e', t ∈ e ∧ ∀ w, vl t.1 = some w → cw_ga G sh t.2.1 w → vl' t.1 = some w) : cw_Er G sh v0 e' vl' := by
  intro t ht
  obtain ⟨hm, hv⟩ := h t ht
  obtain ⟨v, h1, h2, h3⟩ := he t hm
  exact ⟨v, hv v h1 h2, h2, h3⟩
theorem cw_Er_cons {v0 vl : cw_U → Option cv_V} {e : cw_E} {u : cw_U} {a : cw_A} {o : Option Int} {v : cv_V} (he : cw_Er G sh v0 e vl) (h1 : vl u = some v) (h2 : cw_ga G sh a v) (h3 : ∀ d, o = some d → ∃ w, v0 u = some w ∧ cw_eqd w v d) : cw_Er G sh v0 ((u, a, o) :: e) vl := by
  intro t ht
  rcases List.mem_cons.mp ht with rfl | ht
  · exact ⟨v, h1, h2, h3⟩
  · exact he t ht
theorem cw_put_ok {v0 vl : cw_U → Option cv_V} {e : cw_E} {u : cw_U} {a : cw_A} {v : cv_V} (he : cw_Er G sh v0 e vl) (h1 : vl u = some v) (h2 : cw_ga G sh a v) : cw_Er G sh v0 (cw_put e u a) vl := by
  unfold cw_put
  cases hg : cw_get e u with
  | none => exact cw_Er_cons he h1 h2 (fun d h => by cases h)
  | some ao =>
    obtain ⟨a0, o⟩ := ao
    obtain ⟨v', g1, g2, g3⟩ := cw_get_ok he hg
    rw [h1] at g1
    cases g1
    refine cw_Er_cons (cw_Er_mv he fun t ht => ⟨(List.mem_filter.mp ht).1, fun w hw _ => hw⟩) h1 (cw_meet_ok g2 h2) g3
theorem cw_puts_ok {v0 vl : cw_U → Option cv_V} {l : List (cw_U × cw_A)} : ∀ {e : cw_E}, cw_Er G sh v0 e vl → (∀ t ∈ l, ∃ w, vl t.1 = some w ∧ cw_ga G sh t.2 w) → cw_Er G sh v0 (cw_puts e l) vl := by
  induction l with
  | nil => intro e he _; exact he
  | cons q l ih =>
    intro e he h
    obtain ⟨w, h1, h2⟩ := h q List.mem_cons_self
    exact ih (cw_put_ok he h1 h2) fun t ht => h t (List.mem_cons_of_mem _ ht)
theorem cw_tg_d {d : Int} {w : cw_W} {x x0 : Int} (hw : cw_wok G w x) (e : x = x0 + d) : cw_wok G (w.1 - d, w.2.1 - d, bif decide (d = 0) then w.2.2 else 0) x0 := by
  obtain ⟨h1, h2, h3⟩ := hw
  refine ⟨by dsimp only; omega, by dsimp only; omega, ?_⟩
  dsimp only
  cases h : decide (d = 0) with
  | false => exact cw_tg0
  | true =>
    simp only [decide_eq_true_eq] at h
    have : x = x0 := by omega
    rw [cond_true, ← this]
    exact h3
theorem cw_rfn_ok {v0 vl : cw_U → Option cv_V} {e : cw_E} {p : cw_P} {w : cw_W} {x : Int32} (he : cw_Er G sh v0 e vl) (hp : cw_pr G sh vl p (cv_i x)) (hw : cw_wok G w x.toInt) : cw_Er G sh v0 (cw_rfn e p w) vl := by
  rcases p with _ | ⟨⟨u, d⟩ | ⟨⟨u, n⟩ | l⟩⟩
  · exact he
  · obtain ⟨w0, h1, h2⟩ := hp
    have : ∃ x0, w0 = cv_i x0 ∧ x.toInt = x0.toInt + d := by
      rcases h2 with ⟨rfl, rfl⟩ | ⟨x0, x', rfl, e1, e2⟩
      · exact ⟨x, rfl, by omega⟩
      · cases e1; exact ⟨x0, rfl, e2⟩
    obtain ⟨x0, rfl, e2⟩ := this
    exact cw_put_ok he h1 ⟨x0, rfl, cw_tg_d hw e2⟩
  · exact he
  · show cw_Er G sh v0 (bif cw_nz w then cw_puts e l else e) vl
    cases hn : cw_nz w with
    | false => exact he
    | true => exact cw_puts_ok he (hp x rfl (cw_nz_ok hn hw))
theorem cw_Zr_clr {vl vl' : cw_U → Option cv_V} {f : cw_U → Bool} (hf : ∀ u, f u = false → ∀ w, vl u = some w → vl' u = some w) : ∀ {z : cw_Z} {st : List cv_V}, cw_Zr G sh vl z st → cw_Zr G sh vl' (cw_clr f z) st
  | [], [], _ => trivial
  | q :: z, v :: st, ⟨⟨h1, h2⟩, h3⟩ => by
    refine ⟨⟨h1, ?_⟩, cw_Zr_clr hf h3⟩
    dsimp only
    cases hm : cw_pm f q.2 with
    | true => exact trivial
    | false =>
      rw [cond_false]
      obtain ⟨a, p⟩ := q
      rcases p with _ | ⟨⟨u, d⟩ | ⟨⟨u, n⟩ | l⟩⟩
      · exact trivial
      · obtain ⟨w, g1, g2⟩ := h2
        exact ⟨w, hf u hm w g1, g2⟩
      · obtain ⟨y, x, g1, g2⟩ := h2
        exact ⟨y, x, hf u hm _ g1, g2⟩
      · intro x hx h0 t ht
        obtain ⟨w, g1, g2⟩ := h2 x hx h0 t ht
        refine ⟨w, hf t.1 ?_ w g1, g2⟩
        have hm : l.any (fun q => f q.1) = false := hm
        rw [List.any_eq_false] at hm
        simpa using hm t ht
theorem cw_Zr_mv {vl vl' : cw_U → Option cv_V} (hf : ∀ u w, vl u = some w → vl' u = some w) : ∀ {z : cw_Z} {st : List cv_V}, cw_Zr G sh vl z st → cw_Zr G sh vl' z st
  | [], [], _ => trivial
  | q :: z, v :: st, ⟨⟨h1, h2⟩, h3⟩ => by
    refine ⟨⟨h1, ?_⟩, cw_Zr_mv hf h3⟩
    obtain ⟨a, p⟩ := q
    rcases p with _ | ⟨⟨u, d⟩ | ⟨⟨u, n⟩ | l⟩⟩
    · exact trivial
    · obtain ⟨w, g1, g2⟩ := h2
      exact ⟨w, hf u w g1, g2⟩
    · obtain ⟨y, x, g1, g2⟩ := h2
      exact ⟨y, x, hf u _ g1, g2⟩
    · intro x hx h0 t ht
      obtain ⟨w, g1, g2⟩ := h2 x hx h0 t ht
      exact ⟨w, hf t.1 w g1, g2⟩
theorem cw_Zr_len {vl : cw_U → Option cv_V} : ∀ {z : cw_Z} {st : List cv_V}, cw_Zr G sh vl z st → z.length = st.length
  | [], [], _ => rfl
  | _ :: z, _ :: st, h => by simp [cw_Zr_len h.2]
theorem cw_isL_ga {a : cw_A} {v : cv_V} (h : cw_ga G sh a v) : cw_isL a = cv_isL v := by
  rcases a with x | x | d
  · obtain ⟨n, rfl, -⟩ := h; rfl
  · obtain ⟨n, rfl, -⟩ := h; rfl
  · rcases h with ⟨-, k, rfl, -⟩ | ⟨j, -, rfl⟩ <;> rfl
theorem cw_Zr_wid {vl : cw_U → Option cv_V} : ∀ {z : cw_Z} {st : List cv_V}, cw_Zr G sh vl z st → cw_wid z = cv_wid st
  | [], [], _ => rfl
  | q :: z, v :: st, h => by
    have ih := cw_Zr_wid h.2
    unfold cw_wid cv_wid at ih ⊢
    simp only [List.map_cons, List.sum_cons]
    rw [ih, cw_isL_ga h.1.1]
/-! locals -/
theorem cw_gs_self (L : cv_L) (i : Nat) (v : cv_V) : cv_get (cv_set L i v) i = some v := by
  unfold cv_get cv_set
  rw [List.find?_cons_of_pos (by simp)]
  rfl
theorem cw_gsL_self (L : cv_L) (i : Nat) (v : cv_V) : cv_get (cv_setL L i v) i = some v := by
  unfold cv_get cv_setL
  rw [List.find?_cons_of_pos (by simp)]
  rfl
theorem cw_gf {L : cv_L} {j : Nat} {w : cv_V} {f : Nat × cv_V → Bool} (h : cv_get L j = some w) (hf : f (j, w) = true) : cv_get (L.filter f) j = some w := by
  unfold cv_get at h ⊢
  induction L with
  | nil => cases h
  | cons q L ih =>
    by_cases hq : (q.1 == j) = true
    · rw [List.find?_cons_of_pos (p := fun q : Nat × cv_V => q.1 == j) hq] at h
      have e : q = (j, w) := by
        obtain ⟨q1, q2⟩ := q
        simp at h hq
        rw [h, hq]
      rw [List.filter_cons_of_pos (by rw [e]; exact hf), List.find?_cons_of_pos (p := fun q : Nat × cv_V => q.1 == j) hq]
      exact h
    · rw [List.find?_cons_of_neg (p := fun q : Nat × cv_V => q.1 == j) hq] at h
      by_cases hp : f q = true
      · rw [List.filter_cons_of_pos hp, List.find?_cons_of_neg (p := fun q : Nat × cv_V => q.1 == j) hq]
        exact ih h
      · rw [List.filter_cons_of_neg hp]
        exact ih h
theorem cw_gs_ne {L : cv_L} {i j : Nat} {v w : cv_V} (h : cv_get L j = some w) (hj : ¬ j = i) (hl : ¬ (j + 1 = i ∧ cv_isL w = true)) : cv_get (cv_set L i v) j = some w := by
  have h1 : cv_get (cv_set L i v) j = cv_get (L.filter (fun q => !(q.1 == i) && !(q.1 + 1 == i && cv_isL q.2))) j := by
    show (List.find? (fun q => q.1 == j) ((i, v) :: _)).map _ = _
    rw [List.find?_cons_of_neg (by simp; omega)]
    rfl
  rw [h1]
  refine cw_gf h ?_
  simp only [Bool.and_eq_true, Bool.not_eq_true', beq_eq_false_iff_ne]
  refine ⟨hj, ?_⟩
  cases hc : (j + 1 == i && cv_isL w) with
  | false => rfl
  | true => simp only [Bool.and_eq_true, beq_iff_eq] at hc; exact absurd hc hl
theorem cw_gsL_ne {L : cv_L} {i j : Nat} {v w : cv_V} (h : cv_get L j = some w) (hj : ¬ j = i) (hj1 : ¬ j = i + 1) (hl : ¬ (j + 1 = i ∧ cv_isL w = true)) : cv_get (cv_setL L i v) j = some w := by
  have h1 : cv_get (cv_setL L i v) j = cv_get (L.filter (fun q => !(q.1 == i) && (!(q.1 == i + 1) && !(q.1 + 1 == i && cv_isL q.2)))) j := by
    show (List.find? (fun q => q.1 == j) ((i, v) :: _)).map _ = _
    rw [List.find?_cons_of_neg (by simp; omega)]
    rfl
  rw [h1]
  refine cw_gf h ?_
  simp only [Bool.and_eq_true, Bool.not_eq_true', beq_eq_false_iff_ne]
  refine ⟨hj, hj1, ?_⟩
  cases hc : (j + 1 == i && cv_isL w) with
  | false => rfl
  | true => simp only [Bool.and_eq_true, beq_iff_eq] at hc; exact absurd hc hl
/-- what a variable holds if its local stays -/
theorem cw_val_loc {L L' : cv_L} {h : cv_H} {u : cw_U} {w : cv_V} (hv : cw_val L h u = some w) (hl : ∀ x, cv_get L u.1 = some x → (u.2 = 0 → x = w) → (¬ u.2 = 0 → cv_isL x = false) → cv_get L' u.1 = some x) : cw_val L' h u = some w := by
  unfold cw_val at hv ⊢
  have hr : ∀ f, ∀ w, cw_fld h (cv_get L u.1) f = some w → ∃ x, cv_get L u.1 = some x ∧ cv_isL x = false := by
    intro f w q
    cases hx : cv_get L u.1 with
    | none => rw [hx] at q; cases q
    | some x =>
      rw [hx] at q
      refine ⟨x, rfl, ?_⟩
      rcases x with x | x | x | x
      · rfl
      · cases q
      · rfl
      · rfl
  cases hc : u.2 == 0 with
  | true =>
    rw [hc, cond_true] at hv
    exact hl w hv (fun _ => rfl) (fun q => by simp at hc; omega)
  | false =>
    rw [hc, cond_false] at hv
    have hc' : ¬ u.2 = 0 := by simpa using hc
    rw [cond_false]
    cases hb : Nat.ble u.2 99 with
    | true =>
      rw [hb, cond_true] at hv
      obtain ⟨x, h1, h2⟩ := hr _ _ hv
      rw [cond_true, hl x h1 (fun q => absurd q hc') (fun _ => h2), ← h1]
      exact hv
    | false =>
      rw [hb, cond_false] at hv
      rw [cond_false]
      cases hb2 : Nat.ble 1 (u.2 % 100) with
      | false => rw [hb2] at hv; cases hv
      | true =>
        rw [hb2, cond_true] at hv
        rw [cond_true]
        have : ∃ w', cw_fld h (cv_get L u.1) (u.2 % 100 - 1) = some w' := by
          cases hx : cw_fld h (cv_get L u.1) (u.2 % 100 - 1) with
          | none => rw [hx] at hv; cases hv
          | some w' => exact ⟨w', rfl⟩
        obtain ⟨w', hw'⟩ := this
        obtain ⟨x, h1, h2⟩ := hr _ _ hw'
        rw [hl x h1 (fun q => absurd q hc') (fun _ => h2), ← h1]
        exact hv
/-- what a variable holds if the fields stay -/
theorem cw_val_hp {L : cv_L} {h h' : cv_H} {u : cw_U} {w : cv_V} (hv : cw_val L h u = some w) (h1 : ∀ k x, cv_get L u.1 = some (cv_r k) → ¬ u.2 = 0 → (u.2 ≤ 99 ∨ 1 ≤ u.2 % 100) → cw_fld h (some (cv_r k)) (u.2 % 100 - 1) = some x → cw_fld h' (some (cv_r k)) (u.2 % 100 - 1) = some x)
    (h2 : ∀ k k' x, ¬ u.2 ≤ 99 → cv_get L u.1 = some (cv_r k) → cw_fld h (some (cv_r k)) (u.2 % 100 - 1) = some (cv_r k') → cw_fld h (some (cv_r k')) (u.2 / 100 - 1) = some x → cw_fld h' (some (cv_r k')) (u.2 / 100 - 1) = some x) : cw_val L h' u = some w := by
  unfold cw_val at hv ⊢
  have hr : ∀ o f w, cw_fld h o f = some w → ∃ k, o = some (cv_r k) := by
    intro o f w q
    rcases o with _ | x | x | (_ | k) | x
    · cases q
    · cases q
    · cases q
    · cases q
    · exact ⟨k, rfl⟩
    · cases q
  cases hc : u.2 == 0 with
  | true => rw [hc] at hv; exact hv
  | false =>
    rw [hc, cond_false] at hv
    have hc' : ¬ u.2 = 0 := by simpa using hc
    rw [cond_false]
    cases hb : Nat.ble u.2 99 with
    | true =>
      rw [hb, cond_true] at hv
      have hb' : u.2 ≤ 99 := Nat.le_of_ble_eq_true hb
      obtain ⟨k, hk⟩ := hr _ _ _ hv
      have e : u.2 % 100 = u.2 := Nat.mod_eq_of_lt (by omega)
      rw [cond_true, hk]
      rw [hk] at hv
      have := h1 k w hk hc' (.inl hb')
      rw [e] at this
      exact this hv
    | false =>
      have hb' : ¬ u.2 ≤ 99 := fun q => by rw [Nat.ble_eq_true_of_le q] at hb; cases hb
      rw [hb, cond_false] at hv
      rw [cond_false]
      cases hb2 : Nat.ble 1 (u.2 % 100) with
      | false => rw [hb2] at hv; cases hv
      | true =>
        rw [hb2, cond_true] at hv
        rw [cond_true]
        obtain ⟨k', hk'⟩ := hr _ _ _ hv
        obtain ⟨k, hk⟩ := hr _ _ _ hk'
        rw [hk] at hk'
        rw [hk, hk'] at hv
        rw [hk, h1 k _ hk hc' (.inr (Nat.le_of_ble_eq_true hb2)) hk']
        exact h2 k k' w hb' hk hk' hv
theorem cw_st_val {L : cv_L} {h : cv_H} {i : Nat} {v : cv_V} {u : cw_U} {w : cv_V} (hv : cw_val L h u = some w) (hi : ¬ u.1 = i) (hl : ¬ (u.1 + 1 = i ∧ u.2 = 0 ∧ cv_isL w = true)) : cw_val (cv_set L i v) h u = some w := by
  refine cw_val_loc hv fun x hx h0 h1 => cw_gs_ne hx hi fun q => ?_
  by_cases hu : u.2 = 0
  · exact hl ⟨q.1, hu, by rw [← h0 hu]; exact q.2⟩
  · rw [h1 hu] at q; exact absurd q.2 (by simp)
theorem cw_stL_val {L : cv_L} {h : cv_H} {i : Nat} {v : cv_V} {u : cw_U} {w : cv_V} (hv : cw_val L h u = some w) (hi : ¬ u.1 = i) (hi1 : ¬ u.1 = i + 1) (hl : ¬ (u.1 + 1 = i ∧ u.2 = 0 ∧ cv_isL w = true)) : cw_val (cv_setL L i v) h u = some w := by
  refine cw_val_loc hv fun x hx h0 h1 => cw_gsL_ne hx hi hi1 fun q => ?_
  by_cases hu : u.2 = 0
  · exact hl ⟨q.1, hu, by rw [← h0 hu]; exact q.2⟩
  · rw [h1 hu] at q; exact absurd q.2 (by simp)
theorem cw_Er_st {v0 : cw_U → Option cv_V} {e : cw_E} {L : cv_L} {h : cv_H} {i : Nat} {v : cv_V} {a : cw_A} {o : Option Int} (he : cw_Er G sh v0 e (cw_val L h)) (ha : cw_ga G sh a v) (ho : ∀ d, o = some d → ∃ w, v0 (i, 0) = some w ∧ cw_eqd w v d) : cw_Er G sh v0 (cw_st e i a o) (cw_val (cv_set L i v) h) := by
  unfold cw_st
  refine cw_Er_cons (v := v) (cw_Er_mv he fun t ht => ?_) (cw_gs_self L i v) ha ho
  obtain ⟨hm, hf⟩ := List.mem_filter.mp ht
  simp only [Bool.and_eq_true, Bool.not_eq_true', beq_eq_false_iff_ne] at hf
  refine ⟨hm, fun w hw hg => cw_st_val hw hf.1 fun q => ?_⟩
  have h2 := hf.2
  rw [cw_isL_ga hg, q.2.2, q.1] at h2
  simp at h2
theorem cw_Er_stL {v0 : cw_U → Option cv_V} {e : cw_E} {L : cv_L} {h : cv_H} {i : Nat} {v : cv_V} {a : cw_A} (he : cw_Er G sh v0 e (cw_val L h)) (ha : cw_ga G sh a v) : cw_Er G sh v0 (cw_stL e i a) (cw_val (cv_setL L i v) h) := by
  unfold cw_stL
  refine cw_Er_cons (v := v) (cw_Er_mv he fun t ht => ?_) (cw_gsL_self L i v) ha (fun d q => by cases q)
  obtain ⟨hm, hf⟩ := List.mem_filter.mp ht
  simp only [Bool.and_eq_true, Bool.not_eq_true', beq_eq_false_iff_ne] at hf
  refine ⟨hm, fun w hw hg => cw_stL_val hw hf.1 hf.2.1 fun q => ?_⟩
  have h2 := hf.2.2
  rw [cw_isL_ga hg, q.2.2, q.1] at h2
  simp at h2
theorem cw_Zr_st {L : cv_L} {h : cv_H} {i : Nat} {v : cv_V} {z : cw_Z} {st : List cv_V} (hz : cw_Zr G sh (cw_val L h) z st) : cw_Zr G sh (cw_val (cv_set L i v) h) (cw_clr (fun u => u.1 == i || u.1 + 1 == i) z) st := by
  refine cw_Zr_clr (fun u hu w hw => ?_) hz
  simp only [Bool.or_eq_false_iff, beq_eq_false_iff_ne] at hu
  exact cw_st_val hw hu.1 fun q => hu.2 q.1
theorem cw_Zr_stL {L : cv_L} {h : cv_H} {i : Nat} {v : cv_V} {z : cw_Z} {st : List cv_V} (hz : cw_Zr G sh (cw_val L h) z st) : cw_Zr G sh (cw_val (cv_setL L i v) h) (cw_clr (fun u => u.1 == i || (u.1 == i + 1 || u.1 + 1 == i)) z) st := by
  refine cw_Zr_clr (fun u hu w hw => ?_) hz
  simp only [Bool.or_eq_false_iff, beq_eq_false_iff_ne] at hu
  exact cw_stL_val hw hu.1 hu.2.1 fun q => hu.2.2 q.1
theorem cw_org_ok {v0 vl : cw_U → Option cv_V} {e : cw_E} {u : cw_U} {p : cw_P} {v : cv_V} (he : cw_Er G sh v0 e vl) (hp : cw_pr G sh vl p v) : ∀ d, cw_org e u p = some d → ∃ w, v0 u = some w ∧ cw_eqd w v d := by
  intro d hd
  rcases p with _ | ⟨⟨x, n⟩ | ⟨⟨x, n⟩ | l⟩⟩
  · cases hd
  · obtain ⟨w, h1, h2⟩ := hp
    replace hd : (bif cw_ueq x u then (match cw_get e u with
      | some (_, some o) => some (o + n)
      | _ => none) else none) = some d := hd
    obtain ⟨hx, hd⟩ := cv_bif hd
    rw [cw_ueq_iff] at hx
    subst hx
    cases hg : cw_get e x with
    | none => rw [hg] at hd; cases hd
    | some ao =>
      obtain ⟨a, o⟩ := ao
      rw [hg] at hd
      cases o with
      | none => cases hd
      | some o =>
        cases hd
        obtain ⟨v', g1, g2, g3⟩ := cw_get_ok he hg
        rw [h1] at g1
        cases g1
        obtain ⟨w0, k1, k2⟩ := g3 o rfl
        exact ⟨w0, k1, cw_eqd_tr k2 h2⟩
  · cases hd
  · cases hd
end CWS
