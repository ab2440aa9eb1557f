/-! ===== what the abstract values, cells and frames say of the machine's ===== -/
def cv_dn (sv : Nat → Value) (as : List Nat) (v : cv_V) (x : Value) : Prop := match v with
  | .inl n => x = .int n
  | .inr (.inl n) => x = .long n
  | .inr (.inr (.inl none)) => x = .null
  | .inr (.inr (.inl (some k))) => ∃ a : Nat, as[k]? = some a ∧ x = .ref a
  | .inr (.inr (.inr j)) => x = sv j
theorem cv_pre {as as' : List Nat} (h : as <+: as') {k a : Nat} (hk : as[k]? = some a) : as'[k]? = some a := by
  obtain ⟨t, rfl⟩ := h
  rw [List.getElem?_append_left (List.getElem?_eq_some_iff.mp hk).1]
  exact hk
theorem cv_dn_up {sv : Nat → Value} {as as' : List Nat} (h : as <+: as') {v : cv_V} {x : Value} (hd : cv_dn sv as v x) : cv_dn sv as' v x := by
  match v, hd with
  | .inl n, hd => exact hd
  | .inr (.inl n), hd => exact hd
  | .inr (.inr (.inl none)), hd => exact hd
  | .inr (.inr (.inl (some k))), ⟨a, h1, h2⟩ => exact ⟨a, cv_pre h h1, h2⟩
  | .inr (.inr (.inr j)), hd => exact hd
def cv_relS (sv : Nat → Value) (as : List Nat) : List cv_V → List Value → Prop
  | [], [] => True
  | v :: l, x :: r => cv_dn sv as v x ∧ cv_relS sv as l r
  | _, _ => False
theorem cv_relS_up {sv : Nat → Value} {as as' : List Nat} (h : as <+: as') : ∀ {l : List cv_V} {r : List Value}, cv_relS sv as l r → cv_relS sv as' l r
  | [], [], _ => trivial
  | _ :: _, _ :: _, ⟨h1, h2⟩ => ⟨cv_dn_up h h1, cv_relS_up h h2⟩
  | [], _ :: _, hh => hh.elim
  | _ :: _, [], hh => hh.elim
theorem cv_relS_cons {sv : Nat → Value} {as : List Nat} {v : cv_V} {l : List cv_V} {r : List Value} (h : cv_relS sv as (v :: l) r) : ∃ x r', r = x :: r' ∧ cv_dn sv as v x ∧ cv_relS sv as l r' := by
  cases r with
  | nil => exact h.elim
  | cons x r' => exact ⟨x, r', rfl, h.1, h.2⟩
theorem cv_relS_nil {sv : Nat → Value} {as : List Nat} {r : List Value} (h : cv_relS sv as [] r) : r = [] := by
  cases r with
  | nil => rfl
  | cons x r' => exact h.elim
theorem cv_relS_len {sv : Nat → Value} {as : List Nat} : ∀ {l : List cv_V} {r : List Value}, cv_relS sv as l r → r.length = l.length
  | [], [], _ => rfl
  | _ :: _, _ :: _, ⟨_, h2⟩ => by simp [cv_relS_len h2]
  | [], _ :: _, hh => hh.elim
  | _ :: _, [], hh => hh.elim
theorem cv_relS_app {sv : Nat → Value} {as : List Nat} : ∀ {l1 l2 : List cv_V} {r1 r2 : List Value}, cv_relS sv as l1 r1 → cv_relS sv as l2 r2 → cv_relS sv as (l1 ++ l2) (r1 ++ r2)
  | [], _, [], _, _, h => h
  | _ :: _, _, _ :: _, _, ⟨a, b⟩, h => ⟨a, cv_relS_app b h⟩
  | [], _, _ :: _, _, hh, _ => hh.elim
  | _ :: _, _, [], _, hh, _ => hh.elim
theorem cv_relS_rev {sv : Nat → Value} {as : List Nat} : ∀ {l : List cv_V} {r : List Value}, cv_relS sv as l r → cv_relS sv as l.reverse r.reverse
  | [], [], _ => trivial
  | v :: l, x :: r, ⟨a, b⟩ => by
    rw [List.reverse_cons, List.reverse_cons]
    exact cv_relS_app (cv_relS_rev b) ⟨a, trivial⟩
  | [], _ :: _, hh => hh.elim
  | _ :: _, [], hh => hh.elim
theorem cv_relS_take {sv : Nat → Value} {as : List Nat} : ∀ (n : Nat) {l : List cv_V} {r : List Value}, cv_relS sv as l r → cv_relS sv as (l.take n) (r.take n)
  | 0, _, _, _ => trivial
  | n + 1, [], [], _ => trivial
  | n + 1, _ :: _, _ :: _, ⟨a, b⟩ => ⟨a, cv_relS_take n b⟩
  | _ + 1, [], _ :: _, hh => hh.elim
  | _ + 1, _ :: _, [], hh => hh.elim
theorem cv_relS_drop {sv : Nat → Value} {as : List Nat} : ∀ (n : Nat) {l : List cv_V} {r : List Value}, cv_relS sv as l r → cv_relS sv as (l.drop n) (r.drop n)
  | 0, _, _, h => h
  | n + 1, [], [], _ => trivial
  | n + 1, _ :: _, _ :: _, ⟨a, b⟩ => cv_relS_drop n b
  | _ + 1, [], _ :: _, hh => hh.elim
  | _ + 1, _ :: _, [], hh => hh.elim
theorem cv_cat {sv : Nat → Value} (hsv : ∀ j, sv j = .null ∨ ∃ a, sv j = .ref a) {as : List Nat} {v : cv_V} {x : Value} (h : cv_dn sv as v x) : x.category = bif cv_isL v then 2 else 1 := by
  match v, h with
  | .inl n, h => rw [show x = _ from h]; rfl
  | .inr (.inl n), h => rw [show x = _ from h]; rfl
  | .inr (.inr (.inl none)), h => rw [show x = _ from h]; rfl
  | .inr (.inr (.inl (some k))), ⟨a, _, h⟩ => subst h; rfl
  | .inr (.inr (.inr j)), h =>
    rcases hsv j with h' | ⟨a, h'⟩
    · rw [show x = sv j from h, h']; rfl
    · rw [show x = sv j from h, h']; rfl
theorem cv_wid_ok {sv : Nat → Value} (hsv : ∀ j, sv j = .null ∨ ∃ a, sv j = .ref a) {as : List Nat} : ∀ {l : List cv_V} {r : List Value}, cv_relS sv as l r → (r.map fun v => v.category).sum = cv_wid l
  | [], [], _ => rfl
  | v :: l, x :: r, ⟨a, b⟩ => by
    have h1 := cv_wid_ok hsv b
    have h2 := cv_cat hsv a
    simp only [cv_wid, List.map_cons, List.sum_cons] at h1 ⊢
    rw [h1, h2]
  | [], _ :: _, hh => hh.elim
  | _ :: _, [], hh => hh.elim
/-- locals -/
def cv_relL (sv : Nat → Value) (as : List Nat) (nL : Nat) (L : cv_L) (ls : Array Slot) : Prop := ∃ lv : List (Nat × Value), lv_has ls nL lv ∧ ∀ q ∈ L, ∃ x, cv_dn sv as q.2 x ∧ (q.1, x) ∈ lv
theorem cv_relL_up {sv : Nat → Value} {as as' : List Nat} (h : as <+: as') {nL : Nat} {L : cv_L} {ls : Array Slot} (hl : cv_relL sv as nL L ls) : cv_relL sv as' nL L ls := by
  obtain ⟨lv, h1, h2⟩ := hl
  exact ⟨lv, h1, fun q hq => by obtain ⟨x, a, b⟩ := h2 q hq; exact ⟨x, cv_dn_up h a, b⟩⟩
theorem cv_get_mem {L : cv_L} {i : Nat} {v : cv_V} (h : cv_get L i = some v) : (i, v) ∈ L := by
  unfold cv_get at h
  cases hf : L.find? (fun q => q.1 == i) with
  | none => rw [hf] at h; cases h
  | some q =>
    rw [hf] at h
    cases h
    have h1 := List.find?_some hf
    have h2 : q.1 = i := by simpa using h1
    have h3 := List.mem_of_find?_eq_some hf
    rw [← h2]
    exact h3
theorem cv_relL_get {sv : Nat → Value} {as : List Nat} {nL : Nat} {L : cv_L} {ls : Array Slot} (hl : cv_relL sv as nL L ls) {i : Nat} {v : cv_V} (h : cv_get L i = some v) : ∃ x, cv_dn sv as v x ∧ ls[i]? = some (.val x) := by
  obtain ⟨lv, h1, h2⟩ := hl
  obtain ⟨x, a, b⟩ := h2 _ (cv_get_mem h)
  exact ⟨x, a, h1.2.2 _ b⟩
theorem cv_relL_set {sv : Nat → Value} (hsv : ∀ j, sv j = .null ∨ ∃ a, sv j = .ref a) {as : List Nat} {L : cv_L} {lv : List (Nat × Value)} (h2 : ∀ q ∈ L, ∃ x, cv_dn sv as q.2 x ∧ (q.1, x) ∈ lv) {nL i : Nat} {v : cv_V} {x : Value} (hd : cv_dn sv as v x) {ls' : Array Slot}
    (h : lv_has ls' nL ((i, x) :: lv.filter (fun q => !(q.1 == i) && !(q.1 + 1 == i && q.2.category == 2)))) : cv_relL sv as nL (cv_set L i v) ls' := by
  refine ⟨_, h, fun q hq => ?_⟩
  rcases List.mem_cons.mp hq with rfl | hq
  · exact ⟨x, hd, List.mem_cons_self⟩
  · obtain ⟨hq1, hq2⟩ := List.mem_filter.mp hq
    obtain ⟨y, a, b⟩ := h2 q hq1
    refine ⟨y, a, List.mem_cons_of_mem _ (List.mem_filter.mpr ⟨b, ?_⟩)⟩
    have hc := cv_cat hsv a
    dsimp only at hq2 ⊢
    rw [hc]
    cases hL : cv_isL q.2 with
    | true => rw [hL] at hq2; simpa using hq2
    | false => rw [hL] at hq2; simpa using hq2
theorem cv_relL_setL {sv : Nat → Value} (hsv : ∀ j, sv j = .null ∨ ∃ a, sv j = .ref a) {as : List Nat} {L : cv_L} {lv : List (Nat × Value)} (h2 : ∀ q ∈ L, ∃ x, cv_dn sv as q.2 x ∧ (q.1, x) ∈ lv) {nL i : Nat} {v : cv_V} {x : Value} (hd : cv_dn sv as v x) {ls' : Array Slot}
    (h : lv_has ls' nL ((i, x) :: lv.filter (fun q => !(q.1 == i) && (!(q.1 == i + 1) && !(q.1 + 1 == i && q.2.category == 2))))) : cv_relL sv as nL (cv_setL L i v) ls' := by
  refine ⟨_, h, fun q hq => ?_⟩
  rcases List.mem_cons.mp hq with rfl | hq
  · exact ⟨x, hd, List.mem_cons_self⟩
  · obtain ⟨hq1, hq2⟩ := List.mem_filter.mp hq
    obtain ⟨y, a, b⟩ := h2 q hq1
    refine ⟨y, a, List.mem_cons_of_mem _ (List.mem_filter.mpr ⟨b, ?_⟩)⟩
    have hc := cv_cat hsv a
    dsimp only at hq2 ⊢
    rw [hc]
    cases hL : cv_isL q.2 with
    | true => rw [hL] at hq2; simpa using hq2
    | false => rw [hL] at hq2; simpa using hq2
/-- cells -/
def cv_relE (cy : Nat → ClassId) (sv : Nat → Value) (as : List Nat) (c : cv_C) (e : va_E) : Prop := match c with
  | .inl (t, xs) => t ≤ 2 ∧ ∃ f : Nat → Int32, e = .inl (cy t, xs.length, .inl f) ∧ ∀ (k : Nat) (x : Int32), xs[k]? = some x → f k = x
  | .inr (.inl xs) => ∃ f : Nat → Int64, e = .inl (cy 3, xs.length, .inr (.inl f)) ∧ ∀ (k : Nat) (x : Int64), xs[k]? = some x → f k = x
  | .inr (.inr (.inl (t, xs))) => (t = 4 ∨ t = 5) ∧ ∃ f : Nat → Option Nat, e = .inl (cy t, xs.length, .inr (.inr (.inr (.inr f)))) ∧ ∀ (k : Nat) (o : Option Nat), xs[k]? = some o → cv_dn sv as (.inr (.inr (.inl o))) (va_rf (f k))
  | .inr (.inr (.inr (ci, xs))) => ∃ fs : List Value, e = .inr (ci, fs) ∧ fs.length = xs.length ∧ ∀ (k : Nat) (v : cv_V), xs[k]? = some v → ∃ x, fs[k]? = some x ∧ cv_dn sv as v x
theorem cv_relE_up {cy : Nat → ClassId} {sv : Nat → Value} {as as' : List Nat} (h : as <+: as') {c : cv_C} {e : va_E} (hE : cv_relE cy sv as c e) : cv_relE cy sv as' c e := by
  match c, hE with
  | .inl (t, xs), hE => exact hE
  | .inr (.inl xs), hE => exact hE
  | .inr (.inr (.inl (t, xs))), ⟨h1, f, h2, h3⟩ => exact ⟨h1, f, h2, fun k o hk => cv_dn_up h (h3 k o hk)⟩
  | .inr (.inr (.inr (ci, xs))), ⟨fs, h1, h2, h3⟩ => exact ⟨fs, h1, h2, fun k v hk => by obtain ⟨x, a, b⟩ := h3 k v hk; exact ⟨x, a, cv_dn_up h b⟩⟩
def cv_relH (cy : Nat → ClassId) (sv : Nat → Value) (as : List Nat) (h : cv_H) (ws : va_W) : Prop :=
  as.length = h.length ∧ ws.length = h.length ∧ ∀ (k : Nat) (c : cv_C), h[k]? = some c → ∃ (a : Nat) (e : va_E), as[k]? = some a ∧ ws[k]? = some (a, e) ∧ cv_relE cy sv as c e
theorem cv_relH_set {cy : Nat → ClassId} {sv : Nat → Value} {as : List Nat} {h : cv_H} {ws : va_W} (hH : cv_relH cy sv as h ws) {k a : Nat} {c : cv_C} {e : va_E} (ha : as[k]? = some a) (hE : cv_relE cy sv as c e) : cv_relH cy sv as (h.set k c) (ws.set k (a, e)) := by
  obtain ⟨h1, h2, h3⟩ := hH
  refine ⟨by simpa using h1, by simpa using h2, fun j c' hj => ?_⟩
  by_cases hjk : k = j
  · subst hjk
    have hlt : k < h.length := by
      have := (List.getElem?_eq_some_iff.mp ha).1
      omega
    rw [List.getElem?_set_self hlt] at hj
    cases hj
    exact ⟨a, e, ha, List.getElem?_set_self (by omega), hE⟩
  · rw [List.getElem?_set_ne hjk] at hj
    obtain ⟨a', e', q1, q2, q3⟩ := h3 j c' hj
    exact ⟨a', e', q1, by rw [List.getElem?_set_ne hjk]; exact q2, q3⟩
theorem cv_relH_push {cy : Nat → ClassId} {sv : Nat → Value} {as : List Nat} {h : cv_H} {ws : va_W} (hH : cv_relH cy sv as h ws) {q : Nat} {c : cv_C} {e : va_E} (hE : cv_relE cy sv (as ++ [q]) c e) : cv_relH cy sv (as ++ [q]) (h ++ [c]) (ws ++ [(q, e)]) := by
  obtain ⟨h1, h2, h3⟩ := hH
  refine ⟨by simp [h1], by simp [h2], fun j c' hj => ?_⟩
  by_cases hjl : j < h.length
  · rw [List.getElem?_append_left hjl] at hj
    obtain ⟨a', e', q1, q2, q3⟩ := h3 j c' hj
    exact ⟨a', e', by rw [List.getElem?_append_left (by omega)]; exact q1, by rw [List.getElem?_append_left (by omega)]; exact q2, cv_relE_up (List.prefix_append _ _) q3⟩
  · have hj2 := (List.getElem?_eq_some_iff.mp hj).1
    simp only [List.length_append, List.length_cons, List.length_nil] at hj2
    have hj3 : j = h.length := by omega
    subst hj3
    rw [List.getElem?_append_right (Nat.le_refl _)] at hj
    simp only [Nat.sub_self, List.getElem?_cons_zero, Option.some.injEq] at hj
    subst hj
    exact ⟨q, e, by rw [List.getElem?_append_right (by omega)]; simp [h1], by rw [List.getElem?_append_right (by omega)]; simp [h2], hE⟩
def cv_tys (cy : Nat → ClassId) : List (ClassId × FieldType) := [(cy 0, .int), (cy 1, .byte), (cy 2, .boolean), (cy 3, .long), (cy 4, .object "SagGates$Gate"), (cy 5, .object "SagGates$Told")]
