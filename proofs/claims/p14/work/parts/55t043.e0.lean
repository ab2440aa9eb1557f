section
/-! ===== which cells a method may write: a check by cells ===== -/
abbrev ef_A : Type := Option (List Nat)
abbrev ef_L : Type := List (Nat × List Nat)
abbrev ef_T : Type := List (Nat × Nat × List Nat)
abbrev ef_U : Type := List (Nat × List Nat)
abbrev ef_W : Type := List (Nat × Option Nat)
/-- the method, what it takes, which words hold ahead, does it answer, which words hold behind, what it may write -/
abbrev ef_K : Type := Nat × List ef_A × ef_T × Bool × ef_T × ef_W
abbrev ef_S : Type := Nat × ef_L × List ef_A × ef_T
def ef_in (k : Nat) (l : List Nat) : Bool := l.any (fun x => x == k)
def ef_sub (l m : List Nat) : Bool := l.all (fun x => ef_in x m)
def ef_get (e : ef_L) (i : Nat) : ef_A := (e.find? (fun q => q.1 == i)).map Prod.snd
def ef_set (e : ef_L) (i : Nat) (a : ef_A) : ef_L := (match a with
  | some l => [(i, l)]
  | none => []) ++ e.filter (fun q => !(q.1 == i))
def ef_may (W : ef_W) (k i : Nat) : Bool := W.any (fun w => w.1 == k && (match w.2 with
  | none => true
  | some m => Nat.testBit m i))
def ef_all (W : ef_W) (k : Nat) : Bool := W.any (fun w => w.1 == k && w.2.isNone)
def ef_leW (V W : ef_W) : Bool := V.all (fun v => W.any (fun w => w.1 == v.1 && (match w.2, v.2 with
  | none, _ => true
  | some m, some m' => Nat.land m' m == m'
  | some _, none => false)))
def ef_at1 (T : ef_T) (k f : Nat) : ef_A := (T.find? (fun t => t.1 == k && t.2.1 == f)).map (fun t => t.2.2)
def ef_fld1 (E TF : ef_T) (f k : Nat) : ef_A := match ef_at1 E k f with
  | some l => some l
  | none => ef_at1 TF k f
def ef_row1 (TR : ef_U) (k : Nat) : ef_A := (TR.find? (fun t => t.1 == k)).map Prod.snd
def ef_un (g : Nat → ef_A) : List Nat → ef_A
  | [] => some []
  | k :: ks => match g k, ef_un g ks with
    | some a, some b => some (a ++ b.filter (fun x => !ef_in x a))
    | _, _ => none
def ef_unA (g : Nat → ef_A) (a : ef_A) : ef_A := match a with
  | some ks => ef_un g ks
  | none => none
def ef_le (a : ef_A) (l : List Nat) : Bool := match a with
  | some m => ef_sub m l && (m.isEmpty == l.isEmpty)
  | none => false
def ef_put (TF : ef_T) (k f : Nat) (v : ef_A) : Bool := TF.all (fun t => !(t.1 == k && t.2.1 == f) || ef_le v t.2.2)
def ef_upd (E : ef_T) (ks : List Nat) (f : Nat) (v : ef_A) : ef_T := (match ks, v with
  | [k], some (x :: l) => [(k, f, x :: l)]
  | _, _ => []) ++ E.filter (fun t => !(ef_in t.1 ks && t.2.1 == f))
def ef_arr (TF : ef_T) (TR : ef_U) (E : ef_T) (W : ef_W) (k : Nat) : Bool := ef_all W k && (TF.all (fun t => !(t.1 == k)) && (TR.all (fun t => !(t.1 == k)) && E.all (fun t => !(t.1 == k))))
def ef_arrA (TF : ef_T) (TR : ef_U) (E : ef_T) (W : ef_W) (v : ef_A) (k : Nat) : Bool := ef_all W k && (TF.all (fun t => !(t.1 == k)) && (TR.all (fun t => !(t.1 == k) || ef_le v t.2) && E.all (fun t => !(t.1 == k))))
/-- what makes cells, calls, ends -/
def ef_isC (i : Instr) : Bool := match i with
  | .new _ => true
  | .newarray _ => true
  | .anewarray _ => true
  | .invokestatic _ => true
  | .invokevirtual _ => true
  | .invokespecial _ => true
  | .ireturn => true
  | .lreturn => true
  | .return_ => true
  | _ => false
def ef_pp (i : Instr) : Option (Nat × Bool) := match i with
  | .iaload => some (2, true)
  | .baload => some (2, true)
  | .laload => some (2, true)
  | .arraylength => some (1, true)
  | .i2c => some (1, true)
  | .i2b => some (1, true)
  | .i2l => some (1, true)
  | .l2i => some (1, true)
  | .ineg => some (1, true)
  | .lneg => some (1, true)
  | .lcmp => some (2, true)
  | .lshr => some (2, true)
  | .pop => some (1, false)
  | .iadd => some (2, true)
  | .isub => some (2, true)
  | .imul => some (2, true)
  | .iand => some (2, true)
  | .ior => some (2, true)
  | .ishl => some (2, true)
  | .ishr => some (2, true)
  | .iushr => some (2, true)
  | .idiv => some (2, true)
  | .irem => some (2, true)
  | .ladd => some (2, true)
  | .lsub => some (2, true)
  | .lmul => some (2, true)
  | .land => some (2, true)
  | .ldiv => some (2, true)
  | .lrem => some (2, true)
  | _ => none
def ef_pu (p : Bool) : List ef_A := bif p then [none] else []
def ef_one (TF : ef_T) (TR : ef_U) (W : ef_W) (q : cv_Q) (e : ef_L) (z : List ef_A) (E : ef_T) : Option (List ef_S) :=
  bif ef_isC q.2.1 then none else
  match cv_push q with
  | some _ => some [(q.1 + q.2.2.1, e, none :: z, E)]
  | none =>
  match cv_load q.2.1 with
  | some (i, k) => some [(q.1 + q.2.2.1, e, (bif k == 1 then some [] else ef_get e i) :: z, E)]
  | none =>
  match cv_store q.2.1 with
  | some (i, _) => (match z with
    | a :: z => some [(q.1 + q.2.2.1, ef_set e i a, z, E)]
    | [] => none)
  | none =>
  match ef_pp q.2.1 with
  | some (k, p) => bif Nat.ble k z.length then some [(q.1 + q.2.2.1, e, ef_pu p ++ z.drop k, E)] else none
  | none =>
  match q.2.1, z with
  | .iinc i _, z => some [(q.1 + q.2.2.1, ef_set e i none, z, E)]
  | .goto off, z => some [(cv_tgt q.1 off, e, z, E)]
  | .if_icmp _ off, _ :: _ :: z => some [(cv_tgt q.1 off, e, z, E), (q.1 + q.2.2.1, e, z, E)]
  | .ifCond _ off, _ :: z => some [(cv_tgt q.1 off, e, z, E), (q.1 + q.2.2.1, e, z, E)]
  | .tableswitch d _ _ offs, _ :: z => some ((cv_tgt q.1 d, e, z, E) :: offs.toList.map (fun o => (cv_tgt q.1 o, e, z, E)))
  | .dup, a :: z => some [(q.1 + q.2.2.1, e, a :: a :: z, E)]
  | .dup2, a :: b :: z => some [(q.1 + q.2.2.1, e, a :: b :: a :: b :: z, E)]
  | .aaload, _ :: a :: z => some [(q.1 + q.2.2.1, e, ef_unA (ef_row1 TR) a :: z, E)]
  | .getfield _, a :: z => some [(q.1 + q.2.2.1, e, ef_unA (ef_fld1 E TF q.2.2.2.2.1) a :: z, E)]
  | .putfield _, v :: some ks :: z => bif ks.all (fun k => ef_may W k q.2.2.2.2.1 && (ef_put TF k q.2.2.2.2.1 v && TR.all (fun t => !(t.1 == k)))) then some [(q.1 + q.2.2.1, e, z, ef_upd E ks q.2.2.2.2.1 v)] else none
  | .iastore, _ :: _ :: some ks :: z => bif ks.all (ef_arr TF TR E W) then some [(q.1 + q.2.2.1, e, z, E)] else none
  | .bastore, _ :: _ :: some ks :: z => bif ks.all (ef_arr TF TR E W) then some [(q.1 + q.2.2.1, e, z, E)] else none
  | .lastore, _ :: _ :: some ks :: z => bif ks.all (ef_arr TF TR E W) then some [(q.1 + q.2.2.1, e, z, E)] else none
  | .aastore, v :: _ :: some ks :: z => bif ks.all (ef_arrA TF TR E W v) then some [(q.1 + q.2.2.1, e, z, E)] else none
  | _, _ => none
def ef_subs : List ef_A → List ef_A → Bool
  | [], [] => true
  | _ :: l, none :: m => ef_subs l m
  | a :: l, some b :: m => ef_le a b && ef_subs l m
  | _, _ => false
def ef_leT (E C : ef_T) : Bool := C.all (fun t => E.any (fun s => s.1 == t.1 && (s.2.1 == t.2.1 && ef_sub s.2.2 t.2.2)))
def ef_find (Ks : List ef_K) (j : Nat) (as : List ef_A) (E : ef_T) : Option ef_K := Ks.find? (fun K => K.1 == j && (ef_subs as K.2.1 && ef_leT E K.2.2.1))
def ef_go (Ks : List ef_K) (W : ef_W) (q : cv_Q) (as : List ef_A) (e : ef_L) (z : List ef_A) (E : ef_T) : Option (List ef_S) := match ef_find Ks q.2.2.2.1 as E with
  | some K => bif ef_leW K.2.2.2.2.2 W then some [(q.1 + q.2.2.1, e, ef_pu K.2.2.2.1 ++ z, K.2.2.2.2.1 ++ E.filter (fun t => !ef_may K.2.2.2.2.2 t.1 t.2.1))] else none
  | none => none
def ef_nk (a : Nat) : Option Nat := match a with
  | 9001 => some 2
  | 9002 => some 2
  | 9003 => some 1
  | 9004 => some 2
  | 9005 => some 2
  | 9006 => some 1
  | _ => none
def ef_call (Ks : List ef_K) (W : ef_W) (q : cv_Q) (e : ef_L) (z : List ef_A) (E : ef_T) : Option (List ef_S) := match q.2.1 with
  | .invokestatic _ => (match ef_nk q.2.2.2.1 with
    | some k => bif Nat.ble k z.length then some [(q.1 + q.2.2.1, e, none :: z.drop k, E)] else none
    | none => bif Nat.ble q.2.2.2.1 8999 && Nat.ble q.2.2.2.2.1 z.length then ef_go Ks W q (z.take q.2.2.2.2.1).reverse e (z.drop q.2.2.2.2.1) E else none)
  | .invokevirtual _ => bif Nat.ble q.2.2.2.1 8999 && Nat.ble q.2.2.2.2.1 z.length then (match z.drop q.2.2.2.2.1 with
    | a :: z' => ef_go Ks W q (a :: (z.take q.2.2.2.2.1).reverse) e z' E
    | [] => none) else none
  | _ => none
def ef_ret (K : ef_K) (q : cv_Q) (E : ef_T) : Bool := (match q.2.1 with
  | .ireturn => K.2.2.2.1
  | .lreturn => K.2.2.2.1
  | .return_ => !K.2.2.2.1
  | _ => false) && ef_leT E K.2.2.2.2.1
/-- places where runs meet -/
abbrev ef_G : Type := Nat × ef_L × ef_T
def ef_incl (e c : ef_L) : Bool := c.all (fun q => ef_le (ef_get e q.1) q.2)
noncomputable def ef_ev (Ks : List ef_K) (TF : ef_T) (TR : ef_U) (M : cv_M) (K : ef_K) (cs : List ef_G) (fuel : Nat) : Bool → Nat → ef_L → List ef_A → ef_T → Bool :=
  Nat.rec (motive := fun _ => Bool → Nat → ef_L → List ef_A → ef_T → Bool) (fun _ _ _ _ _ => false) (fun _ ih b pc e z E =>
    match cv_op M pc with
    | none => false
    | some q =>
      match (bif b then none else cs.find? (fun c => c.1 == pc)) with
      | some c => z.isEmpty && (ef_incl e c.2.1 && ef_leT E c.2.2)
      | none =>
        match ef_one TF TR K.2.2.2.2.2 q e z E with
        | some r => r.all (fun s => ih false s.1 s.2.1 s.2.2.1 s.2.2.2)
        | none =>
        match ef_call Ks K.2.2.2.2.2 q e z E with
        | some r => r.all (fun s => ih false s.1 s.2.1 s.2.2.1 s.2.2.2)
        | none => ef_ret K q E) fuel
def ef_ent (i : Nat) : List ef_A → ef_L
  | some l :: r => (i, l) :: ef_ent (i + 1) r
  | _ => []
noncomputable def ef_chk (Ks : List ef_K) (TF : ef_T) (TR : ef_U) (M : cv_M) (K : ef_K) (cs : List ef_G) (fuel : Nat) : Bool :=
  ef_ev Ks TF TR M K cs fuel true 0 (ef_ent 0 K.2.1) [] K.2.2.1 && cs.all (fun c => ef_ev Ks TF TR M K cs fuel true c.1 c.2.1 [] c.2.2)
/-! what these words mean -/
/-- one of these cells, or (of none) a number -/
def ef_s (l : List Nat) (v : cv_V) : Prop := (l = [] ∧ cv_isI v = true) ∨ ∃ k, k ∈ l ∧ v = cv_r k
def ef_ok (a : ef_A) (v : cv_V) : Prop := ∀ l, a = some l → ef_s l v
def ef_lok (e : ef_L) (L : cv_L) : Prop := ∀ q, q ∈ L → ef_ok (ef_get e q.1) q.2
def ef_zok : List ef_A → List cv_V → Prop
  | [], [] => True
  | a :: z, v :: st => ef_ok a v ∧ ef_zok z st
  | _, _ => False
def ef_fok (T : ef_T) (h : cv_H) : Prop := ∀ t, t ∈ T → ∃ c, c ∈ t.2.2 ∧ cw_at h t.1 t.2.1 = some (cv_r c)
def ef_rok (R : ef_U) (h : cv_H) : Prop := ∀ t, t ∈ R → ∀ i v, cw_at h t.1 i = some v → ∃ c, c ∈ t.2 ∧ v = cv_r c
def ef_fr (W : ef_W) (h h' : cv_H) : Prop := ∀ k i, ef_may W k i = false → cw_at h' k i = cw_at h k i
theorem ef_ok_none {v : cv_V} : ef_ok none v := fun l h => by cases h
theorem ef_ok_some {k : Nat} {l : List Nat} (h : k ∈ l) : ef_ok (some l) (cv_r k) := fun m e => by cases e; exact .inr ⟨k, h, rfl⟩
theorem ef_s_r {l : List Nat} {k : Nat} (h : ef_s l (cv_r k)) : k ∈ l := by
  rcases h with ⟨-, h⟩ | ⟨k', h, e⟩
  · cases h
  · cases e; exact h
theorem ef_in_iff {k : Nat} {l : List Nat} : ef_in k l = true ↔ k ∈ l := by
  unfold ef_in
  rw [List.any_eq_true]
  constructor
  · rintro ⟨x, hx, e⟩
    rw [beq_iff_eq] at e
    rw [← e]; exact hx
  · intro h; exact ⟨k, h, beq_self_eq_true k⟩
theorem ef_sub_ok {l m : List Nat} (h : ef_sub l m = true) {k : Nat} (hk : k ∈ l) : k ∈ m := ef_in_iff.mp (List.all_eq_true.mp h k hk)
theorem ef_le_ok {a : ef_A} {l : List Nat} {v : cv_V} (h : ef_le a l = true) (ha : ef_ok a v) : ef_s l v := by
  unfold ef_le at h
  cases a with
  | none => cases h
  | some m =>
    have h0 : (ef_sub m l && (m.isEmpty == l.isEmpty)) = true := h
    rw [Bool.and_eq_true, beq_iff_eq] at h0
    rcases ha m rfl with ⟨h1, h2⟩ | ⟨k, h1, h2⟩
    · subst h1
      refine .inl ⟨?_, h2⟩
      have h3 : l.isEmpty = true := h0.2.symm
      simpa using h3
    · exact .inr ⟨k, ef_sub_ok h0.1 h1, h2⟩
theorem ef_le_ne {a : ef_A} {l : List Nat} {v : cv_V} (h : ef_le a l = true) (ha : ef_ok a v) {c : Nat} (hc : c ∈ l) : ∃ k, k ∈ l ∧ v = cv_r k := by
  rcases ef_le_ok h ha with ⟨h1, -⟩ | h1
  · subst h1; cases hc
  · exact h1
theorem ef_un_ok {g : Nat → ef_A} : ∀ {ks l : List Nat}, ef_un g ks = some l → ∀ k, k ∈ ks → ∃ m, g k = some m ∧ ∀ c, c ∈ m → c ∈ l
  | [], l, _, k, hk => by cases hk
  | k0 :: ks, l, h, k, hk => by
    unfold ef_un at h
    cases h1 : g k0 with
    | none => rw [h1] at h; cases h
    | some a =>
      rw [h1] at h
      cases h2 : ef_un g ks with
      | none => rw [h2] at h; cases h
      | some b =>
        rw [h2] at h
        cases h
        rcases List.mem_cons.mp hk with rfl | hk
        · exact ⟨a, h1, fun c hc => List.mem_append.mpr (.inl hc)⟩
        · obtain ⟨m, hm, hs⟩ := ef_un_ok h2 k hk
          refine ⟨m, hm, fun c hc => List.mem_append.mpr ?_⟩
          by_cases q : ef_in c a = true
          · exact .inl (ef_in_iff.mp q)
          · exact .inr (List.mem_filter.mpr ⟨hs c hc, by simpa using q⟩)
theorem ef_find_flt {e : ef_L} {i j : Nat} (h : ¬ j = i) : (e.filter (fun q => !(q.1 == i))).find? (fun q => q.1 == j) = e.find? (fun q => q.1 == j) := by
  induction e with
  | nil => rfl
  | cons a e ih =>
    by_cases c : a.1 = i
    · have c1 : (a.1 == i) = true := by simpa using c
      have c2 : (a.1 == j) = false := by
        cases q : (a.1 == j) with
        | false => rfl
        | true => rw [beq_iff_eq] at q; exact absurd (q.symm.trans c) h
      rw [List.filter_cons_of_neg (by rw [c1]; decide), List.find?_cons, c2, ih]
    · have c1 : (a.1 == i) = false := by simpa using c
      rw [List.filter_cons_of_pos (by rw [c1]; rfl), List.find?_cons, List.find?_cons, ih]
theorem ef_find_gone {e : ef_L} {i : Nat} : (e.filter (fun q => !(q.1 == i))).find? (fun q => q.1 == i) = none := by
  rw [List.find?_eq_none]
  intro x hx
  have := (List.mem_filter.mp hx).2
  simpa using this
theorem ef_get_set {e : ef_L} {i j : Nat} {a : ef_A} : ef_get (ef_set e i a) j = if j = i then a else ef_get e j := by
  unfold ef_get ef_set
  by_cases c : j = i
  · subst c
    rw [if_pos rfl]
    cases a with
    | none => show Option.map _ (List.find? _ (e.filter _)) = none; rw [ef_find_gone]; rfl
    | some l =>
      show Option.map _ (List.find? _ ((j, l) :: e.filter _)) = some l
      rw [List.find?_cons, beq_self_eq_true]; rfl
  · rw [if_neg c]
    cases a with
    | none => show Option.map _ (List.find? _ (e.filter _)) = _; rw [ef_find_flt c]
    | some l =>
      show Option.map _ (List.find? _ ((i, l) :: e.filter _)) = _
      have c2 : ((i : Nat) == j) = false := by
        cases q : (i == j) with
        | false => rfl
        | true => rw [beq_iff_eq] at q; exact absurd q.symm c
      rw [List.find?_cons, c2, ef_find_flt c]
theorem ef_lok_set {e : ef_L} {L : cv_L} {i : Nat} {a : ef_A} {v : cv_V} (h : ef_lok e L) (hv : ef_ok a v) : ef_lok (ef_set e i a) (cv_set L i v) := by
  intro q hq
  unfold cv_set at hq
  rw [ef_get_set]
  rcases List.mem_cons.mp hq with rfl | hq
  · rw [if_pos rfl]; exact hv
  · obtain ⟨h1, h2⟩ := List.mem_filter.mp hq
    simp only [Bool.and_eq_true, Bool.not_eq_true'] at h2
    have : ¬ q.1 = i := by intro c; rw [c, beq_self_eq_true] at h2; cases h2.1
    rw [if_neg this]
    exact h q h1
theorem ef_lok_setL {e : ef_L} {L : cv_L} {i : Nat} {a : ef_A} {v : cv_V} (h : ef_lok e L) (hv : ef_ok a v) : ef_lok (ef_set e i a) (cv_setL L i v) := by
  intro q hq
  unfold cv_setL at hq
  rw [ef_get_set]
  rcases List.mem_cons.mp hq with rfl | hq
  · rw [if_pos rfl]; exact hv
  · obtain ⟨h1, h2⟩ := List.mem_filter.mp hq
    simp only [Bool.and_eq_true, Bool.not_eq_true'] at h2
    have : ¬ q.1 = i := by intro c; rw [c, beq_self_eq_true] at h2; cases h2.1
    rw [if_neg this]
    exact h q h1
theorem ef_cv_get {L : cv_L} {i : Nat} {v : cv_V} (h : cv_get L i = some v) : (i, v) ∈ L := by
  unfold cv_get at h
  obtain ⟨q, h1, h2⟩ := Option.map_eq_some_iff.mp h
  have h3 := List.find?_some h1
  rw [beq_iff_eq] at h3
  have h4 := List.mem_of_find?_eq_some h1
  rw [← h3, ← h2]
  exact h4
theorem ef_zok_app : ∀ {z z' : List ef_A} {st st' : List cv_V}, ef_zok z st → ef_zok z' st' → ef_zok (z ++ z') (st ++ st')
  | [], _, [], _, _, h => h
  | [], _, _ :: _, _, h, _ => h.elim
  | _ :: _, _, [], _, h, _ => h.elim
  | _ :: z, _, _ :: st, _, h, h' => ⟨h.1, ef_zok_app h.2 h'⟩
theorem ef_zok_take : ∀ {n : Nat} {z : List ef_A} {st : List cv_V}, ef_zok z st → ef_zok (z.take n) (st.take n)
  | 0, _, _, _ => trivial
  | _ + 1, [], [], _ => trivial
  | _ + 1, [], _ :: _, h => h.elim
  | _ + 1, _ :: _, [], h => h.elim
  | _ + 1, _ :: _, _ :: _, h => ⟨h.1, ef_zok_take h.2⟩
theorem ef_zok_drop : ∀ {n : Nat} {z : List ef_A} {st : List cv_V}, ef_zok z st → ef_zok (z.drop n) (st.drop n)
  | 0, _, _, h => h
  | _ + 1, [], [], _ => trivial
  | _ + 1, [], _ :: _, h => h.elim
  | _ + 1, _ :: _, [], h => h.elim
  | n + 1, _ :: z, _ :: st, h => ef_zok_drop (n := n) (z := z) (st := st) h.2
theorem ef_zok_rev : ∀ {z : List ef_A} {st : List cv_V}, ef_zok z st → ef_zok z.reverse st.reverse
  | [], [], _ => trivial
  | [], _ :: _, h => h.elim
  | _ :: _, [], h => h.elim
  | a :: z, v :: st, h => by
    rw [List.reverse_cons, List.reverse_cons]
    exact ef_zok_app (ef_zok_rev h.2) ⟨h.1, trivial⟩
theorem ef_ent_ok : ∀ {i : Nat} {as : List ef_A} {av : List cv_V}, ef_zok as av → ef_lok (ef_ent i as) (cv_ent i av) ∧ ∀ q, q ∈ cv_ent i av → i ≤ q.1
  | i, [], [], _ => ⟨fun q hq => (by cases hq), fun q hq => (by cases hq)⟩
  | _, [], _ :: _, h => h.elim
  | _, _ :: _, [], h => h.elim
  | i, none :: as, v :: av, h => by
    refine ⟨fun q hq => ef_ok_none, fun q hq => ?_⟩
    rcases List.mem_cons.mp hq with rfl | hq
    · exact Nat.le_refl _
    · have := (ef_ent_ok (i := (bif cv_isL v then i + 2 else i + 1)) h.2).2 q hq
      cases q2 : cv_isL v with
      | false => rw [q2] at this; exact Nat.le_of_succ_le this
      | true => rw [q2] at this; exact Nat.le_of_succ_le (Nat.le_of_succ_le this)
  | i, some l :: as, v :: av, h => by
    have hv := h.1 l rfl
    have hL : cv_isL v = false := by
      rcases hv with ⟨-, e⟩ | ⟨k, -, e⟩
      · rcases v with x | x | x
        · rfl
        · cases e
        · cases e
      · subst e; rfl
    have ih := ef_ent_ok (i := i + 1) h.2
    have hce : cv_ent i (v :: av) = (i, v) :: cv_ent (i + 1) av := by
      show (i, v) :: cv_ent (bif cv_isL v then i + 2 else i + 1) av = _
      rw [hL, cond_false]
    rw [hce]
    refine ⟨fun q hq => ?_, fun q hq => ?_⟩
    · rcases List.mem_cons.mp hq with rfl | hq
      · show ef_ok (Option.map _ (List.find? _ ((i, l) :: ef_ent (i + 1) as))) _
        rw [List.find?_cons, beq_self_eq_true]
        exact h.1
      · have h1 := ih.2 q hq
        have c2 : ((i : Nat) == q.1) = false := by
          cases q2 : (i == q.1) with
          | false => rfl
          | true => rw [beq_iff_eq] at q2; omega
        show ef_ok (Option.map _ (List.find? _ ((i, l) :: ef_ent (i + 1) as))) _
        rw [List.find?_cons, c2]
        exact ih.1 q hq
    · rcases List.mem_cons.mp hq with rfl | hq
      · exact Nat.le_refl _
      · exact Nat.le_of_succ_le (ih.2 q hq)
theorem ef_incl_ok {e c : ef_L} {L : cv_L} (h : ef_incl e c = true) (hl : ef_lok e L) : ef_lok c L := by
  intro q hq l hl2
  unfold ef_get at hl2
  obtain ⟨p, h1, h2⟩ := Option.map_eq_some_iff.mp hl2
  have h3 := List.find?_some h1
  rw [beq_iff_eq] at h3
  have h4 := List.all_eq_true.mp h p (List.mem_of_find?_eq_some h1)
  rw [h3, h2] at h4
  exact ef_le_ok h4 (hl q hq)
theorem ef_leT_ok {E C : ef_T} {h : cv_H} (hc : ef_leT E C = true) (hE : ef_fok E h) : ef_fok C h := by
  intro t ht
  obtain ⟨s, hs, e⟩ := List.any_eq_true.mp (List.all_eq_true.mp hc t ht)
  simp only [Bool.and_eq_true, beq_iff_eq] at e
  obtain ⟨c, c1, c2⟩ := hE s hs
  rw [e.1, e.2.1] at c2
  exact ⟨c, ef_sub_ok e.2.2 c1, c2⟩
theorem ef_subs_ok : ∀ {as bs : List ef_A} {av : List cv_V}, ef_subs as bs = true → ef_zok as av → ef_zok bs av
  | [], [], [], _, _ => trivial
  | [], _, _ :: _, _, h => h.elim
  | _ :: _, _, [], _, h => h.elim
  | [], _ :: _, _, h, _ => by cases h
  | _ :: _, [], _, h, _ => by cases h
  | a :: as, none :: bs, v :: av, h, h' => ⟨ef_ok_none, ef_subs_ok (as := as) (bs := bs) h h'.2⟩
  | a :: as, some b :: bs, v :: av, h, h' => by
    have h2 : (ef_le a b && ef_subs as bs) = true := h
    rw [Bool.and_eq_true] at h2
    refine ⟨fun l e => ?_, ef_subs_ok h2.2 h'.2⟩
    cases e
    exact ef_le_ok h2.1 h'.1
theorem ef_leW_ok {V W : ef_W} (h : ef_leW V W = true) {k i : Nat} (hm : ef_may V k i = true) : ef_may W k i = true := by
  obtain ⟨v, hv, e⟩ := List.any_eq_true.mp hm
  obtain ⟨w, hw, e2⟩ := List.any_eq_true.mp (List.all_eq_true.mp h v hv)
  rw [Bool.and_eq_true, beq_iff_eq] at e e2
  refine List.any_eq_true.mpr ⟨w, hw, ?_⟩
  rw [Bool.and_eq_true, beq_iff_eq]
  refine ⟨e2.1.trans e.1, ?_⟩
  have e3 := e2.2
  have e4 := e.2
  cases q : w.2 with
  | none => rfl
  | some m =>
    rw [q] at e3
    cases q2 : v.2 with
    | none => rw [q2] at e3; cases e3
    | some m' =>
      rw [q2] at e3 e4
      have e5 : m' &&& m = m' := by simpa using e3
      have e6 : m'.testBit i = true := e4
      show m.testBit i = true
      rw [← e5, Nat.testBit_and, Bool.and_eq_true] at e6
      exact e6.2
theorem ef_fr_refl {W : ef_W} {h : cv_H} : ef_fr W h h := fun _ _ _ => rfl
theorem ef_fr_tr {W : ef_W} {h h' h'' : cv_H} (a : ef_fr W h h') (b : ef_fr W h' h'') : ef_fr W h h'' := fun k i q => (b k i q).trans (a k i q)
theorem ef_fr_mono {V W : ef_W} {h h' : cv_H} (q : ef_leW V W = true) (a : ef_fr V h h') : ef_fr W h h' := fun k i m => a k i (by
  cases c : ef_may V k i with
  | false => rfl
  | true => rw [ef_leW_ok q c] at m; cases m)
theorem ef_at1_ok {T : ef_T} {k f : Nat} {l : List Nat} {h : cv_H} (e : ef_at1 T k f = some l) (hT : ef_fok T h) : ∃ c, c ∈ l ∧ cw_at h k f = some (cv_r c) := by
  obtain ⟨t, h1, h2⟩ := Option.map_eq_some_iff.mp e
  have h3 := List.find?_some h1
  simp only [Bool.and_eq_true, beq_iff_eq] at h3
  obtain ⟨c, c1, c2⟩ := hT t (List.mem_of_find?_eq_some h1)
  rw [h2] at c1
  rw [h3.1, h3.2] at c2
  exact ⟨c, c1, c2⟩
theorem ef_fld1_ok {E TF : ef_T} {k f : Nat} {l : List Nat} {h : cv_H} (e : ef_fld1 E TF f k = some l) (hE : ef_fok E h) (hT : ef_fok TF h) : ∃ c, c ∈ l ∧ cw_at h k f = some (cv_r c) := by
  unfold ef_fld1 at e
  cases q : ef_at1 E k f with
  | some m => rw [q] at e; cases e; exact ef_at1_ok q hE
  | none => rw [q] at e; exact ef_at1_ok e hT
theorem ef_row1_ok {TR : ef_U} {k i : Nat} {l : List Nat} {h : cv_H} {v : cv_V} (e : ef_row1 TR k = some l) (hR : ef_rok TR h) (hv : cw_at h k i = some v) : ∃ c, c ∈ l ∧ v = cv_r c := by
  obtain ⟨t, h1, h2⟩ := Option.map_eq_some_iff.mp e
  have h3 := List.find?_some h1
  rw [beq_iff_eq] at h3
  have := hR t (List.mem_of_find?_eq_some h1) i v (by rw [h3]; exact hv)
  rw [h2] at this
  exact this
end
section
/-! ===== one row's step, by cells ===== -/
section EF
variable {X : cv_X} {TF : ef_T} {TR : ef_U} {W : ef_W} {e : ef_L} {z : List ef_A} {E : ef_T} {L : cv_L} {st : List cv_V} {h : cv_H} {c n : Nat}
def ef_R (TF : ef_T) (TR : ef_U) (W : ef_W) (h : cv_H) (s : ef_S) (S' : cv_S) : Prop := s.1 = S'.1 ∧ ef_lok s.2.1 S'.2.1 ∧ ef_zok s.2.2.1 S'.2.2.1 ∧ ef_fok TF S'.2.2.2.1 ∧ ef_rok TR S'.2.2.2.1 ∧ ef_fok s.2.2.2 S'.2.2.2.1 ∧ ef_fr W h S'.2.2.2.1
theorem ef_wf {k f ci : Nat} {fs : List cv_V} {v : cv_V} (h1 : h[k]? = some (cv_co ci fs)) (hf : f < fs.length) : cw_at (h.set k (cv_co ci (fs.set f v))) k f = some v ∧ ∀ k' i' : Nat, (k' ≠ k ∨ i' ≠ f) → cw_at (h.set k (cv_co ci (fs.set f v))) k' i' = cw_at h k' i' := by
  refine ⟨?_, fun k' i' q => ?_⟩
  · rw [cw_at_set (cw_lt_of h1), if_pos rfl]
    show (fs.set f v)[f]? = some v
    rw [List.getElem?_set_self hf]
  · rw [cw_at_set (cw_lt_of h1)]
    by_cases c : k' = k
    · subst c
      rw [if_pos rfl]
      show (fs.set f v)[i']? = cw_at h k' i'
      have q2 : i' ≠ f := by rcases q with q | q
                             · exact absurd rfl q
                             · exact q
      rw [List.getElem?_set_ne (fun e => q2 e.symm)]
      unfold cw_at
      rw [h1]
      rfl
    · rw [if_neg c]
theorem ef_wc {k : Nat} {c0 c1 : cv_C} (h1 : h[k]? = some c0) : ∀ k' i' : Nat, k' ≠ k → cw_at (h.set k c1) k' i' = cw_at h k' i' := fun k' i' q => by rw [cw_at_set (cw_lt_of h1), if_neg q]
theorem ef_pp_ok {q : cv_Q} {k : Nat} {p : Bool} {S' : cv_S} (hpp : ef_pp q.2.1 = some (k, p)) (h2 : cv_one X q (q.1, L, st, h, c, n) = some S') : S'.1 = q.1 + q.2.2.1 ∧ S'.2.1 = L ∧ S'.2.2.2.1 = h ∧ ((p = true ∧ ∃ v, S'.2.2.1 = v :: st.drop k) ∨ (p = false ∧ S'.2.2.1 = st.drop k)) := by
  obtain ⟨pc, i, len, a, b, zz⟩ := q
  cases i
  all_goals first | (simp [ef_pp] at hpp; done) | skip
  all_goals (simp only [ef_pp, Option.some.injEq, Prod.mk.injEq] at hpp; obtain ⟨rfl, rfl⟩ := hpp)
  all_goals (unfold cv_one at h2; simp only [cv_push, cv_load, cv_store, cv_bin, cv_binL] at h2)
  all_goals (repeat' split at h2)
  all_goals first
    | (simp at h2; done)
    | (obtain ⟨w, hw, e⟩ := Option.map_eq_some_iff.mp h2; cases e; exact ⟨rfl, rfl, rfl, .inl ⟨rfl, _, rfl⟩⟩)
    | (obtain ⟨-, h3⟩ := cv_bif h2; obtain ⟨w, hw, e⟩ := Option.map_eq_some_iff.mp h3; cases e; exact ⟨rfl, rfl, rfl, .inl ⟨rfl, _, rfl⟩⟩)
    | (obtain ⟨-, h3⟩ := cv_bif h2; cases h3; exact ⟨rfl, rfl, rfl, .inl ⟨rfl, _, rfl⟩⟩)
    | (obtain ⟨-, h3⟩ := cv_bif h2; cases h3; exact ⟨rfl, rfl, rfl, .inr ⟨rfl, rfl⟩⟩)
    | (cases h2; exact ⟨rfl, rfl, rfl, .inl ⟨rfl, _, rfl⟩⟩)
    | (cases h2; exact ⟨rfl, rfl, rfl, .inr ⟨rfl, rfl⟩⟩)
theorem ef_fok_mv {T : ef_T} {h' : cv_H} (hT : ef_fok T h) (q : ∀ t, t ∈ T → cw_at h' t.1 t.2.1 = cw_at h t.1 t.2.1) : ef_fok T h' := fun t ht => by
  obtain ⟨c, c1, c2⟩ := hT t ht
  exact ⟨c, c1, (q t ht).trans c2⟩
theorem ef_rok_mv {R : ef_U} {h' : cv_H} (hR : ef_rok R h) (q : ∀ t, t ∈ R → ∀ i, cw_at h' t.1 i = cw_at h t.1 i) : ef_rok R h' := fun t ht i v hv => hR t ht i v ((q t ht i).symm.trans hv)
theorem ef_nk1 {T : ef_T} {k : Nat} (q : T.all (fun t => !(t.1 == k)) = true) : ∀ t, t ∈ T → t.1 ≠ k := fun t ht e => by
  have := List.all_eq_true.mp q t ht
  rw [e, beq_self_eq_true] at this
  cases this
theorem ef_nk2 {T : ef_U} {k : Nat} (q : T.all (fun t => !(t.1 == k)) = true) : ∀ t, t ∈ T → t.1 ≠ k := fun t ht e => by
  have := List.all_eq_true.mp q t ht
  rw [e, beq_self_eq_true] at this
  cases this
theorem ef_all_may {k i : Nat} (q : ef_all W k = true) : ef_may W k i = true := by
  obtain ⟨w, hw, e⟩ := List.any_eq_true.mp q
  rw [Bool.and_eq_true] at e
  refine List.any_eq_true.mpr ⟨w, hw, ?_⟩
  rw [Bool.and_eq_true]
  refine ⟨e.1, ?_⟩
  cases q : w.2 with
  | none => rfl
  | some m => rw [q] at e; cases e.2
/-- a row of numbers is written -/
theorem ef_arr_ok {ks : List Nat} {k : Nat} {v : cv_V} {c0 c1 : cv_C} (ha : ks.all (ef_arr TF TR E W) = true) (hk : ef_ok (some ks) (cv_r k)) (h1 : h[k]? = some c0) (hT : ef_fok TF h) (hR : ef_rok TR h) (hE : ef_fok E h) : ef_fok TF (h.set k c1) ∧ ef_rok TR (h.set k c1) ∧ ef_fok E (h.set k c1) ∧ ef_fr W h (h.set k c1) := by
  have hk' := ef_s_r (hk ks rfl)
  have h2 := List.all_eq_true.mp ha k hk'
  unfold ef_arr at h2
  simp only [Bool.and_eq_true] at h2
  obtain ⟨h3, h4, h5, h6⟩ := h2
  have h4 := ef_nk1 h4
  have h5 := ef_nk2 h5
  have h6 := ef_nk1 h6
  refine ⟨ef_fok_mv hT (fun t ht => ef_wc h1 _ _ (h4 t ht)), ef_rok_mv hR (fun t ht i => ef_wc h1 _ _ (h5 t ht)), ef_fok_mv hE (fun t ht => ef_wc h1 _ _ (h6 t ht)), fun k' i' q => ef_wc h1 _ _ (fun c => ?_)⟩
  subst c
  rw [ef_all_may h3] at q
  cases q
theorem ef_un_v {g : Nat → ef_A} {a : ef_A} {k : Nat} {v : cv_V} (ha : ef_ok a (cv_r k)) (hg : ∀ m, g k = some m → ∃ c, c ∈ m ∧ v = cv_r c) : ef_ok (ef_unA g a) v := by
  intro l hl
  cases a with
  | none => cases hl
  | some ks =>
    have hk' := ef_s_r (ha ks rfl)
    obtain ⟨m, hm, hs⟩ := ef_un_ok hl k hk'
    obtain ⟨c, c1, c2⟩ := hg m hm
    exact .inr ⟨c, hs c c1, c2⟩
theorem ef_one_ok {q : cv_Q} {S' : cv_S} {r : List ef_S} (h1 : ef_one TF TR W q e z E = some r) (h2 : cv_one X q (q.1, L, st, h, c, n) = some S') (hl : ef_lok e L) (hz : ef_zok z st) (hT : ef_fok TF h) (hR : ef_rok TR h) (hE : ef_fok E h) : ∃ s, s ∈ r ∧ ef_R TF TR W h s S' := by
  unfold ef_one at h1
  cases hc : ef_isC q.2.1 with
  | true => rw [hc] at h1; cases h1
  | false =>
  rw [hc, cond_false] at h1
  cases hp : cv_push q with
  | some v =>
    rw [hp] at h1
    have h3 : cv_one X q (q.1, L, st, h, c, n) = some (q.1 + q.2.2.1, L, v :: st, h, c, n) := by unfold cv_one; dsimp only; rw [hp]
    rw [h3] at h2
    cases h2; cases h1
    exact ⟨_, List.mem_singleton_self _, rfl, hl, ⟨ef_ok_none, hz⟩, hT, hR, hE, ef_fr_refl⟩
  | none =>
  rw [hp] at h1; dsimp only at h1
  cases hld : cv_load q.2.1 with
  | some ik =>
    obtain ⟨i, k⟩ := ik
    rw [hld] at h1
    have h3 : cv_one X q (q.1, L, st, h, c, n) = (match (generalizing := false) cv_get L i with
      | some v => bif cv_kind k v then some (q.1 + q.2.2.1, L, v :: st, h, c, n) else none
      | none => none) := by unfold cv_one; dsimp only; rw [hp]; dsimp only; rw [hld]; rfl
    rw [h3] at h2
    cases hg : cv_get L i with
    | none => rw [hg] at h2; cases h2
    | some v =>
      rw [hg] at h2
      obtain ⟨h5, h4⟩ := cv_bif h2
      cases h4; cases h1
      refine ⟨_, List.mem_singleton_self _, rfl, hl, ⟨?_, hz⟩, hT, hR, hE, ef_fr_refl⟩
      cases hk1 : (k == 1) with
      | false => exact hl _ (ef_cv_get hg)
      | true =>
        rw [beq_iff_eq] at hk1
        subst hk1
        intro l e0
        cases e0
        exact .inl ⟨rfl, h5⟩
  | none =>
  rw [hld] at h1; dsimp only at h1
  cases hst : cv_store q.2.1 with
  | some ik =>
    obtain ⟨i, k⟩ := ik
    rw [hst] at h1
    have h3 : cv_one X q (q.1, L, st, h, c, n) = (match (generalizing := false) st with
      | v :: st => bif (bif k == 2 then cv_isR v else cv_kind k v) then some (q.1 + q.2.2.1, (bif k == 3 then cv_setL L i v else cv_set L i v), st, h, c, n) else none
      | _ => none) := by unfold cv_one; dsimp only; rw [hp]; dsimp only; rw [hld]; dsimp only; rw [hst]; rfl
    rw [h3] at h2
    match z, st, hz, h1, h2 with
    | a :: z, v :: st, hz, h1, h2 =>
      obtain ⟨-, h4⟩ := cv_bif h2
      cases h4; cases h1
      refine ⟨_, List.mem_singleton_self _, rfl, ?_, hz.2, hT, hR, hE, ef_fr_refl⟩
      show ef_lok (ef_set e i a) (bif k == 3 then cv_setL L i v else cv_set L i v)
      cases k == 3 with
      | true => exact ef_lok_setL hl hz.1
      | false => exact ef_lok_set hl hz.1
    | [], _, _, h1, _ => cases h1
    | _ :: _, [], hz, _, _ => exact hz.elim
  | none =>
  rw [hst] at h1; dsimp only at h1
  cases hpp : ef_pp q.2.1 with
  | some kp =>
    obtain ⟨k, p⟩ := kp
    rw [hpp] at h1
    obtain ⟨-, h4⟩ := cv_bif h1
    cases h4
    obtain ⟨e1, e2, e3, e4⟩ := ef_pp_ok hpp h2
    refine ⟨_, List.mem_singleton_self _, e1.symm, by rw [e2]; exact hl, ?_, by rw [e3]; exact hT, by rw [e3]; exact hR, by rw [e3]; exact hE, by rw [e3]; exact ef_fr_refl⟩
    rcases e4 with ⟨rfl, v, e4⟩ | ⟨rfl, e4⟩
    · rw [e4]; exact ⟨ef_ok_none, ef_zok_drop hz⟩
    · rw [e4]; exact ef_zok_drop hz
  | none =>
  rw [hpp] at h1; dsimp only at h1
  obtain ⟨pc, i, len, a, b, zz⟩ := q
  cases i
  all_goals first | (simp [ef_isC] at hc; done) | (simp [cv_push] at hp; done) | (simp [cv_load] at hld; done) | (simp [cv_store] at hst; done) | (simp [ef_pp] at hpp; done) | (cases h1; done) | (simp at h1; done) | skip
  case iinc i m =>
    replace h2 : (match (generalizing := false) cv_get L i with
      | some (.inl x) => some (pc + len, cv_set L i (cv_i (x + Int32.ofInt m)), st, h, c, n)
      | _ => none) = some S' := h2
    split at h2
    · cases h2; cases h1
      exact ⟨_, List.mem_singleton_self _, rfl, ef_lok_set hl ef_ok_none, hz, hT, hR, hE, ef_fr_refl⟩
    · cases h2
  case goto off =>
    replace h2 : (bif cv_jmp pc off then some (cv_tgt pc off, L, st, h, c, n) else none) = some S' := h2
    obtain ⟨-, h3⟩ := cv_bif h2
    cases h3; cases h1
    exact ⟨_, List.mem_singleton_self _, rfl, hl, hz, hT, hR, hE, ef_fr_refl⟩
  case if_icmp o off =>
    replace h2 : (match (generalizing := false) st with
      | .inl y :: .inl x :: st => bif cv_jmp pc off then some ((bif cv_cmp o x y then cv_tgt pc off else pc + len), L, st, h, c, n) else none
      | _ => none) = some S' := h2
    split at h2
    · rename_i y x st
      match z, hz, h1 with
      | _ :: _ :: z, hz, h1 =>
        obtain ⟨-, h3⟩ := cv_bif h2
        cases h3; cases h1
        cases q : cv_cmp o x y with
        | true => exact ⟨_, List.mem_cons_self, by rw [cond_true], hl, hz.2.2, hT, hR, hE, ef_fr_refl⟩
        | false => exact ⟨_, List.mem_cons_of_mem _ (List.mem_singleton_self _), by rw [cond_false], hl, hz.2.2, hT, hR, hE, ef_fr_refl⟩
      | [], hz, _ => exact hz.elim
      | [_], hz, _ => exact hz.2.elim
    · cases h2
  case ifCond o off =>
    replace h2 : (match (generalizing := false) st with
      | .inl x :: st => bif cv_jmp pc off then some ((bif cv_cmp o x 0 then cv_tgt pc off else pc + len), L, st, h, c, n) else none
      | _ => none) = some S' := h2
    split at h2
    · rename_i x st
      match z, hz, h1 with
      | _ :: z, hz, h1 =>
        obtain ⟨-, h3⟩ := cv_bif h2
        cases h3; cases h1
        cases q : cv_cmp o x 0 with
        | true => exact ⟨_, List.mem_cons_self, by rw [cond_true], hl, hz.2, hT, hR, hE, ef_fr_refl⟩
        | false => exact ⟨_, List.mem_cons_of_mem _ (List.mem_singleton_self _), by rw [cond_false], hl, hz.2, hT, hR, hE, ef_fr_refl⟩
      | [], hz, _ => exact hz.elim
    · cases h2
  case tableswitch d lo hi offs =>
    replace h2 : (match (generalizing := false) st with
      | .inl x :: st => bif decide (x.toInt < lo) || decide (hi < x.toInt) then (bif cv_jmp pc d then some (cv_tgt pc d, L, st, h, c, n) else none) else
        (match (generalizing := false) offs[(x.toInt - lo).toNat]? with
        | some off => bif cv_jmp pc off then some (cv_tgt pc off, L, st, h, c, n) else none
        | none => none)
      | _ => none) = some S' := h2
    split at h2
    · rename_i x st
      match z, hz, h1 with
      | _ :: z, hz, h1 =>
        cases h1
        cases q : (decide (x.toInt < lo) || decide (hi < x.toInt)) with
        | true =>
          rw [q, cond_true] at h2
          obtain ⟨-, h3⟩ := cv_bif h2
          cases h3
          exact ⟨_, List.mem_cons_self, rfl, hl, hz.2, hT, hR, hE, ef_fr_refl⟩
        | false =>
          rw [q, cond_false] at h2
          split at h2
          · rename_i off ho
            obtain ⟨-, h3⟩ := cv_bif h2
            cases h3
            refine ⟨(cv_tgt pc off, e, z, E), List.mem_cons_of_mem _ (List.mem_map.mpr ⟨off, ?_, rfl⟩), rfl, hl, hz.2, hT, hR, hE, ef_fr_refl⟩
            rw [← Array.getElem?_toList] at ho
            exact List.mem_of_getElem? ho
          · cases h2
      | [], hz, _ => exact hz.elim
    · cases h2
  case dup =>
    replace h2 : (match (generalizing := false) st with
      | v :: st => bif !cv_isL v then some (pc + len, L, v :: v :: st, h, c, n) else none
      | _ => none) = some S' := h2
    split at h2
    · match z, hz, h1 with
      | _ :: z, hz, h1 =>
        obtain ⟨-, h3⟩ := cv_bif h2
        cases h3; cases h1
        exact ⟨_, List.mem_singleton_self _, rfl, hl, ⟨hz.1, hz.1, hz.2⟩, hT, hR, hE, ef_fr_refl⟩
      | [], hz, _ => exact hz.elim
    · cases h2
  case dup2 =>
    replace h2 : (match (generalizing := false) st with
      | v :: w :: st => bif !cv_isL v && !cv_isL w then some (pc + len, L, v :: w :: v :: w :: st, h, c, n) else none
      | _ => none) = some S' := h2
    split at h2
    · match z, hz, h1 with
      | _ :: _ :: z, hz, h1 =>
        obtain ⟨-, h3⟩ := cv_bif h2
        cases h3; cases h1
        exact ⟨_, List.mem_singleton_self _, rfl, hl, ⟨hz.1, hz.2.1, hz.1, hz.2.1, hz.2.2⟩, hT, hR, hE, ef_fr_refl⟩
      | [], hz, _ => exact hz.elim
      | [_], hz, _ => exact hz.2.elim
    · cases h2
  case aaload =>
    replace h2 : (match (generalizing := false) st with
      | .inl i :: .inr (.inr (.inl (some k))) :: st => (match (generalizing := false) h[k]? with
        | some (.inr (.inr (.inl (_, xs)))) => bif cv_ix i xs.length then (xs[i.toNatClampNeg]?).map fun x => (pc + len, L, .inr (.inr (.inl x)) :: st, h, c, n) else none
        | _ => none)
      | _ => none) = some S' := h2
    split at h2
    · rename_i i k st
      split at h2
      · rename_i t xs hk
        obtain ⟨-, h3⟩ := cv_bif h2
        obtain ⟨x, hx, h4⟩ := Option.map_eq_some_iff.mp h3
        cases h4
        match z, hz, h1 with
        | _ :: a :: z, hz, h1 =>
          cases h1
          refine ⟨_, List.mem_singleton_self _, rfl, hl, ⟨ef_un_v hz.2.1 (fun m hm => ef_row1_ok (i := i.toNatClampNeg) hm hR ?_), hz.2.2⟩, hT, hR, hE, ef_fr_refl⟩
          unfold cw_at
          rw [hk]
          show (xs[i.toNatClampNeg]?).map _ = _
          rw [hx]; rfl
        | [], hz, _ => exact hz.elim
        | [_], hz, _ => exact hz.2.elim
      · cases h2
    · cases h2
  case getfield ix =>
    replace h2 : (match (generalizing := false) st with
      | .inr (.inr (.inl (some k))) :: st => (match (generalizing := false) h[k]? with
        | some (.inr (.inr (.inr (ci, fs)))) => bif ci == a then (fs[b]?).map fun v => (pc + len, L, v :: st, h, c, n) else none
        | _ => none)
      | .inr (.inr (.inr 0)) :: st => bif a == 100 then some (pc + len, L, (bif b == 0 then cv_s 1 else cv_i 0) :: st, h, c, n) else none
      | _ => none) = some S' := h2
    split at h2
    · rename_i k st
      split at h2
      · rename_i ci fs hk
        obtain ⟨-, h3⟩ := cv_bif h2
        obtain ⟨v, hv, h4⟩ := Option.map_eq_some_iff.mp h3
        cases h4
        match z, hz, h1 with
        | a0 :: z, hz, h1 =>
          cases h1
          refine ⟨_, List.mem_singleton_self _, rfl, hl, ⟨ef_un_v hz.1 (fun m hm => ?_), hz.2⟩, hT, hR, hE, ef_fr_refl⟩
          obtain ⟨c0, c1, c2⟩ := ef_fld1_ok hm hE hT
          have c3 : cw_at h k b = some v := by unfold cw_at; rw [hk]; exact hv
          rw [c3] at c2
          cases c2
          exact ⟨c0, c1, rfl⟩
        | [], hz, _ => exact hz.elim
      · cases h2
    · rename_i st
      obtain ⟨-, h3⟩ := cv_bif h2
      cases h3
      match z, hz, h1 with
      | a0 :: z, hz, h1 =>
        cases h1
        refine ⟨_, List.mem_singleton_self _, rfl, hl, ⟨fun l e0 => ?_, hz.2⟩, hT, hR, hE, ef_fr_refl⟩
        cases a0 with
        | none => cases e0
        | some ks =>
          rcases hz.1 ks rfl with ⟨-, e1⟩ | ⟨k, -, e1⟩
          · cases e1
          · cases e1
      | [], hz, _ => exact hz.elim
    · cases h2
  case putfield ix =>
    replace h2 : (match (generalizing := false) st with
      | v :: .inr (.inr (.inl (some k))) :: st => (match (generalizing := false) h[k]? with
        | some (.inr (.inr (.inr (ci, fs)))) => bif ci == a && (decide (b < fs.length) && cv_fit zz.toNat v) then some (pc + len, L, st, h.set k (cv_co ci (fs.set b v)), c, n) else none
        | _ => none)
      | _ => none) = some S' := h2
    split at h2
    · rename_i v k st
      split at h2
      · rename_i ci fs hk
        obtain ⟨h5, h3⟩ := cv_bif h2
        simp only [Bool.and_eq_true, decide_eq_true_eq] at h5
        cases h3
        obtain ⟨w1, w2⟩ := ef_wf (v := v) hk h5.2.1
        match z, hz, h1 with
        | va :: some ks :: z, hz, h1 =>
          obtain ⟨h6, h7⟩ := cv_bif h1
          cases h7
          have hk' := ef_s_r (hz.2.1 ks rfl)
          have h8 := List.all_eq_true.mp h6 k hk'
          simp only [Bool.and_eq_true] at h8
          obtain ⟨m1, m2, m3⟩ := h8
          have m3 := ef_nk2 m3
          refine ⟨_, List.mem_singleton_self _, rfl, hl, hz.2.2, fun t ht => ?_, ef_rok_mv hR (fun t ht i => w2 _ _ (.inl (m3 t ht))), fun t ht => ?_, fun k' i' q => w2 _ _ ?_⟩
          · by_cases cc : t.1 = k ∧ t.2.1 = b
            · have m4 := List.all_eq_true.mp m2 t ht
              have e1 : (t.1 == k && t.2.1 == b) = true := by rw [cc.1, cc.2, beq_self_eq_true, beq_self_eq_true]; rfl
              rw [e1] at m4
              obtain ⟨d0, d1, -⟩ := hT t ht
              obtain ⟨c0, c1, c2⟩ := ef_le_ne (by simpa using m4) hz.1 d1
              exact ⟨c0, c1, by rw [cc.1, cc.2]; rw [← c2]; exact w1⟩
            · obtain ⟨c0, c1, c2⟩ := hT t ht
              refine ⟨c0, c1, (w2 _ _ ?_).trans c2⟩
              by_cases c3 : t.1 = k
              · exact .inr (fun c4 => cc ⟨c3, c4⟩)
              · exact .inl c3
          · rcases List.mem_append.mp ht with ht | ht
            · match ks, va, hk', hz, ht with
              | [k0], some (x :: l), hk', hz, ht =>
                have e1 := List.mem_singleton.mp hk'
                subst e1
                have e2 := List.mem_singleton.mp ht
                subst e2
                rcases hz.1 _ rfl with ⟨c1, -⟩ | ⟨c0, c1, c2⟩
                · cases c1
                · exact ⟨c0, c1, by rw [← c2]; exact w1⟩
              | [k0], some [], _, _, ht => cases ht
              | [k0], none, _, _, ht => cases ht
              | [], _, _, _, ht => cases ht
              | _ :: _ :: _, none, _, _, ht => cases ht
              | _ :: _ :: _, some _, _, _, ht => cases ht
            · obtain ⟨t1, t2⟩ := List.mem_filter.mp ht
              obtain ⟨c0, c1, c2⟩ := hE t t1
              refine ⟨c0, c1, (w2 _ _ ?_).trans c2⟩
              by_cases c3 : t.1 = k
              · refine .inr (fun c4 => ?_)
                rw [c3, c4, ef_in_iff.mpr hk', beq_self_eq_true] at t2
                cases t2
              · exact .inl c3
          · by_cases c3 : k' = k
            · refine .inr (fun c4 => ?_)
              rw [c3, c4, m1] at q
              cases q
            · exact .inl c3
        | [], hz, _ => exact hz.elim
        | [_], hz, _ => exact hz.2.elim
        | _ :: none :: _, _, h1 => cases h1
      · cases h2
    · cases h2
  case iastore =>
    replace h2 : (match (generalizing := false) st with
      | .inl x :: .inl i :: .inr (.inr (.inl (some k))) :: st => (match (generalizing := false) h[k]? with
        | some (.inl (0, xs)) => bif cv_ix i xs.length then some (pc + len, L, st, h.set k (cv_ci 0 (xs.set i.toNatClampNeg x)), c, n) else none
        | _ => none)
      | _ => none) = some S' := h2
    split at h2
    · split at h2
      · rename_i hk
        obtain ⟨-, h3⟩ := cv_bif h2
        cases h3
        match z, hz, h1 with
        | _ :: _ :: some ks :: z, hz, h1 =>
          obtain ⟨h6, h7⟩ := cv_bif h1
          cases h7
          obtain ⟨a1, a2, a3, a4⟩ := ef_arr_ok (v := cv_n) h6 hz.2.2.1 hk hT hR hE
          exact ⟨_, List.mem_singleton_self _, rfl, hl, hz.2.2.2, a1, a2, a3, a4⟩
        | [], hz, _ => exact hz.elim
        | [_], hz, _ => exact hz.2.elim
        | [_, _], hz, _ => exact hz.2.2.elim
        | _ :: _ :: none :: _, _, h1 => cases h1
      · cases h2
    · cases h2
  case bastore =>
    replace h2 : (match (generalizing := false) st with
      | .inl x :: .inl i :: .inr (.inr (.inl (some k))) :: st => (match (generalizing := false) h[k]? with
        | some (.inl (t, xs)) => bif (t == 1 || t == 2) && cv_ix i xs.length then some (pc + len, L, st, h.set k (cv_ci t (xs.set i.toNatClampNeg (cv_nar t x))), c, n) else none
        | _ => none)
      | _ => none) = some S' := h2
    split at h2
    · split at h2
      · rename_i hk
        obtain ⟨-, h3⟩ := cv_bif h2
        cases h3
        match z, hz, h1 with
        | _ :: _ :: some ks :: z, hz, h1 =>
          obtain ⟨h6, h7⟩ := cv_bif h1
          cases h7
          obtain ⟨a1, a2, a3, a4⟩ := ef_arr_ok (v := cv_n) h6 hz.2.2.1 hk hT hR hE
          exact ⟨_, List.mem_singleton_self _, rfl, hl, hz.2.2.2, a1, a2, a3, a4⟩
        | [], hz, _ => exact hz.elim
        | [_], hz, _ => exact hz.2.elim
        | [_, _], hz, _ => exact hz.2.2.elim
        | _ :: _ :: none :: _, _, h1 => cases h1
      · cases h2
    · cases h2
  case lastore =>
    replace h2 : (match (generalizing := false) st with
      | .inr (.inl x) :: .inl i :: .inr (.inr (.inl (some k))) :: st => (match (generalizing := false) h[k]? with
        | some (.inr (.inl xs)) => bif cv_ix i xs.length then some (pc + len, L, st, h.set k (cv_cl (xs.set i.toNatClampNeg x)), c, n) else none
        | _ => none)
      | _ => none) = some S' := h2
    split at h2
    · split at h2
      · rename_i hk
        obtain ⟨-, h3⟩ := cv_bif h2
        cases h3
        match z, hz, h1 with
        | _ :: _ :: some ks :: z, hz, h1 =>
          obtain ⟨h6, h7⟩ := cv_bif h1
          cases h7
          obtain ⟨a1, a2, a3, a4⟩ := ef_arr_ok (v := cv_n) h6 hz.2.2.1 hk hT hR hE
          exact ⟨_, List.mem_singleton_self _, rfl, hl, hz.2.2.2, a1, a2, a3, a4⟩
        | [], hz, _ => exact hz.elim
        | [_], hz, _ => exact hz.2.elim
        | [_, _], hz, _ => exact hz.2.2.elim
        | _ :: _ :: none :: _, _, h1 => cases h1
      · cases h2
    · cases h2
  case aastore =>
    replace h2 : (match (generalizing := false) st with
      | .inr (.inr (.inl (some o))) :: .inl i :: .inr (.inr (.inl (some k))) :: st => (match (generalizing := false) h[k]?, h[o]? with
        | some (.inr (.inr (.inl (t, xs)))), some (.inr (.inr (.inr (ci, _)))) => bif cv_ix i xs.length && (ci == (bif t == 4 then 1 else 7)) then some (pc + len, L, st, h.set k (cv_cr t (xs.set i.toNatClampNeg (some o))), c, n) else none
        | _, _ => none)
      | _ => none) = some S' := h2
    split at h2
    · rename_i o i k st
      split at h2
      · rename_i t xs ci fs hk ho
        obtain ⟨h5, h3⟩ := cv_bif h2
        rw [Bool.and_eq_true] at h5
        cases h3
        have hlt : i.toNatClampNeg < xs.length := by
          have := h5.1
          unfold cv_ix at this
          rw [Bool.and_eq_true] at this
          exact of_decide_eq_true this.2
        match z, hz, h1 with
        | va :: _ :: some ks :: z, hz, h1 =>
          obtain ⟨h6, h7⟩ := cv_bif h1
          cases h7
          have hk' := ef_s_r (hz.2.2.1 ks rfl)
          have h8 := List.all_eq_true.mp h6 k hk'
          unfold ef_arrA at h8
          simp only [Bool.and_eq_true] at h8
          obtain ⟨m1, m2, m3, m4⟩ := h8
          have m2 := ef_nk1 m2
          have m4 := ef_nk1 m4
          refine ⟨_, List.mem_singleton_self _, rfl, hl, hz.2.2.2, ef_fok_mv hT (fun t ht => ef_wc hk _ _ (m2 t ht)), fun t0 ht i0 v0 hv0 => ?_, ef_fok_mv hE (fun t ht => ef_wc hk _ _ (m4 t ht)), fun k' i' q => ef_wc hk _ _ (fun cc => ?_)⟩
          · by_cases cc : t0.1 = k
            · have m5 := List.all_eq_true.mp m3 t0 ht
              rw [cc, beq_self_eq_true] at m5
              have c1 := ef_le_ok (by simpa using m5) hz.1
              have c1 := ef_s_r (k := o) c1
              rw [cc, cw_at_set (cw_lt_of hk), if_pos rfl] at hv0
              replace hv0 : ((xs.set i.toNatClampNeg (some o))[i0]?).map (fun o => (.inr (.inr (.inl o)) : cv_V)) = some v0 := hv0
              by_cases ci0 : i0 = i.toNatClampNeg
              · subst ci0
                rw [List.getElem?_set_self hlt] at hv0
                cases hv0
                exact ⟨o, c1, rfl⟩
              · rw [List.getElem?_set_ne (fun q => ci0 q.symm)] at hv0
                refine hR t0 ht i0 v0 ?_
                rw [cc]
                unfold cw_at
                rw [hk]
                exact hv0
            · rw [ef_wc hk _ _ cc] at hv0
              exact hR t0 ht i0 v0 hv0
          · subst cc
            rw [ef_all_may m1] at q
            cases q
        | [], hz, _ => exact hz.elim
        | [_], hz, _ => exact hz.2.elim
        | [_, _], hz, _ => exact hz.2.2.elim
        | _ :: _ :: none :: _, _, h1 => cases h1
      · cases h2
    · cases h2
end EF
end
