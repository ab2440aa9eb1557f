/-! ===== one row's step, by cells ===== -/
section EF
variable {X : cv_X} {TF : ef_T} {TR : ef_U} {W : ef_W} {e : ef_L} {z : List ef_A} {E : ef_T} {L : cv_L} {st : List cv_V} {h : cv_H} {c n : Nat}
def ef_R (TF : ef_T) (TR : ef_U) (W : ef_W) (h : cv_H) (s : ef_S) (S' : cv_S) : Prop := s.1 = S'.1 ∧ ef_lok s.2.1 S'.2.1 ∧ ef_zok s.2.2.1 S'.2.2.1 ∧ ef_fok TF S'.2.2.2.1 ∧ ef_rok TR S'.2.2.2.1 ∧ ef_fok s.2.2.2 S'.2.2.2.1 ∧ ef_fr W h S'.2.2.2.1
theorem ef_wf {k f ci : Nat} {fs : List cv_V} {v : cv_V} (h1 : h[k]? = some (cv_co ci fs)) (hf : f < fs.length) : cw_at (h.set k (cv_co ci (fs.set f v))) k f = some v ∧ ∀ k' i' : Nat, (k' ≠ k ∨ i' ≠ f) → cw_at (h.set k (cv_co ci (fs.set f v))) k' i' = cw_at h k' i' := by
  refine ⟨?_, fun k' i' q => ?_⟩
  · rw [cw_at_set (cw_lt_of h1), if_pos rfl]
    show (fs.set f v)[f]? = some v
    rw [List.getElem?_set_self hf]
  · rw [cw_at_set (cw_lt_of h1)]
    by_cases c : k' = k
    · subst c
      rw [if_pos rfl]
      show (fs.set f v)[i']? = cw_at h k' i'
      have q2 : i' ≠ f := by rcases q with q | q
                             · exact absurd rfl q
                             · exact q
      rw [List.getElem?_set_ne (fun e => q2 e.symm)]
      unfold cw_at
      rw [h1]
      rfl
    · rw [if_neg c]
theorem ef_wc {k : Nat} {c0 c1 : cv_C} (h1 : h[k]? = some c0) : ∀ k' i' : Nat, k' ≠ k → cw_at (h.set k c1) k' i' = cw_at h k' i' := fun k' i' q => by rw [cw_at_set (cw_lt_of h1), if_neg q]
theorem ef_pp_ok {q : cv_Q} {k : Nat} {p : Bool} {S' : cv_S} (hpp : ef_pp q.2.1 = some (k, p)) (h2 : cv_one X q (q.1, L, st, h, c, n) = some S') : S'.1 = q.1 + q.2.2.1 ∧ S'.2.1 = L ∧ S'.2.2.2.1 = h ∧ ((p = true ∧ ∃ v, S'.2.2.1 = v :: st.drop k) ∨ (p = false ∧ S'.2.2.1 = st.drop k)) := by
  obtain ⟨pc, i, len, a, b, zz⟩ := q
  cases i
  all_goals first | (simp [ef_pp] at hpp; done) | skip
  all_goals (simp only [ef_pp, Option.some.injEq, Prod.mk.injEq] at hpp; obtain ⟨rfl, rfl⟩ := hpp)
  all_goals (unfold cv_one at h2; simp only [cv_push, cv_load, cv_store, cv_bin, cv_binL] at h2)
  all_goals (repeat' split at h2)
  all_goals first
    | (simp at h2; done)
    | (obtain ⟨w, hw, e⟩ := Option.map_eq_some_iff.mp h2; cases e; exact ⟨rfl, rfl, rfl, .inl ⟨rfl, _, rfl⟩⟩)
    | (obtain ⟨-, h3⟩ := cv_bif h2; obtain ⟨w, hw, e⟩ := Option.map_eq_some_iff.mp h3; cases e; exact ⟨rfl, rfl, rfl, .inl ⟨rfl, _, rfl⟩⟩)
    | (obtain ⟨-, h3⟩ := cv_bif h2; cases h3; exact ⟨rfl, rfl, rfl, .inl ⟨rfl, _, rfl⟩⟩)
    | (obtain ⟨-, h3⟩ := cv_bif h2; cases h3; exact ⟨rfl, rfl, rfl, .inr ⟨rfl, rfl⟩⟩)
    | (cases h2; exact ⟨rfl, rfl, rfl, .inl ⟨rfl, _, rfl⟩⟩)
    | (cases h2; exact ⟨rfl, rfl, rfl, .inr ⟨rfl, rfl⟩⟩)
theorem ef_fok_mv {T : ef_T} {h' : cv_H} (hT : ef_fok T h) (q : ∀ t, t ∈ T → cw_at h' t.1 t.2.1 = cw_at h t.1 t.2.1) : ef_fok T h' := fun t ht => by
  obtain ⟨c, c1, c2⟩ := hT t ht
  exact ⟨c, c1, (q t ht).trans c2⟩
theorem ef_rok_mv {R : ef_U} {h' : cv_H} (hR : ef_rok R h) (q : ∀ t, t ∈ R → ∀ i, cw_at h' t.1 i = cw_at h t.1 i) : ef_rok R h' := fun t ht i v hv => hR t ht i v ((q t ht i).symm.trans hv)
theorem ef_nk1 {T : ef_T} {k : Nat} (q : T.all (fun t => !(t.1 == k)) = true) : ∀ t, t ∈ T → t.1 ≠ k := fun t ht e => by
  have := List.all_eq_true.mp q t ht
  rw [e, beq_self_eq_true] at this
  cases this
theorem ef_nk2 {T : ef_U} {k : Nat} (q : T.all (fun t => !(t.1 == k)) = true) : ∀ t, t ∈ T → t.1 ≠ k := fun t ht e => by
  have := List.all_eq_true.mp q t ht
  rw [e, beq_self_eq_true] at this
  cases this
theorem ef_all_may {k i : Nat} (q : ef_all W k = true) : ef_may W k i = true := by
  obtain ⟨w, hw, e⟩ := List.any_eq_true.mp q
  rw [Bool.and_eq_true] at e
  refine List.any_eq_true.mpr ⟨w, hw, ?_⟩
  rw [Bool.and_eq_true]
  refine ⟨e.1, ?_⟩
  cases q : w.2 with
  | none => rfl
  | some m => rw [q] at e; cases e.2
/-- a row of numbers is written -/
theorem ef_arr_ok {ks : List Nat} {k : Nat} {v : cv_V} {c0 c1 : cv_C} (ha : ks.all (ef_arr TF TR E W) = true) (hk : ef_ok (some ks) (cv_r k)) (h1 : h[k]? = some c0) (hT : ef_fok TF h) (hR : ef_rok TR h) (hE : ef_fok E h) : ef_fok TF (h.set k c1) ∧ ef_rok TR (h.set k c1) ∧ ef_fok E (h.set k c1) ∧ ef_fr W h (h.set k c1) := by
  have hk' := ef_s_r (hk ks rfl)
  have h2 := List.all_eq_true.mp ha k hk'
  unfold ef_arr at h2
  simp only [Bool.and_eq_true] at h2
  obtain ⟨h3, h4, h5, h6⟩ := h2
  have h4 := ef_nk1 h4
  have h5 := ef_nk2 h5
  have h6 := ef_nk1 h6
  refine ⟨ef_fok_mv hT (fun t ht => ef_wc h1 _ _ (h4 t ht)), ef_rok_mv hR (fun t ht i => ef_wc h1 _ _ (h5 t ht)), ef_fok_mv hE (fun t ht => ef_wc h1 _ _ (h6 t ht)), fun k' i' q => ef_wc h1 _ _ (fun c => ?_)⟩
  subst c
  rw [ef_all_may h3] at q
  cases q
theorem ef_un_v {g : Nat → ef_A} {a : ef_A} {k : Nat} {v : cv_V} (ha : ef_ok a (cv_r k)) (hg : ∀ m, g k = some m → ∃ c, c ∈ m ∧ v = cv_r c) : ef_ok (ef_unA g a) v := by
  intro l hl
  cases a with
  | none => cases hl
  | some ks =>
    have hk' := ef_s_r (ha ks rfl)
    obtain ⟨m, hm, hs⟩ := ef_un_ok hl k hk'
    obtain ⟨c, c1, c2⟩ := hg m hm
    exact .inr ⟨c, hs c c1, c2⟩
theorem ef_one_ok {q : cv_Q} {S' : cv_S} {r : List ef_S} (h1 : ef_one TF TR W q e z E = some r) (h2 : cv_one X q (q.1, L, st, h, c, n) = some S') (hl : ef_lok e L) (hz : ef_zok z st) (hT : ef_fok TF h) (hR : ef_rok TR h) (hE : ef_fok E h) : ∃ s, s ∈ r ∧ ef_R TF TR W h s S' := by
  unfold ef_one at h1
  cases hc : ef_isC q.2.1 with
  | true => rw [hc] at h1; cases h1
  | false =>
  rw [hc, cond_false] at h1
  cases hp : cv_push q with
  | some v =>
    rw [hp] at h1
    have h3 : cv_one X q (q.1, L, st, h, c, n) = some (q.1 + q.2.2.1, L, v :: st, h, c, n) := by unfold cv_one; dsimp only; rw [hp]
    rw [h3] at h2
    cases h2; cases h1
    exact ⟨_, List.mem_singleton_self _, rfl, hl, ⟨ef_ok_none, hz⟩, hT, hR, hE, ef_fr_refl⟩
  | none =>
  rw [hp] at h1; dsimp only at h1
  cases hld : cv_load q.2.1 with
  | some ik =>
    obtain ⟨i, k⟩ := ik
    rw [hld] at h1
    have h3 : cv_one X q (q.1, L, st, h, c, n) = (match (generalizing := false) cv_get L i with
      | some v => bif cv_kind k v then some (q.1 + q.2.2.1, L, v :: st, h, c, n) else none
      | none => none) := by unfold cv_one; dsimp only; rw [hp]; dsimp only; rw [hld]; rfl
    rw [h3] at h2
    cases hg : cv_get L i with
    | none => rw [hg] at h2; cases h2
    | some v =>
      rw [hg] at h2
      obtain ⟨h5, h4⟩ := cv_bif h2
      cases h4; cases h1
      refine ⟨_, List.mem_singleton_self _, rfl, hl, ⟨?_, hz⟩, hT, hR, hE, ef_fr_refl⟩
      cases hk1 : (k == 1) with
      | false => exact hl _ (ef_cv_get hg)
      | true =>
        rw [beq_iff_eq] at hk1
        subst hk1
        intro l e0
        cases e0
        exact .inl ⟨rfl, h5⟩
  | none =>
  rw [hld] at h1; dsimp only at h1
  cases hst : cv_store q.2.1 with
  | some ik =>
    obtain ⟨i, k⟩ := ik
    rw [hst] at h1
    have h3 : cv_one X q (q.1, L, st, h, c, n) = (match (generalizing := false) st with
      | v :: st => bif (bif k == 2 then cv_isR v else cv_kind k v) then some (q.1 + q.2.2.1, (bif k == 3 then cv_setL L i v else cv_set L i v), st, h, c, n) else none
      | _ => none) := by unfold cv_one; dsimp only; rw [hp]; dsimp only; rw [hld]; dsimp only; rw [hst]; rfl
    rw [h3] at h2
    match z, st, hz, h1, h2 with
    | a :: z, v :: st, hz, h1, h2 =>
      obtain ⟨-, h4⟩ := cv_bif h2
      cases h4; cases h1
      refine ⟨_, List.mem_singleton_self _, rfl, ?_, hz.2, hT, hR, hE, ef_fr_refl⟩
      show ef_lok (ef_set e i a) (bif k == 3 then cv_setL L i v else cv_set L i v)
      cases k == 3 with
      | true => exact ef_lok_setL hl hz.1
      | false => exact ef_lok_set hl hz.1
    | [], _, _, h1, _ => cases h1
    | _ :: _, [], hz, _, _ => exact hz.elim
  | none =>
  rw [hst] at h1; dsimp only at h1
  cases hpp : ef_pp q.2.1 with
  | some kp =>
    obtain ⟨k, p⟩ := kp
    rw [hpp] at h1
    obtain ⟨-, h4⟩ := cv_bif h1
    cases h4
    obtain ⟨e1, e2, e3, e4⟩ := ef_pp_ok hpp h2
    refine ⟨_, List.mem_singleton_self _, e1.symm, by rw [e2]; exact hl, ?_, by rw [e3]; exact hT, by rw [e3]; exact hR, by rw [e3]; exact hE, by rw [e3]; exact ef_fr_refl⟩
    rcases e4 with ⟨rfl, v, e4⟩ | ⟨rfl, e4⟩
    · rw [e4]; exact ⟨ef_ok_none, ef_zok_drop hz⟩
    · rw [e4]; exact ef_zok_drop hz
  | none =>
  rw [hpp] at h1; dsimp only at h1
  obtain ⟨pc, i, len, a, b, zz⟩ := q
  cases i
  all_goals first | (simp [ef_isC] at hc; done) | (simp [cv_push] at hp; done) | (simp [cv_load] at hld; done) | (simp [cv_store] at hst; done) | (simp [ef_pp] at hpp; done) | (cases h1; done) | (simp at h1; done) | skip
  case iinc i m =>
    replace h2 : (match (generalizing := false) cv_get L i with
      | some (.inl x) => some (pc + len, cv_set L i (cv_i (x + Int32.ofInt m)), st, h, c, n)
      | _ => none) = some S' := h2
    split at h2
    · cases h2; cases h1
      exact ⟨_, List.mem_singleton_self _, rfl, ef_lok_set hl ef_ok_none, hz, hT, hR, hE, ef_fr_refl⟩
    · cases h2
  case goto off =>
    replace h2 : (bif cv_jmp pc off then some (cv_tgt pc off, L, st, h, c, n) else none) = some S' := h2
    obtain ⟨-, h3⟩ := cv_bif h2
    cases h3; cases h1
    exact ⟨_, List.mem_singleton_self _, rfl, hl, hz, hT, hR, hE, ef_fr_refl⟩
  case if_icmp o off =>
    replace h2 : (match (generalizing := false) st with
      | .inl y :: .inl x :: st => bif cv_jmp pc off then some ((bif cv_cmp o x y then cv_tgt pc off else pc + len), L, st, h, c, n) else none
      | _ => none) = some S' := h2
    split at h2
    · rename_i y x st
      match z, hz, h1 with
      | _ :: _ :: z, hz, h1 =>
        obtain ⟨-, h3⟩ := cv_bif h2
        cases h3; cases h1
        cases q : cv_cmp o x y with
        | true => exact ⟨_, List.mem_cons_self, by rw [cond_true], hl, hz.2.2, hT, hR, hE, ef_fr_refl⟩
        | false => exact ⟨_, List.mem_cons_of_mem _ (List.mem_singleton_self _), by rw [cond_false], hl, hz.2.2, hT, hR, hE, ef_fr_refl⟩
      | [], hz, _ => exact hz.elim
      | [_], hz, _ => exact hz.2.elim
    · cases h2
  case ifCond o off =>
    replace h2 : (match (generalizing := false) st with
      | .inl x :: st => bif cv_jmp pc off then some ((bif cv_cmp o x 0 then cv_tgt pc off else pc + len), L, st, h, c, n) else none
      | _ => none) = some S' := h2
    split at h2
    · rename_i x st
      match z, hz, h1 with
      | _ :: z, hz, h1 =>
        obtain ⟨-, h3⟩ := cv_bif h2
        cases h3; cases h1
        cases q : cv_cmp o x 0 with
        | true => exact ⟨_, List.mem_cons_self, by rw [cond_true], hl, hz.2, hT, hR, hE, ef_fr_refl⟩
        | false => exact ⟨_, List.mem_cons_of_mem _ (List.mem_singleton_self _), by rw [cond_false], hl, hz.2, hT, hR, hE, ef_fr_refl⟩
      | [], hz, _ => exact hz.elim
    · cases h2
  case tableswitch d lo hi offs =>
    replace h2 : (match (generalizing := false) st with
      | .inl x :: st => bif decide (x.toInt < lo) || decide (hi < x.toInt) then (bif cv_jmp pc d then some (cv_tgt pc d, L, st, h, c, n) else none) else
        (match (generalizing := false) offs[(x.toInt - lo).toNat]? with
        | some off => bif cv_jmp pc off then some (cv_tgt pc off, L, st, h, c, n) else none
        | none => none)
      | _ => none) = some S' := h2
    split at h2
    · rename_i x st
      match z, hz, h1 with
      | _ :: z, hz, h1 =>
        cases h1
        cases q : (decide (x.toInt < lo) || decide (hi < x.toInt)) with
        | true =>
          rw [q, cond_true] at h2
          obtain ⟨-, h3⟩ := cv_bif h2
          cases h3
          exact ⟨_, List.mem_cons_self, rfl, hl, hz.2, hT, hR, hE, ef_fr_refl⟩
        | false =>
          rw [q, cond_false] at h2
          split at h2
          · rename_i off ho
            obtain ⟨-, h3⟩ := cv_bif h2
            cases h3
            refine ⟨(cv_tgt pc off, e, z, E), List.mem_cons_of_mem _ (List.mem_map.mpr ⟨off, ?_, rfl⟩), rfl, hl, hz.2, hT, hR, hE, ef_fr_refl⟩
            rw [← Array.getElem?_toList] at ho
            exact List.mem_of_getElem? ho
          · cases h2
      | [], hz, _ => exact hz.elim
    · cases h2
  case dup =>
    replace h2 : (match (generalizing := false) st with
      | v :: st => bif !cv_isL v then some (pc + len, L, v :: v :: st, h, c, n) else none
      | _ => none) = some S' := h2
    split at h2
    · match z, hz, h1 with
      | _ :: z, hz, h1 =>
        obtain ⟨-, h3⟩ := cv_bif h2
        cases h3; cases h1
        exact ⟨_, List.mem_singleton_self _, rfl, hl, ⟨hz.1, hz.1, hz.2⟩, hT, hR, hE, ef_fr_refl⟩
      | [], hz, _ => exact hz.elim
    · cases h2
  case dup2 =>
    replace h2 : (match (generalizing := false) st with
      | v :: w :: st => bif !cv_isL v && !cv_isL w then some (pc + len, L, v :: w :: v :: w :: st, h, c, n) else none
      | _ => none) = some S' := h2
    split at h2
    · match z, hz, h1 with
      | _ :: _ :: z, hz, h1 =>
        obtain ⟨-, h3⟩ := cv_bif h2
        cases h3; cases h1
        exact ⟨_, List.mem_singleton_self _, rfl, hl, ⟨hz.1, hz.2.1, hz.1, hz.2.1, hz.2.2⟩, hT, hR, hE, ef_fr_refl⟩
      | [], hz, _ => exact hz.elim
      | [_], hz, _ => exact hz.2.elim
    · cases h2
  case aaload =>
    replace h2 : (match (generalizing := false) st with
      | .inl i :: .inr (.inr (.inl (some k))) :: st => (match (generalizing := false) h[k]? with
        | some (.inr (.inr (.inl (_, xs)))) => bif cv_ix i xs.length then (xs[i.toNatClampNeg]?).map fun x => (pc + len, L, .inr (.inr (.inl x)) :: st, h, c, n) else none
        | _ => none)
      | _ => none) = some S' := h2
    split at h2
    · rename_i i k st
      split at h2
      · rename_i t xs hk
        obtain ⟨-, h3⟩ := cv_bif h2
        obtain ⟨x, hx, h4⟩ := Option.map_eq_some_iff.mp h3
        cases h4
        match z, hz, h1 with
        | _ :: a :: z, hz, h1 =>
          cases h1
          refine ⟨_, List.mem_singleton_self _, rfl, hl, ⟨ef_un_v hz.2.1 (fun m hm => ef_row1_ok (i := i.toNatClampNeg) hm hR ?_), hz.2.2⟩, hT, hR, hE, ef_fr_refl⟩
          unfold cw_at
          rw [hk]
          show (xs[i.toNatClampNeg]?).map _ = _
          rw [hx]; rfl
        | [], hz, _ => exact hz.elim
        | [_], hz, _ => exact hz.2.elim
      · cases h2
    · cases h2
  case getfield ix =>
    replace h2 : (match (generalizing := false) st with
      | .inr (.inr (.inl (some k))) :: st => (match (generalizing := false) h[k]? with
        | some (.inr (.inr (.inr (ci, fs)))) => bif ci == a then (fs[b]?).map fun v => (pc + len, L, v :: st, h, c, n) else none
        | _ => none)
      | .inr (.inr (.inr 0)) :: st => bif a == 100 then some (pc + len, L, (bif b == 0 then cv_s 1 else cv_i 0) :: st, h, c, n) else none
      | _ => none) = some S' := h2
    split at h2
    · rename_i k st
      split at h2
      · rename_i ci fs hk
        obtain ⟨-, h3⟩ := cv_bif h2
        obtain ⟨v, hv, h4⟩ := Option.map_eq_some_iff.mp h3
        cases h4
        match z, hz, h1 with
        | a0 :: z, hz, h1 =>
          cases h1
          refine ⟨_, List.mem_singleton_self _, rfl, hl, ⟨ef_un_v hz.1 (fun m hm => ?_), hz.2⟩, hT, hR, hE, ef_fr_refl⟩
          obtain ⟨c0, c1, c2⟩ := ef_fld1_ok hm hE hT
          have c3 : cw_at h k b = some v := by unfold cw_at; rw [hk]; exact hv
          rw [c3] at c2
          cases c2
          exact ⟨c0, c1, rfl⟩
        | [], hz, _ => exact hz.elim
      · cases h2
    · rename_i st
      obtain ⟨-, h3⟩ := cv_bif h2
      cases h3
      match z, hz, h1 with
      | a0 :: z, hz, h1 =>
        cases h1
        refine ⟨_, List.mem_singleton_self _, rfl, hl, ⟨fun l e0 => ?_, hz.2⟩, hT, hR, hE, ef_fr_refl⟩
        cases a0 with
        | none => cases e0
        | some ks =>
          rcases hz.1 ks rfl with ⟨-, e1⟩ | ⟨k, -, e1⟩
          · cases e1
          · cases e1
      | [], hz, _ => exact hz.elim
    · cases h2
  case putfield ix =>
    replace h2 : (match (generalizing := false) st with
      | v :: .inr (.inr (.inl (some k))) :: st => (match (generalizing := false) h[k]? with
        | some (.inr (.inr (.inr (ci, fs)))) => bif ci == a && (decide (b < fs.length) && cv_fit zz.toNat v) then some (pc + len, L, st, h.set k (cv_co ci (fs.set b v)), c, n) else none
        | _ => none)
      | _ => none) = some S' := h2
    split at h2
    · rename_i v k st
      split at h2
      · rename_i ci fs hk
        obtain ⟨h5, h3⟩ := cv_bif h2
        simp only [Bool.and_eq_true, decide_eq_true_eq] at h5
        cases h3
        obtain ⟨w1, w2⟩ := ef_wf (v := v) hk h5.2.1
        match z, hz, h1 with
        | va :: some ks :: z, hz, h1 =>
          obtain ⟨h6, h7⟩ := cv_bif h1
          cases h7
          have hk' := ef_s_r (hz.2.1 ks rfl)
          have h8 := List.all_eq_true.mp h6 k hk'
          simp only [Bool.and_eq_true] at h8
          obtain ⟨m1, m2, m3⟩ := h8
          have m3 := ef_nk2 m3
          refine ⟨_, List.mem_singleton_self _, rfl, hl, hz.2.2, fun t ht => ?_, ef_rok_mv hR (fun t ht i => w2 _ _ (.inl (m3 t ht))), fun t ht => ?_, fun k' i' q => w2 _ _ ?_⟩
          · by_cases cc : t.1 = k ∧ t.2.1 = b
            · have m4 := List.all_eq_true.mp m2 t ht
              have e1 : (t.1 == k && t.2.1 == b) = true := by rw [cc.1, cc.2, beq_self_eq_true, beq_self_eq_true]; rfl
              rw [e1] at m4
              obtain ⟨d0, d1, -⟩ := hT t ht
              obtain ⟨c0, c1, c2⟩ := ef_le_ne (by simpa using m4) hz.1 d1
              exact ⟨c0, c1, by rw [cc.1, cc.2]; rw [← c2]; exact w1⟩
            · obtain ⟨c0, c1, c2⟩ := hT t ht
              refine ⟨c0, c1, (w2 _ _ ?_).trans c2⟩
              by_cases c3 : t.1 = k
              · exact .inr (fun c4 => cc ⟨c3, c4⟩)
              · exact .inl c3
          · rcases List.mem_append.mp ht with ht | ht
            · match ks, va, hk', hz, ht with
              | [k0], some (x :: l), hk', hz, ht =>
                have e1 := List.mem_singleton.mp hk'
                subst e1
                have e2 := List.mem_singleton.mp ht
                subst e2
                rcases hz.1 _ rfl with ⟨c1, -⟩ | ⟨c0, c1, c2⟩
                · cases c1
                · exact ⟨c0, c1, by rw [← c2]; exact w1⟩
              | [k0], some [], _, _, ht => cases ht
              | [k0], none, _, _, ht => cases ht
              | [], _, _, _, ht => cases ht
              | _ :: _ :: _, none, _, _, ht => cases ht
              | _ :: _ :: _, some _, _, _, ht => cases ht
            · obtain ⟨t1, t2⟩ := List.mem_filter.mp ht
              obtain ⟨c0, c1, c2⟩ := hE t t1
              refine ⟨c0, c1, (w2 _ _ ?_).trans c2⟩
              by_cases c3 : t.1 = k
              · refine .inr (fun c4 => ?_)
                rw [c3, c4, ef_in_iff.mpr hk', beq_self_eq_true] at t2
                cases t2
              · exact .inl c3
          · by_cases c3 : k' = k
            · refine .inr (fun c4 => ?_)
              rw [c3, c4, m1] at q
              cases q
            · exact .inl c3
        | [], hz, _ => exact hz.elim
        | [_], hz, _ => exact hz.2.elim
        | _ :: none :: _, _, h1 => cases h1
      · cases h2
    · cases h2
  case iastore =>
    replace h2 : (match (generalizing := false) st with
      | .inl x :: .inl i :: .inr (.inr (.inl (some k))) :: st => (match (generalizing := false) h[k]? with
        | some (.inl (0, xs)) => bif cv_ix i xs.length then some (pc + len, L, st, h.set k (cv_ci 0 (xs.set i.toNatClampNeg x)), c, n) else none
        | _ => none)
      | _ => none) = some S' := h2
    split at h2
    · split at h2
      · rename_i hk
        obtain ⟨-, h3⟩ := cv_bif h2
        cases h3
        match z, hz, h1 with
        | _ :: _ :: some ks :: z, hz, h1 =>
          obtain ⟨h6, h7⟩ := cv_bif h1
          cases h7
          obtain ⟨a1, a2, a3, a4⟩ := ef_arr_ok (v := cv_n) h6 hz.2.2.1 hk hT hR hE
          exact ⟨_, List.mem_singleton_self _, rfl, hl, hz.2.2.2, a1, a2, a3, a4⟩
        | [], hz, _ => exact hz.elim
        | [_], hz, _ => exact hz.2.elim
        | [_, _], hz, _ => exact hz.2.2.elim
        | _ :: _ :: none :: _, _, h1 => cases h1
      · cases h2
    · cases h2
  case bastore =>
    replace h2 : (match (generalizing := false) st with
      | .inl x :: .inl i :: .inr (.inr (.inl (some k))) :: st => (match (generalizing := false) h[k]? with
        | some (.inl (t, xs)) => bif (t == 1 || t == 2) && cv_ix i xs.length then some (pc + len, L, st, h.set k (cv_ci t (xs.set i.toNatClampNeg (cv_nar t x))), c, n) else none
        | _ => none)
      | _ => none) = some S' := h2
    split at h2
    · split at h2
      · rename_i hk
        obtain ⟨-, h3⟩ := cv_bif h2
        cases h3
        match z, hz, h1 with
        | _ :: _ :: some ks :: z, hz, h1 =>
          obtain ⟨h6, h7⟩ := cv_bif h1
          cases h7
          obtain ⟨a1, a2, a3, a4⟩ := ef_arr_ok (v := cv_n) h6 hz.2.2.1 hk hT hR hE
          exact ⟨_, List.mem_singleton_self _, rfl, hl, hz.2.2.2, a1, a2, a3, a4⟩
        | [], hz, _ => exact hz.elim
        | [_], hz, _ => exact hz.2.elim
        | [_, _], hz, _ => exact hz.2.2.elim
        | _ :: _ :: none :: _, _, h1 => cases h1
      · cases h2
    · cases h2
  case lastore =>
    replace h2 : (match (generalizing := false) st with
      | .inr (.inl x) :: .inl i :: .inr (.inr (.inl (some k))) :: st => (match (generalizing := false) h[k]? with
        | some (.inr (.inl xs)) => bif cv_ix i xs.length then some (pc + len, L, st, h.set k (cv_cl (xs.set i.toNatClampNeg x)), c, n) else none
        | _ => none)
      | _ => none) = some S' := h2
    split at h2
    · split at h2
      · rename_i hk
        obtain ⟨-, h3⟩ := cv_bif h2
        cases h3
        match z, hz, h1 with
        | _ :: _ :: some ks :: z, hz, h1 =>
          obtain ⟨h6, h7⟩ := cv_bif h1
          cases h7
          obtain ⟨a1, a2, a3, a4⟩ := ef_arr_ok (v := cv_n) h6 hz.2.2.1 hk hT hR hE
          exact ⟨_, List.mem_singleton_self _, rfl, hl, hz.2.2.2, a1, a2, a3, a4⟩
        | [], hz, _ => exact hz.elim
        | [_], hz, _ => exact hz.2.elim
        | [_, _], hz, _ => exact hz.2.2.elim
        | _ :: _ :: none :: _, _, h1 => cases h1
      · cases h2
    · cases h2
  case aastore =>
    replace h2 : (match (generalizing := false) st with
      | .inr (.inr (.inl (some o))) :: .inl i :: .inr (.inr (.inl (some k))) :: st => (match (generalizing := false) h[k]?, h[o]? with
        | some (.inr (.inr (.inl (t, xs)))), some (.inr (.inr (.inr (ci, _)))) => bif cv_ix i xs.length && (ci == (bif t == 4 then 1 else 7)) then some (pc + len, L, st, h.set k (cv_cr t (xs.set i.toNatClampNeg (some o))), c, n) else none
        | _, _ => none)
      | _ => none) = some S' := h2
    split at h2
    · rename_i o i k st
      split at h2
      · rename_i t xs ci fs hk ho
        obtain ⟨h5, h3⟩ := cv_bif h2
        rw [Bool.and_eq_true] at h5
        cases h3
        have hlt : i.toNatClampNeg < xs.length := by
          have := h5.1
          unfold cv_ix at this
          rw [Bool.and_eq_true] at this
          exact of_decide_eq_true this.2
        match z, hz, h1 with
        | va :: _ :: some ks :: z, hz, h1 =>
          obtain ⟨h6, h7⟩ := cv_bif h1
          cases h7
          have hk' := ef_s_r (hz.2.2.1 ks rfl)
          have h8 := List.all_eq_true.mp h6 k hk'
          unfold ef_arrA at h8
          simp only [Bool.and_eq_true] at h8
          obtain ⟨m1, m2, m3, m4⟩ := h8
          have m2 := ef_nk1 m2
          have m4 := ef_nk1 m4
          refine ⟨_, List.mem_singleton_self _, rfl, hl, hz.2.2.2, ef_fok_mv hT (fun t ht => ef_wc hk _ _ (m2 t ht)), fun t0 ht i0 v0 hv0 => ?_, ef_fok_mv hE (fun t ht => ef_wc hk _ _ (m4 t ht)), fun k' i' q => ef_wc hk _ _ (fun cc => ?_)⟩
          · by_cases cc : t0.1 = k
            · have m5 := List.all_eq_true.mp m3 t0 ht
              rw [cc, beq_self_eq_true] at m5
              have c1 := ef_le_ok (by simpa using m5) hz.1
              have c1 := ef_s_r (k := o) c1
              rw [cc, cw_at_set (cw_lt_of hk), if_pos rfl] at hv0
              replace hv0 : ((xs.set i.toNatClampNeg (some o))[i0]?).map (fun o => (.inr (.inr (.inl o)) : cv_V)) = some v0 := hv0
              by_cases ci0 : i0 = i.toNatClampNeg
              · subst ci0
                rw [List.getElem?_set_self hlt] at hv0
                cases hv0
                exact ⟨o, c1, rfl⟩
              · rw [List.getElem?_set_ne (fun q => ci0 q.symm)] at hv0
                refine hR t0 ht i0 v0 ?_
                rw [cc]
                unfold cw_at
                rw [hk]
                exact hv0
            · rw [ef_wc hk _ _ cc] at hv0
              exact hR t0 ht i0 v0 hv0
          · subst cc
            rw [ef_all_may m1] at q
            cases q
        | [], hz, _ => exact hz.elim
        | [_], hz, _ => exact hz.2.elim
        | [_, _], hz, _ => exact hz.2.2.elim
        | _ :: _ :: none :: _, _, h1 => cases h1
      · cases h2
    · cases h2
end EF
