/-! ===== the cells as the check knows them ===== -/
def cw_sl (c : cv_C) (i : Nat) : Option cv_V := match c with
  | .inl (_, xs) => (xs[i]?).map cv_i
  | .inr (.inl xs) => (xs[i]?).map cv_l
  | .inr (.inr (.inl (_, xs))) => (xs[i]?).map (fun o => .inr (.inr (.inl o)))
  | .inr (.inr (.inr (_, fs))) => fs[i]?
def cw_at (h : cv_H) (k i : Nat) : Option cv_V := match h[k]? with
  | some c => cw_sl c i
  | none => none
def cw_tch (Ds : List cw_D) (m d i : Nat) : Bool := match Ds[d]? with
  | some (.inr (.inr (.inr _))) => cw_bit m d i
  | some (.inl (_, _, p, _)) => cw_bit m d 0 || cw_bit m d (1 + i % p)
  | _ => cw_bit m d 0
def cw_prot (Ds : List cw_D) (m d i : Nat) : Bool := match Ds[d]? with
  | some (.inr (.inr (.inr _))) => cw_bit m d i
  | some (.inl (_, _, p, _)) => bif p == 1 then cw_bit m d 0 else cw_bit m d (1 + i % p)
  | _ => cw_bit m d 0
def cw_Fr (Ds : List cw_D) (sh : List Nat) (m : Nat) (h h' : cv_H) : Prop := (∀ k : Nat, sh[k]? = none → h'[k]? = h[k]?) ∧ ∀ k d i : Nat, sh[k]? = some d → cw_tch Ds m d i = false → cw_at h' k i = cw_at h k i
def cw_cell (Ds : List cw_D) (sh : List Nat) (G : Int) (h : cv_H) (k d : Nat) : Prop := match Ds[d]? with
  | some (.inl (t, n, p, rs)) => ∃ xs, h[k]? = some (cv_ci t xs) ∧ xs.length = n ∧ ∀ (i : Nat) (x : Int32), xs[i]? = some x → ∃ r, rs[i % p]? = some r ∧ r.1 ≤ x.toInt ∧ x.toInt ≤ r.2
  | some (.inr (.inl n)) => ∃ xs, h[k]? = some (cv_cl xs) ∧ xs.length = n
  | some (.inr (.inr (.inl (t, n, d')))) => ∃ xs, h[k]? = some (cv_cr t xs) ∧ xs.length = n ∧ ∀ (i : Nat) (o : Option Nat), xs[i]? = some o → ∃ k' : Nat, o = some k' ∧ sh[k']? = some d'
  | some (.inr (.inr (.inr (ci, fs)))) => ∃ vs, h[k]? = some (cv_co ci vs) ∧ vs.length = fs.length ∧ ∀ (i : Nat) (a : cw_A), fs[i]? = some a → ∃ v, vs[i]? = some v ∧ cw_ga G sh a v
  | none => False
/-- a row of which some places are kept is not written at an unknown place -/
def cw_dpok (Ds : List cw_D) (dp : Nat) : Prop := ∀ d t n p rs, Ds[d]? = some (.inl (t, n, p, rs)) → 1 ≤ p ∧ (cw_bit dp d 0 = false → ∀ r, r < p → cw_bit dp d (1 + r) = false)
def cw_Pok (Ds : List cw_D) (sh : List Nat) (dp : Nat) (P : cv_H → Prop) : Prop := ∀ h h', P h → (∀ k d i : Nat, sh[k]? = some d → cw_prot Ds dp d i = true → cw_at h' k i = cw_at h k i) → P h'
def cw_Inv (Ds : List cw_D) (sh : List Nat) (G : Int) (P : cv_H → Prop) (h : cv_H) : Prop := (∀ k d : Nat, sh[k]? = some d → cw_cell Ds sh G h k d) ∧ P h
section CWH
variable {Ds : List cw_D} {sh : List Nat} {G : Int} {P : cv_H → Prop} {dp wm : Nat}
theorem cw_Fr_refl {h : cv_H} {m : Nat} : cw_Fr Ds sh m h h := ⟨fun _ _ => rfl, fun _ _ _ _ _ => rfl⟩
theorem cw_Fr_tr {h h1 h2 : cv_H} {m : Nat} (a : cw_Fr Ds sh m h h1) (b : cw_Fr Ds sh m h1 h2) : cw_Fr Ds sh m h h2 :=
  ⟨fun k hk => (b.1 k hk).trans (a.1 k hk), fun k d i hk ht => (b.2 k d i hk ht).trans (a.2 k d i hk ht)⟩
theorem cw_bit_land {m m' d s : Nat} (h : (Nat.land m m' == m) = true) (hb : cw_bit m' d s = false) : cw_bit m d s = false := by
  simp only [beq_iff_eq] at h
  unfold cw_bit at hb ⊢
  have e : m &&& m' = m := h
  rw [← e, Nat.testBit_and, hb, Bool.and_false]
theorem cw_Fr_mono {h h1 : cv_H} {m m' : Nat} (hm : (Nat.land m m' == m) = true) (a : cw_Fr Ds sh m h h1) : cw_Fr Ds sh m' h h1 := by
  refine ⟨a.1, fun k d i hk ht => a.2 k d i hk ?_⟩
  unfold cw_tch at ht ⊢
  split
  · rename_i q; rw [q] at ht; exact cw_bit_land hm ht
  · rename_i q; rw [q] at ht
    simp only [Bool.or_eq_false_iff] at ht ⊢
    exact ⟨cw_bit_land hm ht.1, cw_bit_land hm ht.2⟩
  · rename_i q1 q2
    split at ht
    · rename_i q; exact absurd q (q1 _)
    · rename_i q; exact absurd q (q2 _ _ _ _)
    · exact cw_bit_land hm ht
theorem cw_at_set {h : cv_H} {k k' i : Nat} {c : cv_C} (hk : k < h.length) : cw_at (h.set k c) k' i = if k' = k then cw_sl c i else cw_at h k' i := by
  unfold cw_at
  by_cases e : k' = k
  · subst e
    rw [if_pos rfl, List.getElem?_set_self hk]
  · rw [if_neg e, List.getElem?_set_ne (fun q => e q.symm)]
theorem cw_lt_of {h : cv_H} {k : Nat} {c : cv_C} (e : h[k]? = some c) : k < h.length := (List.getElem?_eq_some_iff.mp e).1
/-- a cell that is not written stays -/
theorem cw_cell_mv {h h' : cv_H} {k d : Nat} (hc : cw_cell Ds sh G h k d) (e : h'[k]? = h[k]?) : cw_cell Ds sh G h' k d := by
  unfold cw_cell at hc ⊢
  rw [e]
  exact hc
/-- one cell written -/
theorem cw_Inv_set {h : cv_H} {k d s : Nat} {c c' : cv_C} (hPok : cw_Pok Ds sh dp P) (hdp : cw_dpok Ds dp) (hI : cw_Inv Ds sh G P h) (hk : sh[k]? = some d) (hc : h[k]? = some c) (hc' : cw_cell Ds sh G (h.set k c') k d)
    (hm : cw_may wm dp d s = true) (hs : ∀ i, (match Ds[d]? with
      | some (.inr (.inr (.inr _))) => i ≠ s
      | some (.inl (_, _, p, _)) => s ≠ 0 ∧ s ≠ 1 + i % p
      | _ => s ≠ 0) → cw_sl c' i = cw_sl c i) (hs1 : ∀ t n rs, Ds[d]? = some (.inl (t, n, 1, rs)) → s = 0) : cw_Inv Ds sh G P (h.set k c') ∧ cw_Fr Ds sh wm h (h.set k c') := by
  have hlt := cw_lt_of hc
  unfold cw_may at hm
  simp only [Bool.and_eq_true, Bool.not_eq_true'] at hm
  have hat : ∀ k' i, cw_at (h.set k c') k' i = if k' = k then cw_sl c' i else cw_at h k' i := fun k' i => cw_at_set hlt
  have hat0 : ∀ i, cw_at h k i = cw_sl c i := fun i => by unfold cw_at; rw [hc]
  refine ⟨⟨fun k1 d1 hk1 => ?_, hPok h _ hI.2 fun k1 d1 i hk1 hp => ?_⟩, fun k1 hk1 => ?_, fun k1 d1 i hk1 ht => ?_⟩
  · by_cases e : k1 = k
    · subst e
      rw [hk] at hk1
      cases hk1
      exact hc'
    · exact cw_cell_mv (hI.1 k1 d1 hk1) (List.getElem?_set_ne (fun q => e q.symm))
  · rw [hat]
    by_cases e : k1 = k
    · subst e
      rw [hk] at hk1
      cases hk1
      rw [if_pos rfl, hat0]
      refine hs i ?_
      unfold cw_prot at hp
      split
      · rename_i q
        rw [q] at hp
        intro e
        subst e
        replace hp : cw_bit dp d i = true := hp
        rw [hp] at hm
        exact absurd hm.2 (by simp)
      · rename_i t n p rs q
        rw [q] at hp
        have hd := hdp d t n p rs q
        dsimp only at hp
        cases hp1 : p == 1 with
        | true =>
          rw [hp1, cond_true] at hp
          simp only [beq_iff_eq] at hp1
          subst hp1
          constructor
          · intro e; rw [e, hp] at hm; exact absurd hm.2 (by simp)
          · intro e
            have := hs1 t n rs q
            omega
        | false =>
          rw [hp1, cond_false] at hp
          constructor
          · intro e
            rw [e] at hm
            have := hd.2 hm.2 (i % p) (Nat.mod_lt _ (by omega))
            rw [this] at hp
            cases hp
          · intro e
            rw [e, hp] at hm
            exact absurd hm.2 (by simp)
      · rename_i q1 q2
        split at hp
        · rename_i q; exact absurd q (q1 _)
        · rename_i q; exact absurd q (q2 _ _ _ _)
        · intro e
          rw [e, hp] at hm
          exact absurd hm.2 (by simp)
    · rw [if_neg e]
  · by_cases e : k1 = k
    · subst e; rw [hk] at hk1; cases hk1
    · exact List.getElem?_set_ne (fun q => e q.symm)
  · rw [hat]
    by_cases e : k1 = k
    · subst e
      rw [hk] at hk1
      cases hk1
      rw [if_pos rfl, hat0]
      refine hs i ?_
      unfold cw_tch at ht
      split
      · rename_i q
        rw [q] at ht
        intro e
        subst e
        replace ht : cw_bit wm d i = false := ht
        rw [ht] at hm
        exact absurd hm.1 (by simp)
      · rename_i t n p rs q
        rw [q] at ht
        simp only [Bool.or_eq_false_iff] at ht
        constructor
        · intro e; rw [e, ht.1] at hm; exact absurd hm.1 (by simp)
        · intro e; rw [e, ht.2] at hm; exact absurd hm.1 (by simp)
      · rename_i q1 q2
        split at ht
        · rename_i q; exact absurd q (q1 _)
        · rename_i q; exact absurd q (q2 _ _ _ _)
        · intro e
          rw [e, ht] at hm
          exact absurd hm.1 (by simp)
    · rw [if_neg e]
end CWH
