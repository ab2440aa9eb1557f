/-! ===== the other plan stays as it is ===== -/
def zPO (b : Nat) (h h' : cv_H) : Prop := (∀ k : Nat, cw_sh[k]? = some 4 → k ≠ b → ∀ i, i ∈ ([9, 14, 19] : List Nat) → ri_at h' k i = ri_at h k i) ∧ (∀ k : Nat, cw_sh[k]? = some 34 → k ≠ b + 7 → ∀ i, ri_at h' k i = ri_at h k i) ∧ (∀ k : Nat, cw_sh[k]? = some 35 → k ≠ b + 8 → ∀ i, ri_at h' k i = ri_at h k i) ∧ ∀ k : Nat, cw_sh[k]? = some 39 → k ≠ b + 12 → ∀ i, ri_at h' k i = ri_at h k i
theorem zPO_0 {b : Nat} {h : cv_H} : zPO b h h := ⟨fun _ _ _ _ _ => rfl, fun _ _ _ _ => rfl, fun _ _ _ _ => rfl, fun _ _ _ _ => rfl⟩
theorem zPO_tr {b : Nat} {h h' h'' : cv_H} (a : zPO b h h') (c : zPO b h' h'') : zPO b h h'' := ⟨fun k q r i hi => (c.1 k q r i hi).trans (a.1 k q r i hi), fun k q r i => (c.2.1 k q r i).trans (a.2.1 k q r i), fun k q r i => (c.2.2.1 k q r i).trans (a.2.2.1 k q r i), fun k q r i => (c.2.2.2 k q r i).trans (a.2.2.2 k q r i)⟩
theorem zPO_wr {b k j d : Nat} {v : cv_V} {h h' h'' : cv_H} (w : cw_Wr h' h'' k j v) (hk : cw_sh[k]? = some d) (q1 : d = 4 → k = b) (q2 : d = 34 → k = b + 7) (q3 : d = 35 → k = b + 8) (q4 : d = 39 → k = b + 12) (a : zPO b h h') : zPO b h h'' := by
  have e : ∀ {k' d' : Nat} {c : Nat}, (d = d' → k = c) → cw_sh[k']? = some d' → k' ≠ c → ∀ i, ri_at h'' k' i = ri_at h' k' i := by
    intro k' d' c q hk' hne i
    refine ri_ne w (.inl (fun e => ?_))
    subst e
    rw [hk] at hk'
    cases hk'
    exact hne (q rfl)
  exact ⟨fun k q r i hi => (e q1 q r i).trans (a.1 k q r i hi), fun k q r i => (e q2 q r i).trans (a.2.1 k q r i), fun k q r i => (e q3 q r i).trans (a.2.2.1 k q r i), fun k q r i => (e q4 q r i).trans (a.2.2.2 k q r i)⟩
theorem zPO_fr {b m : Nat} {h h' h'' : cv_H} (C : cw_Fr cw_Ds cw_sh m h' h'') (q : (([9, 14, 19] : List Nat).all (fun i => !cw_bit m 4 i) && (!(cw_bit m 34 0 || cw_bit m 34 1) && (!(cw_bit m 35 0 || cw_bit m 35 1) && !(cw_bit m 39 0 || cw_bit m 39 1)))) = true) (a : zPO b h h') : zPO b h h'' := by
  simp only [Bool.and_eq_true, Bool.not_eq_true', List.all_eq_true] at q
  obtain ⟨q1, q2, q3, q4⟩ := q
  exact ⟨fun k q r i hi => (ri_frf C q rfl (q1 i hi)).trans (a.1 k q r i hi), fun k q r i => (ri_frr C q rfl q2).trans (a.2.1 k q r i), fun k q r i => (ri_frr C q rfl q3).trans (a.2.2.1 k q r i), fun k q r i => (ri_frr C q rfl q4).trans (a.2.2.2 k q r i)⟩
