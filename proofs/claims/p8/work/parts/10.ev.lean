/-! ===== what a run of the small machine gives, step by step ===== -/
section CWE
variable {F : cv_F} {mt : Nat → cv_M}
theorem cw_eq (k : Nat) (X : cv_X) (mi : Nat) (S : cv_S) : cv_run F mt (k + 1) X mi S = (match cv_op (mt mi) S.1 with
    | none => none
    | some q =>
      match cv_one X q S with
      | some S' => cv_run F mt k X mi S'
      | none =>
      match cv_mk (mt mi).2.2.1 (mt mi).2.2.2.1 F q S with
      | some S' => cv_run F mt k X mi S'
      | none =>
      match cv_nat (mt mi) q S with
      | some S' => cv_run F mt k X mi S'
      | none =>
      match cv_call q S with
      | some (j, args, stk) =>
        bif cv_fits (mt mi) (mt j) S.2.2.2.2.1 S.2.2.2.2.2 (cv_wid args) stk then
          match cv_run F mt k (fun j => bif j == 2 then none else X j) j (0, cv_ent 0 args, [], S.2.2.2.1, 0, 0) with
          | some o => cv_run F mt k X mi (S.1 + q.2.2.1, S.2.1, o.1.toList ++ stk, o.2, S.2.2.2.2.1 + (mt j).2.2.1, S.2.2.2.2.2 + (mt j).2.2.2.1)
          | none => none
        else none
      | none =>
      match cv_ret (mt mi) q S with
      | some r => some (r, S.2.2.2.1)
      | none => none) := rfl
theorem cw_mono1 : ∀ (N : Nat) (X : cv_X) (mi : Nat) (S : cv_S) (o : cv_O), cv_run F mt N X mi S = some o → cv_run F mt (N + 1) X mi S = some o := by
  intro N
  induction N with
  | zero => intro X mi S o h; cases h
  | succ n ih =>
    intro X mi S o h
    rw [cw_eq] at h
    rw [cw_eq]
    cases hop : cv_op (mt mi) S.1 with
    | none => rw [hop] at h; cases h
    | some q =>
    rw [hop] at h
    dsimp only at h ⊢
    cases hone : cv_one X q S with
    | some S' => rw [hone] at h; exact ih _ _ _ _ h
    | none =>
    rw [hone] at h
    dsimp only at h ⊢
    cases hmk : cv_mk (mt mi).2.2.1 (mt mi).2.2.2.1 F q S with
    | some S' => rw [hmk] at h; exact ih _ _ _ _ h
    | none =>
    rw [hmk] at h
    dsimp only at h ⊢
    cases hnat : cv_nat (mt mi) q S with
    | some S' => rw [hnat] at h; exact ih _ _ _ _ h
    | none =>
    rw [hnat] at h
    dsimp only at h ⊢
    cases hcall : cv_call q S with
    | some jas =>
      obtain ⟨j, av, stk⟩ := jas
      rw [hcall] at h
      dsimp only at h ⊢
      obtain ⟨hf, h2⟩ := cv_bif h
      rw [hf]
      cases hrun : cv_run F mt n (fun j => bif j == 2 then none else X j) j (0, cv_ent 0 av, [], S.2.2.2.1, 0, 0) with
      | none => rw [hrun] at h2; cases h2
      | some o' =>
        rw [hrun] at h2
        rw [ih _ _ _ _ hrun]
        exact ih _ _ _ _ h2
    | none =>
      rw [hcall] at h
      exact h
theorem cw_mono {N N' : Nat} {X : cv_X} {mi : Nat} {S : cv_S} {o : cv_O} (h : cv_run F mt N X mi S = some o) (hN : N ≤ N') : cv_run F mt N' X mi S = some o := by
  induction hN with
  | refl => exact h
  | step _ ih => exact cw_mono1 _ _ _ _ _ ih
/-- a run that ends -/
def cw_Ev (F : cv_F) (mt : Nat → cv_M) (X : cv_X) (mi : Nat) (S : cv_S) (o : cv_O) : Prop := ∃ N, cv_run F mt N X mi S = some o
theorem cw_ev_one {X : cv_X} {mi : Nat} {S S' : cv_S} {o : cv_O} {q : cv_Q} (hq : cv_op (mt mi) S.1 = some q) (h1 : cv_one X q S = some S') (h : cw_Ev F mt X mi S' o) : cw_Ev F mt X mi S o := by
  obtain ⟨N, h⟩ := h
  refine ⟨N + 1, ?_⟩
  rw [cw_eq, hq]
  dsimp only
  rw [h1]
  exact h
theorem cw_one_nat {X : cv_X} {M : cv_M} {S S' : cv_S} {q : cv_Q} (h : cv_nat M q S = some S') : cv_one X q S = none := by
  unfold cv_nat at h
  obtain ⟨-, h⟩ := cv_bif h
  unfold cv_one
  revert h
  obtain ⟨pc, i, len, a, b, z⟩ := q
  cases i <;> intro h <;> first | rfl | (exfalso; simp at h)
theorem cw_mk_nat {M : cv_M} {mc ms : Nat} {S S' : cv_S} {q : cv_Q} (h : cv_nat M q S = some S') : cv_mk mc ms F q S = none := by
  unfold cv_nat at h
  obtain ⟨-, h⟩ := cv_bif h
  unfold cv_mk
  revert h
  obtain ⟨pc, i, len, a, b, z⟩ := q
  cases i <;> intro h <;> first | rfl | (exfalso; simp at h)
theorem cw_ev_nat {X : cv_X} {mi : Nat} {S S' : cv_S} {o : cv_O} {q : cv_Q} (hq : cv_op (mt mi) S.1 = some q) (h1 : cv_nat (mt mi) q S = some S') (h : cw_Ev F mt X mi S' o) : cw_Ev F mt X mi S o := by
  obtain ⟨N, h⟩ := h
  refine ⟨N + 1, ?_⟩
  rw [cw_eq, hq]
  dsimp only
  rw [cw_one_nat h1]
  dsimp only
  rw [cw_mk_nat h1]
  dsimp only
  rw [h1]
  exact h
theorem cw_call_one {X : cv_X} {S : cv_S} {q : cv_Q} {a : Nat × List cv_V × List cv_V} (h : cv_call q S = some a) : cv_one X q S = none ∧ ∀ mc ms, cv_mk mc ms F q S = none := by
  unfold cv_call at h
  obtain ⟨-, h⟩ := cv_bif h
  unfold cv_one cv_mk
  revert h
  obtain ⟨pc, i, len, a, b, z⟩ := q
  cases i <;> intro h <;> first | exact ⟨rfl, fun _ _ => rfl⟩ | (exfalso; simp at h)
theorem cw_ev_call {X : cv_X} {mi : Nat} {S : cv_S} {o o' : cv_O} {q : cv_Q} {j : Nat} {av stk : List cv_V} (hq : cv_op (mt mi) S.1 = some q) (hn : q.2.2.2.1 < 9000) (h1 : cv_call q S = some (j, av, stk))
    (hf : cv_fits (mt mi) (mt j) S.2.2.2.2.1 S.2.2.2.2.2 (cv_wid av) stk = true) (hc : cw_Ev F mt (fun j => bif j == 2 then none else X j) j (0, cv_ent 0 av, [], S.2.2.2.1, 0, 0) o')
    (h : cw_Ev F mt X mi (S.1 + q.2.2.1, S.2.1, o'.1.toList ++ stk, o'.2, S.2.2.2.2.1 + (mt j).2.2.1, S.2.2.2.2.2 + (mt j).2.2.2.1) o) : cw_Ev F mt X mi S o := by
  obtain ⟨N, h⟩ := h
  obtain ⟨N', hc⟩ := hc
  refine ⟨max N N' + 1, ?_⟩
  rw [cw_eq, hq]
  dsimp only
  rw [(cw_call_one (F := F) (X := X) h1).1]
  dsimp only
  rw [(cw_call_one (X := X) h1).2]
  dsimp only
  have hnat : cv_nat (mt mi) q S = none := by
    unfold cv_nat
    obtain ⟨pc, i, len, a, b, z⟩ := q
    replace hn : a < 9000 := hn
    clear hq h1 h
    dsimp only
    generalize (decide (1 ≤ (mt mi).2.2.2.2.1) && (decide (S.2.2.2.2.1 ≤ (mt mi).2.2.1) && decide (S.2.2.2.2.2 ≤ (mt mi).2.2.2.1))) = bb
    cases bb with
    | false => rfl
    | true =>
      dsimp only [cond_true]
      split
      all_goals first | rfl | (exfalso; revert hn; decide)
  rw [hnat]
  dsimp only
  rw [h1]
  dsimp only
  rw [hf, cw_mono hc (Nat.le_max_right N N')]
  exact cw_mono h (Nat.le_max_left N N')
theorem cw_ret_one {X : cv_X} {M : cv_M} {S : cv_S} {q : cv_Q} {r : Option cv_V} (h : cv_ret M q S = some r) : cv_one X q S = none ∧ (∀ mc ms, cv_mk mc ms F q S = none) ∧ cv_nat M q S = none ∧ cv_call q S = none := by
  have hi : q.2.1 = .ireturn ∨ q.2.1 = .lreturn ∨ q.2.1 = .return_ := by
    unfold cv_ret at h
    obtain ⟨-, h⟩ := cv_bif h
    split at h
    all_goals first | (cases h; done) | (rename_i e _ _; first | exact .inl e | exact .inr (.inl e) | exact .inr (.inr e)) | skip
    all_goals first | exact .inl (by assumption) | exact .inr (.inl (by assumption)) | exact .inr (.inr (by assumption))
  obtain ⟨pc, i, len, a, b, z⟩ := q
  have e1 : ∀ b : Bool, (bif b then (none : Option cv_S) else none) = none := fun b => by cases b <;> rfl
  have e2 : ∀ b : Bool, (bif b then (none : Option (Nat × List cv_V × List cv_V)) else none) = none := fun b => by cases b <;> rfl
  rcases hi with hi | hi | hi
  · replace hi : i = .ireturn := hi
    subst hi
    exact ⟨rfl, fun _ _ => rfl, e1 _, e2 _⟩
  · replace hi : i = .lreturn := hi
    subst hi
    exact ⟨rfl, fun _ _ => rfl, e1 _, e2 _⟩
  · replace hi : i = .return_ := hi
    subst hi
    exact ⟨rfl, fun _ _ => rfl, e1 _, e2 _⟩
theorem cw_ev_ret {X : cv_X} {mi : Nat} {S : cv_S} {q : cv_Q} {r : Option cv_V} (hq : cv_op (mt mi) S.1 = some q) (h1 : cv_ret (mt mi) q S = some r) : cw_Ev F mt X mi S (r, S.2.2.2.1) := by
  refine ⟨1, ?_⟩
  rw [cw_eq, hq]
  dsimp only
  have h := cw_ret_one (F := F) (X := X) h1
  rw [h.1]
  dsimp only
  rw [h.2.1]
  dsimp only
  rw [h.2.2.1]
  dsimp only
  rw [h.2.2.2]
  dsimp only
  rw [h1]
end CWE
