/-! ===== pure: ranges of a gate's told numbers ===== -/
theorem zn_iv {t : Nat → Int} {n p q : Nat} {lo hi v : Int} (e : zn t n lo hi p = .inr (v, q)) : lo ≤ v ∧ v ≤ hi := by
  by_cases h1 : zk t n p = 3
  · by_cases h2 : lo ≤ zw t n p ∧ zw t n p ≤ hi
    · rw [zn_ok h1 h2.1 h2.2] at e
      cases e
      exact h2
    · rw [zn_2 h1 (by omega)] at e
      cases e
  · rw [zn_1 h1] at e
    cases e
theorem zg_iv {t : Nat → Int} {n p q : Nat} {hi v : Int} (e : zg t n hi p = .inr (v, q)) : -hi ≤ v ∧ v ≤ hi := by
  unfold zg at e
  by_cases c : zk t n p = 4 ∧ zw t n p = 45
  · rw [if_pos c] at e
    cases z : zn t n 0 hi (zx t n p) with
    | inl x => rw [z] at e; cases e
    | inr x =>
      obtain ⟨y, q1⟩ := x
      rw [z] at e
      dsimp only at e
      cases e
      have := zn_iv z
      omega
  · rw [if_neg c] at e
    have := zn_iv e
    omega
theorem zns_iv {t : Nat → Int} {n : Nat} {lo hi : Int} : ∀ (k p : Nat) (vs : List Int) (q : Nat), zns t n lo hi k p = .inr (vs, q) → ∀ j, j < k → lo ≤ vs.getD j 0 ∧ vs.getD j 0 ≤ hi
  | 0, p, vs, q, e, j, hj => by omega
  | k + 1, p, vs, q, e, j, hj => by
    obtain ⟨v, p', vs', e1, e2, rfl⟩ := zns_i e
    cases j with
    | zero => exact zn_iv e1
    | succ j => rw [List.getD_cons_succ]; exact zns_iv k p' vs' q e2 j (by omega)
def zTd (hh : Int) (D : Nat → Int) : Prop := (24 ≤ D 0 ∧ D 0 ≤ 144) ∧ D 1 = hh ∧ (20 ≤ D 2 ∧ D 2 ≤ 400) ∧ (0 ≤ D 3 ∧ D 3 < D 4 ∧ D 4 ≤ hh) ∧ (-30 ≤ D 5 ∧ D 5 ≤ 30) ∧ (-30 ≤ D 6 ∧ D 6 ≤ 30) ∧ (12 ≤ D 7 ∧ D 7 ≤ 60) ∧ (3 ≤ D 8 ∧ D 8 ≤ 14) ∧ (0 ≤ D 9 ∧ D 9 ≤ 2) ∧ (0 ≤ D 10 ∧ D 10 ≤ 9999) ∧ (0 ≤ D 11 ∧ D 11 ≤ 9999) ∧ (0 ≤ D 12 ∧ D 12 ≤ 200) ∧ (0 ≤ D 13 ∧ D 13 ≤ 9999)
theorem zgB_R {a hh w : Int} (h0 : 24 ≤ a ∧ a ≤ 144) (h1 : 24 ≤ hh ∧ hh ≤ 72) (h2 : 20 ≤ w ∧ w ≤ 400) : zTd hh (zgB a hh w) :=
  ⟨h0, rfl, h2, (show (0 : Int) ≤ 6 ∧ (6 : Int) < hh - 6 ∧ hh - 6 ≤ hh from by omega), (show (-30 : Int) ≤ 0 ∧ (0 : Int) ≤ 30 from by decide), (show (-30 : Int) ≤ 0 ∧ (0 : Int) ≤ 30 from by decide), (show (12 : Int) ≤ 36 ∧ (36 : Int) ≤ 60 from by decide), (show (3 : Int) ≤ 8 ∧ (8 : Int) ≤ 14 from by decide), (show (0 : Int) ≤ 0 ∧ (0 : Int) ≤ 2 from by decide), (show (0 : Int) ≤ 1000 ∧ (1000 : Int) ≤ 9999 from by decide), (show (0 : Int) ≤ 1000 ∧ (1000 : Int) ≤ 9999 from by decide), (show (0 : Int) ≤ 0 ∧ (0 : Int) ≤ 200 from by decide), (show (0 : Int) ≤ 3000 ∧ (3000 : Int) ≤ 9999 from by decide)⟩
theorem zpW_R {t : Nat → Int} {n p : Nat} {hh w : Int} {D : Nat → Int} (a : zTd hh D) : zTd hh (zpW t n hh w p D) := by
  have A := a
  obtain ⟨a0, a1, a2, a3, a5, a6, a7, a8, a9, a10, a11, a12, a13⟩ := a
  unfold zpW
  by_cases c0 : w = 0
  · rw [if_pos c0]
    cases z1 : zn t n 0 hh p with
    | inl x => exact A
    | inr x =>
      obtain ⟨v1, q1⟩ := x
      show zTd hh (zo (zn t n (v1 + 1) hh q1) _ D)
      cases z2 : zn t n (v1 + 1) hh q1 with
      | inl x => exact A
      | inr x =>
        obtain ⟨v2, q2⟩ := x
        show zTd hh (zo (zg t n 30 q2) _ D)
        cases z3 : zg t n 30 q2 with
        | inl x => exact A
        | inr x =>
          obtain ⟨v3, q3⟩ := x
          show zTd hh (zo (zg t n 30 q3) _ D)
          cases z4 : zg t n 30 q3 with
          | inl x => exact A
          | inr x =>
            obtain ⟨v4, q4⟩ := x
            have r1 := zn_iv z1
            have r2 := zn_iv z2
            exact ⟨a0, a1, a2, (show 0 ≤ v1 ∧ v1 < v2 ∧ v2 ≤ hh from by omega), (zg_iv z3), (zg_iv z4), a7, a8, a9, a10, a11, a12, a13⟩
  rw [if_neg c0]
  by_cases c1 : w = 1
  · rw [if_pos c1]
    cases z1 : zn t n 12 60 p with
    | inl x => exact A
    | inr x =>
      obtain ⟨v1, q1⟩ := x
      show zTd hh (zo (zns t n 3 14 1 q1) _ D)
      cases z2 : zns t n 3 14 1 q1 with
      | inl x => exact A
      | inr x =>
        obtain ⟨vs, q2⟩ := x
        exact ⟨a0, a1, a2, a3, a5, a6, (zn_iv z1), (zns_iv _ _ _ _ z2 0 (by decide)), a9, a10, a11, a12, a13⟩
  rw [if_neg c1]
  by_cases c2 : w = 2
  · rw [if_pos c2]
    exact ⟨a0, a1, a2, a3, a5, a6, a7, a8, (show (0 : Int) ≤ (if zw t n p = 28 then 1 else 2) ∧ (if zw t n p = 28 then (1 : Int) else 2) ≤ 2 from by split <;> decide), a10, a11, a12, a13⟩
  rw [if_neg c2]
  by_cases c3 : w = 3
  · rw [if_pos c3]
    cases z2 : zns t n 0 9999 2 p with
    | inl x => exact A
    | inr x =>
      obtain ⟨vs, q2⟩ := x
      exact ⟨a0, a1, a2, a3, a5, a6, a7, a8, a9, (zns_iv _ _ _ _ z2 0 (by decide)), (zns_iv _ _ _ _ z2 1 (by decide)), a12, a13⟩
  rw [if_neg c3]
  by_cases c4 : w = 4
  · rw [if_pos c4]
    cases z2 : zns t n 0 9999 1 p with
    | inl x => exact A
    | inr x =>
      obtain ⟨vs, q2⟩ := x
      exact ⟨a0, a1, a2, a3, a5, a6, a7, a8, a9, a10, a11, a12, (zns_iv _ _ _ _ z2 0 (by decide))⟩
  rw [if_neg c4]
  by_cases c5 : w = 5
  · rw [if_pos c5]
    cases z2 : zns t n 0 200 9 p with
    | inl x => exact A
    | inr x => exact A
  rw [if_neg c5]
  by_cases c6 : w = 6
  · rw [if_pos c6]
    exact A
  rw [if_neg c6]
  cases z2 : zns t n 0 200 1 p with
  | inl x => exact A
  | inr x =>
    obtain ⟨vs, q2⟩ := x
    exact ⟨a0, a1, a2, a3, a5, a6, a7, a8, a9, a10, a11, (zns_iv _ _ _ _ z2 0 (by decide)), a13⟩
theorem zgF_R {t : Nat → Int} {n : Nat} {hh : Int} {cn : List Int} : ∀ (u m cm p : Nat) (D : Nat → Int), zTd hh D → zTd hh (zgF t n hh cn u m cm p D).1
  | 0, m, cm, p, D, a => a
  | u + 1, m, cm, p, D, a => by
    rw [zgF_s]
    by_cases c : zhw (zk t n p) (zw t n p) < 0
    · rw [if_pos c]; exact a
    rw [if_neg c]
    cases z : zpt t n hh cn m cm p with
    | inl x => exact a
    | inr x =>
      obtain ⟨v, q⟩ := x
      exact zgF_R u _ v q _ (zpW_R a)
