/-! ===== the signs that wait ===== -/
def sn_b (f : Nat → Int) : Nat → Int
  | 0 => 0
  | n + 1 => sn_b f n + (if 3 ≤ f n then 1 else 0)
def sn_u (f : Nat → Int) : Nat → Int
  | 0 => 0
  | n + 1 => sn_u f n + (if f n = 2 then 1 else 0)
def sn_p (f : Nat → Int) : Nat → Int
  | 0 => 0
  | n + 1 => sn_p f n + (if f n = 0 then 1 else 0)
theorem sn_bx {f g : Nat → Int} : ∀ n, (∀ i, i < n → f i = g i) → sn_b f n = sn_b g n ∧ sn_u f n = sn_u g n ∧ sn_p f n = sn_p g n
  | 0, _ => ⟨rfl, rfl, rfl⟩
  | n + 1, h => by
    have ih := sn_bx n (fun i hi => h i (by omega))
    show sn_b f n + _ = sn_b g n + _ ∧ sn_u f n + _ = sn_u g n + _ ∧ sn_p f n + _ = sn_p g n + _
    rw [ih.1, ih.2.1, ih.2.2, h n (by omega)]
    exact ⟨rfl, rfl, rfl⟩
theorem sn_nn (f : Nat → Int) : ∀ n, 0 ≤ sn_b f n ∧ 0 ≤ sn_u f n ∧ 0 ≤ sn_p f n
  | 0 => ⟨Int.le_refl _, Int.le_refl _, Int.le_refl _⟩
  | n + 1 => by
    have ih := sn_nn f n
    show 0 ≤ sn_b f n + _ ∧ 0 ≤ sn_u f n + _ ∧ 0 ≤ sn_p f n + _
    refine ⟨?_, ?_, ?_⟩
    · split <;> omega
    · split <;> omega
    · split <;> omega
/-- how the signs that wait, the knots that are held and those that are counted hang together -/
def sn_I (h : cv_H) : Prop :=
  0 ≤ ri_at h 111 37 ∧
  (∀ i : Nat, (i : Int) < ri_at h 111 37 → ri_at h 128 i = 0 ∨ ri_at h 128 i = 2 ∨ (3 ≤ ri_at h 128 i ∧ ri_at h 128 i ≤ 14)) ∧
  ri_at h 111 37 = sn_b (ri_at h 128) (ri_at h 111 37).toNat + sn_u (ri_at h 128) (ri_at h 111 37).toNat + sn_p (ri_at h 128) (ri_at h 111 37).toNat ∧
  ri_at h 111 38 = sn_b (ri_at h 128) (ri_at h 111 37).toNat + (1 - ri_at h 111 41) ∧
  ri_at h 111 19 + sn_b (ri_at h 128) (ri_at h 111 37).toNat + sn_u (ri_at h 128) (ri_at h 111 37).toNat = ri_at h 111 40 ∧
  sn_p (ri_at h 128) (ri_at h 111 37).toNat = ri_at h 111 39 ∧
  ri_at h 111 38 ≤ ri_at h 111 19
theorem sn_push {h h' : cv_H} (hI : sn_I h) (v : Int) (hv : v = 0 ∨ v = 2 ∨ (3 ≤ v ∧ v ≤ 14)) (hw : ri_at h' 111 37 = ri_at h 111 37 + 1) (h1 : ri_at h' 128 (ri_at h 111 37).toNat = v) (h2 : ∀ i : Nat, (i : Int) < ri_at h 111 37 → ri_at h' 128 i = ri_at h 128 i)
    (hH : ri_at h' 111 38 = ri_at h 111 38 + (if 3 ≤ v then 1 else 0) + (ri_at h 111 41 - ri_at h' 111 41)) (hC : ri_at h' 111 40 = ri_at h 111 40 + (if v = 0 then 0 else 1)) (hB : ri_at h' 111 39 = ri_at h 111 39 + (if v = 0 then 1 else 0)) (hK : ri_at h' 111 19 = ri_at h 111 19) (hl : ri_at h' 111 38 ≤ ri_at h' 111 19) : sn_I h' := by
  obtain ⟨i0, i1, i2, i3, i4, i5, i6⟩ := hI
  have e : (ri_at h' 111 37).toNat = (ri_at h 111 37).toNat + 1 := by omega
  have ex := sn_bx (f := ri_at h' 128) (g := ri_at h 128) (ri_at h 111 37).toNat (fun i hi => h2 i (by omega))
  have eb : sn_b (ri_at h' 128) (ri_at h' 111 37).toNat = sn_b (ri_at h 128) (ri_at h 111 37).toNat + (if 3 ≤ v then 1 else 0) := by
    rw [e]; show sn_b _ _ + (if 3 ≤ ri_at h' 128 (ri_at h 111 37).toNat then 1 else 0) = _; rw [h1, ex.1]
  have eu : sn_u (ri_at h' 128) (ri_at h' 111 37).toNat = sn_u (ri_at h 128) (ri_at h 111 37).toNat + (if v = 2 then 1 else 0) := by
    rw [e]; show sn_u _ _ + (if ri_at h' 128 (ri_at h 111 37).toNat = 2 then 1 else 0) = _; rw [h1, ex.2.1]
  have ep : sn_p (ri_at h' 128) (ri_at h' 111 37).toNat = sn_p (ri_at h 128) (ri_at h 111 37).toNat + (if v = 0 then 1 else 0) := by
    rw [e]; show sn_p _ _ + (if ri_at h' 128 (ri_at h 111 37).toNat = 0 then 1 else 0) = _; rw [h1, ex.2.2]
  refine ⟨by omega, fun i hi => ?_, ?_, ?_, ?_, ?_, hl⟩
  · by_cases q : i = (ri_at h 111 37).toNat
    · rw [q, h1]; exact hv
    · rw [h2 i (by omega)]; exact i1 i (by omega)
  · rw [eb, eu, ep]; rcases hv with rfl | rfl | hv
    · simp; omega
    · simp; omega
    · rw [if_pos hv.1, if_neg (by omega), if_neg (by omega)]; omega
  · rw [eb, hH]; omega
  · rw [eb, eu, hK, hC]; rcases hv with rfl | rfl | hv
    · simp; omega
    · simp; omega
    · rw [if_pos hv.1, if_neg (by omega), if_neg (by omega)]; omega
  · rw [ep, hB, i5]
/-- the top of what waits -/
theorem sn_top {h : cv_H} (hI : sn_I h) (hw : 1 ≤ ri_at h 111 37) : ∃ v, ri_at h 128 ((ri_at h 111 37).toNat - 1) = v ∧ (v = 0 ∨ v = 2 ∨ (3 ≤ v ∧ v ≤ 14)) ∧ sn_b (ri_at h 128) (ri_at h 111 37).toNat = sn_b (ri_at h 128) ((ri_at h 111 37).toNat - 1) + (if 3 ≤ v then 1 else 0) ∧ sn_u (ri_at h 128) (ri_at h 111 37).toNat = sn_u (ri_at h 128) ((ri_at h 111 37).toNat - 1) + (if v = 2 then 1 else 0) ∧ sn_p (ri_at h 128) (ri_at h 111 37).toNat = sn_p (ri_at h 128) ((ri_at h 111 37).toNat - 1) + (if v = 0 then 1 else 0) := by
  obtain ⟨n, hn⟩ : ∃ n, (ri_at h 111 37).toNat = n + 1 := ⟨(ri_at h 111 37).toNat - 1, by omega⟩
  rw [hn]
  exact ⟨_, rfl, hI.2.1 n (by omega), rfl, rfl, rfl⟩
/-- the top taken away, and what it bound made a knot -/
theorem sn_pop {h h' : cv_H} (hI : sn_I h) (hw : 1 ≤ ri_at h 111 37) (hw' : ri_at h' 111 37 = ri_at h 111 37 - 1) (h2 : ∀ i : Nat, (i : Int) < ri_at h' 111 37 → ri_at h' 128 i = ri_at h 128 i)
    (hH : ri_at h' 111 38 = ri_at h 111 38 - (if 3 ≤ ri_at h 128 ((ri_at h 111 37).toNat - 1) then 1 else 0)) (hN : ri_at h' 111 41 = ri_at h 111 41) (hC : ri_at h' 111 40 = ri_at h 111 40) (hB : ri_at h' 111 39 = ri_at h 111 39 - (if ri_at h 128 ((ri_at h 111 37).toNat - 1) = 0 then 1 else 0)) (hK : ri_at h' 111 19 = ri_at h 111 19 + (if ri_at h 128 ((ri_at h 111 37).toNat - 1) = 0 then 0 else 1)) : sn_I h' := by
  obtain ⟨v, hv, hvv, eb, eu, ep⟩ := sn_top hI hw
  rw [hv] at hH hB hK
  obtain ⟨i0, i1, i2, i3, i4, i5, i6⟩ := hI
  have e : (ri_at h' 111 37).toNat = (ri_at h 111 37).toNat - 1 := by omega
  have ex := sn_bx (f := ri_at h' 128) (g := ri_at h 128) ((ri_at h 111 37).toNat - 1) (fun i hi => h2 i (by omega))
  refine ⟨by omega, fun i hi => ?_, ?_, ?_, ?_, ?_, ?_⟩
  · rw [h2 i hi]; exact i1 i (by omega)
  · rw [e, ex.1, ex.2.1, ex.2.2]
    rcases hvv with rfl | rfl | hvv
    · simp at eb eu ep; omega
    · simp at eb eu ep; omega
    · rw [if_pos hvv.1] at eb; rw [if_neg (by omega)] at eu; rw [if_neg (by omega)] at ep; omega
  · rw [e, ex.1, hH, hN]
    rcases hvv with rfl | rfl | hvv
    · simp at eb ⊢; omega
    · simp at eb ⊢; omega
    · rw [if_pos hvv.1] at eb ⊢; omega
  · rw [e, ex.1, ex.2.1, hK, hC]
    rcases hvv with rfl | rfl | hvv
    · simp at eb eu ⊢; omega
    · simp at eb eu ⊢; omega
    · rw [if_pos hvv.1] at eb; rw [if_neg (by omega)] at eu; rw [if_neg (by omega)]; omega
  · rw [e, ex.2.2, hB]
    rcases hvv with rfl | rfl | hvv
    · simp at ep ⊢; omega
    · simp at ep ⊢; omega
    · rw [if_neg (by omega)] at ep ⊢; omega
  · rw [hH, hK]
    rcases hvv with rfl | rfl | hvv
    · simp; omega
    · simp; omega
    · rw [if_pos hvv.1, if_neg (by omega)]; omega
