/-! ===== a method that the check passes keeps its contract ===== -/
def cw_cp (vl : cw_U → Option cv_V) (c : Nat × cw_U × Nat) : Nat := match c.1 with
  | 0 => min c.2.2 1000
  | 1 => (match vl c.2.1 with
    | some (.inl x) => (2147483648 - x.toInt).toNat
    | _ => 0)
  | _ => (match vl c.2.1 with
    | some (.inl x) => (x.toInt + 2147483648).toNat
    | _ => 0)
def cw_ms (vl : cw_U → Option cv_V) : List (Nat × cw_U × Nat) → Nat
  | [] => 0
  | c :: l => cw_cp vl c * 8589934592 ^ l.length + cw_ms vl l
section CWV
variable {F : cv_F} {mt : Nat → cv_M} {Ds : List cw_D} {sh : List Nat} {G : Int} {P : cv_H → Prop} {dp : Nat} {v0 : cw_U → Option cv_V} {X : cv_X} {pc mi : Nat} {e : cw_E} {z : cw_Z} {r : cw_R} {L : cv_L} {st : List cv_V} {h : cv_H} {K : cw_K}
theorem cw_cp_lt (vl : cw_U → Option cv_V) (c : Nat × cw_U × Nat) : cw_cp vl c < 8589934592 := by
  unfold cw_cp
  split
  · omega
  · split
    · rename_i x _; have := cw_i32 x; omega
    · omega
  · split
    · rename_i x _; have := cw_i32 x; omega
    · omega
theorem cw_ms_lt (vl : cw_U → Option cv_V) : ∀ l, cw_ms vl l < 8589934592 ^ l.length
  | [] => by show 0 < 1; omega
  | c :: l => by
    have h1 := cw_ms_lt vl l
    have h2 := cw_cp_lt vl c
    show cw_cp vl c * 8589934592 ^ l.length + cw_ms vl l < 8589934592 ^ (l.length + 1)
    rw [Nat.pow_succ]
    have h3 : (cw_cp vl c + 1) * 8589934592 ^ l.length ≤ 8589934592 * 8589934592 ^ l.length := Nat.mul_le_mul_right _ h2
    rw [Nat.add_mul, Nat.one_mul] at h3
    rw [Nat.mul_comm (8589934592 ^ l.length)]
    omega
theorem cw_ms_step {vl v0 : cw_U → Option cv_V} {c d : Nat × cw_U × Nat} {l m : List (Nat × cw_U × Nat)} (hl : l.length = m.length) (h : cw_cp vl d < cw_cp v0 c ∨ (cw_cp vl d = cw_cp v0 c ∧ cw_ms vl m < cw_ms v0 l)) : cw_ms vl (d :: m) < cw_ms v0 (c :: l) := by
  show cw_cp vl d * 8589934592 ^ m.length + cw_ms vl m < cw_cp v0 c * 8589934592 ^ l.length + cw_ms v0 l
  rw [hl]
  rcases h with h | ⟨h1, h2⟩
  · have h3 := cw_ms_lt vl m
    have h4 : (cw_cp vl d + 1) * 8589934592 ^ m.length ≤ cw_cp v0 c * 8589934592 ^ m.length := Nat.mul_le_mul_right _ h
    rw [Nat.add_mul, Nat.one_mul] at h4
    omega
  · rw [h1]
    omega
theorem cw_t1 (a b : Int) (ha : -2147483648 ≤ a ∧ a ≤ 2147483647) (hb : -2147483648 ≤ b ∧ b ≤ 2147483647) (h : b < a) : (2147483648 - a).toNat < (2147483648 - b).toNat := by omega
theorem cw_t2 (a b : Int) (h : a = b) : (2147483648 - a).toNat = (2147483648 - b).toNat := by rw [h]
theorem cw_t3 (a b : Int) (ha : -2147483648 ≤ a ∧ a ≤ 2147483647) (hb : -2147483648 ≤ b ∧ b ≤ 2147483647) (h : a < b) : (a + 2147483648).toNat < (b + 2147483648).toNat := by omega
theorem cw_t4 (a b : Int) (h : a = b) : (a + 2147483648).toNat = (b + 2147483648).toNat := by rw [h]
theorem cw_dec_ok {vl : cw_U → Option cv_V} (hE : cw_Er G sh v0 e vl) : ∀ {l m : List (Nat × cw_U × Nat)}, l.length = m.length → cw_dec e l m = true → cw_ms vl m < cw_ms v0 l
  | [], m, _, h => by cases h
  | c :: l, [], _, h => by obtain ⟨_ | _ | _ | k, u, a⟩ := c <;> cases h
  | ⟨k, u, a⟩ :: l, ⟨k', v, b⟩ :: m, hl, h => by
    have hl' : l.length = m.length := by simpa using hl
    have key : ∀ d : Int, (∃ w, cw_get e u = some (.inl w, some d)) → ∃ x0 x : Int32, v0 u = some (cv_i x0) ∧ vl u = some (cv_i x) ∧ x.toInt = x0.toInt + d := by
      intro d ⟨w, hg⟩
      obtain ⟨y, g1, ⟨x, rfl, -⟩, g3⟩ := cw_get_ok hE hg
      obtain ⟨w0, k1, k2⟩ := g3 d rfl
      rcases k2 with ⟨rfl, rfl⟩ | ⟨x0, x', rfl, e1, e2⟩
      · exact ⟨x, x, k1, g1, by omega⟩
      · cases e1; exact ⟨x0, x, k1, g1, e2⟩
    match k, k', h with
    | 0, 0, h =>
      have g : ((Nat.ble (b + 1) a && Nat.ble a 1000) || (a == b && cw_dec e l m)) = true := h
      simp only [Bool.or_eq_true, Bool.and_eq_true, Nat.ble_eq, beq_iff_eq] at g
      clear h
      refine cw_ms_step hl' ?_
      show min b 1000 < min a 1000 ∨ (min b 1000 = min a 1000 ∧ _)
      rcases g with g | ⟨g0, g⟩
      · left; omega
      · exact .inr ⟨by rw [g0], cw_dec_ok hE hl' g⟩
    | 1, 1, h =>
      have g : (cw_ueq u v && (match cw_get e u with
        | some (.inl _, some d) => cw_le 1 d || (decide (d = 0) && cw_dec e l m)
        | _ => false)) = true := h
      clear h
      rw [Bool.and_eq_true, cw_ueq_iff] at g
      obtain ⟨g0, g⟩ := g
      subst g0
      split at g
      · rename_i w d hg
        obtain ⟨x0, x, g1, g2, g3⟩ := key d ⟨w, hg⟩
        refine cw_ms_step hl' ?_
        show (match vl u with
          | some (.inl x) => (2147483648 - x.toInt).toNat
          | _ => 0) < (match v0 u with
          | some (.inl x) => (2147483648 - x.toInt).toNat
          | _ => 0) ∨ ((match vl u with
          | some (.inl x) => (2147483648 - x.toInt).toNat
          | _ => 0) = (match v0 u with
          | some (.inl x) => (2147483648 - x.toInt).toNat
          | _ => 0) ∧ _)
        rw [g1, g2]
        have i1 := cw_i32 x
        have i2 := cw_i32 x0
        simp only [Bool.or_eq_true, Bool.and_eq_true, cw_le_iff, decide_eq_true_eq] at g
        rcases g with h | ⟨h, h'⟩
        · exact .inl (cw_t1 _ _ i1 i2 (by omega))
        · exact .inr ⟨cw_t2 _ _ (by omega), cw_dec_ok hE hl' h'⟩
      · cases g
    | 2, 2, h =>
      have g : (cw_ueq u v && (match cw_get e u with
        | some (.inl _, some d) => cw_le d (-1) || (decide (d = 0) && cw_dec e l m)
        | _ => false)) = true := h
      clear h
      rw [Bool.and_eq_true, cw_ueq_iff] at g
      obtain ⟨g0, g⟩ := g
      subst g0
      split at g
      · rename_i w d hg
        obtain ⟨x0, x, g1, g2, g3⟩ := key d ⟨w, hg⟩
        refine cw_ms_step hl' ?_
        show (match vl u with
          | some (.inl x) => (x.toInt + 2147483648).toNat
          | _ => 0) < (match v0 u with
          | some (.inl x) => (x.toInt + 2147483648).toNat
          | _ => 0) ∨ ((match vl u with
          | some (.inl x) => (x.toInt + 2147483648).toNat
          | _ => 0) = (match v0 u with
          | some (.inl x) => (x.toInt + 2147483648).toNat
          | _ => 0) ∧ _)
        rw [g1, g2]
        have i1 := cw_i32 x
        have i2 := cw_i32 x0
        simp only [Bool.or_eq_true, Bool.and_eq_true, cw_le_iff, decide_eq_true_eq] at g
        rcases g with h | ⟨h, h'⟩
        · exact .inl (cw_t3 _ _ i1 i2 (by omega))
        · exact .inr ⟨cw_t4 _ _ (by omega), cw_dec_ok hE hl' h'⟩
      · cases g
    | 0, k' + 1, h => cases h
    | 1, 0, h => cases h
    | 1, k' + 2, h => cases h
    | 2, 0, h => cases h
    | 2, 1, h => cases h
    | 2, k' + 3, h => cases h
    | k + 3, k', h => cases h
def cw_co (G : Int) (sh : List Nat) (c : List (cw_U × cw_A)) (vl : cw_U → Option cv_V) : Prop := ∀ t ∈ c, ∃ v, vl t.1 = some v ∧ cw_ga G sh t.2 v
theorem cw_incl_ok {c : List (cw_U × cw_A)} (hI : cw_Inv Ds sh G P h) (hE : cw_Er G sh v0 e (cw_val L h)) (hc : cw_incl Ds e c = true) : cw_co G sh c (cw_val L h) := by
  intro t ht
  have h1 := List.all_eq_true.mp hc t ht
  split at h1
  · rename_i a o hg
    obtain ⟨v, g1, g2, -⟩ := cw_get_ok hE hg
    exact ⟨v, g1, cw_sub_ok h1 g2⟩
  · simp only [Bool.and_eq_true, Nat.ble_eq] at h1
    obtain ⟨h1, h2, h3⟩ := h1
    split at h3
    · rename_i d o hg
      rw [Bool.and_eq_true] at h3
      obtain ⟨h4, h3⟩ := h3
      split at h3
      · rename_i ci fs hD
        split at h3
        · rename_i a hf
          obtain ⟨v, g1, g2, -⟩ := cw_get_ok hE hg
          have g1 : cv_get L t.1.1 = some v := g1
          obtain ⟨k, rfl, hk⟩ : ∃ k, v = cv_r k ∧ sh[k]? = some d := by
            rcases g2 with ⟨-, k, h1, h2⟩ | ⟨j, h1, -⟩
            · exact ⟨k, h1, h2⟩
            · have := Nat.le_of_ble_eq_true h4; omega
          obtain ⟨vs, hv1, -, hv3⟩ := cw_cell_o hD (hI.1 k d hk)
          obtain ⟨v, e1, e2⟩ := hv3 _ _ hf
          refine ⟨v, ?_, cw_sub_ok h3 e2⟩
          unfold cw_val
          have q0 : (t.1.2 == 0) = false := by simp; omega
          rw [q0, cond_false, Nat.ble_eq_true_of_le h2, cond_true, g1, cw_fld_at hv1]
          exact e1
        · cases h3
      · cases h3
    · cases h3
theorem cw_sorted_lt : ∀ {a : cv_Q} {l : List cv_Q}, cw_sorted (a :: l) = true → (∀ x ∈ l, a.1 < x.1) ∧ cw_sorted l = true
  | a, [], _ => ⟨fun x h => absurd h List.not_mem_nil, rfl⟩
  | a, b :: l, h => by
    have h : (Nat.ble (a.1 + 1) b.1 && cw_sorted (b :: l)) = true := h
    rw [Bool.and_eq_true, Nat.ble_eq] at h
    have ih := cw_sorted_lt h.2
    refine ⟨fun x hx => ?_, h.2⟩
    rcases List.mem_cons.mp hx with rfl | hx
    · omega
    · have := ih.1 x hx; omega
theorem cw_op_of : ∀ {full l : List cv_Q} {q : cv_Q}, cw_sorted full = true → (q :: l) <:+ full → full.find? (fun x => x.1 == q.1) = some q
  | [], l, q, _, h => by obtain ⟨p, hp⟩ := h; simp at hp
  | a :: full, l, q, hs, h => by
    rcases List.suffix_cons_iff.mp h with h | h
    · cases h
      exact List.find?_cons_of_pos (by simp)
    · have hs' := cw_sorted_lt hs
      have hm : q ∈ full := h.subset List.mem_cons_self
      have := hs'.1 q hm
      rw [List.find?_cons_of_neg (by simp; omega)]
      exact cw_op_of hs'.2 h
theorem cw_ret_ok {M : cv_M} {q : cv_Q} {av : List cv_V} {h0 : cv_H} (hr : cw_ret M K q e z = true) (hrel : K.2.2.2.2.1 = []) (hv0 : ∀ t ∈ K.2.2.2.1, ∀ v, v0 (t.1, 0) = some v → av[t.1]? = some v) (hS : cw_St Ds sh G P v0 e z L st h) (hF : cw_Fr Ds sh K.2.2.2.2.2.1 h0 h) : ∃ rv, cv_ret M q (pc, L, st, h, 0, 0) = some rv ∧ cw_Po Ds sh G P K av h0 (rv, h) := by
  have hb : (decide (0 ≤ M.2.2.1) && decide (0 ≤ M.2.2.2.1)) = true := by simp
  obtain ⟨hE, hZ, hI⟩ := hS
  unfold cw_ret at hr
  split at hr
  · rename_i w p b hi hM hK
    rw [Bool.and_eq_true] at hr
    match st, hZ with
    | [v], ⟨⟨⟨x, hx, hw⟩, hp⟩, _⟩ =>
    subst hx
    refine ⟨some (cv_i x), ?_, ?_, hI, hF, fun y _ _ => ⟨fun t ht => ?_, fun t ht => ?_⟩⟩
    · unfold cv_ret
      dsimp only
      rw [hb, cond_true, hi, hM]
    · rw [hK]; exact cw_sub_ok hr.1 ⟨x, rfl, hw⟩
    · rw [List.isEmpty_iff.mp hr.2] at ht; exact absurd ht List.not_mem_nil
    · rw [hrel] at ht; exact absurd ht List.not_mem_nil
  · rename_i w p b hi hM hK
    simp only [Bool.and_eq_true, cw_le_iff] at hr
    obtain ⟨r1, r2, r3, r4⟩ := hr
    match st, hZ with
    | [v], ⟨⟨⟨x, hx, hw⟩, hp⟩, _⟩ =>
    subst hx
    have hx01 : x = 0 ∨ x = 1 := by
      have := hw.1; have := hw.2.1
      have : x.toInt = 0 ∨ x.toInt = 1 := by omega
      rcases this with q | q
      · exact .inl (Int32.toInt_inj.mp (by rw [q]; rfl))
      · exact .inr (Int32.toInt_inj.mp (by rw [q]; rfl))
    refine ⟨some (cv_i x), ?_, ?_, hI, hF, fun y hy hy0 => ⟨fun t ht => ?_, fun t ht => ?_⟩⟩
    · unfold cv_ret
      dsimp only
      rw [hb, cond_true, hi, hM]
      dsimp only
      have : (decide (x = 0) || decide (x = 1)) = true := by simpa using hx01
      rw [this]
      rfl
    · rw [hK]; exact cw_sub_ok r1 ⟨x, rfl, hw⟩
    · cases hy
      rw [Bool.or_eq_true, cw_le_iff] at r4
      rcases r4 with r4 | r4
      · have := hw.1; have := hw.2.1; omega
      · have ht1 := List.all_eq_true.mp r4 t ht
        unfold cw_thn at ht1
        split at ht1
        · rename_i a o hg
          rw [Bool.and_eq_true] at ht1
          obtain ⟨t1, t2⟩ := ht1
          obtain ⟨v, g1, g2, g3⟩ := cw_get_ok hE hg
          split at t1
          · rename_i d
            simp only [decide_eq_true_eq] at t1
            subst t1
            obtain ⟨w0, k1, k2⟩ := g3 0 rfl
            have k2 := cw_eqd_0 k2
            subst k2
            refine ⟨w0, hv0 t ht w0 k1, ?_⟩
            rw [Bool.or_eq_true] at t2
            rcases t2 with t2 | t2
            · exact cw_sub_ok t2 g2
            · split at t2
              · rename_i l
                rw [List.any_eq_true] at t2
                obtain ⟨q', hq', hq2⟩ := t2
                rw [Bool.and_eq_true, cw_ueq_iff] at hq2
                obtain ⟨w', m1, m2⟩ := hp x rfl hy0 q' hq'
                rw [hq2.1, g1] at m1
                cases m1
                exact cw_sub_ok hq2.2 m2
              · cases t2
          · cases t1
        · cases ht1
    · rw [hrel] at ht; exact absurd ht List.not_mem_nil
  · rename_i w p b hi hM hK
    rw [Bool.and_eq_true] at hr
    match st, hZ with
    | [v], ⟨⟨⟨x, hx, hw⟩, hp⟩, _⟩ =>
    subst hx
    refine ⟨some (cv_l x), ?_, ?_, hI, hF, fun y hy _ => by cases hy⟩
    · unfold cv_ret
      dsimp only
      rw [hb, cond_true, hi, hM]
    · rw [hK]; exact cw_sub_ok hr.1 ⟨x, rfl, hw⟩
  · rename_i hi hM hK
    match st, hZ with
    | [], _ =>
    refine ⟨none, ?_, ?_, hI, hF, fun y hy _ => by cases hy⟩
    · unfold cv_ret
      dsimp only
      rw [hb, cond_true, hi, hM]
    · rw [hK]; exact trivial
  · cases hr
end CWV
