/-! ===== what a text tells is in range ===== -/
theorem zo_P {α β : Type} {P : β → Prop} {S : (Int × Nat) ⊕ (α × Nat)} {f : α → Nat → β} {d : β} (hd : P d) (hf : ∀ v q, S = .inr (v, q) → P (f v q)) : P (zo S f d) := by
  cases S with
  | inl x => exact hd
  | inr x => obtain ⟨v, q⟩ := x; exact hf v q rfl
theorem zcr_64 {t : Nat → Int} {n : Nat} {cn : List Int} {cm p c q : Nat} (e : zcr t n cn cm p = .inr (c, q)) (h : cm < 64) (hc : cn.length ≤ 6) : c < 64 := by
  unfold zcr at e
  split at e
  · split at e
    · cases e
    · rename_i h1
      split at e
      · cases e
      · cases e
        rcases zfd_b (x := zw t n p) cn 0 with b | b
        · omega
        · exact bt_64 h (by omega)
  · cases e
theorem zhs_64 {t : Nat → Int} {n : Nat} {hh : Int} {cn : List Int} {w : Int} {cm p c q : Nat} (e : zhs t n hh cn w cm p = .inr (c, q)) (h : cm < 64) (hc : cn.length ≤ 6) : c < 64 := by
  unfold zhs at e
  by_cases c0 : w = 0
  · rw [if_pos c0] at e; obtain ⟨_, _, _, e⟩ := zb2_e e; cases e; exact h
  rw [if_neg c0] at e
  by_cases c1 : w = 1
  · rw [if_pos c1] at e; obtain ⟨_, _, _, e⟩ := zb2_e e; obtain ⟨_, _, _, e⟩ := zb2_e e; cases e; exact h
  rw [if_neg c1] at e
  by_cases c2 : w = 2
  · rw [if_pos c2] at e
    split at e
    · cases e; exact h
    · cases e
  rw [if_neg c2] at e
  by_cases c3 : w = 3
  · rw [if_pos c3] at e; obtain ⟨_, _, _, e⟩ := zb2_e e; cases e; exact h
  rw [if_neg c3] at e
  by_cases c4 : w = 4
  · rw [if_pos c4] at e; obtain ⟨_, _, _, e⟩ := zb2_e e; cases e; exact h
  rw [if_neg c4] at e
  by_cases c5 : w = 5
  · rw [if_pos c5] at e; obtain ⟨_, _, _, e⟩ := zb2_e e; cases e; exact h
  rw [if_neg c5] at e
  by_cases c6 : w = 6
  · rw [if_pos c6] at e; exact zcr_64 e h hc
  rw [if_neg c6] at e; obtain ⟨_, _, _, e⟩ := zb2_e e; cases e; exact h
theorem zpt_64 {t : Nat → Int} {n : Nat} {hh : Int} {cn : List Int} {m cm p c q : Nat} (e : zpt t n hh cn m cm p = .inr (c, q)) (h : cm < 64) (hc : cn.length ≤ 6) : c < 64 := by
  unfold zpt at e
  split at e
  · cases e
  · exact zhs_64 e h hc
theorem zgF_64 {t : Nat → Int} {n : Nat} {hh : Int} {cn : List Int} (hc : cn.length ≤ 6) : ∀ (u m cm p : Nat) (D : Nat → Int), cm < 64 → (zgF t n hh cn u m cm p D).2 < 64
  | 0, m, cm, p, D, a => a
  | u + 1, m, cm, p, D, a => by
    rw [zgF_s]
    by_cases c : zhw (zk t n p) (zw t n p) < 0
    · rw [if_pos c]; exact a
    rw [if_neg c]
    cases z : zpt t n hh cn m cm p with
    | inl x => exact a
    | inr x =>
      obtain ⟨v, q⟩ := x
      exact zgF_64 hc u _ v q _ (zpt_64 z a hc)
/-- the rises of a gate -/
def zTs (D : Nat → Int) : Prop := ∀ j, j < 9 → 0 ≤ D (16 + j) ∧ D (16 + j) ≤ 200
theorem zTs_U {D : Nat → Int} {i : Nat} {v : Int} (h : i < 16) (a : zTs D) : zTs (zgU D i v) := fun j hj => by rw [zgU_ne (by omega)]; exact a j hj
theorem zgB_S {a hh w : Int} : zTs (zgB a hh w) := fun j hj => by rw [zgB_h (by omega)]; omega
theorem zpW_S {t : Nat → Int} {n p : Nat} {hh w : Int} {D : Nat → Int} (A : zTs D) : zTs (zpW t n hh w p D) := by
  unfold zpW
  by_cases c0 : w = 0
  · rw [if_pos c0]
    exact zo_P (P := zTs) A (fun v1 q1 _ => zo_P (P := zTs) A (fun v2 q2 _ => zo_P (P := zTs) A (fun v3 q3 _ => zo_P (P := zTs) A (fun v4 q4 _ => zTs_U (by decide) (zTs_U (by decide) (zTs_U (by decide) (zTs_U (by decide) A)))))))
  rw [if_neg c0]
  by_cases c1 : w = 1
  · rw [if_pos c1]
    exact zo_P (P := zTs) A (fun v1 q1 _ => zo_P (P := zTs) A (fun v2 q2 _ => zTs_U (by decide) (zTs_U (by decide) A)))
  rw [if_neg c1]
  by_cases c2 : w = 2
  · rw [if_pos c2]; exact zTs_U (by decide) A
  rw [if_neg c2]
  by_cases c3 : w = 3
  · rw [if_pos c3]; exact zo_P (P := zTs) A (fun v1 q1 _ => zTs_U (by decide) (zTs_U (by decide) A))
  rw [if_neg c3]
  by_cases c4 : w = 4
  · rw [if_pos c4]; exact zo_P (P := zTs) A (fun v1 q1 _ => zTs_U (by decide) A)
  rw [if_neg c4]
  by_cases c5 : w = 5
  · rw [if_pos c5]
    refine zo_P (P := zTs) A (fun vs q1 e j hj => ?_)
    rw [if_pos (by omega), show 16 + j - 16 = j from by omega]
    exact zns_iv _ _ _ _ e j hj
  rw [if_neg c5]
  by_cases c6 : w = 6
  · rw [if_pos c6]; exact A
  rw [if_neg c6]
  exact zo_P (P := zTs) A (fun v1 q1 _ => zTs_U (by decide) A)
theorem zgF_S {t : Nat → Int} {n : Nat} {hh : Int} {cn : List Int} : ∀ (u m cm p : Nat) (D : Nat → Int), zTs D → zTs (zgF t n hh cn u m cm p D).1
  | 0, m, cm, p, D, a => a
  | u + 1, m, cm, p, D, a => by
    rw [zgF_s]
    by_cases c : zhw (zk t n p) (zw t n p) < 0
    · rw [if_pos c]; exact a
    rw [if_neg c]
    cases z : zpt t n hh cn m cm p with
    | inl x => exact a
    | inr x =>
      obtain ⟨v, q⟩ := x
      exact zgF_S u _ v q _ (zpW_S a)
theorem zfD_a2 {t : Nat → Int} {n : Nat} : ∀ (u : Nat) (st : List Int) (kn w m : Int) (p : Nat) (A B : List Int) (nm : Nat), (zfD t n u st kn w m p A nm).2 = (zfD t n u st kn w m p B nm).2
  | 0, _, _, _, _, _, _, _, _ => rfl
  | u + 1, st, kn, w, m, p, A, B, nm => by
    rw [zfD_s, zfD_s]
    by_cases c : zsk (zk t n p) (zw t n p) = 0 ∧ w = 0 ∧ zc0 st = 0
    · rw [if_pos c, if_pos c]
    · rw [if_neg c, if_neg c]
      by_cases c1 : w = 1
      · rw [if_pos c1, if_pos c1]
        rcases zSum (zlf t n st kn m p) with ⟨e, hS⟩ | ⟨v, q, hS⟩
        · rw [hS]; rfl
        · rw [zo_r hS, zo_r hS]; exact zfD_a2 u _ _ _ _ _ _ _ _
      · rw [if_neg c1, if_neg c1]
        rcases zSum (zsg t n st kn m p) with ⟨e, hS⟩ | ⟨v, q, hS⟩
        · rw [hS]; rfl
        · rw [zo_r hS, zo_r hS]; exact zfD_a2 u _ _ _ _ _ _ _ _
theorem zmo_w (k : Int) : 0 ≤ zmo k ∧ zmo k ≤ 9999 := by
  unfold zmo
  (repeat' split) <;> omega
def zDw (s : zSg) (d : zDt) : Prop := ∀ k, k < s.2.2.2.2.1.length → (1 ≤ (d.1 9).getD k 0 ∧ (d.1 9).getD k 0 ≤ 999) ∧ (0 ≤ (d.1 10).getD k 0 ∧ (d.1 10).getD k 0 ≤ 6) ∧ 0 ≤ (d.1 11).getD k 0 ∧ (d.1 11).getD k 0 ≤ zmo ((d.1 10).getD k 0)
def zDc (s : zSg) (d : zDt) : Prop := ∀ k, k < s.2.2.2.2.2.length → (1 ≤ (d.1 13).getD k 0 ∧ (d.1 13).getD k 0 ≤ 99) ∧ (0 ≤ (d.1 14).getD k 0 ∧ (d.1 14).getD k 0 ≤ 2) ∧ 0 ≤ (d.1 15).getD k 0 ∧ (d.1 15).getD k 0 ≤ 999
def zDg (d : zDt) : Prop := ∀ g, g < 4 → ∃ hh, (24 ≤ hh ∧ hh ≤ 72) ∧ zTd hh (d.2 (16 + g)) ∧ zTs (d.2 (16 + g)) ∧ 0 ≤ d.2 (16 + g) 14 ∧ d.2 (16 + g) 14 < 64
def zDn (d : zDt) : Prop := ∀ j, j < 12 → 1 ≤ d.2 1 j ∧ d.2 1 j ≤ 99
def zDl (s : zSg) (d : zDt) : Prop := ∀ j : Nat, j < 4 → s.2.1 (j : Int) = 1 → ∃ a b nm : Nat, d.2 3 j = a ∧ d.2 4 j = b ∧ d.2 5 j = nm ∧ a ≤ b ∧ b ≤ (d.1 2).length ∧ zcO (((d.1 2).drop a).take (b - a)) nm
/-- all that is told is in range -/
def zDR (s : zSg) (d : zDt) : Prop := (zWL s d ∧ s.2.2.2.1.length ≤ 4 ∧ s.2.2.2.2.1.length ≤ 6 ∧ s.2.2.2.2.2.length ≤ 6) ∧ zDw s d ∧ zDc s d ∧ zDg d ∧ zDn d ∧ zDl s d
theorem zTd_z : zTd 24 (fun j => z16.getD j 0) := by
  unfold zTd z16
  decide
theorem zDR_0 : zDR (0, (fun _ => 0), 0, [], [], []) zD0 := by
  refine ⟨⟨⟨⟨rfl, rfl, rfl⟩, rfl, rfl, rfl⟩, (by decide : (0 : Nat) ≤ 4), (by decide : (0 : Nat) ≤ 6), (by decide : (0 : Nat) ≤ 6)⟩, fun k hk => absurd hk (Nat.not_lt_zero k), fun k hk => absurd hk (Nat.not_lt_zero k), fun g hg => ?_, fun j hj => ⟨(by decide : (1 : Int) ≤ 50), (by decide : (50 : Int) ≤ 99)⟩, fun j hj ht => absurd ht (by simp)⟩
  have e : zD0.2 (16 + g) = fun j => z16.getD j 0 := funext (fun j => zD0_t (by omega))
  rw [e]
  exact ⟨24, by omega, zTd_z, fun j _ => by dsimp only; rw [z16_0]; omega, by decide, by decide⟩
section LN
variable {t : Nat → Int} {n p : Nat} {gt : Int} {lt : Int → Int} {kn : Int} {gl wl cl : List Int} {d : zDt}
theorem zDg_U {g : Nat} {F : Nat → Int} (a : zDg d) {X : Nat → List Int} (h : ∃ hh, (24 ≤ hh ∧ hh ≤ 72) ∧ zTd hh F ∧ zTs F ∧ 0 ≤ F 14 ∧ F 14 < 64) : zDg (X, zfU d.2 (16 + g) F) := by
  intro i hi
  show ∃ hh, (24 ≤ hh ∧ hh ≤ 72) ∧ zTd hh (zfU d.2 (16 + g) F (16 + i)) ∧ zTs (zfU d.2 (16 + g) F (16 + i)) ∧ 0 ≤ zfU d.2 (16 + g) F (16 + i) 14 ∧ zfU d.2 (16 + g) F (16 + i) 14 < 64
  by_cases c : i = g
  · rw [c, zfU_eq]; exact h
  · rw [zfU_ne (by omega)]; exact a i hi
theorem zDR_n {vs : List Int} (a : zDR (gt, lt, kn, gl, wl, cl) d) (h : ∀ j, j < 12 → 1 ≤ vs.getD j 0 ∧ vs.getD j 0 ≤ 99) : zDR (1, lt, kn, gl, wl, cl) (zdN d vs) := by
  obtain ⟨a1, a2, a3, a4, a5, a6⟩ := a
  refine ⟨a1, a2, a3, fun i hi => ?_, fun j hj => ?_, fun j hj ht => ?_⟩
  · have e : (zdN d vs).2 (16 + i) = d.2 (16 + i) := zfU_ne (by omega)
    rw [e]; exact a4 i hi
  · have e : (zdN d vs).2 1 = fun j => vs.getD j 0 := (show zfU d.2 1 (fun j => vs.getD j 0) 1 = _ from zfU_eq)
    rw [e]; exact h j hj
  · have e : ∀ o, o ≠ 1 → (zdN d vs).2 o = d.2 o := fun o ho => zfU_ne ho
    rw [e 3 (by decide), e 4 (by decide), e 5 (by decide)]
    exact a6 j hj ht
theorem zDR_w {c k v x : Int} (a : zDR (gt, lt, kn, gl, wl, cl) d) (h6 : wl.length < 6) (h : (1 ≤ c ∧ c ≤ 999) ∧ (0 ≤ k ∧ k ≤ 6) ∧ 0 ≤ v ∧ v ≤ zmo k) : zDR (gt, lt, kn, gl, wl ++ [x], cl) (zdW d c k v) := by
  obtain ⟨⟨⟨⟨w1, w2, w3⟩, w4⟩, l1, l2, l3⟩, a2, a3, a4, a5, a6⟩ := a
  dsimp only at w1 w2 w3 l1 l2 l3
  have eL : (wl ++ [x]).length = wl.length + 1 := by rw [List.length_append]; rfl
  refine ⟨⟨⟨⟨?_, ?_, ?_⟩, w4⟩, l1, (by show (wl ++ [x]).length ≤ 6; omega), l3⟩, fun j hj => ?_, a3, a4, a5, a6⟩
  · show (d.1 9 ++ [c]).length = (wl ++ [x]).length
    rw [List.length_append, List.length_append, w1]; rfl
  · show (d.1 10 ++ [k]).length = (wl ++ [x]).length
    rw [List.length_append, List.length_append, w2]; rfl
  · show (d.1 11 ++ [v]).length = (wl ++ [x]).length
    rw [List.length_append, List.length_append, w3]; rfl
  · have hj' : j < wl.length + 1 := by
      have : j < (wl ++ [x]).length := hj
      omega
    show (1 ≤ (d.1 9 ++ [c]).getD j 0 ∧ (d.1 9 ++ [c]).getD j 0 ≤ 999) ∧ (0 ≤ (d.1 10 ++ [k]).getD j 0 ∧ (d.1 10 ++ [k]).getD j 0 ≤ 6) ∧ 0 ≤ (d.1 11 ++ [v]).getD j 0 ∧ (d.1 11 ++ [v]).getD j 0 ≤ zmo ((d.1 10 ++ [k]).getD j 0)
    rw [getD_app (by omega), getD_app (by omega), getD_app (by omega), w1, w2, w3]
    by_cases q : j = wl.length
    · rw [if_pos q, if_pos q, if_pos q]; exact h
    · rw [if_neg q, if_neg q, if_neg q]; exact a2 j (by show j < wl.length; omega)
theorem zDR_c {c k v x : Int} (a : zDR (gt, lt, kn, gl, wl, cl) d) (h6 : cl.length < 6) (h : (1 ≤ c ∧ c ≤ 99) ∧ (0 ≤ k ∧ k ≤ 2) ∧ 0 ≤ v ∧ v ≤ 999) : zDR (gt, lt, kn, gl, wl, cl ++ [x]) (zdC d c k v) := by
  obtain ⟨⟨⟨w0, w1, w2, w3⟩, l1, l2, l3⟩, a2, a3, a4, a5, a6⟩ := a
  dsimp only at w1 w2 w3 l1 l2 l3
  have eL : (cl ++ [x]).length = cl.length + 1 := by rw [List.length_append]; rfl
  refine ⟨⟨⟨w0, ?_, ?_, ?_⟩, l1, l2, (by show (cl ++ [x]).length ≤ 6; omega)⟩, a2, fun j hj => ?_, a4, a5, a6⟩
  · show (d.1 13 ++ [c]).length = (cl ++ [x]).length
    rw [List.length_append, List.length_append, w1]; rfl
  · show (d.1 14 ++ [k]).length = (cl ++ [x]).length
    rw [List.length_append, List.length_append, w2]; rfl
  · show (d.1 15 ++ [v]).length = (cl ++ [x]).length
    rw [List.length_append, List.length_append, w3]; rfl
  · have hj' : j < cl.length + 1 := by
      have : j < (cl ++ [x]).length := hj
      omega
    show (1 ≤ (d.1 13 ++ [c]).getD j 0 ∧ (d.1 13 ++ [c]).getD j 0 ≤ 99) ∧ (0 ≤ (d.1 14 ++ [k]).getD j 0 ∧ (d.1 14 ++ [k]).getD j 0 ≤ 2) ∧ 0 ≤ (d.1 15 ++ [v]).getD j 0 ∧ (d.1 15 ++ [v]).getD j 0 ≤ 999
    rw [getD_app (by omega), getD_app (by omega), getD_app (by omega), w1, w2, w3]
    by_cases q : j = cl.length
    · rw [if_pos q, if_pos q, if_pos q]; exact h
    · rw [if_neg q, if_neg q, if_neg q]; exact a3 j (by show j < cl.length; omega)
theorem zDR_g {x : Int} {R : (Nat → Int) × Nat} {hh : Int} (a : zDR (gt, lt, kn, gl, wl, cl) d) (h4 : gl.length < 4) (h1 : 24 ≤ hh ∧ hh ≤ 72) (h2 : zTd hh R.1) (h3 : zTs R.1) (h5 : R.2 < 64) : zDR (gt, lt, kn, gl ++ [x], wl, cl) (zdG d gl.length R) := by
  obtain ⟨⟨w0, l1, l2, l3⟩, a2, a3, a4, a5, a6⟩ := a
  dsimp only at l1 l2 l3
  have eL : (gl ++ [x]).length = gl.length + 1 := by rw [List.length_append]; rfl
  refine ⟨⟨w0, (by show (gl ++ [x]).length ≤ 4; omega), l2, l3⟩, a2, a3, zDg_U a4 ⟨hh, h1, h2, fun j hj => ?_, ?_, ?_⟩, fun j hj => ?_, fun j hj ht => ?_⟩
  · dsimp only; rw [if_neg (by omega)]; exact h3 j hj
  · show (0 : Int) ≤ ((R.2 : Nat) : Int); omega
  · show ((R.2 : Nat) : Int) < 64; omega
  · have e : (zdG d gl.length R).2 1 = d.2 1 := zfU_ne (by omega)
    rw [e]; exact a5 j hj
  · have e : ∀ o, o < 16 → (zdG d gl.length R).2 o = d.2 o := fun o ho => zfU_ne (by omega)
    rw [e 3 (by decide), e 4 (by decide), e 5 (by decide)]
    exact a6 j hj ht
theorem zDR_l {k' : Int} {J : Nat} {R : List Int × Nat} {C : List Int} (a : zDR (gt, lt, kn, gl, wl, cl) d) (eC : R.1 = d.1 2 ++ C) (hO : zcO C R.2) : zDR (gt, (fun i => if i = (J : Int) then 1 else lt i), k', gl, wl, cl) (zdL d J R) := by
  obtain ⟨a1, a2, a3, a4, a5, a6⟩ := a
  refine ⟨a1, a2, a3, fun i hi => ?_, fun j hj => ?_, fun j hj ht => ?_⟩
  · have g : (zdL d J R).2 (16 + i) = d.2 (16 + i) := (zfU_ne (by omega)).trans ((zfU_ne (by omega)).trans (zfU_ne (by omega)))
    rw [g]; exact a4 i hi
  · have g : (zdL d J R).2 1 = d.2 1 := by
      show zfU (zfU (zfU d.2 3 (zfU (d.2 3) J ((d.1 2).length : Int))) 4 (zfU (d.2 4) J (R.1.length : Int))) 5 (zfU (d.2 5) J ((R.2 : Nat) : Int)) 1 = d.2 1
      rw [zfU_ne (by decide), zfU_ne (by decide), zfU_ne (by decide)]
    rw [g]; exact a5 j hj
  · show ∃ a b nm : Nat, zfU (d.2 3) J ((d.1 2).length : Int) j = a ∧ zfU (d.2 4) J (R.1.length : Int) j = b ∧ zfU (d.2 5) J ((R.2 : Nat) : Int) j = nm ∧ a ≤ b ∧ b ≤ R.1.length ∧ zcO ((R.1.drop a).take (b - a)) nm
    by_cases q : j = J
    · subst q
      rw [zfU_eq, zfU_eq, zfU_eq]
      refine ⟨(d.1 2).length, R.1.length, R.2, rfl, rfl, rfl, by rw [eC, List.length_append]; omega, Nat.le_refl _, ?_⟩
      rw [eC, List.drop_left, List.length_append, Nat.add_sub_cancel_left, List.take_length]
      exact hO
    · rw [zfU_ne q, zfU_ne q, zfU_ne q]
      have ht' : lt (j : Int) = 1 := by
        have : (if (j : Int) = (J : Int) then 1 else lt (j : Int)) = 1 := ht
        rwa [if_neg (by omega)] at this
      obtain ⟨x, y, nm, c1, c2, c3, c4, c5, c6⟩ := a6 j hj ht'
      refine ⟨x, y, nm, c1, c2, c3, c4, by rw [eC, List.length_append]; omega, ?_⟩
      have e2 : (R.1.drop x).take (y - x) = ((d.1 2).drop x).take (y - x) := by
        rw [eC, List.drop_append_of_le_length (by omega), List.take_append_of_le_length (by rw [List.length_drop]; omega)]
      rw [e2]
      exact c6
theorem zlD_R {s s' : zSg} {q : Nat} (hn9 : n ≤ 900) (hp : p ≤ n) (hw5 : ∀ p, p ≤ n → zk t n p = 5 → 0 ≤ zw t n p ∧ zw t n p ≤ 5) (e : zln t n s p = .inr (s', q)) (a : zDR s d) : zDR s' (zlD t n s p d) := by
  obtain ⟨gt, lt, kn, gl, wl, cl⟩ := s
  unfold zln at e
  split at e
  · rename_i hk
    obtain ⟨s1, q1, e1, e2⟩ := zb2_e e
    split at e2
    · cases e2
      clear e
      unfold zl0 at e1
      by_cases c0 : zw t n p = 0
      · rw [if_pos c0] at e1
        obtain ⟨vs, q2, e3, e4⟩ := zb2_e e1
        cases e4
        rw [zlD_0 c0 e3]
        unfold zgl at e3
        split at e3
        · exact zDR_n a (zns_iv _ _ _ _ e3)
        · cases e3
      rw [if_neg c0] at e1
      by_cases c1 : zw t n p = 1
      · rw [if_pos c1] at e1
        obtain ⟨v, q2, e3, e4⟩ := zb2_e e1
        cases e4
        rw [zlD_1 c1]
        obtain ⟨⟨i1, i2, i3⟩, i4⟩ := zll_i e3
        unfold zll at e3
        rw [if_pos ⟨i1, i2, i3⟩] at e3
        split at e3
        · obtain ⟨k, q3, e5, e6⟩ := zb2_e e3
          have hz := zcO_f (t := t) (n := n) (fun p hp hk => (zw_1 hp hk).2) (fun p hp hk => (zw_3 hp hk).1) hw5 901 [] kn 1 1 (zx t n (zx t n p)) [] 0 k q3 (by omega) (zx_le (zx_le hp)) e5 trivial zcO_0
          have eC : (zfD t n 901 [] kn 1 1 (zx t n (zx t n p)) (d.1 2) 0).1 = d.1 2 ++ (zfD t n 901 [] kn 1 1 (zx t n (zx t n p)) [] 0).1 := by
            have := zfD_ap (t := t) (n := n) 901 [] kn 1 1 (zx t n (zx t n p)) (d.1 2) [] 0
            rwa [List.append_nil] at this
          have eN : (zfD t n 901 [] kn 1 1 (zx t n (zx t n p)) (d.1 2) 0).2 = (zfD t n 901 [] kn 1 1 (zx t n (zx t n p)) [] 0).2 := zfD_a2 ..
          have hJ : v.1 = ((zw t n (zx t n p) - 5).toNat : Int) := by omega
          rw [hJ]
          exact zDR_l a eC (by rw [eN]; exact hz)
        · cases e3
      rw [if_neg c1] at e1
      by_cases c2 : zw t n p = 2
      · rw [if_pos c2] at e1
        obtain ⟨v, q2, e3, e4⟩ := zb2_e e1
        cases e4
        rw [zlD_2 c2]
        obtain ⟨h4, p1, A, p2, hh, p3, w, p4, v0, z1, z2, z3, z4, z5⟩ := zgt_i e3
        unfold zgD
        rw [zo_r z1, zo_r z2, zo_r z3, zo_r z4]
        have l4 := a.1.2.1
        have l6 := a.1.2.2.2
        dsimp only at h4 l4 l6
        exact zDR_g a (show gl.length < 4 from by omega) (zn_iv z3) (zgF_R _ _ _ _ _ (zgB_R (zn_iv z2) (zn_iv z3) (zn_iv z4))) (zgF_S _ _ _ _ _ zgB_S) (zgF_64 l6 _ _ _ _ _ (by decide))
      rw [if_neg c2] at e1
      by_cases c3 : zw t n p = 3
      · rw [if_pos c3] at e1
        obtain ⟨v, q2, e3, e4⟩ := zb2_e e1
        cases e4
        rw [zlD_3 c3]
        obtain ⟨h6, p1, c, p2, z1, z2, z3, z4⟩ := zwl_i e3
        have l6 := a.1.2.2.1
        dsimp only at h6 l6
        have kb := zwk_b (k := zk t n p2) (w := zw t n p2)
        unfold zwD
        rw [zo_r z1, zo_r z2]
        rcases z4 with ⟨y1, x, y2⟩ | ⟨y1, y2⟩
        · rw [if_pos y1, zo_r y2]
          exact zDR_w a (show wl.length < 6 from by omega) ⟨zn_iv z2, ⟨z3, kb.2⟩, zn_iv y2⟩
        · rw [if_neg (by omega)]
          exact zDR_w a (show wl.length < 6 from by omega) ⟨zn_iv z2, ⟨z3, kb.2⟩, by decide, (zmo_w _).1⟩
      rw [if_neg c3] at e1
      obtain ⟨v, q2, e3, e4⟩ := zb2_e e1
      cases e4
      have z0 := (zw_1 hp hk.1).1
      rw [zlD_4 (by omega)]
      obtain ⟨h6, p1, c, p2, x, z1, z2, z3, z4⟩ := zcl_i e3
      have l6 := a.1.2.2.2
      dsimp only at h6 l6
      unfold zcD
      rw [zo_r z1, zo_r z2, zo_r z4]
      have r := zn_iv z4
      exact zDR_c a (show cl.length < 6 from by omega) ⟨zn_iv z2, by omega, by omega⟩
    · cases e2
  · cases e
theorem ztD_R (hn9 : n ≤ 900) (hw5 : ∀ p, p ≤ n → zk t n p = 5 → 0 ≤ zw t n p ∧ zw t n p ≤ 5) : ∀ (u : Nat) (k : Int) (s : zSg) (p : Nat) (d : zDt) (s' : zSg) (k' : Int), p ≤ n → ztx t n u k s p = .inr (s', k') → zDR s d → n - p < u → zDR s' (ztD t n u s p d)
  | 0, k, s, p, d, s', k', hp, e, a, hu => by omega
  | u + 1, k, s, p, d, s', k', hp, e, a, hu => by
    rw [ztx_s] at e
    by_cases c : zk t n p = 0
    · rw [if_pos c] at e
      cases e
      rw [ztD, if_pos c]
      exact a
    · rw [if_neg c] at e
      obtain ⟨s1, q, e1, e2⟩ := zb2_e e
      have g := zln_ge hp e1
      rw [ztD_s c e1]
      exact ztD_R hn9 hw5 u _ _ _ _ _ _ g.2 e2 (zlD_R hn9 hp hw5 e1 a) (by omega)
end LN
