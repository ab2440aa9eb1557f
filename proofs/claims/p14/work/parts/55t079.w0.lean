/-! ===== pure: laws are well made; names and codes of a formula ===== -/
theorem zdp_K {h : cv_H} {o : Nat} : ∀ {cs : List Int} {i : Nat} {S : List Int}, zKN h o i S cs → zdp S.length cs
  | [], _, _, _ => trivial
  | c :: cs, i, S, q => by
    have e := zdp_K q.2
    have l := q.1.2
    rw [List.length_cons, List.length_drop] at e
    refine ⟨l, ?_⟩
    rw [show S.length + 1 - zka c = S.length - zka c + 1 from by omega]
    exact e
theorem zev_K {N : Nat → Int} : ∀ {cs : List Int} {i : Nat} {I S S' : List Int}, zdp I.length cs → S.length = I.length → zev N cs S = some S' → S'.length = (zkS i I cs).length
  | [], i, I, S, S', _, e, h => by
    cases h
    exact e
  | c :: cs, i, I, S, S', d, e, h => by
    cases q : zE1 N c S with
    | none => rw [zev_n q] at h; cases h
    | some S1 =>
      rw [zev_s q] at h
      have l1 := (zE1_l q).1
      have d1 := d.1
      have dl : ((i : Int) :: I.drop (zka c)).length = I.length + 1 - zka c := by
        rw [List.length_cons, List.length_drop]
        omega
      exact zev_K (i := i + 1) (I := (i : Int) :: I.drop (zka c)) (by rw [dl]; exact d.2) (by rw [dl]; omega) h
/-- a code that stands in a formula -/
def zcR (c : Int) : Prop := 0 ≤ c ∧ c ≤ 20012 ∧ (c < 10010 ∨ 20000 ≤ c)
theorem zWf_K {h : cv_H} {o a : Nat} {cs : List Int} (k : zKN h o a [] cs) (l : (zkS a [] cs).length = 1) (hc : ∀ c, c ∈ cs → zcR c) : zWf cs := by
  have d := zdp_K k
  refine ⟨?_, hc, d, fun N S e => (zev_K (i := a) (I := []) d rfl e).trans l⟩
  cases cs with
  | nil => exact absurd l (by simp [zkS])
  | cons c cs => rw [List.length_cons]; omega
/-- codes and the names that they use -/
def zcO (cl : List Int) (nm : Nat) : Prop := (∀ c, c ∈ cl → zcR c) ∧ nm < 1024 ∧ ∀ j, j < 10 → zNu cl j → nm.testBit j = true
theorem zcO_0 : zcO [] 0 := ⟨fun c h => absurd h (by simp), by decide, fun j _ h => absurd (show (10000 + (j : Int)) ∈ ([] : List Int) from h) (by simp)⟩
theorem zcO_a {cl : List Int} {nm nm' : Nat} {c : Int} (a : zcO cl nm) (hc : zcR c) (hn : nm' < 1024) (h1 : ∀ j, nm.testBit j = true → nm'.testBit j = true) (h2 : ∀ j : Nat, j < 10 → 10000 + (j : Int) = c → nm'.testBit j = true) : zcO (cl ++ [c]) nm' := by
  refine ⟨fun d hd => ?_, hn, fun j hj hm => ?_⟩
  · rcases List.mem_append.mp hd with q | q
    · exact a.1 d q
    · rw [List.mem_singleton.mp q]; exact hc
  · rcases List.mem_append.mp hm with q | q
    · exact h1 j (a.2.2 j hj q)
    · exact h2 j hj (List.mem_singleton.mp q)
theorem zcO_s {nm : Nat} : ∀ {l : List Int} {cl : List Int}, zcO cl nm → (∀ a, a ∈ l → 2 ≤ a ∧ a ≤ 14) → zcO (cl ++ l.map zsi) nm
  | [], cl, a, _ => by rw [List.map_nil, List.append_nil]; exact a
  | x :: l, cl, a, hl => by
    have hx := hl x (List.mem_cons_self ..)
    have f := (zsi_f hx).1
    have f2 : zsi x ≤ 20012 := by
      unfold zsi
      repeat' split
      all_goals omega
    rw [List.map_cons, List.append_cons]
    exact zcO_s (cl := cl ++ [zsi x]) (zcO_a a ⟨by omega, f2, .inr f⟩ a.2.1 (fun j h => h) (fun j hj e => by omega)) (fun b hb => hl b (List.mem_cons_of_mem x hb))
theorem zbp_m {l a : Int} : ∀ {st : List Int}, a ∈ zbp l st → a ∈ st ∧ l ≤ zrk a
  | [], h => absurd (show a ∈ ([] : List Int) from h) (by simp)
  | b :: st, h => by
    by_cases c : l ≤ zrk b
    · rw [zbp_y c] at h
      rcases List.mem_cons.mp h with q | q
      · rw [q]; exact ⟨List.mem_cons_self .., c⟩
      · exact ⟨List.mem_cons_of_mem b (zbp_m q).1, (zbp_m q).2⟩
    · rw [zbp_n c] at h
      exact absurd h (by simp)
theorem zok_m {a : Int} : ∀ {st : List Int}, zok st → a ∈ st → a = 0 ∨ a = 2 ∨ 3 ≤ a ∧ a ≤ 14
  | [], _, h => absurd h (by simp)
  | b :: st, o, h => by
    rcases List.mem_cons.mp h with q | q
    · rw [q]; exact o.1
    · exact zok_m o.2 q
theorem zbp_14 {l : Int} {st : List Int} (hl : 1 ≤ l) (o : zok st) : ∀ a, a ∈ zbp l st → 2 ≤ a ∧ a ≤ 14 := by
  intro a ha
  have m := zbp_m ha
  have k := zok_m o m.1
  have b := zrk_b (k := a)
  have m2 := m.2
  omega
theorem zlf_o {t : Nat → Int} {n p : Nat} {st : List Int} {kn m : Int} {s : zF4} {q : Nat} (e : zlf t n st kn m p = .inr (s, q)) (o : zok st) : zok s.1 := by
  unfold zlf at e
  by_cases c1 : zk t n p = 4 ∧ zw t n p = 40
  · rw [if_pos c1] at e
    by_cases c2 : zc0 st = 8
    · rw [if_pos c2] at e; cases e
    · rw [if_neg c2] at e; cases e; exact ⟨.inl rfl, o⟩
  rw [if_neg c1] at e
  by_cases c2 : (zk t n p = 1 ∧ zw t n p = 23) ∧ m = 1
  · rw [if_pos c2] at e
    by_cases c3 : kn = 64
    · rw [if_pos c3] at e; cases e
    · rw [if_neg c3] at e; cases e; exact ⟨.inr (.inl rfl), o⟩
  rw [if_neg c2] at e
  by_cases c3 : (zk t n p = 1 ∧ 24 ≤ zw t n p) ∨ zk t n p = 3
  · rw [if_pos c3] at e
    have e := ifl (ifl e)
    cases e
    exact o
  · rw [if_neg c3] at e; cases e
theorem zbi_t {st : List Int} (o : zok st) : zok st.tail := by
  cases st with
  | nil => exact o
  | cons a st => exact o.2
theorem zsg_o {t : Nat → Int} {n p : Nat} {st : List Int} {kn m : Int} {s : zF4} {q : Nat} (hw : zk t n p = 5 → 0 ≤ zw t n p ∧ zw t n p ≤ 5) (e : zsg t n st kn m p = .inr (s, q)) (o : zok st) : zok s.1 := by
  unfold zsg at e
  by_cases c1 : (zk t n p = 4 ∧ zw t n p = 41) ∧ 0 < zc0 st
  · rw [if_pos c1] at e; cases e; exact zbi_t (zbi_ok o)
  rw [if_neg c1] at e
  by_cases c2 : zsk (zk t n p) (zw t n p) = 0
  · rw [if_pos c2] at e; cases e
  rw [if_neg c2] at e
  have b := zsk_b (k := zk t n p) (w := zw t n p) hw
  have e := ifl (ifl e)
  cases e
  exact ⟨by omega, zbi_ok o⟩
/-- one word where a value is due -/
theorem zcO_l {t : Nat → Int} {n p : Nat} {st cl : List Int} {kn m : Int} {nm : Nat} {s : zF4} {q : Nat} (hw1 : zk t n p = 1 → zw t n p ≤ 33) (hw3 : zk t n p = 3 → 0 ≤ zw t n p) (e : zlf t n st kn m p = .inr (s, q)) (a : zcO cl nm) : zcO (zlC t n p cl) (zlN t n p nm) := by
  unfold zlf at e
  by_cases c1 : zk t n p = 4 ∧ zw t n p = 40
  · have e1 : zlC t n p cl = cl := by unfold zlC; rw [if_pos (.inl c1)]
    have e2 : zlN t n p nm = nm := by unfold zlN; rw [if_neg (by omega)]
    rw [e1, e2]
    exact a
  rw [if_neg c1] at e
  by_cases c2 : zk t n p = 1 ∧ zw t n p = 23
  · have e1 : zlC t n p cl = cl := by unfold zlC; rw [if_pos (.inr c2)]
    have e2 : zlN t n p nm = nm := by unfold zlN; rw [if_neg (by omega)]
    rw [e1, e2]
    exact a
  rw [if_neg (fun z => c2 z.1)] at e
  by_cases c3 : (zk t n p = 1 ∧ 24 ≤ zw t n p) ∨ zk t n p = 3
  · rw [if_pos c3] at e
    have e1 : zlC t n p cl = cl ++ [if zk t n p = 3 then zw t n p else 10000 + (zw t n p - 24)] := by
      unfold zlC
      rw [if_neg (by omega)]
    rw [e1]
    by_cases c4 : zk t n p = 3
    · have e2 : zlN t n p nm = nm := by unfold zlN; rw [if_neg (by omega)]
      by_cases c5 : zk t n p = 3 ∧ 9999 < zw t n p
      · rw [if_pos c5] at e; cases e
      · rw [e2, if_pos c4]
        have := hw3 c4
        exact zcO_a a ⟨by omega, by omega, .inl (by omega)⟩ a.2.1 (fun j h => h) (fun j hj z => by omega)
    · have c5 : zk t n p = 1 ∧ 24 ≤ zw t n p := by omega
      have h33 := hw1 c5.1
      have e2 : zlN t n p nm = nm ||| 2 ^ (zw t n p - 24).toNat := by unfold zlN; rw [if_pos c5]
      have hb := zlN_b (t := t) (n := n) (p := p) a.2.1 hw1
      rw [if_neg c4]
      refine zcO_a a ⟨by omega, by omega, .inl (by omega)⟩ hb (fun j h => ?_) (fun j hj z => ?_)
      · rw [e2, Nat.testBit_or, h, Bool.true_or]
      · rw [e2, show (zw t n p - 24).toNat = j from by omega, Nat.testBit_or, Nat.testBit_two_pow_self, Bool.or_true]
  · rw [if_neg c3] at e; cases e
theorem zrk_1 {k w : Int} (hw : k = 5 → 0 ≤ w ∧ w ≤ 5) (h : zsk k w ≠ 0) : 1 ≤ (if zrk (zsk k w) = 4 then 5 else zrk (zsk k w)) := by
  have b := zsk_b hw
  have r := zrk_b (k := zsk k w)
  split <;> omega
theorem zcO_g {t : Nat → Int} {n p : Nat} {st cl : List Int} {kn m : Int} {nm : Nat} {s : zF4} {q : Nat} (hw : zk t n p = 5 → 0 ≤ zw t n p ∧ zw t n p ≤ 5) (o : zok st) (e : zsg t n st kn m p = .inr (s, q)) (a : zcO cl nm) : zcO (zsC t n p st cl) nm := by
  have z := zsg_z e
  unfold zsC
  refine zcO_s a (zbp_14 ?_ o)
  by_cases c : (zk t n p = 4 ∧ zw t n p = 41) ∧ 0 < zc0 st
  · rw [if_pos c]; omega
  · rw [if_neg c]
    refine zrk_1 hw (fun y => ?_)
    unfold zsg at e
    rw [if_neg c, if_pos y] at e
    cases e
/-- a formula that is read: its codes and names -/
theorem zcO_f {t : Nat → Int} {n : Nat} (h1 : ∀ p, p ≤ n → zk t n p = 1 → zw t n p ≤ 33) (h3 : ∀ p, p ≤ n → zk t n p = 3 → 0 ≤ zw t n p) (h5 : ∀ p, p ≤ n → zk t n p = 5 → 0 ≤ zw t n p ∧ zw t n p ≤ 5) : ∀ (u : Nat) (st : List Int) (kn w m : Int) (p : Nat) (cl : List Int) (nm : Nat) (v : Int) (q : Nat), n - p < u → p ≤ n → zfm t n u st kn w m p = .inr (v, q) → zok st → zcO cl nm → zcO (zfD t n u st kn w m p cl nm).1 (zfD t n u st kn w m p cl nm).2
  | 0, st, kn, w, m, p, cl, nm, v, q, hu, hp, e, o, a => by omega
  | u + 1, st, kn, w, m, p, cl, nm, v, q, hu, hp, e, o, a => by
    rw [zfD_s]
    rw [zfm_s] at e
    by_cases c : zsk (zk t n p) (zw t n p) = 0 ∧ w = 0 ∧ zc0 st = 0
    · rw [if_pos c]
      exact zcO_s a (zbp_14 (by omega) o)
    rw [if_neg c]
    by_cases ce : (zk t n p = 4 ∧ zw t n p = 59) ∧ w = 0 ∧ zc0 st = 0
    · exact absurd ⟨by unfold zsk; repeat' split <;> omega, ce.2⟩ c
    rw [if_neg ce] at e
    by_cases cw : w = 1
    · rw [if_pos cw] at e ⊢
      cases z : zlf t n st kn m p with
      | inl r => rw [z] at e; cases e
      | inr r =>
        obtain ⟨s, q1⟩ := r
        rw [zb2_r z] at e
        have g := zlf_ge hp z
        exact zcO_f h1 h3 h5 u _ _ _ _ q1 _ _ v q (by omega) g.2 e (zlf_o z o) (zcO_l (h1 p hp) (h3 p hp) z a)
    · rw [if_neg cw] at e ⊢
      cases z : zsg t n st kn m p with
      | inl r => rw [z] at e; cases e
      | inr r =>
        obtain ⟨s, q1⟩ := r
        rw [zb2_r z] at e
        have g := zsg_ge hp z
        exact zcO_f h1 h3 h5 u _ _ _ _ q1 _ _ v q (by omega) g.2 e (zsg_o (h5 p hp) z o) (zcO_g (h5 p hp) o z a)
