/-! ===== more rules for walking ===== -/
section CWY
variable {X : cv_X} {mi : Nat} {Q : cv_O → Prop} {pc len a b : Nat} {z : Int} {L : cv_L} {st : List cv_V} {h : cv_H} {G : Int}
theorem ex_ia1 {k d m j : Nat} {rg : Int × Int} {i : Int32} (ho : cw_ho mi pc .iaload len a b z) (hT : cw_T G h) (hk : cw_sh[k]? = some d) (hD : cw_Ds[d]? = some (.inl (0, m, 1, [rg]))) (hj : i.toInt = j) (hm : j < m) (kk : ∀ x : Int32, ri_at h k j = x.toInt → rg.1 ≤ x.toInt → x.toInt ≤ rg.2 → cw_X X mi Q (pc + len) L (cv_i x :: st) h) : cw_X X mi Q pc L (cv_i i :: cv_r k :: st) h :=
  ex_ia ho hT hk hD hj hm (fun x h1 ⟨r, h2, h3, h4⟩ => by rw [Nat.mod_one] at h2; cases h2; exact kk x (ri_of h1) h3 h4)
theorem ex_ba1 {k d m t j : Nat} {rg : Int × Int} {i : Int32} (ho : cw_ho mi pc .baload len a b z) (hT : cw_T G h) (hk : cw_sh[k]? = some d) (hD : cw_Ds[d]? = some (.inl (t, m, 1, [rg]))) (ht : (t == 1 || t == 2) = true) (hj : i.toInt = j) (hm : j < m) (kk : ∀ x : Int32, ri_at h k j = x.toInt → rg.1 ≤ x.toInt → x.toInt ≤ rg.2 → cw_X X mi Q (pc + len) L (cv_i x :: st) h) : cw_X X mi Q pc L (cv_i i :: cv_r k :: st) h :=
  ex_ba ho hT hk hD ht hj hm (fun x h1 ⟨r, h2, h3, h4⟩ => by rw [Nat.mod_one] at h2; cases h2; exact kk x (ri_of h1) h3 h4)
theorem ex_iap {k d m p j : Nat} {rs : List (Int × Int)} {i : Int32} (ho : cw_ho mi pc .iaload len a b z) (hT : cw_T G h) (hk : cw_sh[k]? = some d) (hD : cw_Ds[d]? = some (.inl (0, m, p, rs))) (hj : i.toInt = j) (hm : j < m) (kk : ∀ x : Int32, ri_at h k j = x.toInt → cw_X X mi Q (pc + len) L (cv_i x :: st) h) : cw_X X mi Q pc L (cv_i i :: cv_r k :: st) h :=
  ex_ia ho hT hk hD hj hm (fun x h1 _ => kk x (ri_of h1))
theorem ex_iw1 {k d m j : Nat} {rg : Int × Int} {i y : Int32} (ho : cw_ho mi pc .iastore len a b z) (hT : cw_T G h) (hk : cw_sh[k]? = some d) (hD : cw_Ds[d]? = some (.inl (0, m, 1, [rg]))) (hj : i.toInt = j) (hm : j < m) (hy : rg.1 ≤ y.toInt ∧ y.toInt ≤ rg.2) (kk : ∀ h', cw_T G h' → cw_Wr h h' k j (cv_i y) → cw_X X mi Q (pc + len) L st h') : cw_X X mi Q pc L (cv_i y :: cv_i i :: cv_r k :: st) h :=
  ex_iw ho hT hk hD hj hm (fun r hr => by rw [Nat.mod_one] at hr; cases hr; exact hy) kk
theorem ex_bw2 {k d m j : Nat} {i y : Int32} (ho : cw_ho mi pc .bastore len a b z) (hT : cw_T G h) (hk : cw_sh[k]? = some d) (hD : cw_Ds[d]? = some (.inl (2, m, 1, [(0, 1)]))) (hj : i.toInt = j) (hm : j < m) (hy : 0 ≤ y.toInt ∧ y.toInt ≤ 1) (kk : ∀ h', cw_T G h' → cw_Wr h h' k j (cv_i y) → cw_X X mi Q (pc + len) L st h') : cw_X X mi Q pc L (cv_i y :: cv_i i :: cv_r k :: st) h := by
  have e : cv_nar 2 y = y := by
    show y &&& 1 = y
    have : y.toInt = 0 ∨ y.toInt = 1 := by omega
    rcases this with q | q
    · have : y = 0 := Int32.toInt_inj.mp (by rw [q]; rfl)
      subst this; rfl
    · have : y = 1 := Int32.toInt_inj.mp (by rw [q]; rfl)
      subst this; rfl
  refine ex_bw (t := 2) ho hT hk hD rfl hj hm (by rw [e]; exact hy) ?_
  rw [e]
  exact kk
theorem cw_fit2 {x : Int32} (h0 : 0 ≤ x.toInt) (h1 : x.toInt ≤ 1) : cv_fit 2 (cv_i x) = true := by
  show (decide (x = 0) || decide (x = 1)) = true
  have : x.toInt = 0 ∨ x.toInt = 1 := by omega
  rcases this with q | q
  · have : x = 0 := Int32.toInt_inj.mp (by rw [q]; rfl)
    subst this; rfl
  · have : x = 1 := Int32.toInt_inj.mp (by rw [q]; rfl)
    subst this; rfl
/-- this object's fields: an int, a boolean -/
theorem ex_pfi {ix k ci : Nat} {fs : List cw_A} {d : Nat} {lo hi : Int} {v : Int32} (ho : cw_ho mi pc (.putfield ix) len ci b 0) (hT : cw_T G h) (hk : cw_sh[k]? = some d) (hD : cw_Ds[d]? = some (.inr (.inr (.inr (ci, fs))))) (hA : fs[b]? = some (.inl (lo, hi, 0))) (h0 : lo ≤ v.toInt) (h1 : v.toInt ≤ hi) (kk : ∀ h', cw_T G h' → cw_Wr h h' k b (cv_i v) → cw_X X mi Q (pc + len) L st h') : cw_X X mi Q pc L (cv_i v :: cv_r k :: st) h :=
  ex_pf ho hT hk hD hA ⟨v, rfl, h0, h1, cw_tg0⟩ rfl kk
theorem ex_pfb {ix k ci : Nat} {fs : List cw_A} {d : Nat} {v : Int32} (ho : cw_ho mi pc (.putfield ix) len ci b 2) (hT : cw_T G h) (hk : cw_sh[k]? = some d) (hD : cw_Ds[d]? = some (.inr (.inr (.inr (ci, fs))))) (hA : fs[b]? = some (.inl (0, 1, 0))) (h0 : 0 ≤ v.toInt) (h1 : v.toInt ≤ 1) (kk : ∀ h', cw_T G h' → cw_Wr h h' k b (cv_i v) → cw_X X mi Q (pc + len) L st h') : cw_X X mi Q pc L (cv_i v :: cv_r k :: st) h :=
  ex_pf ho hT hk hD hA ⟨v, rfl, h0, h1, cw_tg0⟩ (cw_fit2 h0 h1) kk
theorem ex_cv {ix k d ci j np : Nat} {fs : List cw_A} {as stk : List cv_V} (ho : cw_ho mi pc (.invokevirtual ix) len j np z) (hn : j < 9000) (hT : cw_T G h) (hk : cw_sh[k]? = some d) (hD : cw_Ds[d]? = some (.inr (.inr (.inr (ci, fs))))) (hz : z.toNat = ci) (hst : st = as.reverse ++ cv_r k :: stk) (hl : as.length = np) (hf : cv_fits (mt_all mi) (mt_all j) 0 0 (cv_wid (cv_r k :: as)) stk = true) (hr : (mt_all j).2.2.1 = 0 ∧ (mt_all j).2.2.2.1 = 0) {R : cv_O → Prop} (hK : cw_X (fun j => bif j == 2 then none else X j) j R 0 (cv_ent 0 (cv_r k :: as)) [] h)
    (kk : ∀ o, R o → cw_X X mi Q (pc + len) L (o.1.toList ++ stk) o.2) : cw_X X mi Q pc L st h := by
  obtain ⟨vs, h1, -⟩ := cw_cell_o hD (hT k d hk)
  subst hst hl
  refine ex_call ho hn ?_ hf hr hK kk
  have e1 : (as.reverse ++ cv_r k :: stk).take as.length = as.reverse := by
    rw [List.take_append_of_le_length (by simp)]; exact List.take_of_length_le (by simp)
  have e2 : (as.reverse ++ cv_r k :: stk).drop as.length = cv_r k :: stk := by
    rw [List.drop_append_of_le_length (by simp)]
    rw [List.drop_of_length_le (by simp)]
    rfl
  unfold cv_call
  dsimp only
  rw [decide_eq_true (by simp), cond_true, e1, e2]
  dsimp only
  rw [h1]
  dsimp only
  rw [hz, beq_self_eq_true, List.reverse_reverse]
  rfl
theorem ex_cs {ix j np : Nat} {as stk : List cv_V} (ho : cw_ho mi pc (.invokestatic ix) len j np z) (hn : j < 9000) (hst : st = as.reverse ++ stk) (hl : as.length = np) (hf : cv_fits (mt_all mi) (mt_all j) 0 0 (cv_wid as) stk = true) (hr : (mt_all j).2.2.1 = 0 ∧ (mt_all j).2.2.2.1 = 0) {R : cv_O → Prop} (hK : cw_X (fun j => bif j == 2 then none else X j) j R 0 (cv_ent 0 as) [] h)
    (kk : ∀ o, R o → cw_X X mi Q (pc + len) L (o.1.toList ++ stk) o.2) : cw_X X mi Q pc L st h := by
  subst hst hl
  refine ex_call ho hn ?_ hf hr hK kk
  have e1 : (as.reverse ++ stk).take as.length = as.reverse := by
    rw [List.take_append_of_le_length (by simp)]; exact List.take_of_length_le (by simp)
  have e2 : (as.reverse ++ stk).drop as.length = stk := by
    rw [List.drop_append_of_le_length (by simp)]
    rw [List.drop_of_length_le (by simp)]
    rfl
  unfold cv_call
  dsimp only
  rw [decide_eq_true (by simp), cond_true, e1, e2, List.reverse_reverse]
theorem cw_HX {P : cv_H → Prop} {K : cw_K} {av : List cv_V} {j : Nat} (hK : cw_Holds fk_all mt_all cw_Ds cw_sh G P K) (hj : K.1.1 = j) (hX : cw_Xok X) (hI : cw_Inv cw_Ds cw_sh G P h) (hg : cw_gas G cw_sh K.2.1 av) (hfp : cw_fpo G cw_sh h K.2.2.2.2.2.2 av.head?) : cw_X X j (cw_Po cw_Ds cw_sh G P K av h) 0 (cv_ent 0 av) [] h := by
  subst hj
  exact hK X h av hX hI hg hfp
theorem cw_XH {P : cv_H → Prop} {K : cw_K} (hK : ∀ (X : cv_X) (h : cv_H) (av : List cv_V), cw_Xok X → cw_T G h → P h → cw_gas G cw_sh K.2.1 av → cw_fpo G cw_sh h K.2.2.2.2.2.2 av.head? → cw_X X K.1.1 (cw_Po cw_Ds cw_sh G P K av h) 0 (cv_ent 0 av) [] h) : cw_Holds fk_all mt_all cw_Ds cw_sh G P K :=
  fun X h av hX hI hg hfp => hK X h av hX hI.1 hI.2 hg hfp
theorem po_int {P : cv_H → Prop} {K : cw_K} {av : List cv_V} {w : cw_W} {o : cv_O} (ho : cw_Po cw_Ds cw_sh G P K av h o) (hp : K.2.2.1 = some (.inl w)) : ∃ (x : Int32) (h' : cv_H), o = (some (cv_i x), h') ∧ cw_wok G w x.toInt ∧ cw_T G h' ∧ P h' ∧ cw_Fr cw_Ds cw_sh K.2.2.2.2.2.1 h h' ∧ (x.toInt ≠ 0 → (∀ t ∈ K.2.2.2.1, ∃ w, av[t.1]? = some w ∧ cw_ga G cw_sh t.2 w) ∧ ∀ t ∈ K.2.2.2.2.1, ∃ x y z : Int32, av[t.1]? = some (cv_i x) ∧ av[t.2.1]? = some (cv_i y) ∧ av[t.2.2]? = some (cv_i z) ∧ y.toInt ≤ x.toInt ∧ x.toInt ≤ z.toInt) := by
  obtain ⟨o1, h'⟩ := o
  obtain ⟨p1, p2, p3, p4⟩ := ho
  rw [hp] at p1
  cases o1 with
  | none => exact p1.elim
  | some v =>
    obtain ⟨x, hx, hw⟩ := p1
    subst hx
    exact ⟨x, h', rfl, hw, p2.1, p2.2, p3, fun hx0 => p4 x rfl hx0⟩
theorem po_lng {P : cv_H → Prop} {K : cw_K} {av : List cv_V} {w : cw_W} {o : cv_O} (ho : cw_Po cw_Ds cw_sh G P K av h o) (hp : K.2.2.1 = some (.inr (.inl w))) : ∃ (x : Int64) (h' : cv_H), o = (some (cv_l x), h') ∧ cw_wok G w x.toInt ∧ cw_T G h' ∧ P h' ∧ cw_Fr cw_Ds cw_sh K.2.2.2.2.2.1 h h' := by
  obtain ⟨o1, h'⟩ := o
  obtain ⟨p1, p2, p3, p4⟩ := ho
  rw [hp] at p1
  cases o1 with
  | none => exact p1.elim
  | some v =>
    obtain ⟨x, hx, hw⟩ := p1
    subst hx
    exact ⟨x, h', rfl, hw, p2.1, p2.2, p3⟩
theorem po_non {P : cv_H → Prop} {K : cw_K} {av : List cv_V} {o : cv_O} (ho : cw_Po cw_Ds cw_sh G P K av h o) (hp : K.2.2.1 = none) : ∃ h' : cv_H, o = (none, h') ∧ cw_T G h' ∧ P h' ∧ cw_Fr cw_Ds cw_sh K.2.2.2.2.2.1 h h' := by
  obtain ⟨o1, h'⟩ := o
  obtain ⟨p1, p2, p3, p4⟩ := ho
  rw [hp] at p1
  cases o1 with
  | none => exact ⟨h', rfl, p2.1, p2.2, p3⟩
  | some v => exact p1.elim
theorem ri_fr {m k d i : Nat} {h' : cv_H} (hF : cw_Fr cw_Ds cw_sh m h h') (hk : cw_sh[k]? = some d) (ht : cw_tch cw_Ds m d i = false) : ri_at h' k i = ri_at h k i := ri_eq (hF.2 k d i hk ht)
theorem ex_reti {x : Int32} (ho : cw_ho mi pc .ireturn len a b z) (hr : (mt_all mi).1.2.2.2.2 = some .int) (hQ : Q (some (cv_i x), h)) : cw_X X mi Q pc L [cv_i x] h := by
  refine ex_ret ho ?_ hQ
  unfold cv_ret
  dsimp only
  rw [decide_eq_true (Nat.zero_le _), decide_eq_true (Nat.zero_le _), hr]
  rfl
theorem ex_retb {x : Int32} (ho : cw_ho mi pc .ireturn len a b z) (hr : (mt_all mi).1.2.2.2.2 = some .boolean) (h0 : 0 ≤ x.toInt) (h1 : x.toInt ≤ 1) (hQ : Q (some (cv_i x), h)) : cw_X X mi Q pc L [cv_i x] h := by
  refine ex_ret ho ?_ hQ
  unfold cv_ret
  dsimp only
  have e := cw_fit2 h0 h1
  have e : (decide (x = 0) || decide (x = 1)) = true := e
  rw [decide_eq_true (Nat.zero_le _), decide_eq_true (Nat.zero_le _), hr]
  dsimp only [Bool.and_true, cond_true]
  rw [e]
  rfl
theorem ex_retl {x : Int64} (ho : cw_ho mi pc .lreturn len a b z) (hr : (mt_all mi).1.2.2.2.2 = some .long) (hQ : Q (some (cv_l x), h)) : cw_X X mi Q pc L [cv_l x] h := by
  refine ex_ret ho ?_ hQ
  unfold cv_ret
  dsimp only
  rw [decide_eq_true (Nat.zero_le _), decide_eq_true (Nat.zero_le _), hr]
  rfl
theorem ex_retv (ho : cw_ho mi pc .return_ len a b z) (hr : (mt_all mi).1.2.2.2.2 = none) (hQ : Q (none, h)) : cw_X X mi Q pc L [] h := by
  refine ex_ret ho ?_ hQ
  unfold cv_ret
  dsimp only
  rw [decide_eq_true (Nat.zero_le _), decide_eq_true (Nat.zero_le _), hr]
  rfl
end CWY
