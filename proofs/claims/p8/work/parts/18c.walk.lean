section CWN
variable {X : cv_X} {mi : Nat} {Q : cv_O → Prop} {pc len a b : Nat} {z : Int} {L : cv_L} {st : List cv_V} {h h' : cv_H} {G : Int}
def pp_msk0 (m : Nat) : Bool := pp_msk m && ([6, 7, 8, 9].all (fun s => !cw_bit m 12 s))
theorem pp_fr0 {m : Nat} (hm : pp_msk0 m = true) (hP : cw_PP G h) (hF : cw_Fr cw_Ds cw_sh m h h') : cw_PP G h' := by
  unfold pp_msk0 at hm
  simp only [Bool.and_eq_true, List.all_eq_true, Bool.not_eq_true'] at hm
  have e : ∀ s ∈ ([6, 7, 8, 9] : List Nat), ri_at h' 111 s = ri_at h 111 s := fun s hs => ri_frf hF (d := 12) rfl rfl (hm.2 s hs)
  refine pp_fr1 hm.1 hP hF ?_
  have h1 := hP.2.1
  unfold pp_tk
  rw [e 6 (by decide), e 7 (by decide), e 8 (by decide), e 9 (by decide)]
  exact h1
theorem ex_tsw {d lo hi : Int} {offs : Array Int} {x : Int32} (ho : cw_ho mi pc (.tableswitch d lo hi offs) len a b z) (hn : hi - lo + 1 = offs.size) (kd : (x.toInt < lo ∨ hi < x.toInt) → cv_jmp pc d = true ∧ cw_X X mi Q (cv_tgt pc d) L st h) (kc : ∀ i : Nat, i < offs.size → x.toInt = lo + i → cv_jmp pc (offs.getD i 0) = true ∧ cw_X X mi Q (cv_tgt pc (offs.getD i 0)) L st h) : cw_X X mi Q pc L (cv_i x :: st) h := by
  have hone : cv_one X (pc, .tableswitch d lo hi offs, len, a, b, z) (pc, L, cv_i x :: st, h, 0, 0) = (bif decide (x.toInt < lo) || decide (hi < x.toInt) then (bif cv_jmp pc d then some (cv_tgt pc d, L, st, h, 0, 0) else none) else
        (match offs[(x.toInt - lo).toNat]? with
        | some off => bif cv_jmp pc off then some (cv_tgt pc off, L, st, h, 0, 0) else none
        | none => none)) := rfl
  cases hc : (decide (x.toInt < lo) || decide (hi < x.toInt)) with
  | true =>
    rw [hc, cond_true] at hone
    obtain ⟨k1, k2⟩ := kd (by simpa using hc)
    rw [k1] at hone
    exact ex_one ho hone k2
  | false =>
    rw [hc, cond_false] at hone
    simp only [Bool.or_eq_false_iff, decide_eq_false_iff_not] at hc
    have hlt : (x.toInt - lo).toNat < offs.size := by omega
    obtain ⟨k1, k2⟩ := kc (x.toInt - lo).toNat hlt (by omega)
    have e : offs.getD (x.toInt - lo).toNat 0 = offs[(x.toInt - lo).toNat] := by simp [hlt]
    rw [e] at k1 k2
    rw [Array.getElem?_eq_getElem hlt] at hone
    dsimp only at hone
    rw [k1] at hone
    exact ex_one ho hone k2
theorem ex_ldcw {ix : Nat} {m : Int} (ho : cw_ho mi pc (.ldc_w ix) len a b z) (hm : (Int32.ofInt z).toInt = m) (k : ∀ x : Int32, x.toInt = m → cw_X X mi Q (pc + len) L (cv_i x :: st) h) : cw_X X mi Q pc L st h := ex_one ho rfl (k _ hm)
theorem ex_orE {x y : Int32} (ho : cw_ho mi pc .ior len a b z) (k : ∀ r : Int32, r = x ||| y → cw_X X mi Q (pc + len) L (cv_i r :: st) h) : cw_X X mi Q pc L (cv_i y :: cv_i x :: st) h := ex_one ho rfl (k _ rfl)
theorem ex_andE {x y : Int32} (ho : cw_ho mi pc .iand len a b z) (k : ∀ r : Int32, r = x &&& y → cw_X X mi Q (pc + len) L (cv_i r :: st) h) : cw_X X mi Q pc L (cv_i y :: cv_i x :: st) h := ex_one ho rfl (k _ rfl)
theorem ex_shlE {x y : Int32} (ho : cw_ho mi pc .ishl len a b z) (k : ∀ r : Int32, r = x <<< (y &&& 31) → cw_X X mi Q (pc + len) L (cv_i r :: st) h) : cw_X X mi Q pc L (cv_i y :: cv_i x :: st) h := ex_one ho rfl (k _ rfl)
theorem ex_shrE {x y : Int32} (ho : cw_ho mi pc .ishr len a b z) (k : ∀ r : Int32, r = x >>> (y &&& 31) → cw_X X mi Q (pc + len) L (cv_i r :: st) h) : cw_X X mi Q pc L (cv_i y :: cv_i x :: st) h := ex_one ho rfl (k _ rfl)
theorem cw_lcmp0 {x : Int64} {y : Int64} (hy : y.toInt = 0) {r : Int32} (hr : r = lg_cmp x y) (h0 : ¬ r.toInt = 0) : x.toInt ≠ 0 := by
  intro q
  have e : x = y := Int64.toInt_inj.mp (by omega)
  apply h0
  rw [hr, e]
  unfold lg_cmp
  rw [if_neg (by intro q; exact absurd (Int64.lt_iff_toInt_lt.mp q) (by omega)), if_pos rfl]
  rfl
end CWN
section CWR
variable {X : cv_X} {mi : Nat} {Q : cv_O → Prop} {pc len a b : Nat} {z : Int} {L : cv_L} {st : List cv_V} {h h' : cv_H} {G : Int}
theorem ri_refs {d k ci f d' : Nat} {fs : List cw_A} (hT : cw_T G h) (hk : cw_sh[k]? = some d) (hD : cw_Ds[d]? = some (.inr (.inr (.inr (ci, fs))))) (hA : fs[f]? = some (.inr (.inr d'))) (hd : d' < 1000) : ∃ k' : Nat, cw_at h k f = some (cv_r k') ∧ cw_sh[k']? = some d' := by
  obtain ⟨vs, h1, h2, h3⟩ := cw_cell_o hD (hT k d hk)
  obtain ⟨v, h4, h5⟩ := h3 f _ hA
  rcases h5 with ⟨-, j, rfl, h6⟩ | ⟨j, h6, -⟩
  · exact ⟨j, by unfold cw_at; rw [h1]; exact h4, h6⟩
  · omega
theorem ex_aa {k d t m d' j : Nat} {i : Int32} (ho : cw_ho mi pc .aaload len a b z) (hT : cw_T G h) (hk : cw_sh[k]? = some d) (hD : cw_Ds[d]? = some (.inr (.inr (.inl (t, m, d'))))) (hj : i.toInt = j) (hm : j < m) (kk : ∀ k' : Nat, cw_at h k j = some (cv_r k') → cw_sh[k']? = some d' → cw_X X mi Q (pc + len) L (cv_r k' :: st) h) : cw_X X mi Q pc L (cv_i i :: cv_r k :: st) h := by
  obtain ⟨xs, h1, h2, h3⟩ := cw_cell_r hD (hT k d hk)
  obtain ⟨y, hy⟩ := cw_get_lt (xs := xs) (j := j) (by omega)
  obtain ⟨k', rfl, hk'⟩ := h3 j y hy
  obtain ⟨c1, c2⟩ := cw_cixi hj hm
  refine ex_one ho ?_ (kk k' (by unfold cw_at; rw [h1]; show (xs[j]?).map _ = _; rw [hy]; rfl) hk')
  show (match h[k]? with
    | some (.inr (.inr (.inl (_, xs)))) => bif cv_ix i xs.length then (xs[i.toNatClampNeg]?).map _ else none
    | _ => none) = _
  rw [h1]
  show (bif cv_ix i xs.length then (xs[i.toNatClampNeg]?).map _ else none) = _
  rw [h2, c1, c2, hy]
  rfl
theorem ex_lenr {k d m : Nat} {t d' : Nat} (ho : cw_ho mi pc .arraylength len a b z) (hT : cw_T G h) (hk : cw_sh[k]? = some d) (hD : cw_Ds[d]? = some (.inr (.inr (.inl (t, m, d'))))) (hm : m ≤ 10000) (kk : ∀ x : Int32, x.toInt = m → cw_X X mi Q (pc + len) L (cv_i x :: st) h) : cw_X X mi Q pc L (cv_r k :: st) h := by
  obtain ⟨xs, h1, h2, -⟩ := cw_cell_r hD (hT k d hk)
  refine ex_one ho ?_ (kk (Int32.ofNat m) (cw_ofNat hm))
  show (match h[k]? with
    | some (.inl (_, xs)) => some _
    | some (.inr (.inl xs)) => some _
    | some (.inr (.inr (.inl (_, xs)))) => some _
    | _ => none) = _
  rw [h1, ← h2]
theorem ex_nat {S' : cv_S} {q : Instr} {st' : List cv_V} (ho : cw_ho mi pc q len a b z) (h1 : cv_nat (mt_all mi) (pc, q, len, a, b, z) (pc, L, st, h, 0, 0) = some (pc + len, L, st', h, 0, 0)) (k : cw_X X mi Q (pc + len) L st' h) : cw_X X mi Q pc L st h := by
  obtain ⟨o, h2, h3⟩ := k
  exact ⟨o, cw_ev_nat ho h1 h2, h3⟩
theorem ex_max {ix : Nat} {x y : Int32} (ho : cw_ho mi pc (.invokestatic ix) len 9001 b z) (hf : 1 ≤ (mt_all mi).2.2.2.2.1) (hw : cv_wid st + 15 ≤ (mt_all mi).2.2.2.2.2) (k : ∀ r : Int32, (r.toInt = x.toInt ∧ y.toInt ≤ x.toInt ∨ r.toInt = y.toInt ∧ x.toInt ≤ y.toInt) → cw_X X mi Q (pc + len) L (cv_i r :: st) h) : cw_X X mi Q pc L (cv_i y :: cv_i x :: st) h := by
  refine ex_nat (S' := (0, [], [], h, 0, 0)) (st' := cv_i (if x < y then y else x) :: st) ho ?_ (k _ ?_)
  · unfold cv_nat
    dsimp only
    rw [decide_eq_true hf, decide_eq_true (Nat.zero_le _), decide_eq_true (Nat.zero_le _)]
    show (bif decide _ then some _ else none) = _
    rw [decide_eq_true hw]
    rfl
  · by_cases q : x < y
    · rw [if_pos q]; have := Int32.lt_iff_toInt_lt.mp q; right; omega
    · rw [if_neg q]; have : ¬ x.toInt < y.toInt := fun p => q (Int32.lt_iff_toInt_lt.mpr p); left; omega
theorem ex_min {ix : Nat} {x y : Int32} (ho : cw_ho mi pc (.invokestatic ix) len 9002 b z) (hf : 1 ≤ (mt_all mi).2.2.2.2.1) (hw : cv_wid st + 15 ≤ (mt_all mi).2.2.2.2.2) (k : ∀ r : Int32, (r.toInt = x.toInt ∧ x.toInt ≤ y.toInt ∨ r.toInt = y.toInt ∧ y.toInt ≤ x.toInt) → cw_X X mi Q (pc + len) L (cv_i r :: st) h) : cw_X X mi Q pc L (cv_i y :: cv_i x :: st) h := by
  refine ex_nat (S' := (0, [], [], h, 0, 0)) (st' := cv_i (if y < x then y else x) :: st) ho ?_ (k _ ?_)
  · unfold cv_nat
    dsimp only
    rw [decide_eq_true hf, decide_eq_true (Nat.zero_le _), decide_eq_true (Nat.zero_le _)]
    show (bif decide _ then some _ else none) = _
    rw [decide_eq_true hw]
    rfl
  · by_cases q : y < x
    · rw [if_pos q]; have := Int32.lt_iff_toInt_lt.mp q; right; omega
    · rw [if_neg q]; have : ¬ y.toInt < x.toInt := fun p => q (Int32.lt_iff_toInt_lt.mpr p); left; omega
end CWR
