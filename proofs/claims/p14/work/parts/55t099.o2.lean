/-! ===== works undone: the class ===== -/
section CWX
variable {X : cv_X} {mi : Nat} {Q : cv_O → Prop} {pc len a b : Nat} {z : Int} {L : cv_L} {st : List cv_V} {h : cv_H} {G : Int}
theorem ex_aw {k d t m d' j o' ci : Nat} {fs : List cw_A} {i : Int32} (ho : cw_ho mi pc .aastore len a b z) (hT : cw_T G h) (hk : cw_sh[k]? = some d) (hD : cw_Ds[d]? = some (.inr (.inr (.inl (t, m, d'))))) (ho' : cw_sh[o']? = some d') (hD' : cw_Ds[d']? = some (.inr (.inr (.inr (ci, fs))))) (hci : (ci == (bif t == 4 then 1 else 7)) = true) (hj : i.toInt = j) (hm : j < m) (kk : ∀ h', cw_T G h' → cw_Wr h h' k j (cv_r o') → cw_X X mi Q (pc + len) L st h') : cw_X X mi Q pc L (cv_r o' :: cv_i i :: cv_r k :: st) h := by
  obtain ⟨xs, h1, h2, h3⟩ := cw_cell_r hD (hT k d hk)
  obtain ⟨vs, v1, -⟩ := cw_cell_o hD' (hT o' d' ho')
  obtain ⟨c1, c2⟩ := cw_cixi hj hm
  refine ex_one (h' := h.set k (cv_cr t (xs.set j (some o')))) ho ?_ (kk _ (cw_T_set hT hk ?_) (cw_Wr_set h1 (by show ((xs.set j _)[j]?).map _ = _; rw [List.getElem?_set_self (by omega)]; rfl) (fun j' hj' => by show ((xs.set j _)[j']?).map _ = _; rw [List.getElem?_set_ne (fun q => hj' q.symm)]; rfl)))
  · show (match h[k]?, h[o']? with
      | some (.inr (.inr (.inl (t, xs)))), some (.inr (.inr (.inr (ci, _)))) => bif cv_ix i xs.length && (ci == (bif t == 4 then 1 else 7)) then some _ else none
      | _, _ => none) = _
    rw [h1, v1]
    show (bif cv_ix i xs.length && (ci == (bif t == 4 then 1 else 7)) then some _ else none) = _
    rw [h2, c1, hci, c2]
    rfl
  · unfold cw_cell
    rw [hD]
    refine ⟨_, List.getElem?_set_self (cw_lt_of h1), by rw [List.length_set]; exact h2, fun j2 o2 hj2 => ?_⟩
    by_cases ej : j = j2
    · subst ej
      rw [List.getElem?_set_self (by omega)] at hj2
      cases hj2
      exact ⟨o', rfl, ho'⟩
    · rw [List.getElem?_set_ne ej] at hj2
      exact h3 j2 o2 hj2
end CWX
/-- the cells of gates as they were -/
def zUB (h : cv_H) (Bf : Nat → Nat) : Prop := (∀ i, i < 20 → cw_at h 64 i = some (cv_r (Bf i)) ∧ 66 ≤ Bf i ∧ Bf i ≤ 85) ∧ ∀ i j, i < 20 → j < 20 → Bf i = Bf j → i = j
/-- what they hold -/
def zUS (h : cv_H) (b m : Nat) (Bf ν : Nat → Nat) (υ : Nat → Nat → Int) : Prop := ri_at h 63 2 = m ∧ m ≤ 20 ∧ ∀ i, i < m → ri_at h 65 i = ν i ∧ zGV h (Bf i) (υ i) ∧ cw_at h (Bf i) 0 = some (cv_r (b + 16 + 2 * ν i))
def uP {α : Type} (m : Nat) (f : Nat → α) (x : α) : Nat → α := if m < 20 then zfU f m x else zfU (fun i => f (i + 1)) 19 x
theorem uP_0 {α : Type} {m : Nat} {f : Nat → α} {x : α} (h : m < 20) : uP m f x = zfU f m x := if_pos h
theorem uP_1 {α : Type} {m : Nat} {f : Nat → α} {x : α} (h : ¬ m < 20) : uP m f x = zfU (fun i => f (i + 1)) 19 x := if_neg h
/-- what works undone may change -/
def zUF (h h' : cv_H) : Prop := ∀ k : Nat, (k < 63 ∨ 85 < k) → h'[k]? = h[k]?
theorem zUF_tr {h h' h'' : cv_H} (a : zUF h h') (b : zUF h' h'') : zUF h h'' := fun k q => (b k q).trans (a k q)
theorem at_h {h h' : cv_H} {k i : Nat} (e : h'[k]? = h[k]?) : cw_at h' k i = cw_at h k i := by unfold cw_at; rw [e]
theorem zGV_h {h h' : cv_H} {K : Nat} {γ : Nat → Int} (e : h'[K]? = h[K]?) (g : zGV h K γ) : zGV h' K γ := fun j hj => (ri_eq (at_h e)).trans (g j hj)
/-- on the way of the earliest one out -/
def zDE (h0 h : cv_H) (i : Nat) : Prop := (∀ k : Nat, k ≠ 64 → k ≠ 65 → h[k]? = h0[k]?) ∧ (∀ j, j + 1 < i → cw_at h 64 j = cw_at h0 64 (j + 1) ∧ ri_at h 65 j = ri_at h0 65 (j + 1)) ∧ ∀ j, i ≤ j + 1 → cw_at h 64 j = cw_at h0 64 j ∧ ri_at h 65 j = ri_at h0 65 j
section GN
variable {G : Int} {X : cv_X} {Q : cv_O → Prop} {h0 h : cv_H}
theorem oq_X10_dropEarliest_9 : cw_ho 103 9 (.iload_n 2) 1 0 0 0 := rfl
theorem oq_X10_dropEarliest_10 : cw_ho 103 10 (.bipush 20) 2 0 0 0 := rfl
theorem oq_X10_dropEarliest_12 : cw_ho 103 12 (.if_icmp .ge 37) 3 0 0 0 := rfl
theorem oq_X10_dropEarliest_15 : cw_ho 103 15 (.aload_n 0) 1 0 0 0 := rfl
theorem oq_X10_dropEarliest_16 : cw_ho 103 16 (.getfield 11) 3 10 0 4 := rfl
theorem oq_X10_dropEarliest_19 : cw_ho 103 19 (.iload_n 2) 1 0 0 0 := rfl
theorem oq_X10_dropEarliest_20 : cw_ho 103 20 (.iconst 1) 1 0 0 0 := rfl
theorem oq_X10_dropEarliest_21 : cw_ho 103 21 (.isub) 1 0 0 0 := rfl
theorem oq_X10_dropEarliest_22 : cw_ho 103 22 (.aload_n 0) 1 0 0 0 := rfl
theorem oq_X10_dropEarliest_23 : cw_ho 103 23 (.getfield 11) 3 10 0 4 := rfl
theorem oq_X10_dropEarliest_26 : cw_ho 103 26 (.iload_n 2) 1 0 0 0 := rfl
theorem oq_X10_dropEarliest_27 : cw_ho 103 27 (.aaload) 1 0 0 0 := rfl
theorem oq_X10_dropEarliest_28 : cw_ho 103 28 (.aastore) 1 0 0 0 := rfl
theorem oq_X10_dropEarliest_29 : cw_ho 103 29 (.aload_n 0) 1 0 0 0 := rfl
theorem oq_X10_dropEarliest_30 : cw_ho 103 30 (.getfield 17) 3 10 1 4 := rfl
theorem oq_X10_dropEarliest_33 : cw_ho 103 33 (.iload_n 2) 1 0 0 0 := rfl
theorem oq_X10_dropEarliest_34 : cw_ho 103 34 (.iconst 1) 1 0 0 0 := rfl
theorem oq_X10_dropEarliest_35 : cw_ho 103 35 (.isub) 1 0 0 0 := rfl
theorem oq_X10_dropEarliest_36 : cw_ho 103 36 (.aload_n 0) 1 0 0 0 := rfl
theorem oq_X10_dropEarliest_37 : cw_ho 103 37 (.getfield 17) 3 10 1 4 := rfl
theorem oq_X10_dropEarliest_40 : cw_ho 103 40 (.iload_n 2) 1 0 0 0 := rfl
theorem oq_X10_dropEarliest_41 : cw_ho 103 41 (.iaload) 1 0 0 0 := rfl
theorem oq_X10_dropEarliest_42 : cw_ho 103 42 (.iastore) 1 0 0 0 := rfl
theorem oq_X10_dropEarliest_43 : cw_ho 103 43 (.iinc 2 1) 3 0 0 0 := rfl
theorem oq_X10_dropEarliest_46 : cw_ho 103 46 (.goto (-37)) 3 0 0 0 := rfl
theorem oq_X10_dropEarliest_49 : cw_ho 103 49 (.aload_n 0) 1 0 0 0 := rfl
theorem oq_X10_dropEarliest_50 : cw_ho 103 50 (.getfield 11) 3 10 0 4 := rfl
theorem oq_X10_dropEarliest_53 : cw_ho 103 53 (.bipush 19) 2 0 0 0 := rfl
theorem oq_X10_dropEarliest_55 : cw_ho 103 55 (.aload_n 1) 1 0 0 0 := rfl
theorem oq_X10_dropEarliest_56 : cw_ho 103 56 (.aastore) 1 0 0 0 := rfl
theorem oq_X10_dropEarliest_57 : cw_ho 103 57 (.aload_n 0) 1 0 0 0 := rfl
theorem oq_X10_dropEarliest_58 : cw_ho 103 58 (.bipush 19) 2 0 0 0 := rfl
theorem oq_X10_dropEarliest_60 : cw_ho 103 60 (.putfield 24) 3 10 2 0 := rfl
theorem oq_X10_dropEarliest_63 : cw_ho 103 63 (.return_) 1 0 0 0 := rfl
theorem oq_X10_dropEarliest_0 : cw_ho 103 0 (.aload_n 0) 1 0 0 0 := rfl
theorem oq_X10_dropEarliest_1 : cw_ho 103 1 (.getfield 11) 3 10 0 4 := rfl
theorem oq_X10_dropEarliest_4 : cw_ho 103 4 (.iconst 0) 1 0 0 0 := rfl
theorem oq_X10_dropEarliest_5 : cw_ho 103 5 (.aaload) 1 0 0 0 := rfl
theorem oq_X10_dropEarliest_6 : cw_ho 103 6 (.astore_n 1) 1 0 0 0 := rfl
theorem oq_X10_dropEarliest_7 : cw_ho 103 7 (.iconst 1) 1 0 0 0 := rfl
theorem oq_X10_dropEarliest_8 : cw_ho 103 8 (.istore_n 2) 1 0 0 0 := rfl
theorem cu_dl {E : Nat} (sE : cw_sh[E]? = some 1) (aE : cw_at h0 64 0 = some (cv_r E)) (hQ : ∀ h', cw_T G h' → (∀ k : Nat, k ≠ 63 → k ≠ 64 → k ≠ 65 → h'[k]? = h0[k]?) → (∀ j, j < 19 → cw_at h' 64 j = cw_at h0 64 (j + 1) ∧ ri_at h' 65 j = ri_at h0 65 (j + 1)) → cw_at h' 64 19 = cw_at h0 64 0 → ri_at h' 63 2 = 19 → Q (none, h')) : ∀ (f i : Nat) (I : Int32) (h : cv_H) (L : cv_L), 20 - i = f → 1 ≤ i ∧ i ≤ 20 → I.toInt = i → cw_T G h → zDE h0 h i → cv_get L 0 = some (cv_r 63) → cv_get L 1 = some (cv_r E) → cv_get L 2 = some (cv_i I) → cw_X X 103 Q 9 L [] h := by
  intro f
  induction f with
  | zero =>
    intro i I h L hf hi hI' hT hI g0 g1 g2
    refine ex_il oq_X10_dropEarliest_9 g2 ?_
    refine ex_bi oq_X10_dropEarliest_10 (m := 20) (by decide) (fun x101 hx101 => ?_)
    refine ex_if oq_X10_dropEarliest_12 (t := 49) rfl rfl (fun (c102 : x101.toInt ≤ I.toInt) => ?_) (fun (c102 : ¬ (x101.toInt ≤ I.toInt)) => ?_)
    · refine ex_al oq_X10_dropEarliest_49 g0 ?_
      refine ex_gf oq_X10_dropEarliest_50 hT (k := 63) (d := 10) rfl rfl (ri_ref (k := 63) (k' := 64) (d := 10) (f := 0) hT rfl rfl rfl (by decide) (ri_uniq (by decide +kernel))) ?_
      refine ex_bi oq_X10_dropEarliest_53 (m := 19) (by decide) (fun x103 hx103 => ?_)
      refine ex_al oq_X10_dropEarliest_55 g1 ?_
      refine ex_aw oq_X10_dropEarliest_56 hT (k := 64) (d := 49) (j := 19) rfl rfl sE rfl rfl (by omega) (by omega) (fun h104 Th104 wh104 => ?_)
      refine ex_al oq_X10_dropEarliest_57 g0 ?_
      refine ex_bi oq_X10_dropEarliest_58 (m := 19) (by decide) (fun x105 hx105 => ?_)
      refine ex_pfi oq_X10_dropEarliest_60 Th104 (k := 63) (d := 10) rfl rfl rfl (cw_i32 _).1 (cw_i32 _).2 (fun h106 Th106 wh106 => ?_)
      exact ex_retv oq_X10_dropEarliest_63 rfl (hQ h106 Th106 (fun k p q r => (wh106.2.2 k p).trans ((wh104.2.2 k q).trans (hI.1 k q r))) (fun j q => ⟨(wh106.2.1 64 j (.inl (by decide))).trans ((wh104.2.1 64 j (.inr (by omega))).trans (hI.2.1 j (by omega)).1), (ri_ne wh106 (.inl (by decide))).trans ((ri_ne wh104 (.inl (by decide))).trans (hI.2.1 j (by omega)).2)⟩) ((wh106.2.1 64 19 (.inl (by decide))).trans (wh104.1.trans aE.symm)) ((ri_self wh106).trans (by omega)))
    · exfalso; omega
  | succ f ih =>
    intro i I h L hf hi hI' hT hI g0 g1 g2
    refine ex_il oq_X10_dropEarliest_9 g2 ?_
    refine ex_bi oq_X10_dropEarliest_10 (m := 20) (by decide) (fun x101 hx101 => ?_)
    refine ex_if oq_X10_dropEarliest_12 (t := 49) rfl rfl (fun (c102 : x101.toInt ≤ I.toInt) => ?_) (fun (c102 : ¬ (x101.toInt ≤ I.toInt)) => ?_)
    · exfalso; omega
    · refine ex_al oq_X10_dropEarliest_15 g0 ?_
      refine ex_gf oq_X10_dropEarliest_16 hT (k := 63) (d := 10) rfl rfl (ri_ref (k := 63) (k' := 64) (d := 10) (f := 0) hT rfl rfl rfl (by decide) (ri_uniq (by decide +kernel))) ?_
      refine ex_il oq_X10_dropEarliest_19 g2 ?_
      refine ex_ic oq_X10_dropEarliest_20 (m := 1) (by decide) (fun x103 hx103 => ?_)
      refine ex_sub oq_X10_dropEarliest_21 (by omega) (fun x104 hx104 => ?_)
      refine ex_al oq_X10_dropEarliest_22 g0 ?_
      refine ex_gf oq_X10_dropEarliest_23 hT (k := 63) (d := 10) rfl rfl (ri_ref (k := 63) (k' := 64) (d := 10) (f := 0) hT rfl rfl rfl (by decide) (ri_uniq (by decide +kernel))) ?_
      refine ex_il oq_X10_dropEarliest_26 g2 ?_
      refine ex_aa oq_X10_dropEarliest_27 hT (k := 64) (d := 49) (j := i) rfl rfl (by omega) (by omega) (fun k106 ak106 sk106 => ?_)
      refine ex_aw oq_X10_dropEarliest_28 hT (k := 64) (d := 49) (j := i - 1) rfl rfl sk106 rfl rfl (by omega) (by omega) (fun h107 Th107 wh107 => ?_)
      refine ex_al oq_X10_dropEarliest_29 g0 ?_
      refine ex_gf oq_X10_dropEarliest_30 Th107 (k := 63) (d := 10) rfl rfl (ri_ref (k := 63) (k' := 65) (d := 10) (f := 1) Th107 rfl rfl rfl (by decide) (ri_uniq (by decide +kernel))) ?_
      refine ex_il oq_X10_dropEarliest_33 g2 ?_
      refine ex_ic oq_X10_dropEarliest_34 (m := 1) (by decide) (fun x108 hx108 => ?_)
      refine ex_sub oq_X10_dropEarliest_35 (by omega) (fun x109 hx109 => ?_)
      refine ex_al oq_X10_dropEarliest_36 g0 ?_
      refine ex_gf oq_X10_dropEarliest_37 Th107 (k := 63) (d := 10) rfl rfl (ri_ref (k := 63) (k' := 65) (d := 10) (f := 1) Th107 rfl rfl rfl (by decide) (ri_uniq (by decide +kernel))) ?_
      refine ex_il oq_X10_dropEarliest_40 g2 ?_
      refine ex_ia1 oq_X10_dropEarliest_41 Th107 (k := 65) (d := 50) (j := i) rfl rfl (by omega) (by omega) (fun x110 hx110 lx110 ux110 => ?_)
      refine ex_iw1 oq_X10_dropEarliest_42 Th107 (k := 65) (d := 50) (j := i - 1) rfl rfl (by omega) (by omega) ⟨(cw_i32 _).1, (cw_i32 _).2⟩ (fun h111 Th111 wh111 => ?_)
      refine ex_incA oq_X10_dropEarliest_43 (v := I) (m := 1) g2 (by decide) (by omega) (fun L113 x112 hx112 gL113_2 kL113 => ?_)
      have gL113_0 : cv_get L113 0 = some (cv_r 63) := kL113 0 _ (by decide) (fun q => absurd q (by decide)) g0
      have gL113_1 : cv_get L113 1 = some (cv_r E) := kL113 1 _ (by decide) (fun _ => rfl) g1
      refine ex_go oq_X10_dropEarliest_46 (t := 9) rfl rfl ?_
      refine ih (i + 1) x112 h111 L113 (by omega) (by omega) (by omega) Th111 ⟨fun k p q => (wh111.2.2 k q).trans ((wh107.2.2 k p).trans (hI.1 k p q)), fun j q => ?_, fun j q => ⟨(wh111.2.1 64 j (.inl (by decide))).trans ((wh107.2.1 64 j (.inr (by omega))).trans (hI.2.2 j (by omega)).1), (ri_ne wh111 (.inr (by omega))).trans ((ri_ne wh107 (.inl (by decide))).trans (hI.2.2 j (by omega)).2)⟩⟩ gL113_0 gL113_1 gL113_2
      by_cases cj : j = i - 1
      · subst cj
        have e1 : i - 1 + 1 = i := by omega
        rw [e1]
        exact ⟨(wh111.2.1 64 _ (.inl (by decide))).trans (wh107.1.trans (ak106.symm.trans (hI.2.2 i (by omega)).1)), (ri_self wh111).trans (hx110.symm.trans ((ri_ne wh107 (.inl (by decide))).trans (hI.2.2 i (by omega)).2))⟩
      · exact ⟨(wh111.2.1 64 j (.inl (by decide))).trans ((wh107.2.1 64 j (.inr (by omega))).trans (hI.2.1 j (by omega)).1), (ri_ne wh111 (.inr (by omega))).trans ((ri_ne wh107 (.inl (by decide))).trans (hI.2.1 j (by omega)).2)⟩
theorem cu_drop (hT : cw_T G h0) (hQ : ∀ h', cw_T G h' → (∀ k : Nat, k ≠ 63 → k ≠ 64 → k ≠ 65 → h'[k]? = h0[k]?) → (∀ j, j < 19 → cw_at h' 64 j = cw_at h0 64 (j + 1) ∧ ri_at h' 65 j = ri_at h0 65 (j + 1)) → cw_at h' 64 19 = cw_at h0 64 0 → ri_at h' 63 2 = 19 → Q (none, h')) : cw_X X 103 Q 0 (cv_ent 0 [cv_r 63]) [] h0 := by
  refine ex_al oq_X10_dropEarliest_0 rfl ?_
  refine ex_gf oq_X10_dropEarliest_1 hT (k := 63) (d := 10) rfl rfl (ri_ref (k := 63) (k' := 64) (d := 10) (f := 0) hT rfl rfl rfl (by decide) (ri_uniq (by decide +kernel))) ?_
  refine ex_ic oq_X10_dropEarliest_4 (m := 0) (by decide) (fun x201 hx201 => ?_)
  refine ex_aa oq_X10_dropEarliest_5 hT (k := 64) (d := 49) (j := 0) rfl rfl (by omega) (by omega) (fun k203 ak203 sk203 => ?_)
  refine ex_asA oq_X10_dropEarliest_6 (fun L204 gL204_1 kL204 => ?_)
  have gL204_0 : cv_get L204 0 = some (cv_r 63) := kL204 0 _ (by decide) (fun _ => rfl) rfl
  refine ex_ic oq_X10_dropEarliest_7 (m := 1) (by decide) (fun x205 hx205 => ?_)
  refine ex_isA oq_X10_dropEarliest_8 (fun L206 gL206_2 kL206 => ?_)
  have gL206_1 : cv_get L206 1 = some (cv_r k203) := kL206 1 _ (by decide) (fun _ => rfl) gL204_1
  have gL206_0 : cv_get L206 0 = some (cv_r 63) := kL206 0 _ (by decide) (fun q => absurd q (by decide)) gL204_0
  exact cu_dl sk203 ak203 hQ 19 1 x205 h0 L206 (by omega) (by omega) (by omega) hT ⟨fun _ _ _ => rfl, fun j q => by omega, fun j q => ⟨rfl, rfl⟩⟩ gL206_0 gL206_1 gL206_2
theorem zU_sh {b : Nat} {Bf ν : Nat → Nat} {υ : Nat → Nat → Int} {h h' : cv_H} (B : zUB h Bf) (S : zUS h b 20 Bf ν υ) (a : ∀ k : Nat, k ≠ 63 → k ≠ 64 → k ≠ 65 → h'[k]? = h[k]?) (c : ∀ j, j < 19 → cw_at h' 64 j = cw_at h 64 (j + 1) ∧ ri_at h' 65 j = ri_at h 65 (j + 1)) (d : cw_at h' 64 19 = cw_at h 64 0) (e : ri_at h' 63 2 = 19) : zUB h' (fun i => if i = 19 then Bf 0 else Bf (i + 1)) ∧ zUS h' b 19 (fun i => if i = 19 then Bf 0 else Bf (i + 1)) (fun i => ν (i + 1)) (fun i => υ (i + 1)) := by
  have hne : ∀ i, i < 20 → h'[Bf i]? = h[Bf i]? := fun i hi => a _ (by have := B.1 i hi; omega) (by have := B.1 i hi; omega) (by have := B.1 i hi; omega)
  refine ⟨⟨fun i hi => ?_, fun i j hi hj q => ?_⟩, e, by decide, fun i hi => ?_⟩
  · dsimp only
    by_cases ci : i = 19
    · subst ci
      rw [if_pos rfl]
      exact ⟨d.trans (B.1 0 (by decide)).1, (B.1 0 (by decide)).2⟩
    · rw [if_neg ci]
      exact ⟨(c i (by omega)).1.trans (B.1 (i + 1) (by omega)).1, (B.1 (i + 1) (by omega)).2⟩
  · dsimp only at q
    by_cases ci : i = 19
    · rw [if_pos ci] at q
      by_cases cj : j = 19
      · omega
      · rw [if_neg cj] at q
        have := B.2 _ _ (by omega) (by omega) q
        omega
    · rw [if_neg ci] at q
      by_cases cj : j = 19
      · rw [if_pos cj] at q
        have := B.2 _ _ (by omega) (by omega) q
        omega
      · rw [if_neg cj] at q
        have := B.2 _ _ (by omega) (by omega) q
        omega
  · have s := S.2.2 (i + 1) (by omega)
    dsimp only
    rw [if_neg (by omega)]
    exact ⟨(c i (by omega)).2.trans s.1, zGV_h (hne _ (by omega)) s.2.1, (at_h (hne _ (by omega))).trans s.2.2⟩
theorem oq_X10_push_13 : cw_ho 102 13 (.aload_n 0) 1 0 0 0 := rfl
theorem oq_X10_push_14 : cw_ho 102 14 (.getfield 24) 3 10 2 0 := rfl
theorem oq_X10_push_17 : cw_ho 102 17 (.ifCond .lt 45) 3 0 0 0 := rfl
theorem oq_X10_push_20 : cw_ho 102 20 (.aload_n 0) 1 0 0 0 := rfl
theorem oq_X10_push_21 : cw_ho 102 21 (.getfield 24) 3 10 2 0 := rfl
theorem oq_X10_push_24 : cw_ho 102 24 (.bipush 20) 2 0 0 0 := rfl
theorem oq_X10_push_26 : cw_ho 102 26 (.if_icmp .ge 36) 3 0 0 0 := rfl
theorem oq_X10_push_29 : cw_ho 102 29 (.aload_n 0) 1 0 0 0 := rfl
theorem oq_X10_push_30 : cw_ho 102 30 (.getfield 11) 3 10 0 4 := rfl
theorem oq_X10_push_33 : cw_ho 102 33 (.aload_n 0) 1 0 0 0 := rfl
theorem oq_X10_push_34 : cw_ho 102 34 (.getfield 24) 3 10 2 0 := rfl
theorem oq_X10_push_37 : cw_ho 102 37 (.aaload) 1 0 0 0 := rfl
theorem oq_X10_push_38 : cw_ho 102 38 (.aload_n 2) 1 0 0 0 := rfl
theorem oq_X10_push_39 : cw_ho 102 39 (.invokevirtual 31) 3 16 1 1 := rfl
theorem oq_X10_push_42 : cw_ho 102 42 (.aload_n 0) 1 0 0 0 := rfl
theorem oq_X10_push_43 : cw_ho 102 43 (.getfield 17) 3 10 1 4 := rfl
theorem oq_X10_push_46 : cw_ho 102 46 (.aload_n 0) 1 0 0 0 := rfl
theorem oq_X10_push_47 : cw_ho 102 47 (.getfield 24) 3 10 2 0 := rfl
theorem oq_X10_push_50 : cw_ho 102 50 (.iload_n 1) 1 0 0 0 := rfl
theorem oq_X10_push_51 : cw_ho 102 51 (.iastore) 1 0 0 0 := rfl
theorem oq_X10_push_52 : cw_ho 102 52 (.aload_n 0) 1 0 0 0 := rfl
theorem oq_X10_push_53 : cw_ho 102 53 (.dup) 1 0 0 0 := rfl
theorem oq_X10_push_54 : cw_ho 102 54 (.getfield 24) 3 10 2 0 := rfl
theorem oq_X10_push_57 : cw_ho 102 57 (.iconst 1) 1 0 0 0 := rfl
theorem oq_X10_push_58 : cw_ho 102 58 (.iadd) 1 0 0 0 := rfl
theorem oq_X10_push_59 : cw_ho 102 59 (.putfield 24) 3 10 2 0 := rfl
theorem oq_X10_push_62 : cw_ho 102 62 (.return_) 1 0 0 0 := rfl
theorem cu_p13 (hT : cw_T G h) {b m : Nat} {Bf ν : Nat → Nat} {υ : Nat → Nat → Int} (B : zUB h Bf) (S : zUS h b m Bf ν υ) (hm : m < 20) {K gn : Nat} {g : Int32} (hg : g.toInt = gn) (hK : cw_sh[K]? = some 1) (hK2 : 85 < K) {γ : Nat → Int} (gv : zGV h K γ) (hp : cw_at h K 0 = some (cv_r (b + 16 + 2 * gn))) (hU : cw_sh[b + 16 + 2 * gn]? = some 7) {L : cv_L} (g0 : cv_get L 0 = some (cv_r 63)) (g1 : cv_get L 1 = some (cv_i g)) (g2 : cv_get L 2 = some (cv_r K)) (hQ : ∀ h', cw_T G h' → zUF h h' → zUB h' Bf → zUS h' b (m + 1) Bf (zfU ν m gn) (zfU υ m γ) → Q (none, h')) : cw_X X 102 Q 13 L [] h := by
  refine ex_al oq_X10_push_13 g0 ?_
  obtain ⟨x101, ax101, rx101, lx101, ux101⟩ := ri_fld (k := 63) (d := 10) (f := 2) hT rfl rfl rfl
  try dsimp only at lx101 ux101
  refine ex_gf oq_X10_push_14 hT (k := 63) (d := 10) rfl rfl ax101 ?_
  clear lx101 ux101
  have rx101 := (rx101.symm.trans S.1 : x101.toInt = (m : Int))
  refine ex_if0 oq_X10_push_17 (t := 62) rfl rfl (fun (c102 : x101.toInt < 0) => ?_) (fun (c102 : ¬ (x101.toInt < 0)) => ?_)
  · exfalso; omega
  · refine ex_al oq_X10_push_20 g0 ?_
    obtain ⟨x103, ax103, rx103, lx103, ux103⟩ := ri_fld (k := 63) (d := 10) (f := 2) hT rfl rfl rfl
    try dsimp only at lx103 ux103
    refine ex_gf oq_X10_push_21 hT (k := 63) (d := 10) rfl rfl ax103 ?_
    clear lx103 ux103
    have rx103 := (rx103.symm.trans S.1 : x103.toInt = (m : Int))
    refine ex_bi oq_X10_push_24 (m := 20) (by decide) (fun x104 hx104 => ?_)
    refine ex_if oq_X10_push_26 (t := 62) rfl rfl (fun (c105 : x104.toInt ≤ x103.toInt) => ?_) (fun (c105 : ¬ (x104.toInt ≤ x103.toInt)) => ?_)
    · exfalso; omega
    · refine ex_al oq_X10_push_29 g0 ?_
      refine ex_gf oq_X10_push_30 hT (k := 63) (d := 10) rfl rfl (ri_ref (k := 63) (k' := 64) (d := 10) (f := 0) hT rfl rfl rfl (by decide) (ri_uniq (by decide +kernel))) ?_
      refine ex_al oq_X10_push_33 g0 ?_
      obtain ⟨x106, ax106, rx106, lx106, ux106⟩ := ri_fld (k := 63) (d := 10) (f := 2) hT rfl rfl rfl
      try dsimp only at lx106 ux106
      refine ex_gf oq_X10_push_34 hT (k := 63) (d := 10) rfl rfl ax106 ?_
      clear lx106 ux106
      have rx106 := (rx106.symm.trans S.1 : x106.toInt = (m : Int))
      refine ex_aa oq_X10_push_37 hT (k := 64) (d := 49) (j := m) rfl rfl (by omega) (by omega) (fun k108 ak108 sk108 => ?_)
      have ek108 : k108 = Bf m := rk_inj (ak108.symm.trans (B.1 m (by omega)).1)
      subst ek108
      refine ex_al oq_X10_push_38 g2 ?_
      refine ex_cv oq_X10_push_39 (by decide) hT (k := Bf m) (d := 1) (as := [cv_r K]) (stk := []) sk108 rfl rfl rfl rfl rfl ⟨rfl, rfl⟩ (R := fun o => ∃ hb : cv_H, o = (none, hb) ∧ cw_T G hb ∧ cp_F (Bf m) h hb ∧ zGV hb (Bf m) γ ∧ cw_at hb (Bf m) 0 = some (cv_r (b + 16 + 2 * gn))) (cg_copy hT sk108 hK (by have := B.1 m (by omega); omega) hU hp gv (fun hb b1 b2 b3 b4 => ⟨hb, rfl, b1, b2, b3, b4⟩)) (fun o ho => ?_)
      obtain ⟨h109, rfl, Th109, ch109, Vh109, ph109⟩ := ho
      show cw_X _ _ _ _ _ [] h109
      have nh109 : ri_at h109 63 2 = m := (ri_eq (cp_at ch109 (by have := B.1 m (by omega); omega))).trans S.1
      refine ex_al oq_X10_push_42 g0 ?_
      refine ex_gf oq_X10_push_43 Th109 (k := 63) (d := 10) rfl rfl (ri_ref (k := 63) (k' := 65) (d := 10) (f := 1) Th109 rfl rfl rfl (by decide) (ri_uniq (by decide +kernel))) ?_
      refine ex_al oq_X10_push_46 g0 ?_
      obtain ⟨x110, ax110, rx110, lx110, ux110⟩ := ri_fld (k := 63) (d := 10) (f := 2) Th109 rfl rfl rfl
      try dsimp only at lx110 ux110
      refine ex_gf oq_X10_push_47 Th109 (k := 63) (d := 10) rfl rfl ax110 ?_
      clear lx110 ux110
      have rx110 := (rx110.symm.trans nh109 : x110.toInt = (m : Int))
      refine ex_il oq_X10_push_50 g1 ?_
      refine ex_iw1 oq_X10_push_51 Th109 (k := 65) (d := 50) (j := m) rfl rfl (by omega) (by omega) ⟨(cw_i32 _).1, (cw_i32 _).2⟩ (fun h111 Th111 wh111 => ?_)
      have eh111_63_2 : ri_at h111 63 2 = (m : Int) := (ri_ne wh111 (.inl (by decide))).trans nh109
      refine ex_al oq_X10_push_52 g0 ?_
      refine ex_dup oq_X10_push_53 rfl ?_
      obtain ⟨x112, ax112, rx112, lx112, ux112⟩ := ri_fld (k := 63) (d := 10) (f := 2) Th111 rfl rfl rfl
      try dsimp only at lx112 ux112
      refine ex_gf oq_X10_push_54 Th111 (k := 63) (d := 10) rfl rfl ax112 ?_
      clear lx112 ux112
      have rx112 := (rx112.symm.trans eh111_63_2 : x112.toInt = (m : Int))
      refine ex_ic oq_X10_push_57 (m := 1) (by decide) (fun x113 hx113 => ?_)
      refine ex_add oq_X10_push_58 (by omega) (fun x114 hx114 => ?_)
      refine ex_pfi oq_X10_push_59 Th111 (k := 63) (d := 10) rfl rfl rfl (cw_i32 _).1 (cw_i32 _).2 (fun h115 Th115 wh115 => ?_)
      have bm := B.1 m (by omega)
      refine ex_retv oq_X10_push_62 rfl (hQ h115 Th115 (fun k q => (wh115.2.2 k (by omega)).trans ((wh111.2.2 k (by omega)).trans (ch109 k (by omega)))) ⟨fun i hi => ⟨(wh115.2.1 64 i (.inl (by decide))).trans ((wh111.2.1 64 i (.inl (by decide))).trans ((cp_at ch109 (by omega)).trans (B.1 i hi).1)), (B.1 i hi).2⟩, B.2⟩ ⟨(ri_self wh115).trans (by omega), by omega, fun i hi => ?_⟩)
      have bi := B.1 i (by omega)
      have e2 : h115[Bf i]? = h109[Bf i]? := (wh115.2.2 _ (by omega)).trans (wh111.2.2 _ (by omega))
      by_cases ci : i = m
      · subst ci
        rw [zfU_eq, zfU_eq]
        exact ⟨(ri_ne wh115 (.inl (by decide))).trans ((ri_self wh111).trans hg), zGV_h e2 Vh109, (at_h e2).trans ph109⟩
      · rw [zfU_ne ci, zfU_ne ci]
        have s := S.2.2 i (by omega)
        have e3 : h115[Bf i]? = h[Bf i]? := e2.trans (ch109 _ (fun q => ci (B.2 _ _ (by omega) (by omega) q)))
        exact ⟨(ri_ne wh115 (.inl (by decide))).trans ((ri_ne wh111 (.inr ci)).trans ((ri_eq (cp_at ch109 (by omega))).trans s.1)), zGV_h e3 s.2.1, (at_h e3).trans s.2.2⟩
theorem oq_X10_push_0 : cw_ho 102 0 (.aload_n 0) 1 0 0 0 := rfl
theorem oq_X10_push_1 : cw_ho 102 1 (.getfield 24) 3 10 2 0 := rfl
theorem oq_X10_push_4 : cw_ho 102 4 (.bipush 20) 2 0 0 0 := rfl
theorem oq_X10_push_6 : cw_ho 102 6 (.if_icmp .lt 7) 3 0 0 0 := rfl
theorem oq_X10_push_9 : cw_ho 102 9 (.aload_n 0) 1 0 0 0 := rfl
theorem oq_X10_push_10 : cw_ho 102 10 (.invokevirtual 28) 3 103 0 10 := rfl
theorem cu_push (hT : cw_T G h) {b m : Nat} {Bf ν : Nat → Nat} {υ : Nat → Nat → Int} (B : zUB h Bf) (S : zUS h b m Bf ν υ) {K gn : Nat} {g : Int32} (hg : g.toInt = gn) (hK : cw_sh[K]? = some 1) (hK2 : 85 < K) {γ : Nat → Int} (gv : zGV h K γ) (hp : cw_at h K 0 = some (cv_r (b + 16 + 2 * gn))) (hU : cw_sh[b + 16 + 2 * gn]? = some 7) (hQ : ∀ h' Bf', cw_T G h' → zUF h h' → zUB h' Bf' → zUS h' b (min (m + 1) 20) Bf' (uP m ν gn) (uP m υ γ) → Q (none, h')) : cw_X X 102 Q 0 (cv_ent 0 [cv_r 63, cv_i g, cv_r K]) [] h := by
  have hm2 := S.2.1
  refine ex_al oq_X10_push_0 rfl ?_
  obtain ⟨x101, ax101, rx101, lx101, ux101⟩ := ri_fld (k := 63) (d := 10) (f := 2) hT rfl rfl rfl
  try dsimp only at lx101 ux101
  refine ex_gf oq_X10_push_1 hT (k := 63) (d := 10) rfl rfl ax101 ?_
  clear lx101 ux101
  have rx101 := (rx101.symm.trans S.1 : x101.toInt = (m : Int))
  refine ex_bi oq_X10_push_4 (m := 20) (by decide) (fun x102 hx102 => ?_)
  refine ex_if oq_X10_push_6 (t := 13) rfl rfl (fun (c103 : x101.toInt < x102.toInt) => ?_) (fun (c103 : ¬ (x101.toInt < x102.toInt)) => ?_)
  · exact cu_p13 hT B S (by omega) hg hK hK2 gv hp hU rfl rfl rfl (fun h' q1 q2 q3 q4 => hQ h' _ q1 q2 q3 (by rw [uP_0 (by omega), uP_0 (by omega), show min (m + 1) 20 = m + 1 from by omega]; exact q4))
  · refine ex_al oq_X10_push_9 rfl ?_
    refine ex_cv oq_X10_push_10 (by decide) hT (k := 63) (d := 10) (as := []) (stk := []) rfl rfl rfl rfl rfl rfl ⟨rfl, rfl⟩ (R := fun o => ∃ hb : cv_H, o = (none, hb) ∧ cw_T G hb ∧ (∀ k : Nat, k ≠ 63 → k ≠ 64 → k ≠ 65 → hb[k]? = h[k]?) ∧ (∀ j, j < 19 → cw_at hb 64 j = cw_at h 64 (j + 1) ∧ ri_at hb 65 j = ri_at h 65 (j + 1)) ∧ cw_at hb 64 19 = cw_at h 64 0 ∧ ri_at hb 63 2 = 19) (cu_drop hT (fun hb b1 b2 b3 b4 b5 => ⟨hb, rfl, b1, b2, b3, b4, b5⟩)) (fun o ho => ?_)
    obtain ⟨h104, rfl, Th104, d1, d2, d3, d4⟩ := ho
    show cw_X _ _ _ _ _ [] h104
    have hm20 : m = 20 := by have := S.2.1; omega
    subst hm20
    obtain ⟨B2, S2⟩ := zU_sh B S d1 d2 d3 d4
    exact cu_p13 Th104 B2 S2 (by decide) hg hK hK2 (zGV_h (d1 K (by omega) (by omega) (by omega)) gv) ((at_h (d1 K (by omega) (by omega) (by omega))).trans hp) hU rfl rfl rfl (fun h' q1 q2 q3 q4 => hQ h' _ q1 (zUF_tr (fun k q => d1 k (by omega) (by omega) (by omega)) q2) q3 (by rw [uP_1 (by decide), uP_1 (by decide)]; exact q4))
theorem oq_X10_latestGate_0 : cw_ho 104 0 (.aload_n 0) 1 0 0 0 := rfl
theorem oq_X10_latestGate_1 : cw_ho 104 1 (.getfield 24) 3 10 2 0 := rfl
theorem oq_X10_latestGate_4 : cw_ho 104 4 (.ifCond .le 26) 3 0 0 0 := rfl
theorem oq_X10_latestGate_7 : cw_ho 104 7 (.aload_n 0) 1 0 0 0 := rfl
theorem oq_X10_latestGate_8 : cw_ho 104 8 (.getfield 24) 3 10 2 0 := rfl
theorem oq_X10_latestGate_11 : cw_ho 104 11 (.bipush 20) 2 0 0 0 := rfl
theorem oq_X10_latestGate_13 : cw_ho 104 13 (.if_icmp .gt 17) 3 0 0 0 := rfl
theorem oq_X10_latestGate_16 : cw_ho 104 16 (.aload_n 0) 1 0 0 0 := rfl
theorem oq_X10_latestGate_17 : cw_ho 104 17 (.getfield 17) 3 10 1 4 := rfl
theorem oq_X10_latestGate_20 : cw_ho 104 20 (.aload_n 0) 1 0 0 0 := rfl
theorem oq_X10_latestGate_21 : cw_ho 104 21 (.getfield 24) 3 10 2 0 := rfl
theorem oq_X10_latestGate_24 : cw_ho 104 24 (.iconst 1) 1 0 0 0 := rfl
theorem oq_X10_latestGate_25 : cw_ho 104 25 (.isub) 1 0 0 0 := rfl
theorem oq_X10_latestGate_26 : cw_ho 104 26 (.iaload) 1 0 0 0 := rfl
theorem oq_X10_latestGate_27 : cw_ho 104 27 (.goto 4) 3 0 0 0 := rfl
theorem oq_X10_latestGate_31 : cw_ho 104 31 (.ireturn) 1 0 0 0 := rfl
theorem cu_latest (hT : cw_T G h) {b m : Nat} {Bf ν : Nat → Nat} {υ : Nat → Nat → Int} (S : zUS h b m Bf ν υ) (hm : 0 < m) (hQ : ∀ x : Int32, x.toInt = ν (m - 1) → Q (some (cv_i x), h)) : cw_X X 104 Q 0 (cv_ent 0 [cv_r 63]) [] h := by
  have hm2 := S.2.1
  refine ex_al oq_X10_latestGate_0 rfl ?_
  obtain ⟨x101, ax101, rx101, lx101, ux101⟩ := ri_fld (k := 63) (d := 10) (f := 2) hT rfl rfl rfl
  try dsimp only at lx101 ux101
  refine ex_gf oq_X10_latestGate_1 hT (k := 63) (d := 10) rfl rfl ax101 ?_
  clear lx101 ux101
  have rx101 := (rx101.symm.trans S.1 : x101.toInt = (m : Int))
  refine ex_if0 oq_X10_latestGate_4 (t := 30) rfl rfl (fun (c102 : x101.toInt ≤ 0) => ?_) (fun (c102 : ¬ (x101.toInt ≤ 0)) => ?_)
  · exfalso; omega
  · refine ex_al oq_X10_latestGate_7 rfl ?_
    obtain ⟨x103, ax103, rx103, lx103, ux103⟩ := ri_fld (k := 63) (d := 10) (f := 2) hT rfl rfl rfl
    try dsimp only at lx103 ux103
    refine ex_gf oq_X10_latestGate_8 hT (k := 63) (d := 10) rfl rfl ax103 ?_
    clear lx103 ux103
    have rx103 := (rx103.symm.trans S.1 : x103.toInt = (m : Int))
    refine ex_bi oq_X10_latestGate_11 (m := 20) (by decide) (fun x104 hx104 => ?_)
    refine ex_if oq_X10_latestGate_13 (t := 30) rfl rfl (fun (c105 : x104.toInt < x103.toInt) => ?_) (fun (c105 : ¬ (x104.toInt < x103.toInt)) => ?_)
    · exfalso; omega
    · refine ex_al oq_X10_latestGate_16 rfl ?_
      refine ex_gf oq_X10_latestGate_17 hT (k := 63) (d := 10) rfl rfl (ri_ref (k := 63) (k' := 65) (d := 10) (f := 1) hT rfl rfl rfl (by decide) (ri_uniq (by decide +kernel))) ?_
      refine ex_al oq_X10_latestGate_20 rfl ?_
      obtain ⟨x106, ax106, rx106, lx106, ux106⟩ := ri_fld (k := 63) (d := 10) (f := 2) hT rfl rfl rfl
      try dsimp only at lx106 ux106
      refine ex_gf oq_X10_latestGate_21 hT (k := 63) (d := 10) rfl rfl ax106 ?_
      clear lx106 ux106
      have rx106 := (rx106.symm.trans S.1 : x106.toInt = (m : Int))
      refine ex_ic oq_X10_latestGate_24 (m := 1) (by decide) (fun x107 hx107 => ?_)
      refine ex_sub oq_X10_latestGate_25 (by omega) (fun x108 hx108 => ?_)
      refine ex_ia1 oq_X10_latestGate_26 hT (k := 65) (d := 50) (j := m - 1) rfl rfl (by omega) (by omega) (fun x109 hx109 lx109 ux109 => ?_)
      refine ex_go oq_X10_latestGate_27 (t := 31) rfl rfl ?_
      exact ex_reti oq_X10_latestGate_31 rfl (hQ x109 (hx109.symm.trans (S.2.2 (m - 1) (by omega)).1))
theorem oq_X10_popInto_0 : cw_ho 105 0 (.aload_n 0) 1 0 0 0 := rfl
theorem oq_X10_popInto_1 : cw_ho 105 1 (.getfield 24) 3 10 2 0 := rfl
theorem oq_X10_popInto_4 : cw_ho 105 4 (.ifCond .le 35) 3 0 0 0 := rfl
theorem oq_X10_popInto_7 : cw_ho 105 7 (.aload_n 0) 1 0 0 0 := rfl
theorem oq_X10_popInto_8 : cw_ho 105 8 (.getfield 24) 3 10 2 0 := rfl
theorem oq_X10_popInto_11 : cw_ho 105 11 (.bipush 20) 2 0 0 0 := rfl
theorem oq_X10_popInto_13 : cw_ho 105 13 (.if_icmp .gt 26) 3 0 0 0 := rfl
theorem oq_X10_popInto_16 : cw_ho 105 16 (.aload_n 0) 1 0 0 0 := rfl
theorem oq_X10_popInto_17 : cw_ho 105 17 (.dup) 1 0 0 0 := rfl
theorem oq_X10_popInto_18 : cw_ho 105 18 (.getfield 24) 3 10 2 0 := rfl
theorem oq_X10_popInto_21 : cw_ho 105 21 (.iconst 1) 1 0 0 0 := rfl
theorem oq_X10_popInto_22 : cw_ho 105 22 (.isub) 1 0 0 0 := rfl
theorem oq_X10_popInto_23 : cw_ho 105 23 (.putfield 24) 3 10 2 0 := rfl
theorem oq_X10_popInto_26 : cw_ho 105 26 (.aload_n 1) 1 0 0 0 := rfl
theorem oq_X10_popInto_27 : cw_ho 105 27 (.aload_n 0) 1 0 0 0 := rfl
theorem oq_X10_popInto_28 : cw_ho 105 28 (.getfield 11) 3 10 0 4 := rfl
theorem oq_X10_popInto_31 : cw_ho 105 31 (.aload_n 0) 1 0 0 0 := rfl
theorem oq_X10_popInto_32 : cw_ho 105 32 (.getfield 24) 3 10 2 0 := rfl
theorem oq_X10_popInto_35 : cw_ho 105 35 (.aaload) 1 0 0 0 := rfl
theorem oq_X10_popInto_36 : cw_ho 105 36 (.invokevirtual 31) 3 16 1 1 := rfl
theorem oq_X10_popInto_39 : cw_ho 105 39 (.return_) 1 0 0 0 := rfl
theorem cu_pop (hT : cw_T G h) {b m : Nat} {Bf ν : Nat → Nat} {υ : Nat → Nat → Int} (B : zUB h Bf) (S : zUS h b m Bf ν υ) (hm : 0 < m) {K : Nat} (hK : cw_sh[K]? = some 1) (hK2 : 85 < K) (hU : cw_sh[b + 16 + 2 * ν (m - 1)]? = some 7) (hQ : ∀ h', cw_T G h' → (∀ k : Nat, (k < 63 ∨ 85 < k) → k ≠ K → h'[k]? = h[k]?) → zUB h' Bf → zUS h' b (m - 1) Bf ν υ → zGV h' K (υ (m - 1)) → cw_at h' K 0 = some (cv_r (b + 16 + 2 * ν (m - 1))) → Q (none, h')) : cw_X X 105 Q 0 (cv_ent 0 [cv_r 63, cv_r K]) [] h := by
  have hm2 := S.2.1
  refine ex_al oq_X10_popInto_0 rfl ?_
  obtain ⟨x101, ax101, rx101, lx101, ux101⟩ := ri_fld (k := 63) (d := 10) (f := 2) hT rfl rfl rfl
  try dsimp only at lx101 ux101
  refine ex_gf oq_X10_popInto_1 hT (k := 63) (d := 10) rfl rfl ax101 ?_
  clear lx101 ux101
  have rx101 := (rx101.symm.trans S.1 : x101.toInt = (m : Int))
  refine ex_if0 oq_X10_popInto_4 (t := 39) rfl rfl (fun (c102 : x101.toInt ≤ 0) => ?_) (fun (c102 : ¬ (x101.toInt ≤ 0)) => ?_)
  · exfalso; omega
  · refine ex_al oq_X10_popInto_7 rfl ?_
    obtain ⟨x103, ax103, rx103, lx103, ux103⟩ := ri_fld (k := 63) (d := 10) (f := 2) hT rfl rfl rfl
    try dsimp only at lx103 ux103
    refine ex_gf oq_X10_popInto_8 hT (k := 63) (d := 10) rfl rfl ax103 ?_
    clear lx103 ux103
    have rx103 := (rx103.symm.trans S.1 : x103.toInt = (m : Int))
    refine ex_bi oq_X10_popInto_11 (m := 20) (by decide) (fun x104 hx104 => ?_)
    refine ex_if oq_X10_popInto_13 (t := 39) rfl rfl (fun (c105 : x104.toInt < x103.toInt) => ?_) (fun (c105 : ¬ (x104.toInt < x103.toInt)) => ?_)
    · exfalso; omega
    · refine ex_al oq_X10_popInto_16 rfl ?_
      refine ex_dup oq_X10_popInto_17 rfl ?_
      obtain ⟨x106, ax106, rx106, lx106, ux106⟩ := ri_fld (k := 63) (d := 10) (f := 2) hT rfl rfl rfl
      try dsimp only at lx106 ux106
      refine ex_gf oq_X10_popInto_18 hT (k := 63) (d := 10) rfl rfl ax106 ?_
      clear lx106 ux106
      have rx106 := (rx106.symm.trans S.1 : x106.toInt = (m : Int))
      refine ex_ic oq_X10_popInto_21 (m := 1) (by decide) (fun x107 hx107 => ?_)
      refine ex_sub oq_X10_popInto_22 (by omega) (fun x108 hx108 => ?_)
      refine ex_pfi oq_X10_popInto_23 hT (k := 63) (d := 10) rfl rfl rfl (cw_i32 _).1 (cw_i32 _).2 (fun h109 Th109 wh109 => ?_)
      refine ex_al oq_X10_popInto_26 rfl ?_
      refine ex_al oq_X10_popInto_27 rfl ?_
      refine ex_gf oq_X10_popInto_28 Th109 (k := 63) (d := 10) rfl rfl (ri_ref (k := 63) (k' := 64) (d := 10) (f := 0) Th109 rfl rfl rfl (by decide) (ri_uniq (by decide +kernel))) ?_
      refine ex_al oq_X10_popInto_31 rfl ?_
      obtain ⟨x110, ax110, rx110, lx110, ux110⟩ := ri_fld (k := 63) (d := 10) (f := 2) Th109 rfl rfl rfl
      try dsimp only at lx110 ux110
      refine ex_gf oq_X10_popInto_32 Th109 (k := 63) (d := 10) rfl rfl ax110 ?_
      clear lx110 ux110
      have sh109 := ri_self wh109
      refine ex_aa oq_X10_popInto_35 Th109 (k := 64) (d := 49) (j := m - 1) rfl rfl (by omega) (by omega) (fun k112 ak112 sk112 => ?_)
      have ek112 : k112 = Bf (m - 1) := rk_inj (ak112.symm.trans ((wh109.2.1 64 _ (.inl (by decide))).trans (B.1 (m - 1) (by omega)).1))
      subst ek112
      have bm := B.1 (m - 1) (by omega)
      have sm := S.2.2 (m - 1) (by omega)
      have em : h109[Bf (m - 1)]? = h[Bf (m - 1)]? := wh109.2.2 _ (by omega)
      refine ex_cv oq_X10_popInto_36 (by decide) Th109 (k := K) (d := 1) (as := [cv_r (Bf (m - 1))]) (stk := []) hK rfl rfl rfl rfl rfl ⟨rfl, rfl⟩ (R := fun o => ∃ hb : cv_H, o = (none, hb) ∧ cw_T G hb ∧ cp_F K h109 hb ∧ zGV hb K (υ (m - 1)) ∧ cw_at hb K 0 = some (cv_r (b + 16 + 2 * ν (m - 1)))) (cg_copy Th109 hK sk112 (by omega) hU ((at_h em).trans sm.2.2) (zGV_h em sm.2.1) (fun hb b1 b2 b3 b4 => ⟨hb, rfl, b1, b2, b3, b4⟩)) (fun o ho => ?_)
      obtain ⟨h113, rfl, Th113, ch113, Vh113, ph113⟩ := ho
      show cw_X _ _ _ _ _ [] h113
      refine ex_retv oq_X10_popInto_39 rfl (hQ h113 Th113 (fun k q r => (ch113 k r).trans (wh109.2.2 k (by omega))) ⟨fun i hi => ⟨(cp_at ch113 (by omega)).trans ((wh109.2.1 64 i (.inl (by decide))).trans (B.1 i hi).1), (B.1 i hi).2⟩, B.2⟩ ⟨(ri_eq (cp_at ch113 (by omega))).trans ((ri_self wh109).trans (by omega)), by omega, fun i hi => ?_⟩ Vh113 ph113)
      have bi := B.1 i (by omega)
      have s := S.2.2 i (by omega)
      have e3 : h113[Bf i]? = h[Bf i]? := (ch113 _ (by omega)).trans (wh109.2.2 _ (by omega))
      exact ⟨(ri_eq (cp_at ch113 (by omega))).trans ((ri_ne wh109 (.inl (by decide))).trans s.1), zGV_h e3 s.2.1, (at_h e3).trans s.2.2⟩
end GN
