/-! ===== names, the semicolon: the class ===== -/
/-- the end of a line -/
def zsm (t : Nat → Int) (n p : Nat) : (Int × Nat) ⊕ Nat := if zk t n p = 4 ∧ zw t n p = 59 then .inr (zx t n p) else .inl (1, za t n p)
section TZ
variable {G : Int} {X : cv_X} {Q : cv_O → Prop} {t : Nat → Int}
theorem oq_X11_placeOf_0 : cw_ho 113 0 (.iconst 0) 1 0 0 0 := rfl
theorem oq_X11_placeOf_1 : cw_ho 113 1 (.istore_n 3) 1 0 0 0 := rfl
theorem oq_X11_placeOf_2 : cw_ho 113 2 (.iload_n 3) 1 0 0 0 := rfl
theorem oq_X11_placeOf_3 : cw_ho 113 3 (.iload_n 2) 1 0 0 0 := rfl
theorem oq_X11_placeOf_4 : cw_ho 113 4 (.if_icmp .ge 24) 3 0 0 0 := rfl
theorem oq_X11_placeOf_7 : cw_ho 113 7 (.iload_n 3) 1 0 0 0 := rfl
theorem oq_X11_placeOf_8 : cw_ho 113 8 (.aload_n 1) 1 0 0 0 := rfl
theorem oq_X11_placeOf_9 : cw_ho 113 9 (.arraylength) 1 0 0 0 := rfl
theorem oq_X11_placeOf_10 : cw_ho 113 10 (.if_icmp .ge 18) 3 0 0 0 := rfl
theorem oq_X11_placeOf_13 : cw_ho 113 13 (.aload_n 1) 1 0 0 0 := rfl
theorem oq_X11_placeOf_14 : cw_ho 113 14 (.iload_n 3) 1 0 0 0 := rfl
theorem oq_X11_placeOf_15 : cw_ho 113 15 (.iaload) 1 0 0 0 := rfl
theorem oq_X11_placeOf_16 : cw_ho 113 16 (.iload_n 0) 1 0 0 0 := rfl
theorem oq_X11_placeOf_17 : cw_ho 113 17 (.if_icmp .ne 5) 3 0 0 0 := rfl
theorem oq_X11_placeOf_20 : cw_ho 113 20 (.iload_n 3) 1 0 0 0 := rfl
theorem oq_X11_placeOf_21 : cw_ho 113 21 (.ireturn) 1 0 0 0 := rfl
theorem oq_X11_placeOf_22 : cw_ho 113 22 (.iinc 3 1) 3 0 0 0 := rfl
theorem oq_X11_placeOf_25 : cw_ho 113 25 (.goto (-23)) 3 0 0 0 := rfl
theorem oq_X11_placeOf_28 : cw_ho 113 28 (.iconst (-1)) 1 0 0 0 := rfl
theorem oq_X11_placeOf_29 : cw_ho 113 29 (.ireturn) 1 0 0 0 := rfl
theorem ct_placeG2L {h : cv_H} (hT : cw_T G h) {M N : Int32} {l : List Int} (hM : M.toInt = l.length) (hf : l.length ≤ 4) (hl : ∀ k, k < l.length → ri_at h 9 k = l.getD k 0) (hQ : ∀ x : Int32, x.toInt = tz_find l N.toInt 0 → Q (some (cv_i x), h)) :
    ∀ (u k : Nat) (L : cv_L) (K : Int32), l.length - k = u → k ≤ l.length → K.toInt = k → tz_find (l.drop k) N.toInt k = tz_find l N.toInt 0 → cv_get L 0 = some (cv_i N) → cv_get L 1 = some (cv_r 9) → cv_get L 2 = some (cv_i M) → cv_get L 3 = some (cv_i K) → cw_X X 113 Q 2 L [] h := by
  intro u
  induction u with
  | zero =>
    intro k L K hu hk hK hst g0 g1 g2 g3
    refine ex_il oq_X11_placeOf_2 g3 ?_
    refine ex_il oq_X11_placeOf_3 g2 ?_
    refine ex_if oq_X11_placeOf_4 (t := 28) rfl rfl (fun (c101 : M.toInt ≤ K.toInt) => ?_) (fun (c101 : ¬ (M.toInt ≤ K.toInt)) => ?_)
    · refine ex_ic oq_X11_placeOf_28 (m := (-1)) (by decide) (fun x102 hx102 => ?_)
      exact ex_reti oq_X11_placeOf_29 rfl (hQ x102 (by rw [← hst, zfd_end (by omega)]; omega))
    · exfalso; omega
  | succ u ih =>
    intro k L K hu hk hK hst g0 g1 g2 g3
    have hlk := hl k (by omega)
    refine ex_il oq_X11_placeOf_2 g3 ?_
    refine ex_il oq_X11_placeOf_3 g2 ?_
    refine ex_if oq_X11_placeOf_4 (t := 28) rfl rfl (fun (c101 : M.toInt ≤ K.toInt) => ?_) (fun (c101 : ¬ (M.toInt ≤ K.toInt)) => ?_)
    · exfalso; omega
    · refine ex_il oq_X11_placeOf_7 g3 ?_
      refine ex_al oq_X11_placeOf_8 g1 ?_
      refine ex_len oq_X11_placeOf_9 hT (k := 9) (d := 34) rfl rfl (by decide) (fun x102 hx102 => ?_)
      refine ex_if oq_X11_placeOf_10 (t := 28) rfl rfl (fun (c103 : x102.toInt ≤ K.toInt) => ?_) (fun (c103 : ¬ (x102.toInt ≤ K.toInt)) => ?_)
      · exfalso; omega
      · refine ex_al oq_X11_placeOf_13 g1 ?_
        refine ex_il oq_X11_placeOf_14 g3 ?_
        refine ex_ia1 oq_X11_placeOf_15 hT (k := 9) (d := 34) (j := k) rfl rfl (by omega) (by omega) (fun x104 hx104 lx104 ux104 => ?_)
        refine ex_il oq_X11_placeOf_16 g0 ?_
        refine ex_if oq_X11_placeOf_17 (t := 22) rfl rfl (fun (c105 : ¬ x104.toInt = N.toInt) => ?_) (fun (c105 : ¬ (¬ x104.toInt = N.toInt)) => ?_)
        · refine ex_incA oq_X11_placeOf_22 (v := K) (m := 1) g3 (by decide) (by omega) (fun L107 x106 hx106 gL107_3 kL107 => ?_)
          have gL107_0 : cv_get L107 0 = some (cv_i N) := kL107 0 _ (by decide) (fun q => absurd q (by decide)) g0
          have gL107_1 : cv_get L107 1 = some (cv_r 9) := kL107 1 _ (by decide) (fun q => absurd q (by decide)) g1
          have gL107_2 : cv_get L107 2 = some (cv_i M) := kL107 2 _ (by decide) (fun _ => rfl) g2
          refine ex_go oq_X11_placeOf_25 (t := 2) rfl rfl ?_
          exact ih (k + 1) L107 x106 (by omega) (by omega) (by omega) (by rw [← hst]; exact (zfd_go (by omega) (by omega)).symm) gL107_0 gL107_1 gL107_2 gL107_3
        · refine ex_il oq_X11_placeOf_20 g3 ?_
          exact ex_reti oq_X11_placeOf_21 rfl (hQ K (by rw [← hst, zfd_hit (by omega) (by omega)]; omega))
theorem ct_placeG2 {h : cv_H} (hT : cw_T G h) {M N : Int32} {l : List Int} (hM : M.toInt = l.length) (hf : l.length ≤ 4) (hl : ∀ k, k < l.length → ri_at h 9 k = l.getD k 0) (hQ : ∀ x : Int32, x.toInt = tz_find l N.toInt 0 → Q (some (cv_i x), h)) : cw_X X 113 Q 0 (cv_ent 0 [cv_i N, cv_r 9, cv_i M]) [] h := by
  refine ex_ic oq_X11_placeOf_0 (m := 0) (by decide) (fun x201 hx201 => ?_)
  refine ex_isA oq_X11_placeOf_1 (fun L202 gL202_3 kL202 => ?_)
  have gL202_0 : cv_get L202 0 = some (cv_i N) := kL202 0 _ (by decide) (fun q => absurd q (by decide)) rfl
  have gL202_1 : cv_get L202 1 = some (cv_r 9) := kL202 1 _ (by decide) (fun q => absurd q (by decide)) rfl
  have gL202_2 : cv_get L202 2 = some (cv_i M) := kL202 2 _ (by decide) (fun _ => rfl) rfl
  exact ct_placeG2L hT hM hf hl hQ l.length 0 L202 x201 (by omega) (by omega) (by omega) rfl gL202_0 gL202_1 gL202_2 gL202_3
theorem ct_placeG26L {h : cv_H} (hT : cw_T G h) {M N : Int32} {l : List Int} (hM : M.toInt = l.length) (hf : l.length ≤ 4) (hl : ∀ k, k < l.length → ri_at h 33 k = l.getD k 0) (hQ : ∀ x : Int32, x.toInt = tz_find l N.toInt 0 → Q (some (cv_i x), h)) :
    ∀ (u k : Nat) (L : cv_L) (K : Int32), l.length - k = u → k ≤ l.length → K.toInt = k → tz_find (l.drop k) N.toInt k = tz_find l N.toInt 0 → cv_get L 0 = some (cv_i N) → cv_get L 1 = some (cv_r 33) → cv_get L 2 = some (cv_i M) → cv_get L 3 = some (cv_i K) → cw_X X 113 Q 2 L [] h := by
  intro u
  induction u with
  | zero =>
    intro k L K hu hk hK hst g0 g1 g2 g3
    refine ex_il oq_X11_placeOf_2 g3 ?_
    refine ex_il oq_X11_placeOf_3 g2 ?_
    refine ex_if oq_X11_placeOf_4 (t := 28) rfl rfl (fun (c101 : M.toInt ≤ K.toInt) => ?_) (fun (c101 : ¬ (M.toInt ≤ K.toInt)) => ?_)
    · refine ex_ic oq_X11_placeOf_28 (m := (-1)) (by decide) (fun x102 hx102 => ?_)
      exact ex_reti oq_X11_placeOf_29 rfl (hQ x102 (by rw [← hst, zfd_end (by omega)]; omega))
    · exfalso; omega
  | succ u ih =>
    intro k L K hu hk hK hst g0 g1 g2 g3
    have hlk := hl k (by omega)
    refine ex_il oq_X11_placeOf_2 g3 ?_
    refine ex_il oq_X11_placeOf_3 g2 ?_
    refine ex_if oq_X11_placeOf_4 (t := 28) rfl rfl (fun (c101 : M.toInt ≤ K.toInt) => ?_) (fun (c101 : ¬ (M.toInt ≤ K.toInt)) => ?_)
    · exfalso; omega
    · refine ex_il oq_X11_placeOf_7 g3 ?_
      refine ex_al oq_X11_placeOf_8 g1 ?_
      refine ex_len oq_X11_placeOf_9 hT (k := 33) (d := 34) rfl rfl (by decide) (fun x102 hx102 => ?_)
      refine ex_if oq_X11_placeOf_10 (t := 28) rfl rfl (fun (c103 : x102.toInt ≤ K.toInt) => ?_) (fun (c103 : ¬ (x102.toInt ≤ K.toInt)) => ?_)
      · exfalso; omega
      · refine ex_al oq_X11_placeOf_13 g1 ?_
        refine ex_il oq_X11_placeOf_14 g3 ?_
        refine ex_ia1 oq_X11_placeOf_15 hT (k := 33) (d := 34) (j := k) rfl rfl (by omega) (by omega) (fun x104 hx104 lx104 ux104 => ?_)
        refine ex_il oq_X11_placeOf_16 g0 ?_
        refine ex_if oq_X11_placeOf_17 (t := 22) rfl rfl (fun (c105 : ¬ x104.toInt = N.toInt) => ?_) (fun (c105 : ¬ (¬ x104.toInt = N.toInt)) => ?_)
        · refine ex_incA oq_X11_placeOf_22 (v := K) (m := 1) g3 (by decide) (by omega) (fun L107 x106 hx106 gL107_3 kL107 => ?_)
          have gL107_0 : cv_get L107 0 = some (cv_i N) := kL107 0 _ (by decide) (fun q => absurd q (by decide)) g0
          have gL107_1 : cv_get L107 1 = some (cv_r 33) := kL107 1 _ (by decide) (fun q => absurd q (by decide)) g1
          have gL107_2 : cv_get L107 2 = some (cv_i M) := kL107 2 _ (by decide) (fun _ => rfl) g2
          refine ex_go oq_X11_placeOf_25 (t := 2) rfl rfl ?_
          exact ih (k + 1) L107 x106 (by omega) (by omega) (by omega) (by rw [← hst]; exact (zfd_go (by omega) (by omega)).symm) gL107_0 gL107_1 gL107_2 gL107_3
        · refine ex_il oq_X11_placeOf_20 g3 ?_
          exact ex_reti oq_X11_placeOf_21 rfl (hQ K (by rw [← hst, zfd_hit (by omega) (by omega)]; omega))
theorem ct_placeG26 {h : cv_H} (hT : cw_T G h) {M N : Int32} {l : List Int} (hM : M.toInt = l.length) (hf : l.length ≤ 4) (hl : ∀ k, k < l.length → ri_at h 33 k = l.getD k 0) (hQ : ∀ x : Int32, x.toInt = tz_find l N.toInt 0 → Q (some (cv_i x), h)) : cw_X X 113 Q 0 (cv_ent 0 [cv_i N, cv_r 33, cv_i M]) [] h := by
  refine ex_ic oq_X11_placeOf_0 (m := 0) (by decide) (fun x201 hx201 => ?_)
  refine ex_isA oq_X11_placeOf_1 (fun L202 gL202_3 kL202 => ?_)
  have gL202_0 : cv_get L202 0 = some (cv_i N) := kL202 0 _ (by decide) (fun q => absurd q (by decide)) rfl
  have gL202_1 : cv_get L202 1 = some (cv_r 33) := kL202 1 _ (by decide) (fun q => absurd q (by decide)) rfl
  have gL202_2 : cv_get L202 2 = some (cv_i M) := kL202 2 _ (by decide) (fun _ => rfl) rfl
  exact ct_placeG26L hT hM hf hl hQ l.length 0 L202 x201 (by omega) (by omega) (by omega) rfl gL202_0 gL202_1 gL202_2 gL202_3
theorem ct_placeW2L {h : cv_H} (hT : cw_T G h) {M N : Int32} {l : List Int} (hM : M.toInt = l.length) (hf : l.length ≤ 6) (hl : ∀ k, k < l.length → ri_at h 10 k = l.getD k 0) (hQ : ∀ x : Int32, x.toInt = tz_find l N.toInt 0 → Q (some (cv_i x), h)) :
    ∀ (u k : Nat) (L : cv_L) (K : Int32), l.length - k = u → k ≤ l.length → K.toInt = k → tz_find (l.drop k) N.toInt k = tz_find l N.toInt 0 → cv_get L 0 = some (cv_i N) → cv_get L 1 = some (cv_r 10) → cv_get L 2 = some (cv_i M) → cv_get L 3 = some (cv_i K) → cw_X X 113 Q 2 L [] h := by
  intro u
  induction u with
  | zero =>
    intro k L K hu hk hK hst g0 g1 g2 g3
    refine ex_il oq_X11_placeOf_2 g3 ?_
    refine ex_il oq_X11_placeOf_3 g2 ?_
    refine ex_if oq_X11_placeOf_4 (t := 28) rfl rfl (fun (c101 : M.toInt ≤ K.toInt) => ?_) (fun (c101 : ¬ (M.toInt ≤ K.toInt)) => ?_)
    · refine ex_ic oq_X11_placeOf_28 (m := (-1)) (by decide) (fun x102 hx102 => ?_)
      exact ex_reti oq_X11_placeOf_29 rfl (hQ x102 (by rw [← hst, zfd_end (by omega)]; omega))
    · exfalso; omega
  | succ u ih =>
    intro k L K hu hk hK hst g0 g1 g2 g3
    have hlk := hl k (by omega)
    refine ex_il oq_X11_placeOf_2 g3 ?_
    refine ex_il oq_X11_placeOf_3 g2 ?_
    refine ex_if oq_X11_placeOf_4 (t := 28) rfl rfl (fun (c101 : M.toInt ≤ K.toInt) => ?_) (fun (c101 : ¬ (M.toInt ≤ K.toInt)) => ?_)
    · exfalso; omega
    · refine ex_il oq_X11_placeOf_7 g3 ?_
      refine ex_al oq_X11_placeOf_8 g1 ?_
      refine ex_len oq_X11_placeOf_9 hT (k := 10) (d := 35) rfl rfl (by decide) (fun x102 hx102 => ?_)
      refine ex_if oq_X11_placeOf_10 (t := 28) rfl rfl (fun (c103 : x102.toInt ≤ K.toInt) => ?_) (fun (c103 : ¬ (x102.toInt ≤ K.toInt)) => ?_)
      · exfalso; omega
      · refine ex_al oq_X11_placeOf_13 g1 ?_
        refine ex_il oq_X11_placeOf_14 g3 ?_
        refine ex_ia1 oq_X11_placeOf_15 hT (k := 10) (d := 35) (j := k) rfl rfl (by omega) (by omega) (fun x104 hx104 lx104 ux104 => ?_)
        refine ex_il oq_X11_placeOf_16 g0 ?_
        refine ex_if oq_X11_placeOf_17 (t := 22) rfl rfl (fun (c105 : ¬ x104.toInt = N.toInt) => ?_) (fun (c105 : ¬ (¬ x104.toInt = N.toInt)) => ?_)
        · refine ex_incA oq_X11_placeOf_22 (v := K) (m := 1) g3 (by decide) (by omega) (fun L107 x106 hx106 gL107_3 kL107 => ?_)
          have gL107_0 : cv_get L107 0 = some (cv_i N) := kL107 0 _ (by decide) (fun q => absurd q (by decide)) g0
          have gL107_1 : cv_get L107 1 = some (cv_r 10) := kL107 1 _ (by decide) (fun q => absurd q (by decide)) g1
          have gL107_2 : cv_get L107 2 = some (cv_i M) := kL107 2 _ (by decide) (fun _ => rfl) g2
          refine ex_go oq_X11_placeOf_25 (t := 2) rfl rfl ?_
          exact ih (k + 1) L107 x106 (by omega) (by omega) (by omega) (by rw [← hst]; exact (zfd_go (by omega) (by omega)).symm) gL107_0 gL107_1 gL107_2 gL107_3
        · refine ex_il oq_X11_placeOf_20 g3 ?_
          exact ex_reti oq_X11_placeOf_21 rfl (hQ K (by rw [← hst, zfd_hit (by omega) (by omega)]; omega))
theorem ct_placeW2 {h : cv_H} (hT : cw_T G h) {M N : Int32} {l : List Int} (hM : M.toInt = l.length) (hf : l.length ≤ 6) (hl : ∀ k, k < l.length → ri_at h 10 k = l.getD k 0) (hQ : ∀ x : Int32, x.toInt = tz_find l N.toInt 0 → Q (some (cv_i x), h)) : cw_X X 113 Q 0 (cv_ent 0 [cv_i N, cv_r 10, cv_i M]) [] h := by
  refine ex_ic oq_X11_placeOf_0 (m := 0) (by decide) (fun x201 hx201 => ?_)
  refine ex_isA oq_X11_placeOf_1 (fun L202 gL202_3 kL202 => ?_)
  have gL202_0 : cv_get L202 0 = some (cv_i N) := kL202 0 _ (by decide) (fun q => absurd q (by decide)) rfl
  have gL202_1 : cv_get L202 1 = some (cv_r 10) := kL202 1 _ (by decide) (fun q => absurd q (by decide)) rfl
  have gL202_2 : cv_get L202 2 = some (cv_i M) := kL202 2 _ (by decide) (fun _ => rfl) rfl
  exact ct_placeW2L hT hM hf hl hQ l.length 0 L202 x201 (by omega) (by omega) (by omega) rfl gL202_0 gL202_1 gL202_2 gL202_3
theorem ct_placeW26L {h : cv_H} (hT : cw_T G h) {M N : Int32} {l : List Int} (hM : M.toInt = l.length) (hf : l.length ≤ 6) (hl : ∀ k, k < l.length → ri_at h 34 k = l.getD k 0) (hQ : ∀ x : Int32, x.toInt = tz_find l N.toInt 0 → Q (some (cv_i x), h)) :
    ∀ (u k : Nat) (L : cv_L) (K : Int32), l.length - k = u → k ≤ l.length → K.toInt = k → tz_find (l.drop k) N.toInt k = tz_find l N.toInt 0 → cv_get L 0 = some (cv_i N) → cv_get L 1 = some (cv_r 34) → cv_get L 2 = some (cv_i M) → cv_get L 3 = some (cv_i K) → cw_X X 113 Q 2 L [] h := by
  intro u
  induction u with
  | zero =>
    intro k L K hu hk hK hst g0 g1 g2 g3
    refine ex_il oq_X11_placeOf_2 g3 ?_
    refine ex_il oq_X11_placeOf_3 g2 ?_
    refine ex_if oq_X11_placeOf_4 (t := 28) rfl rfl (fun (c101 : M.toInt ≤ K.toInt) => ?_) (fun (c101 : ¬ (M.toInt ≤ K.toInt)) => ?_)
    · refine ex_ic oq_X11_placeOf_28 (m := (-1)) (by decide) (fun x102 hx102 => ?_)
      exact ex_reti oq_X11_placeOf_29 rfl (hQ x102 (by rw [← hst, zfd_end (by omega)]; omega))
    · exfalso; omega
  | succ u ih =>
    intro k L K hu hk hK hst g0 g1 g2 g3
    have hlk := hl k (by omega)
    refine ex_il oq_X11_placeOf_2 g3 ?_
    refine ex_il oq_X11_placeOf_3 g2 ?_
    refine ex_if oq_X11_placeOf_4 (t := 28) rfl rfl (fun (c101 : M.toInt ≤ K.toInt) => ?_) (fun (c101 : ¬ (M.toInt ≤ K.toInt)) => ?_)
    · exfalso; omega
    · refine ex_il oq_X11_placeOf_7 g3 ?_
      refine ex_al oq_X11_placeOf_8 g1 ?_
      refine ex_len oq_X11_placeOf_9 hT (k := 34) (d := 35) rfl rfl (by decide) (fun x102 hx102 => ?_)
      refine ex_if oq_X11_placeOf_10 (t := 28) rfl rfl (fun (c103 : x102.toInt ≤ K.toInt) => ?_) (fun (c103 : ¬ (x102.toInt ≤ K.toInt)) => ?_)
      · exfalso; omega
      · refine ex_al oq_X11_placeOf_13 g1 ?_
        refine ex_il oq_X11_placeOf_14 g3 ?_
        refine ex_ia1 oq_X11_placeOf_15 hT (k := 34) (d := 35) (j := k) rfl rfl (by omega) (by omega) (fun x104 hx104 lx104 ux104 => ?_)
        refine ex_il oq_X11_placeOf_16 g0 ?_
        refine ex_if oq_X11_placeOf_17 (t := 22) rfl rfl (fun (c105 : ¬ x104.toInt = N.toInt) => ?_) (fun (c105 : ¬ (¬ x104.toInt = N.toInt)) => ?_)
        · refine ex_incA oq_X11_placeOf_22 (v := K) (m := 1) g3 (by decide) (by omega) (fun L107 x106 hx106 gL107_3 kL107 => ?_)
          have gL107_0 : cv_get L107 0 = some (cv_i N) := kL107 0 _ (by decide) (fun q => absurd q (by decide)) g0
          have gL107_1 : cv_get L107 1 = some (cv_r 34) := kL107 1 _ (by decide) (fun q => absurd q (by decide)) g1
          have gL107_2 : cv_get L107 2 = some (cv_i M) := kL107 2 _ (by decide) (fun _ => rfl) g2
          refine ex_go oq_X11_placeOf_25 (t := 2) rfl rfl ?_
          exact ih (k + 1) L107 x106 (by omega) (by omega) (by omega) (by rw [← hst]; exact (zfd_go (by omega) (by omega)).symm) gL107_0 gL107_1 gL107_2 gL107_3
        · refine ex_il oq_X11_placeOf_20 g3 ?_
          exact ex_reti oq_X11_placeOf_21 rfl (hQ K (by rw [← hst, zfd_hit (by omega) (by omega)]; omega))
theorem ct_placeW26 {h : cv_H} (hT : cw_T G h) {M N : Int32} {l : List Int} (hM : M.toInt = l.length) (hf : l.length ≤ 6) (hl : ∀ k, k < l.length → ri_at h 34 k = l.getD k 0) (hQ : ∀ x : Int32, x.toInt = tz_find l N.toInt 0 → Q (some (cv_i x), h)) : cw_X X 113 Q 0 (cv_ent 0 [cv_i N, cv_r 34, cv_i M]) [] h := by
  refine ex_ic oq_X11_placeOf_0 (m := 0) (by decide) (fun x201 hx201 => ?_)
  refine ex_isA oq_X11_placeOf_1 (fun L202 gL202_3 kL202 => ?_)
  have gL202_0 : cv_get L202 0 = some (cv_i N) := kL202 0 _ (by decide) (fun q => absurd q (by decide)) rfl
  have gL202_1 : cv_get L202 1 = some (cv_r 34) := kL202 1 _ (by decide) (fun q => absurd q (by decide)) rfl
  have gL202_2 : cv_get L202 2 = some (cv_i M) := kL202 2 _ (by decide) (fun _ => rfl) rfl
  exact ct_placeW26L hT hM hf hl hQ l.length 0 L202 x201 (by omega) (by omega) (by omega) rfl gL202_0 gL202_1 gL202_2 gL202_3
theorem ct_placeC2L {h : cv_H} (hT : cw_T G h) {M N : Int32} {l : List Int} (hM : M.toInt = l.length) (hf : l.length ≤ 6) (hl : ∀ k, k < l.length → ri_at h 14 k = l.getD k 0) (hQ : ∀ x : Int32, x.toInt = tz_find l N.toInt 0 → Q (some (cv_i x), h)) :
    ∀ (u k : Nat) (L : cv_L) (K : Int32), l.length - k = u → k ≤ l.length → K.toInt = k → tz_find (l.drop k) N.toInt k = tz_find l N.toInt 0 → cv_get L 0 = some (cv_i N) → cv_get L 1 = some (cv_r 14) → cv_get L 2 = some (cv_i M) → cv_get L 3 = some (cv_i K) → cw_X X 113 Q 2 L [] h := by
  intro u
  induction u with
  | zero =>
    intro k L K hu hk hK hst g0 g1 g2 g3
    refine ex_il oq_X11_placeOf_2 g3 ?_
    refine ex_il oq_X11_placeOf_3 g2 ?_
    refine ex_if oq_X11_placeOf_4 (t := 28) rfl rfl (fun (c101 : M.toInt ≤ K.toInt) => ?_) (fun (c101 : ¬ (M.toInt ≤ K.toInt)) => ?_)
    · refine ex_ic oq_X11_placeOf_28 (m := (-1)) (by decide) (fun x102 hx102 => ?_)
      exact ex_reti oq_X11_placeOf_29 rfl (hQ x102 (by rw [← hst, zfd_end (by omega)]; omega))
    · exfalso; omega
  | succ u ih =>
    intro k L K hu hk hK hst g0 g1 g2 g3
    have hlk := hl k (by omega)
    refine ex_il oq_X11_placeOf_2 g3 ?_
    refine ex_il oq_X11_placeOf_3 g2 ?_
    refine ex_if oq_X11_placeOf_4 (t := 28) rfl rfl (fun (c101 : M.toInt ≤ K.toInt) => ?_) (fun (c101 : ¬ (M.toInt ≤ K.toInt)) => ?_)
    · exfalso; omega
    · refine ex_il oq_X11_placeOf_7 g3 ?_
      refine ex_al oq_X11_placeOf_8 g1 ?_
      refine ex_len oq_X11_placeOf_9 hT (k := 14) (d := 39) rfl rfl (by decide) (fun x102 hx102 => ?_)
      refine ex_if oq_X11_placeOf_10 (t := 28) rfl rfl (fun (c103 : x102.toInt ≤ K.toInt) => ?_) (fun (c103 : ¬ (x102.toInt ≤ K.toInt)) => ?_)
      · exfalso; omega
      · refine ex_al oq_X11_placeOf_13 g1 ?_
        refine ex_il oq_X11_placeOf_14 g3 ?_
        refine ex_ia1 oq_X11_placeOf_15 hT (k := 14) (d := 39) (j := k) rfl rfl (by omega) (by omega) (fun x104 hx104 lx104 ux104 => ?_)
        refine ex_il oq_X11_placeOf_16 g0 ?_
        refine ex_if oq_X11_placeOf_17 (t := 22) rfl rfl (fun (c105 : ¬ x104.toInt = N.toInt) => ?_) (fun (c105 : ¬ (¬ x104.toInt = N.toInt)) => ?_)
        · refine ex_incA oq_X11_placeOf_22 (v := K) (m := 1) g3 (by decide) (by omega) (fun L107 x106 hx106 gL107_3 kL107 => ?_)
          have gL107_0 : cv_get L107 0 = some (cv_i N) := kL107 0 _ (by decide) (fun q => absurd q (by decide)) g0
          have gL107_1 : cv_get L107 1 = some (cv_r 14) := kL107 1 _ (by decide) (fun q => absurd q (by decide)) g1
          have gL107_2 : cv_get L107 2 = some (cv_i M) := kL107 2 _ (by decide) (fun _ => rfl) g2
          refine ex_go oq_X11_placeOf_25 (t := 2) rfl rfl ?_
          exact ih (k + 1) L107 x106 (by omega) (by omega) (by omega) (by rw [← hst]; exact (zfd_go (by omega) (by omega)).symm) gL107_0 gL107_1 gL107_2 gL107_3
        · refine ex_il oq_X11_placeOf_20 g3 ?_
          exact ex_reti oq_X11_placeOf_21 rfl (hQ K (by rw [← hst, zfd_hit (by omega) (by omega)]; omega))
theorem ct_placeC2 {h : cv_H} (hT : cw_T G h) {M N : Int32} {l : List Int} (hM : M.toInt = l.length) (hf : l.length ≤ 6) (hl : ∀ k, k < l.length → ri_at h 14 k = l.getD k 0) (hQ : ∀ x : Int32, x.toInt = tz_find l N.toInt 0 → Q (some (cv_i x), h)) : cw_X X 113 Q 0 (cv_ent 0 [cv_i N, cv_r 14, cv_i M]) [] h := by
  refine ex_ic oq_X11_placeOf_0 (m := 0) (by decide) (fun x201 hx201 => ?_)
  refine ex_isA oq_X11_placeOf_1 (fun L202 gL202_3 kL202 => ?_)
  have gL202_0 : cv_get L202 0 = some (cv_i N) := kL202 0 _ (by decide) (fun q => absurd q (by decide)) rfl
  have gL202_1 : cv_get L202 1 = some (cv_r 14) := kL202 1 _ (by decide) (fun q => absurd q (by decide)) rfl
  have gL202_2 : cv_get L202 2 = some (cv_i M) := kL202 2 _ (by decide) (fun _ => rfl) rfl
  exact ct_placeC2L hT hM hf hl hQ l.length 0 L202 x201 (by omega) (by omega) (by omega) rfl gL202_0 gL202_1 gL202_2 gL202_3
theorem ct_placeC26L {h : cv_H} (hT : cw_T G h) {M N : Int32} {l : List Int} (hM : M.toInt = l.length) (hf : l.length ≤ 6) (hl : ∀ k, k < l.length → ri_at h 38 k = l.getD k 0) (hQ : ∀ x : Int32, x.toInt = tz_find l N.toInt 0 → Q (some (cv_i x), h)) :
    ∀ (u k : Nat) (L : cv_L) (K : Int32), l.length - k = u → k ≤ l.length → K.toInt = k → tz_find (l.drop k) N.toInt k = tz_find l N.toInt 0 → cv_get L 0 = some (cv_i N) → cv_get L 1 = some (cv_r 38) → cv_get L 2 = some (cv_i M) → cv_get L 3 = some (cv_i K) → cw_X X 113 Q 2 L [] h := by
  intro u
  induction u with
  | zero =>
    intro k L K hu hk hK hst g0 g1 g2 g3
    refine ex_il oq_X11_placeOf_2 g3 ?_
    refine ex_il oq_X11_placeOf_3 g2 ?_
    refine ex_if oq_X11_placeOf_4 (t := 28) rfl rfl (fun (c101 : M.toInt ≤ K.toInt) => ?_) (fun (c101 : ¬ (M.toInt ≤ K.toInt)) => ?_)
    · refine ex_ic oq_X11_placeOf_28 (m := (-1)) (by decide) (fun x102 hx102 => ?_)
      exact ex_reti oq_X11_placeOf_29 rfl (hQ x102 (by rw [← hst, zfd_end (by omega)]; omega))
    · exfalso; omega
  | succ u ih =>
    intro k L K hu hk hK hst g0 g1 g2 g3
    have hlk := hl k (by omega)
    refine ex_il oq_X11_placeOf_2 g3 ?_
    refine ex_il oq_X11_placeOf_3 g2 ?_
    refine ex_if oq_X11_placeOf_4 (t := 28) rfl rfl (fun (c101 : M.toInt ≤ K.toInt) => ?_) (fun (c101 : ¬ (M.toInt ≤ K.toInt)) => ?_)
    · exfalso; omega
    · refine ex_il oq_X11_placeOf_7 g3 ?_
      refine ex_al oq_X11_placeOf_8 g1 ?_
      refine ex_len oq_X11_placeOf_9 hT (k := 38) (d := 39) rfl rfl (by decide) (fun x102 hx102 => ?_)
      refine ex_if oq_X11_placeOf_10 (t := 28) rfl rfl (fun (c103 : x102.toInt ≤ K.toInt) => ?_) (fun (c103 : ¬ (x102.toInt ≤ K.toInt)) => ?_)
      · exfalso; omega
      · refine ex_al oq_X11_placeOf_13 g1 ?_
        refine ex_il oq_X11_placeOf_14 g3 ?_
        refine ex_ia1 oq_X11_placeOf_15 hT (k := 38) (d := 39) (j := k) rfl rfl (by omega) (by omega) (fun x104 hx104 lx104 ux104 => ?_)
        refine ex_il oq_X11_placeOf_16 g0 ?_
        refine ex_if oq_X11_placeOf_17 (t := 22) rfl rfl (fun (c105 : ¬ x104.toInt = N.toInt) => ?_) (fun (c105 : ¬ (¬ x104.toInt = N.toInt)) => ?_)
        · refine ex_incA oq_X11_placeOf_22 (v := K) (m := 1) g3 (by decide) (by omega) (fun L107 x106 hx106 gL107_3 kL107 => ?_)
          have gL107_0 : cv_get L107 0 = some (cv_i N) := kL107 0 _ (by decide) (fun q => absurd q (by decide)) g0
          have gL107_1 : cv_get L107 1 = some (cv_r 38) := kL107 1 _ (by decide) (fun q => absurd q (by decide)) g1
          have gL107_2 : cv_get L107 2 = some (cv_i M) := kL107 2 _ (by decide) (fun _ => rfl) g2
          refine ex_go oq_X11_placeOf_25 (t := 2) rfl rfl ?_
          exact ih (k + 1) L107 x106 (by omega) (by omega) (by omega) (by rw [← hst]; exact (zfd_go (by omega) (by omega)).symm) gL107_0 gL107_1 gL107_2 gL107_3
        · refine ex_il oq_X11_placeOf_20 g3 ?_
          exact ex_reti oq_X11_placeOf_21 rfl (hQ K (by rw [← hst, zfd_hit (by omega) (by omega)]; omega))
theorem ct_placeC26 {h : cv_H} (hT : cw_T G h) {M N : Int32} {l : List Int} (hM : M.toInt = l.length) (hf : l.length ≤ 6) (hl : ∀ k, k < l.length → ri_at h 38 k = l.getD k 0) (hQ : ∀ x : Int32, x.toInt = tz_find l N.toInt 0 → Q (some (cv_i x), h)) : cw_X X 113 Q 0 (cv_ent 0 [cv_i N, cv_r 38, cv_i M]) [] h := by
  refine ex_ic oq_X11_placeOf_0 (m := 0) (by decide) (fun x201 hx201 => ?_)
  refine ex_isA oq_X11_placeOf_1 (fun L202 gL202_3 kL202 => ?_)
  have gL202_0 : cv_get L202 0 = some (cv_i N) := kL202 0 _ (by decide) (fun q => absurd q (by decide)) rfl
  have gL202_1 : cv_get L202 1 = some (cv_r 38) := kL202 1 _ (by decide) (fun q => absurd q (by decide)) rfl
  have gL202_2 : cv_get L202 2 = some (cv_i M) := kL202 2 _ (by decide) (fun _ => rfl) rfl
  exact ct_placeC26L hT hM hf hl hQ l.length 0 L202 x201 (by omega) (by omega) (by omega) rfl gL202_0 gL202_1 gL202_2 gL202_3
theorem oq_X5_readNewName_0 : cw_ho 64 0 (.aload_n 0) 1 0 0 0 := rfl
theorem oq_X5_readNewName_1 : cw_ho 64 1 (.getfield 46) 3 5 4 0 := rfl
theorem oq_X5_readNewName_4 : cw_ho 64 4 (.ifCond .ne 14) 3 0 0 0 := rfl
theorem oq_X5_readNewName_7 : cw_ho 64 7 (.aload_n 0) 1 0 0 0 := rfl
theorem oq_X5_readNewName_8 : cw_ho 64 8 (.getfield 20) 3 5 0 4 := rfl
theorem oq_X5_readNewName_11 : cw_ho 64 11 (.getfield 53) 3 6 4 0 := rfl
theorem oq_X5_readNewName_14 : cw_ho 64 14 (.iconst 3) 1 0 0 0 := rfl
theorem oq_X5_readNewName_15 : cw_ho 64 15 (.if_icmp .eq 9) 3 0 0 0 := rfl
theorem oq_X5_readNewName_18 : cw_ho 64 18 (.aload_n 0) 1 0 0 0 := rfl
theorem oq_X5_readNewName_19 : cw_ho 64 19 (.iconst 1) 1 0 0 0 := rfl
theorem oq_X5_readNewName_20 : cw_ho 64 20 (.invokevirtual 74) 3 61 1 5 := rfl
theorem oq_X5_readNewName_23 : cw_ho 64 23 (.ireturn) 1 0 0 0 := rfl
theorem oq_X5_readNewName_24 : cw_ho 64 24 (.aload_n 0) 1 0 0 0 := rfl
theorem oq_X5_readNewName_25 : cw_ho 64 25 (.getfield 20) 3 5 0 4 := rfl
theorem oq_X5_readNewName_28 : cw_ho 64 28 (.getfield 56) 3 6 6 0 := rfl
theorem oq_X5_readNewName_31 : cw_ho 64 31 (.istore_n 3) 1 0 0 0 := rfl
theorem oq_X5_readNewName_32 : cw_ho 64 32 (.iload_n 3) 1 0 0 0 := rfl
theorem oq_X5_readNewName_33 : cw_ho 64 33 (.aload_n 1) 1 0 0 0 := rfl
theorem oq_X5_readNewName_34 : cw_ho 64 34 (.iload_n 2) 1 0 0 0 := rfl
theorem oq_X5_readNewName_35 : cw_ho 64 35 (.invokestatic 85) 3 113 3 0 := rfl
theorem oq_X5_readNewName_38 : cw_ho 64 38 (.iconst (-1)) 1 0 0 0 := rfl
theorem oq_X5_readNewName_39 : cw_ho 64 39 (.if_icmp .eq 9) 3 0 0 0 := rfl
theorem oq_X5_readNewName_42 : cw_ho 64 42 (.aload_n 0) 1 0 0 0 := rfl
theorem oq_X5_readNewName_43 : cw_ho 64 43 (.iconst 3) 1 0 0 0 := rfl
theorem oq_X5_readNewName_44 : cw_ho 64 44 (.invokevirtual 74) 3 61 1 5 := rfl
theorem oq_X5_readNewName_47 : cw_ho 64 47 (.ireturn) 1 0 0 0 := rfl
theorem oq_X5_readNewName_48 : cw_ho 64 48 (.aload_n 0) 1 0 0 0 := rfl
theorem oq_X5_readNewName_49 : cw_ho 64 49 (.getfield 20) 3 5 0 4 := rfl
theorem oq_X5_readNewName_52 : cw_ho 64 52 (.invokevirtual 82) 3 78 0 6 := rfl
theorem oq_X5_readNewName_55 : cw_ho 64 55 (.iload_n 3) 1 0 0 0 := rfl
theorem oq_X5_readNewName_56 : cw_ho 64 56 (.ireturn) 1 0 0 0 := rfl
theorem ct_nameG2F {h0 : cv_H} {n : Nat} (ht : ∀ i, t i = ri_at h0 1 i % 256) (hwd : ∀ i, i < 34 → ri_at h0 52 i = tz_wc.getD i 0) (hn9 : n ≤ 900) (hT : cw_T G h0) {M : Int32} {l : List Int} (hM : M.toInt = l.length) (hlm : l.length < 4) (hl : ∀ k, k < l.length → ri_at h0 9 k = l.getD k 0) {f : Int} {a : Nat} (h4 : ri_at h0 50 4 = f) (h5 : ri_at h0 50 5 = a) (hf : 1 ≤ f) (hQ : ∀ (x : Int32) h', cw_T G h' → cw_Fr cw_Ds cw_sh kk_X5_readNewName.2.2.2.2.2.1 h0 h' → zCr t n h' x (.inl (f, a)) → Q (some (cv_i x), h')) : cw_X X 64 Q 0 (cv_ent 0 [cv_r 50, cv_r 9, cv_i M]) [] h0 := by
  have Fh0 : cw_Fr cw_Ds cw_sh kk_X5_readNewName.2.2.2.2.2.1 h0 h0 := cw_Fr_refl
  refine ex_al oq_X5_readNewName_0 rfl ?_
  obtain ⟨x101, ax101, rx101, lx101, ux101⟩ := ri_fld (k := 50) (d := 5) (f := 4) hT rfl rfl rfl
  try dsimp only at lx101 ux101
  refine ex_gf oq_X5_readNewName_1 hT (k := 50) (d := 5) rfl rfl ax101 ?_
  refine ex_if0 oq_X5_readNewName_4 (t := 18) rfl rfl (fun (c102 : ¬ x101.toInt = 0) => ?_) (fun (c102 : ¬ (¬ x101.toInt = 0)) => ?_)
  · refine ex_al oq_X5_readNewName_18 rfl ?_
    refine ex_ic oq_X5_readNewName_19 (m := 1) (by decide) (fun x103 hx103 => ?_)
    refine ex_cv oq_X5_readNewName_20 (by decide) hT (k := 50) (d := 5) (as := [cv_i x103]) (stk := []) rfl rfl rfl rfl rfl rfl ⟨rfl, rfl⟩ (R := fun o => ∃ (x : Int32) (hb : cv_H), o = (some (cv_i x), hb) ∧ cw_T G hb ∧ cw_Fr cw_Ds cw_sh kk_X5_fail.2.2.2.2.2.1 h0 hb ∧ x.toInt = 0 ∧ (ri_at h0 50 4 = 0 ∧ ri_at hb 50 4 = x103.toInt ∧ ri_at hb 50 5 = ri_at h0 51 5 ∨ ¬ ri_at h0 50 4 = 0 ∧ ri_at hb 50 4 = ri_at h0 50 4 ∧ ri_at hb 50 5 = ri_at h0 50 5)) (ct_fail hT x103 (fun x hb b1 b2 b3 b4 => ⟨x, hb, rfl, b1, b2, b3, b4⟩)) (fun o ho => ?_)
    obtain ⟨x104, h105, rfl, Th105, Ch105, zh105, fh105⟩ := ho
    show cw_X _ _ _ _ _ [cv_i x104] h105
    have Fh105 : cw_Fr cw_Ds cw_sh kk_X5_readNewName.2.2.2.2.2.1 h0 h105 := cw_Fr_tr Fh0 (cw_Fr_mono (by decide +kernel) Ch105)
    have eh105_51_2 : ri_at h105 51 2 = ri_at h0 51 2 := ri_frf Ch105 (d := 6) rfl rfl (by decide +kernel)
    have eh105_51_3 : ri_at h105 51 3 = ri_at h0 51 3 := ri_frf Ch105 (d := 6) rfl rfl (by decide +kernel)
    have eh105_51_4 : ri_at h105 51 4 = ri_at h0 51 4 := ri_frf Ch105 (d := 6) rfl rfl (by decide +kernel)
    have eh105_51_5 : ri_at h105 51 5 = ri_at h0 51 5 := ri_frf Ch105 (d := 6) rfl rfl (by decide +kernel)
    have eh105_51_6 : ri_at h105 51 6 = ri_at h0 51 6 := ri_frf Ch105 (d := 6) rfl rfl (by decide +kernel)
    exact ex_reti oq_X5_readNewName_23 rfl (hQ x104 h105 Th105 Fh105 (.inr ⟨_, rfl, by omega, by omega, by omega, by omega⟩))
  · exfalso; omega
theorem ct_nameG2P {h0 : cv_H} {n : Nat} (ht : ∀ i, t i = ri_at h0 1 i % 256) (hwd : ∀ i, i < 34 → ri_at h0 52 i = tz_wc.getD i 0) (hn9 : n ≤ 900) (hT : cw_T G h0) {M : Int32} {l : List Int} (hM : M.toInt = l.length) (hlm : l.length < 4) (hl : ∀ k, k < l.length → ri_at h0 9 k = l.getD k 0) {p : Nat} (hpn : p ≤ n) (hz : zC t n p h0) (h4 : ri_at h0 50 4 = 0) (h5 : ri_at h0 50 5 = -1) (hQ : ∀ (x : Int32) h', cw_T G h' → cw_Fr cw_Ds cw_sh kk_X5_readNewName.2.2.2.2.2.1 h0 h' → zCr t n h' x (zm t n l p) → Q (some (cv_i x), h')) : cw_X X 64 Q 0 (cv_ent 0 [cv_r 50, cv_r 9, cv_i M]) [] h0 := by
  have Fh0 : cw_Fr cw_Ds cw_sh kk_X5_readNewName.2.2.2.2.2.1 h0 h0 := cw_Fr_refl
  obtain ⟨z1, z2, z3, z4⟩ := id hz
  have zl := zx_le (t := t) hpn
  have rn := rl_nam z4
  have hA : ∀ h, cw_Fr cw_Ds cw_sh kk_X5_readNewName.2.2.2.2.2.1 h0 h → ∀ i, ri_at h 1 i = ri_at h0 1 i := fun h F i => ri_frr F (k := 1) (d := 13) rfl rfl (by decide +kernel)
  have hB : ∀ h, cw_Fr cw_Ds cw_sh kk_X5_readNewName.2.2.2.2.2.1 h0 h → ∀ i, ri_at h 52 i = ri_at h0 52 i := fun h F i => ri_frr F (k := 52) (d := 43) rfl rfl (by decide +kernel)
  refine ex_al oq_X5_readNewName_0 rfl ?_
  obtain ⟨x301, ax301, rx301, lx301, ux301⟩ := ri_fld (k := 50) (d := 5) (f := 4) hT rfl rfl rfl
  try dsimp only at lx301 ux301
  refine ex_gf oq_X5_readNewName_1 hT (k := 50) (d := 5) rfl rfl ax301 ?_
  refine ex_if0 oq_X5_readNewName_4 (t := 18) rfl rfl (fun (c302 : ¬ x301.toInt = 0) => ?_) (fun (c302 : ¬ (¬ x301.toInt = 0)) => ?_)
  · exfalso; omega
  · refine ex_al oq_X5_readNewName_7 rfl ?_
    refine ex_gf oq_X5_readNewName_8 hT (k := 50) (d := 5) rfl rfl (ri_ref (k := 50) (k' := 51) (d := 5) (f := 0) hT rfl rfl rfl (by decide) (ri_uniq (by decide +kernel))) ?_
    obtain ⟨x303, ax303, rx303, lx303, ux303⟩ := ri_fld (k := 51) (d := 6) (f := 4) hT rfl rfl rfl
    try dsimp only at lx303 ux303
    refine ex_gf oq_X5_readNewName_11 hT (k := 51) (d := 6) rfl rfl ax303 ?_
    refine ex_ic oq_X5_readNewName_14 (m := 3) (by decide) (fun x304 hx304 => ?_)
    refine ex_if oq_X5_readNewName_15 (t := 24) rfl rfl (fun (c305 : x303.toInt = x304.toInt) => ?_) (fun (c305 : ¬ (x303.toInt = x304.toInt)) => ?_)
    · refine ex_al oq_X5_readNewName_24 rfl ?_
      refine ex_gf oq_X5_readNewName_25 hT (k := 50) (d := 5) rfl rfl (ri_ref (k := 50) (k' := 51) (d := 5) (f := 0) hT rfl rfl rfl (by decide) (ri_uniq (by decide +kernel))) ?_
      obtain ⟨x306, ax306, rx306, lx306, ux306⟩ := ri_fld (k := 51) (d := 6) (f := 6) hT rfl rfl rfl
      try dsimp only at lx306 ux306
      refine ex_gf oq_X5_readNewName_28 hT (k := 51) (d := 6) rfl rfl ax306 ?_
      refine ex_isA oq_X5_readNewName_31 (fun L307 gL307_3 kL307 => ?_)
      have gL307_0 : cv_get L307 0 = some (cv_r 50) := kL307 0 _ (by decide) (fun q => absurd q (by decide)) rfl
      have gL307_1 : cv_get L307 1 = some (cv_r 9) := kL307 1 _ (by decide) (fun q => absurd q (by decide)) rfl
      have gL307_2 : cv_get L307 2 = some (cv_i M) := kL307 2 _ (by decide) (fun _ => rfl) rfl
      refine ex_il oq_X5_readNewName_32 gL307_3 ?_
      refine ex_al oq_X5_readNewName_33 gL307_1 ?_
      refine ex_il oq_X5_readNewName_34 gL307_2 ?_
      refine ex_cs oq_X5_readNewName_35 (by decide) (as := [cv_i x306, cv_r 9, cv_i M]) (stk := []) rfl rfl rfl ⟨rfl, rfl⟩ (R := fun o => ∃ x : Int32, o = (some (cv_i x), h0) ∧ x.toInt = tz_find l x306.toInt 0) (ct_placeG2 (l := l) hT (by omega) (by omega) hl (fun x q => ⟨x, rfl, q⟩)) (fun o ho => ?_)
      obtain ⟨x308, rfl, qx308⟩ := ho
      show cw_X _ _ _ _ _ [cv_i x308] h0
      rw [show x306.toInt = zw t n p from by omega] at qx308
      have qb := zfd_b (x := zw t n p) l 0
      refine ex_ic oq_X5_readNewName_38 (m := (-1)) (by decide) (fun x309 hx309 => ?_)
      refine ex_if oq_X5_readNewName_39 (t := 48) rfl rfl (fun (c310 : x308.toInt = x309.toInt) => ?_) (fun (c310 : ¬ (x308.toInt = x309.toInt)) => ?_)
      · refine ex_al oq_X5_readNewName_48 gL307_0 ?_
        refine ex_gf oq_X5_readNewName_49 hT (k := 50) (d := 5) rfl rfl (ri_ref (k := 50) (k' := 51) (d := 5) (f := 0) hT rfl rfl rfl (by decide) (ri_uniq (by decide +kernel))) ?_
        refine ex_cv oq_X5_readNewName_52 (by decide) hT (k := 51) (d := 6) (as := []) (stk := []) rfl rfl rfl rfl rfl rfl ⟨rfl, rfl⟩ (R := fun o => ∃ hb : cv_H, o = (none, hb) ∧ cw_T G hb ∧ cw_Fr cw_Ds cw_sh kk_X6_step.2.2.2.2.2.1 h0 hb ∧ zC t n (zx t n p) hb) (ct_step (t := t) (n := n) (p := zx t n p) (fun i => by rw [ht, ← hA _ Fh0]) (fun i hi => by rw [hB _ Fh0]; exact hwd i hi) hT hn9 (by omega) (by omega) (fun hb b1 b2 b3 b4 b5 b6 => ⟨hb, rfl, b1, b2, b3, b4, b5, b6⟩)) (fun o ho => ?_)
        obtain ⟨h311, rfl, Th311, Ch311, Zh311⟩ := ho
        show cw_X _ _ _ _ _ [] h311
        have Fh311 : cw_Fr cw_Ds cw_sh kk_X5_readNewName.2.2.2.2.2.1 h0 h311 := cw_Fr_tr Fh0 (cw_Fr_mono (by decide +kernel) Ch311)
        have eh311_50_4 : ri_at h311 50 4 = ri_at h0 50 4 := ri_frf Ch311 (d := 5) rfl rfl (by decide +kernel)
        have eh311_50_5 : ri_at h311 50 5 = ri_at h0 50 5 := ri_frf Ch311 (d := 5) rfl rfl (by decide +kernel)
        obtain ⟨zah311, zbh311, zch311, zdh311⟩ := id Zh311
        have zlh311 := zx_le (t := t) (n := n) (p := (zx t n p)) (by omega)
        refine ex_il oq_X5_readNewName_55 gL307_3 ?_
        exact ex_reti oq_X5_readNewName_56 rfl (hQ x306 h311 Th311 Fh311 (.inl ⟨_, _, zm_ok (by omega) (by omega), by omega, zx_le hpn, Zh311, by omega, by omega⟩))
      · refine ex_al oq_X5_readNewName_42 gL307_0 ?_
        refine ex_ic oq_X5_readNewName_43 (m := 3) (by decide) (fun x312 hx312 => ?_)
        refine ex_cv oq_X5_readNewName_44 (by decide) hT (k := 50) (d := 5) (as := [cv_i x312]) (stk := []) rfl rfl rfl rfl rfl rfl ⟨rfl, rfl⟩ (R := fun o => ∃ (x : Int32) (hb : cv_H), o = (some (cv_i x), hb) ∧ cw_T G hb ∧ cw_Fr cw_Ds cw_sh kk_X5_fail.2.2.2.2.2.1 h0 hb ∧ x.toInt = 0 ∧ (ri_at h0 50 4 = 0 ∧ ri_at hb 50 4 = x312.toInt ∧ ri_at hb 50 5 = ri_at h0 51 5 ∨ ¬ ri_at h0 50 4 = 0 ∧ ri_at hb 50 4 = ri_at h0 50 4 ∧ ri_at hb 50 5 = ri_at h0 50 5)) (ct_fail hT x312 (fun x hb b1 b2 b3 b4 => ⟨x, hb, rfl, b1, b2, b3, b4⟩)) (fun o ho => ?_)
        obtain ⟨x313, h314, rfl, Th314, Ch314, zh314, fh314⟩ := ho
        show cw_X _ _ _ _ _ [cv_i x313] h314
        have Fh314 : cw_Fr cw_Ds cw_sh kk_X5_readNewName.2.2.2.2.2.1 h0 h314 := cw_Fr_tr Fh0 (cw_Fr_mono (by decide +kernel) Ch314)
        have eh314_51_2 : ri_at h314 51 2 = ri_at h0 51 2 := ri_frf Ch314 (d := 6) rfl rfl (by decide +kernel)
        have eh314_51_3 : ri_at h314 51 3 = ri_at h0 51 3 := ri_frf Ch314 (d := 6) rfl rfl (by decide +kernel)
        have eh314_51_4 : ri_at h314 51 4 = ri_at h0 51 4 := ri_frf Ch314 (d := 6) rfl rfl (by decide +kernel)
        have eh314_51_5 : ri_at h314 51 5 = ri_at h0 51 5 := ri_frf Ch314 (d := 6) rfl rfl (by decide +kernel)
        have eh314_51_6 : ri_at h314 51 6 = ri_at h0 51 6 := ri_frf Ch314 (d := 6) rfl rfl (by decide +kernel)
        exact ex_reti oq_X5_readNewName_47 rfl (hQ x313 h314 Th314 Fh314 (.inr ⟨_, zm_3 (by omega) (by omega), by omega, by omega, by omega, by decide⟩))
    · refine ex_al oq_X5_readNewName_18 rfl ?_
      refine ex_ic oq_X5_readNewName_19 (m := 1) (by decide) (fun x315 hx315 => ?_)
      refine ex_cv oq_X5_readNewName_20 (by decide) hT (k := 50) (d := 5) (as := [cv_i x315]) (stk := []) rfl rfl rfl rfl rfl rfl ⟨rfl, rfl⟩ (R := fun o => ∃ (x : Int32) (hb : cv_H), o = (some (cv_i x), hb) ∧ cw_T G hb ∧ cw_Fr cw_Ds cw_sh kk_X5_fail.2.2.2.2.2.1 h0 hb ∧ x.toInt = 0 ∧ (ri_at h0 50 4 = 0 ∧ ri_at hb 50 4 = x315.toInt ∧ ri_at hb 50 5 = ri_at h0 51 5 ∨ ¬ ri_at h0 50 4 = 0 ∧ ri_at hb 50 4 = ri_at h0 50 4 ∧ ri_at hb 50 5 = ri_at h0 50 5)) (ct_fail hT x315 (fun x hb b1 b2 b3 b4 => ⟨x, hb, rfl, b1, b2, b3, b4⟩)) (fun o ho => ?_)
      obtain ⟨x316, h317, rfl, Th317, Ch317, zh317, fh317⟩ := ho
      show cw_X _ _ _ _ _ [cv_i x316] h317
      have Fh317 : cw_Fr cw_Ds cw_sh kk_X5_readNewName.2.2.2.2.2.1 h0 h317 := cw_Fr_tr Fh0 (cw_Fr_mono (by decide +kernel) Ch317)
      have eh317_51_2 : ri_at h317 51 2 = ri_at h0 51 2 := ri_frf Ch317 (d := 6) rfl rfl (by decide +kernel)
      have eh317_51_3 : ri_at h317 51 3 = ri_at h0 51 3 := ri_frf Ch317 (d := 6) rfl rfl (by decide +kernel)
      have eh317_51_4 : ri_at h317 51 4 = ri_at h0 51 4 := ri_frf Ch317 (d := 6) rfl rfl (by decide +kernel)
      have eh317_51_5 : ri_at h317 51 5 = ri_at h0 51 5 := ri_frf Ch317 (d := 6) rfl rfl (by decide +kernel)
      have eh317_51_6 : ri_at h317 51 6 = ri_at h0 51 6 := ri_frf Ch317 (d := 6) rfl rfl (by decide +kernel)
      exact ex_reti oq_X5_readNewName_23 rfl (hQ x316 h317 Th317 Fh317 (.inr ⟨_, zm_1 (by omega), by omega, by omega, by omega, by decide⟩))
theorem ct_nameG2 {h0 : cv_H} {n : Nat} (ht : ∀ i, t i = ri_at h0 1 i % 256) (hwd : ∀ i, i < 34 → ri_at h0 52 i = tz_wc.getD i 0) (hn9 : n ≤ 900) (hT : cw_T G h0) {M : Int32} {l : List Int} (hM : M.toInt = l.length) (hlm : l.length < 4) (hl : ∀ k, k < l.length → ri_at h0 9 k = l.getD k 0) {S : (Int × Nat) ⊕ Nat} (hS : zCs t n S h0) (hQ : ∀ (x : Int32) h', cw_T G h' → cw_Fr cw_Ds cw_sh kk_X5_readNewName.2.2.2.2.2.1 h0 h' → zCr t n h' x (zbd S (zm t n l)) → Q (some (cv_i x), h')) : cw_X X 64 Q 0 (cv_ent 0 [cv_r 50, cv_r 9, cv_i M]) [] h0 := by
  cases S with
  | inl e =>
    obtain ⟨f, a⟩ := e
    exact ct_nameG2F ht hwd hn9 hT hM hlm hl hS.1 hS.2.1 hS.2.2 hQ
  | inr p => exact ct_nameG2P ht hwd hn9 hT hM hlm hl hS.1 hS.2.1 hS.2.2.1 hS.2.2.2 hQ
theorem ct_nameG26F {h0 : cv_H} {n : Nat} (ht : ∀ i, t i = ri_at h0 1 i % 256) (hwd : ∀ i, i < 34 → ri_at h0 52 i = tz_wc.getD i 0) (hn9 : n ≤ 900) (hT : cw_T G h0) {M : Int32} {l : List Int} (hM : M.toInt = l.length) (hlm : l.length < 4) (hl : ∀ k, k < l.length → ri_at h0 33 k = l.getD k 0) {f : Int} {a : Nat} (h4 : ri_at h0 50 4 = f) (h5 : ri_at h0 50 5 = a) (hf : 1 ≤ f) (hQ : ∀ (x : Int32) h', cw_T G h' → cw_Fr cw_Ds cw_sh kk_X5_readNewName.2.2.2.2.2.1 h0 h' → zCr t n h' x (.inl (f, a)) → Q (some (cv_i x), h')) : cw_X X 64 Q 0 (cv_ent 0 [cv_r 50, cv_r 33, cv_i M]) [] h0 := by
  have Fh0 : cw_Fr cw_Ds cw_sh kk_X5_readNewName.2.2.2.2.2.1 h0 h0 := cw_Fr_refl
  refine ex_al oq_X5_readNewName_0 rfl ?_
  obtain ⟨x101, ax101, rx101, lx101, ux101⟩ := ri_fld (k := 50) (d := 5) (f := 4) hT rfl rfl rfl
  try dsimp only at lx101 ux101
  refine ex_gf oq_X5_readNewName_1 hT (k := 50) (d := 5) rfl rfl ax101 ?_
  refine ex_if0 oq_X5_readNewName_4 (t := 18) rfl rfl (fun (c102 : ¬ x101.toInt = 0) => ?_) (fun (c102 : ¬ (¬ x101.toInt = 0)) => ?_)
  · refine ex_al oq_X5_readNewName_18 rfl ?_
    refine ex_ic oq_X5_readNewName_19 (m := 1) (by decide) (fun x103 hx103 => ?_)
    refine ex_cv oq_X5_readNewName_20 (by decide) hT (k := 50) (d := 5) (as := [cv_i x103]) (stk := []) rfl rfl rfl rfl rfl rfl ⟨rfl, rfl⟩ (R := fun o => ∃ (x : Int32) (hb : cv_H), o = (some (cv_i x), hb) ∧ cw_T G hb ∧ cw_Fr cw_Ds cw_sh kk_X5_fail.2.2.2.2.2.1 h0 hb ∧ x.toInt = 0 ∧ (ri_at h0 50 4 = 0 ∧ ri_at hb 50 4 = x103.toInt ∧ ri_at hb 50 5 = ri_at h0 51 5 ∨ ¬ ri_at h0 50 4 = 0 ∧ ri_at hb 50 4 = ri_at h0 50 4 ∧ ri_at hb 50 5 = ri_at h0 50 5)) (ct_fail hT x103 (fun x hb b1 b2 b3 b4 => ⟨x, hb, rfl, b1, b2, b3, b4⟩)) (fun o ho => ?_)
    obtain ⟨x104, h105, rfl, Th105, Ch105, zh105, fh105⟩ := ho
    show cw_X _ _ _ _ _ [cv_i x104] h105
    have Fh105 : cw_Fr cw_Ds cw_sh kk_X5_readNewName.2.2.2.2.2.1 h0 h105 := cw_Fr_tr Fh0 (cw_Fr_mono (by decide +kernel) Ch105)
    have eh105_51_2 : ri_at h105 51 2 = ri_at h0 51 2 := ri_frf Ch105 (d := 6) rfl rfl (by decide +kernel)
    have eh105_51_3 : ri_at h105 51 3 = ri_at h0 51 3 := ri_frf Ch105 (d := 6) rfl rfl (by decide +kernel)
    have eh105_51_4 : ri_at h105 51 4 = ri_at h0 51 4 := ri_frf Ch105 (d := 6) rfl rfl (by decide +kernel)
    have eh105_51_5 : ri_at h105 51 5 = ri_at h0 51 5 := ri_frf Ch105 (d := 6) rfl rfl (by decide +kernel)
    have eh105_51_6 : ri_at h105 51 6 = ri_at h0 51 6 := ri_frf Ch105 (d := 6) rfl rfl (by decide +kernel)
    exact ex_reti oq_X5_readNewName_23 rfl (hQ x104 h105 Th105 Fh105 (.inr ⟨_, rfl, by omega, by omega, by omega, by omega⟩))
  · exfalso; omega
theorem ct_nameG26P {h0 : cv_H} {n : Nat} (ht : ∀ i, t i = ri_at h0 1 i % 256) (hwd : ∀ i, i < 34 → ri_at h0 52 i = tz_wc.getD i 0) (hn9 : n ≤ 900) (hT : cw_T G h0) {M : Int32} {l : List Int} (hM : M.toInt = l.length) (hlm : l.length < 4) (hl : ∀ k, k < l.length → ri_at h0 33 k = l.getD k 0) {p : Nat} (hpn : p ≤ n) (hz : zC t n p h0) (h4 : ri_at h0 50 4 = 0) (h5 : ri_at h0 50 5 = -1) (hQ : ∀ (x : Int32) h', cw_T G h' → cw_Fr cw_Ds cw_sh kk_X5_readNewName.2.2.2.2.2.1 h0 h' → zCr t n h' x (zm t n l p) → Q (some (cv_i x), h')) : cw_X X 64 Q 0 (cv_ent 0 [cv_r 50, cv_r 33, cv_i M]) [] h0 := by
  have Fh0 : cw_Fr cw_Ds cw_sh kk_X5_readNewName.2.2.2.2.2.1 h0 h0 := cw_Fr_refl
  obtain ⟨z1, z2, z3, z4⟩ := id hz
  have zl := zx_le (t := t) hpn
  have rn := rl_nam z4
  have hA : ∀ h, cw_Fr cw_Ds cw_sh kk_X5_readNewName.2.2.2.2.2.1 h0 h → ∀ i, ri_at h 1 i = ri_at h0 1 i := fun h F i => ri_frr F (k := 1) (d := 13) rfl rfl (by decide +kernel)
  have hB : ∀ h, cw_Fr cw_Ds cw_sh kk_X5_readNewName.2.2.2.2.2.1 h0 h → ∀ i, ri_at h 52 i = ri_at h0 52 i := fun h F i => ri_frr F (k := 52) (d := 43) rfl rfl (by decide +kernel)
  refine ex_al oq_X5_readNewName_0 rfl ?_
  obtain ⟨x301, ax301, rx301, lx301, ux301⟩ := ri_fld (k := 50) (d := 5) (f := 4) hT rfl rfl rfl
  try dsimp only at lx301 ux301
  refine ex_gf oq_X5_readNewName_1 hT (k := 50) (d := 5) rfl rfl ax301 ?_
  refine ex_if0 oq_X5_readNewName_4 (t := 18) rfl rfl (fun (c302 : ¬ x301.toInt = 0) => ?_) (fun (c302 : ¬ (¬ x301.toInt = 0)) => ?_)
  · exfalso; omega
  · refine ex_al oq_X5_readNewName_7 rfl ?_
    refine ex_gf oq_X5_readNewName_8 hT (k := 50) (d := 5) rfl rfl (ri_ref (k := 50) (k' := 51) (d := 5) (f := 0) hT rfl rfl rfl (by decide) (ri_uniq (by decide +kernel))) ?_
    obtain ⟨x303, ax303, rx303, lx303, ux303⟩ := ri_fld (k := 51) (d := 6) (f := 4) hT rfl rfl rfl
    try dsimp only at lx303 ux303
    refine ex_gf oq_X5_readNewName_11 hT (k := 51) (d := 6) rfl rfl ax303 ?_
    refine ex_ic oq_X5_readNewName_14 (m := 3) (by decide) (fun x304 hx304 => ?_)
    refine ex_if oq_X5_readNewName_15 (t := 24) rfl rfl (fun (c305 : x303.toInt = x304.toInt) => ?_) (fun (c305 : ¬ (x303.toInt = x304.toInt)) => ?_)
    · refine ex_al oq_X5_readNewName_24 rfl ?_
      refine ex_gf oq_X5_readNewName_25 hT (k := 50) (d := 5) rfl rfl (ri_ref (k := 50) (k' := 51) (d := 5) (f := 0) hT rfl rfl rfl (by decide) (ri_uniq (by decide +kernel))) ?_
      obtain ⟨x306, ax306, rx306, lx306, ux306⟩ := ri_fld (k := 51) (d := 6) (f := 6) hT rfl rfl rfl
      try dsimp only at lx306 ux306
      refine ex_gf oq_X5_readNewName_28 hT (k := 51) (d := 6) rfl rfl ax306 ?_
      refine ex_isA oq_X5_readNewName_31 (fun L307 gL307_3 kL307 => ?_)
      have gL307_0 : cv_get L307 0 = some (cv_r 50) := kL307 0 _ (by decide) (fun q => absurd q (by decide)) rfl
      have gL307_1 : cv_get L307 1 = some (cv_r 33) := kL307 1 _ (by decide) (fun q => absurd q (by decide)) rfl
      have gL307_2 : cv_get L307 2 = some (cv_i M) := kL307 2 _ (by decide) (fun _ => rfl) rfl
      refine ex_il oq_X5_readNewName_32 gL307_3 ?_
      refine ex_al oq_X5_readNewName_33 gL307_1 ?_
      refine ex_il oq_X5_readNewName_34 gL307_2 ?_
      refine ex_cs oq_X5_readNewName_35 (by decide) (as := [cv_i x306, cv_r 33, cv_i M]) (stk := []) rfl rfl rfl ⟨rfl, rfl⟩ (R := fun o => ∃ x : Int32, o = (some (cv_i x), h0) ∧ x.toInt = tz_find l x306.toInt 0) (ct_placeG26 (l := l) hT (by omega) (by omega) hl (fun x q => ⟨x, rfl, q⟩)) (fun o ho => ?_)
      obtain ⟨x308, rfl, qx308⟩ := ho
      show cw_X _ _ _ _ _ [cv_i x308] h0
      rw [show x306.toInt = zw t n p from by omega] at qx308
      have qb := zfd_b (x := zw t n p) l 0
      refine ex_ic oq_X5_readNewName_38 (m := (-1)) (by decide) (fun x309 hx309 => ?_)
      refine ex_if oq_X5_readNewName_39 (t := 48) rfl rfl (fun (c310 : x308.toInt = x309.toInt) => ?_) (fun (c310 : ¬ (x308.toInt = x309.toInt)) => ?_)
      · refine ex_al oq_X5_readNewName_48 gL307_0 ?_
        refine ex_gf oq_X5_readNewName_49 hT (k := 50) (d := 5) rfl rfl (ri_ref (k := 50) (k' := 51) (d := 5) (f := 0) hT rfl rfl rfl (by decide) (ri_uniq (by decide +kernel))) ?_
        refine ex_cv oq_X5_readNewName_52 (by decide) hT (k := 51) (d := 6) (as := []) (stk := []) rfl rfl rfl rfl rfl rfl ⟨rfl, rfl⟩ (R := fun o => ∃ hb : cv_H, o = (none, hb) ∧ cw_T G hb ∧ cw_Fr cw_Ds cw_sh kk_X6_step.2.2.2.2.2.1 h0 hb ∧ zC t n (zx t n p) hb) (ct_step (t := t) (n := n) (p := zx t n p) (fun i => by rw [ht, ← hA _ Fh0]) (fun i hi => by rw [hB _ Fh0]; exact hwd i hi) hT hn9 (by omega) (by omega) (fun hb b1 b2 b3 b4 b5 b6 => ⟨hb, rfl, b1, b2, b3, b4, b5, b6⟩)) (fun o ho => ?_)
        obtain ⟨h311, rfl, Th311, Ch311, Zh311⟩ := ho
        show cw_X _ _ _ _ _ [] h311
        have Fh311 : cw_Fr cw_Ds cw_sh kk_X5_readNewName.2.2.2.2.2.1 h0 h311 := cw_Fr_tr Fh0 (cw_Fr_mono (by decide +kernel) Ch311)
        have eh311_50_4 : ri_at h311 50 4 = ri_at h0 50 4 := ri_frf Ch311 (d := 5) rfl rfl (by decide +kernel)
        have eh311_50_5 : ri_at h311 50 5 = ri_at h0 50 5 := ri_frf Ch311 (d := 5) rfl rfl (by decide +kernel)
        obtain ⟨zah311, zbh311, zch311, zdh311⟩ := id Zh311
        have zlh311 := zx_le (t := t) (n := n) (p := (zx t n p)) (by omega)
        refine ex_il oq_X5_readNewName_55 gL307_3 ?_
        exact ex_reti oq_X5_readNewName_56 rfl (hQ x306 h311 Th311 Fh311 (.inl ⟨_, _, zm_ok (by omega) (by omega), by omega, zx_le hpn, Zh311, by omega, by omega⟩))
      · refine ex_al oq_X5_readNewName_42 gL307_0 ?_
        refine ex_ic oq_X5_readNewName_43 (m := 3) (by decide) (fun x312 hx312 => ?_)
        refine ex_cv oq_X5_readNewName_44 (by decide) hT (k := 50) (d := 5) (as := [cv_i x312]) (stk := []) rfl rfl rfl rfl rfl rfl ⟨rfl, rfl⟩ (R := fun o => ∃ (x : Int32) (hb : cv_H), o = (some (cv_i x), hb) ∧ cw_T G hb ∧ cw_Fr cw_Ds cw_sh kk_X5_fail.2.2.2.2.2.1 h0 hb ∧ x.toInt = 0 ∧ (ri_at h0 50 4 = 0 ∧ ri_at hb 50 4 = x312.toInt ∧ ri_at hb 50 5 = ri_at h0 51 5 ∨ ¬ ri_at h0 50 4 = 0 ∧ ri_at hb 50 4 = ri_at h0 50 4 ∧ ri_at hb 50 5 = ri_at h0 50 5)) (ct_fail hT x312 (fun x hb b1 b2 b3 b4 => ⟨x, hb, rfl, b1, b2, b3, b4⟩)) (fun o ho => ?_)
        obtain ⟨x313, h314, rfl, Th314, Ch314, zh314, fh314⟩ := ho
        show cw_X _ _ _ _ _ [cv_i x313] h314
        have Fh314 : cw_Fr cw_Ds cw_sh kk_X5_readNewName.2.2.2.2.2.1 h0 h314 := cw_Fr_tr Fh0 (cw_Fr_mono (by decide +kernel) Ch314)
        have eh314_51_2 : ri_at h314 51 2 = ri_at h0 51 2 := ri_frf Ch314 (d := 6) rfl rfl (by decide +kernel)
        have eh314_51_3 : ri_at h314 51 3 = ri_at h0 51 3 := ri_frf Ch314 (d := 6) rfl rfl (by decide +kernel)
        have eh314_51_4 : ri_at h314 51 4 = ri_at h0 51 4 := ri_frf Ch314 (d := 6) rfl rfl (by decide +kernel)
        have eh314_51_5 : ri_at h314 51 5 = ri_at h0 51 5 := ri_frf Ch314 (d := 6) rfl rfl (by decide +kernel)
        have eh314_51_6 : ri_at h314 51 6 = ri_at h0 51 6 := ri_frf Ch314 (d := 6) rfl rfl (by decide +kernel)
        exact ex_reti oq_X5_readNewName_47 rfl (hQ x313 h314 Th314 Fh314 (.inr ⟨_, zm_3 (by omega) (by omega), by omega, by omega, by omega, by decide⟩))
    · refine ex_al oq_X5_readNewName_18 rfl ?_
      refine ex_ic oq_X5_readNewName_19 (m := 1) (by decide) (fun x315 hx315 => ?_)
      refine ex_cv oq_X5_readNewName_20 (by decide) hT (k := 50) (d := 5) (as := [cv_i x315]) (stk := []) rfl rfl rfl rfl rfl rfl ⟨rfl, rfl⟩ (R := fun o => ∃ (x : Int32) (hb : cv_H), o = (some (cv_i x), hb) ∧ cw_T G hb ∧ cw_Fr cw_Ds cw_sh kk_X5_fail.2.2.2.2.2.1 h0 hb ∧ x.toInt = 0 ∧ (ri_at h0 50 4 = 0 ∧ ri_at hb 50 4 = x315.toInt ∧ ri_at hb 50 5 = ri_at h0 51 5 ∨ ¬ ri_at h0 50 4 = 0 ∧ ri_at hb 50 4 = ri_at h0 50 4 ∧ ri_at hb 50 5 = ri_at h0 50 5)) (ct_fail hT x315 (fun x hb b1 b2 b3 b4 => ⟨x, hb, rfl, b1, b2, b3, b4⟩)) (fun o ho => ?_)
      obtain ⟨x316, h317, rfl, Th317, Ch317, zh317, fh317⟩ := ho
      show cw_X _ _ _ _ _ [cv_i x316] h317
      have Fh317 : cw_Fr cw_Ds cw_sh kk_X5_readNewName.2.2.2.2.2.1 h0 h317 := cw_Fr_tr Fh0 (cw_Fr_mono (by decide +kernel) Ch317)
      have eh317_51_2 : ri_at h317 51 2 = ri_at h0 51 2 := ri_frf Ch317 (d := 6) rfl rfl (by decide +kernel)
      have eh317_51_3 : ri_at h317 51 3 = ri_at h0 51 3 := ri_frf Ch317 (d := 6) rfl rfl (by decide +kernel)
      have eh317_51_4 : ri_at h317 51 4 = ri_at h0 51 4 := ri_frf Ch317 (d := 6) rfl rfl (by decide +kernel)
      have eh317_51_5 : ri_at h317 51 5 = ri_at h0 51 5 := ri_frf Ch317 (d := 6) rfl rfl (by decide +kernel)
      have eh317_51_6 : ri_at h317 51 6 = ri_at h0 51 6 := ri_frf Ch317 (d := 6) rfl rfl (by decide +kernel)
      exact ex_reti oq_X5_readNewName_23 rfl (hQ x316 h317 Th317 Fh317 (.inr ⟨_, zm_1 (by omega), by omega, by omega, by omega, by decide⟩))
theorem ct_nameG26 {h0 : cv_H} {n : Nat} (ht : ∀ i, t i = ri_at h0 1 i % 256) (hwd : ∀ i, i < 34 → ri_at h0 52 i = tz_wc.getD i 0) (hn9 : n ≤ 900) (hT : cw_T G h0) {M : Int32} {l : List Int} (hM : M.toInt = l.length) (hlm : l.length < 4) (hl : ∀ k, k < l.length → ri_at h0 33 k = l.getD k 0) {S : (Int × Nat) ⊕ Nat} (hS : zCs t n S h0) (hQ : ∀ (x : Int32) h', cw_T G h' → cw_Fr cw_Ds cw_sh kk_X5_readNewName.2.2.2.2.2.1 h0 h' → zCr t n h' x (zbd S (zm t n l)) → Q (some (cv_i x), h')) : cw_X X 64 Q 0 (cv_ent 0 [cv_r 50, cv_r 33, cv_i M]) [] h0 := by
  cases S with
  | inl e =>
    obtain ⟨f, a⟩ := e
    exact ct_nameG26F ht hwd hn9 hT hM hlm hl hS.1 hS.2.1 hS.2.2 hQ
  | inr p => exact ct_nameG26P ht hwd hn9 hT hM hlm hl hS.1 hS.2.1 hS.2.2.1 hS.2.2.2 hQ
theorem ct_nameW2F {h0 : cv_H} {n : Nat} (ht : ∀ i, t i = ri_at h0 1 i % 256) (hwd : ∀ i, i < 34 → ri_at h0 52 i = tz_wc.getD i 0) (hn9 : n ≤ 900) (hT : cw_T G h0) {M : Int32} {l : List Int} (hM : M.toInt = l.length) (hlm : l.length < 6) (hl : ∀ k, k < l.length → ri_at h0 10 k = l.getD k 0) {f : Int} {a : Nat} (h4 : ri_at h0 50 4 = f) (h5 : ri_at h0 50 5 = a) (hf : 1 ≤ f) (hQ : ∀ (x : Int32) h', cw_T G h' → cw_Fr cw_Ds cw_sh kk_X5_readNewName_1.2.2.2.2.2.1 h0 h' → zCr t n h' x (.inl (f, a)) → Q (some (cv_i x), h')) : cw_X X 64 Q 0 (cv_ent 0 [cv_r 50, cv_r 10, cv_i M]) [] h0 := by
  have Fh0 : cw_Fr cw_Ds cw_sh kk_X5_readNewName_1.2.2.2.2.2.1 h0 h0 := cw_Fr_refl
  refine ex_al oq_X5_readNewName_0 rfl ?_
  obtain ⟨x101, ax101, rx101, lx101, ux101⟩ := ri_fld (k := 50) (d := 5) (f := 4) hT rfl rfl rfl
  try dsimp only at lx101 ux101
  refine ex_gf oq_X5_readNewName_1 hT (k := 50) (d := 5) rfl rfl ax101 ?_
  refine ex_if0 oq_X5_readNewName_4 (t := 18) rfl rfl (fun (c102 : ¬ x101.toInt = 0) => ?_) (fun (c102 : ¬ (¬ x101.toInt = 0)) => ?_)
  · refine ex_al oq_X5_readNewName_18 rfl ?_
    refine ex_ic oq_X5_readNewName_19 (m := 1) (by decide) (fun x103 hx103 => ?_)
    refine ex_cv oq_X5_readNewName_20 (by decide) hT (k := 50) (d := 5) (as := [cv_i x103]) (stk := []) rfl rfl rfl rfl rfl rfl ⟨rfl, rfl⟩ (R := fun o => ∃ (x : Int32) (hb : cv_H), o = (some (cv_i x), hb) ∧ cw_T G hb ∧ cw_Fr cw_Ds cw_sh kk_X5_fail.2.2.2.2.2.1 h0 hb ∧ x.toInt = 0 ∧ (ri_at h0 50 4 = 0 ∧ ri_at hb 50 4 = x103.toInt ∧ ri_at hb 50 5 = ri_at h0 51 5 ∨ ¬ ri_at h0 50 4 = 0 ∧ ri_at hb 50 4 = ri_at h0 50 4 ∧ ri_at hb 50 5 = ri_at h0 50 5)) (ct_fail hT x103 (fun x hb b1 b2 b3 b4 => ⟨x, hb, rfl, b1, b2, b3, b4⟩)) (fun o ho => ?_)
    obtain ⟨x104, h105, rfl, Th105, Ch105, zh105, fh105⟩ := ho
    show cw_X _ _ _ _ _ [cv_i x104] h105
    have Fh105 : cw_Fr cw_Ds cw_sh kk_X5_readNewName_1.2.2.2.2.2.1 h0 h105 := cw_Fr_tr Fh0 (cw_Fr_mono (by decide +kernel) Ch105)
    have eh105_51_2 : ri_at h105 51 2 = ri_at h0 51 2 := ri_frf Ch105 (d := 6) rfl rfl (by decide +kernel)
    have eh105_51_3 : ri_at h105 51 3 = ri_at h0 51 3 := ri_frf Ch105 (d := 6) rfl rfl (by decide +kernel)
    have eh105_51_4 : ri_at h105 51 4 = ri_at h0 51 4 := ri_frf Ch105 (d := 6) rfl rfl (by decide +kernel)
    have eh105_51_5 : ri_at h105 51 5 = ri_at h0 51 5 := ri_frf Ch105 (d := 6) rfl rfl (by decide +kernel)
    have eh105_51_6 : ri_at h105 51 6 = ri_at h0 51 6 := ri_frf Ch105 (d := 6) rfl rfl (by decide +kernel)
    exact ex_reti oq_X5_readNewName_23 rfl (hQ x104 h105 Th105 Fh105 (.inr ⟨_, rfl, by omega, by omega, by omega, by omega⟩))
  · exfalso; omega
theorem ct_nameW2P {h0 : cv_H} {n : Nat} (ht : ∀ i, t i = ri_at h0 1 i % 256) (hwd : ∀ i, i < 34 → ri_at h0 52 i = tz_wc.getD i 0) (hn9 : n ≤ 900) (hT : cw_T G h0) {M : Int32} {l : List Int} (hM : M.toInt = l.length) (hlm : l.length < 6) (hl : ∀ k, k < l.length → ri_at h0 10 k = l.getD k 0) {p : Nat} (hpn : p ≤ n) (hz : zC t n p h0) (h4 : ri_at h0 50 4 = 0) (h5 : ri_at h0 50 5 = -1) (hQ : ∀ (x : Int32) h', cw_T G h' → cw_Fr cw_Ds cw_sh kk_X5_readNewName_1.2.2.2.2.2.1 h0 h' → zCr t n h' x (zm t n l p) → Q (some (cv_i x), h')) : cw_X X 64 Q 0 (cv_ent 0 [cv_r 50, cv_r 10, cv_i M]) [] h0 := by
  have Fh0 : cw_Fr cw_Ds cw_sh kk_X5_readNewName_1.2.2.2.2.2.1 h0 h0 := cw_Fr_refl
  obtain ⟨z1, z2, z3, z4⟩ := id hz
  have zl := zx_le (t := t) hpn
  have rn := rl_nam z4
  have hA : ∀ h, cw_Fr cw_Ds cw_sh kk_X5_readNewName_1.2.2.2.2.2.1 h0 h → ∀ i, ri_at h 1 i = ri_at h0 1 i := fun h F i => ri_frr F (k := 1) (d := 13) rfl rfl (by decide +kernel)
  have hB : ∀ h, cw_Fr cw_Ds cw_sh kk_X5_readNewName_1.2.2.2.2.2.1 h0 h → ∀ i, ri_at h 52 i = ri_at h0 52 i := fun h F i => ri_frr F (k := 52) (d := 43) rfl rfl (by decide +kernel)
  refine ex_al oq_X5_readNewName_0 rfl ?_
  obtain ⟨x301, ax301, rx301, lx301, ux301⟩ := ri_fld (k := 50) (d := 5) (f := 4) hT rfl rfl rfl
  try dsimp only at lx301 ux301
  refine ex_gf oq_X5_readNewName_1 hT (k := 50) (d := 5) rfl rfl ax301 ?_
  refine ex_if0 oq_X5_readNewName_4 (t := 18) rfl rfl (fun (c302 : ¬ x301.toInt = 0) => ?_) (fun (c302 : ¬ (¬ x301.toInt = 0)) => ?_)
  · exfalso; omega
  · refine ex_al oq_X5_readNewName_7 rfl ?_
    refine ex_gf oq_X5_readNewName_8 hT (k := 50) (d := 5) rfl rfl (ri_ref (k := 50) (k' := 51) (d := 5) (f := 0) hT rfl rfl rfl (by decide) (ri_uniq (by decide +kernel))) ?_
    obtain ⟨x303, ax303, rx303, lx303, ux303⟩ := ri_fld (k := 51) (d := 6) (f := 4) hT rfl rfl rfl
    try dsimp only at lx303 ux303
    refine ex_gf oq_X5_readNewName_11 hT (k := 51) (d := 6) rfl rfl ax303 ?_
    refine ex_ic oq_X5_readNewName_14 (m := 3) (by decide) (fun x304 hx304 => ?_)
    refine ex_if oq_X5_readNewName_15 (t := 24) rfl rfl (fun (c305 : x303.toInt = x304.toInt) => ?_) (fun (c305 : ¬ (x303.toInt = x304.toInt)) => ?_)
    · refine ex_al oq_X5_readNewName_24 rfl ?_
      refine ex_gf oq_X5_readNewName_25 hT (k := 50) (d := 5) rfl rfl (ri_ref (k := 50) (k' := 51) (d := 5) (f := 0) hT rfl rfl rfl (by decide) (ri_uniq (by decide +kernel))) ?_
      obtain ⟨x306, ax306, rx306, lx306, ux306⟩ := ri_fld (k := 51) (d := 6) (f := 6) hT rfl rfl rfl
      try dsimp only at lx306 ux306
      refine ex_gf oq_X5_readNewName_28 hT (k := 51) (d := 6) rfl rfl ax306 ?_
      refine ex_isA oq_X5_readNewName_31 (fun L307 gL307_3 kL307 => ?_)
      have gL307_0 : cv_get L307 0 = some (cv_r 50) := kL307 0 _ (by decide) (fun q => absurd q (by decide)) rfl
      have gL307_1 : cv_get L307 1 = some (cv_r 10) := kL307 1 _ (by decide) (fun q => absurd q (by decide)) rfl
      have gL307_2 : cv_get L307 2 = some (cv_i M) := kL307 2 _ (by decide) (fun _ => rfl) rfl
      refine ex_il oq_X5_readNewName_32 gL307_3 ?_
      refine ex_al oq_X5_readNewName_33 gL307_1 ?_
      refine ex_il oq_X5_readNewName_34 gL307_2 ?_
      refine ex_cs oq_X5_readNewName_35 (by decide) (as := [cv_i x306, cv_r 10, cv_i M]) (stk := []) rfl rfl rfl ⟨rfl, rfl⟩ (R := fun o => ∃ x : Int32, o = (some (cv_i x), h0) ∧ x.toInt = tz_find l x306.toInt 0) (ct_placeW2 (l := l) hT (by omega) (by omega) hl (fun x q => ⟨x, rfl, q⟩)) (fun o ho => ?_)
      obtain ⟨x308, rfl, qx308⟩ := ho
      show cw_X _ _ _ _ _ [cv_i x308] h0
      rw [show x306.toInt = zw t n p from by omega] at qx308
      have qb := zfd_b (x := zw t n p) l 0
      refine ex_ic oq_X5_readNewName_38 (m := (-1)) (by decide) (fun x309 hx309 => ?_)
      refine ex_if oq_X5_readNewName_39 (t := 48) rfl rfl (fun (c310 : x308.toInt = x309.toInt) => ?_) (fun (c310 : ¬ (x308.toInt = x309.toInt)) => ?_)
      · refine ex_al oq_X5_readNewName_48 gL307_0 ?_
        refine ex_gf oq_X5_readNewName_49 hT (k := 50) (d := 5) rfl rfl (ri_ref (k := 50) (k' := 51) (d := 5) (f := 0) hT rfl rfl rfl (by decide) (ri_uniq (by decide +kernel))) ?_
        refine ex_cv oq_X5_readNewName_52 (by decide) hT (k := 51) (d := 6) (as := []) (stk := []) rfl rfl rfl rfl rfl rfl ⟨rfl, rfl⟩ (R := fun o => ∃ hb : cv_H, o = (none, hb) ∧ cw_T G hb ∧ cw_Fr cw_Ds cw_sh kk_X6_step.2.2.2.2.2.1 h0 hb ∧ zC t n (zx t n p) hb) (ct_step (t := t) (n := n) (p := zx t n p) (fun i => by rw [ht, ← hA _ Fh0]) (fun i hi => by rw [hB _ Fh0]; exact hwd i hi) hT hn9 (by omega) (by omega) (fun hb b1 b2 b3 b4 b5 b6 => ⟨hb, rfl, b1, b2, b3, b4, b5, b6⟩)) (fun o ho => ?_)
        obtain ⟨h311, rfl, Th311, Ch311, Zh311⟩ := ho
        show cw_X _ _ _ _ _ [] h311
        have Fh311 : cw_Fr cw_Ds cw_sh kk_X5_readNewName_1.2.2.2.2.2.1 h0 h311 := cw_Fr_tr Fh0 (cw_Fr_mono (by decide +kernel) Ch311)
        have eh311_50_4 : ri_at h311 50 4 = ri_at h0 50 4 := ri_frf Ch311 (d := 5) rfl rfl (by decide +kernel)
        have eh311_50_5 : ri_at h311 50 5 = ri_at h0 50 5 := ri_frf Ch311 (d := 5) rfl rfl (by decide +kernel)
        obtain ⟨zah311, zbh311, zch311, zdh311⟩ := id Zh311
        have zlh311 := zx_le (t := t) (n := n) (p := (zx t n p)) (by omega)
        refine ex_il oq_X5_readNewName_55 gL307_3 ?_
        exact ex_reti oq_X5_readNewName_56 rfl (hQ x306 h311 Th311 Fh311 (.inl ⟨_, _, zm_ok (by omega) (by omega), by omega, zx_le hpn, Zh311, by omega, by omega⟩))
      · refine ex_al oq_X5_readNewName_42 gL307_0 ?_
        refine ex_ic oq_X5_readNewName_43 (m := 3) (by decide) (fun x312 hx312 => ?_)
        refine ex_cv oq_X5_readNewName_44 (by decide) hT (k := 50) (d := 5) (as := [cv_i x312]) (stk := []) rfl rfl rfl rfl rfl rfl ⟨rfl, rfl⟩ (R := fun o => ∃ (x : Int32) (hb : cv_H), o = (some (cv_i x), hb) ∧ cw_T G hb ∧ cw_Fr cw_Ds cw_sh kk_X5_fail.2.2.2.2.2.1 h0 hb ∧ x.toInt = 0 ∧ (ri_at h0 50 4 = 0 ∧ ri_at hb 50 4 = x312.toInt ∧ ri_at hb 50 5 = ri_at h0 51 5 ∨ ¬ ri_at h0 50 4 = 0 ∧ ri_at hb 50 4 = ri_at h0 50 4 ∧ ri_at hb 50 5 = ri_at h0 50 5)) (ct_fail hT x312 (fun x hb b1 b2 b3 b4 => ⟨x, hb, rfl, b1, b2, b3, b4⟩)) (fun o ho => ?_)
        obtain ⟨x313, h314, rfl, Th314, Ch314, zh314, fh314⟩ := ho
        show cw_X _ _ _ _ _ [cv_i x313] h314
        have Fh314 : cw_Fr cw_Ds cw_sh kk_X5_readNewName_1.2.2.2.2.2.1 h0 h314 := cw_Fr_tr Fh0 (cw_Fr_mono (by decide +kernel) Ch314)
        have eh314_51_2 : ri_at h314 51 2 = ri_at h0 51 2 := ri_frf Ch314 (d := 6) rfl rfl (by decide +kernel)
        have eh314_51_3 : ri_at h314 51 3 = ri_at h0 51 3 := ri_frf Ch314 (d := 6) rfl rfl (by decide +kernel)
        have eh314_51_4 : ri_at h314 51 4 = ri_at h0 51 4 := ri_frf Ch314 (d := 6) rfl rfl (by decide +kernel)
        have eh314_51_5 : ri_at h314 51 5 = ri_at h0 51 5 := ri_frf Ch314 (d := 6) rfl rfl (by decide +kernel)
        have eh314_51_6 : ri_at h314 51 6 = ri_at h0 51 6 := ri_frf Ch314 (d := 6) rfl rfl (by decide +kernel)
        exact ex_reti oq_X5_readNewName_47 rfl (hQ x313 h314 Th314 Fh314 (.inr ⟨_, zm_3 (by omega) (by omega), by omega, by omega, by omega, by decide⟩))
    · refine ex_al oq_X5_readNewName_18 rfl ?_
      refine ex_ic oq_X5_readNewName_19 (m := 1) (by decide) (fun x315 hx315 => ?_)
      refine ex_cv oq_X5_readNewName_20 (by decide) hT (k := 50) (d := 5) (as := [cv_i x315]) (stk := []) rfl rfl rfl rfl rfl rfl ⟨rfl, rfl⟩ (R := fun o => ∃ (x : Int32) (hb : cv_H), o = (some (cv_i x), hb) ∧ cw_T G hb ∧ cw_Fr cw_Ds cw_sh kk_X5_fail.2.2.2.2.2.1 h0 hb ∧ x.toInt = 0 ∧ (ri_at h0 50 4 = 0 ∧ ri_at hb 50 4 = x315.toInt ∧ ri_at hb 50 5 = ri_at h0 51 5 ∨ ¬ ri_at h0 50 4 = 0 ∧ ri_at hb 50 4 = ri_at h0 50 4 ∧ ri_at hb 50 5 = ri_at h0 50 5)) (ct_fail hT x315 (fun x hb b1 b2 b3 b4 => ⟨x, hb, rfl, b1, b2, b3, b4⟩)) (fun o ho => ?_)
      obtain ⟨x316, h317, rfl, Th317, Ch317, zh317, fh317⟩ := ho
      show cw_X _ _ _ _ _ [cv_i x316] h317
      have Fh317 : cw_Fr cw_Ds cw_sh kk_X5_readNewName_1.2.2.2.2.2.1 h0 h317 := cw_Fr_tr Fh0 (cw_Fr_mono (by decide +kernel) Ch317)
      have eh317_51_2 : ri_at h317 51 2 = ri_at h0 51 2 := ri_frf Ch317 (d := 6) rfl rfl (by decide +kernel)
      have eh317_51_3 : ri_at h317 51 3 = ri_at h0 51 3 := ri_frf Ch317 (d := 6) rfl rfl (by decide +kernel)
      have eh317_51_4 : ri_at h317 51 4 = ri_at h0 51 4 := ri_frf Ch317 (d := 6) rfl rfl (by decide +kernel)
      have eh317_51_5 : ri_at h317 51 5 = ri_at h0 51 5 := ri_frf Ch317 (d := 6) rfl rfl (by decide +kernel)
      have eh317_51_6 : ri_at h317 51 6 = ri_at h0 51 6 := ri_frf Ch317 (d := 6) rfl rfl (by decide +kernel)
      exact ex_reti oq_X5_readNewName_23 rfl (hQ x316 h317 Th317 Fh317 (.inr ⟨_, zm_1 (by omega), by omega, by omega, by omega, by decide⟩))
theorem ct_nameW2 {h0 : cv_H} {n : Nat} (ht : ∀ i, t i = ri_at h0 1 i % 256) (hwd : ∀ i, i < 34 → ri_at h0 52 i = tz_wc.getD i 0) (hn9 : n ≤ 900) (hT : cw_T G h0) {M : Int32} {l : List Int} (hM : M.toInt = l.length) (hlm : l.length < 6) (hl : ∀ k, k < l.length → ri_at h0 10 k = l.getD k 0) {S : (Int × Nat) ⊕ Nat} (hS : zCs t n S h0) (hQ : ∀ (x : Int32) h', cw_T G h' → cw_Fr cw_Ds cw_sh kk_X5_readNewName_1.2.2.2.2.2.1 h0 h' → zCr t n h' x (zbd S (zm t n l)) → Q (some (cv_i x), h')) : cw_X X 64 Q 0 (cv_ent 0 [cv_r 50, cv_r 10, cv_i M]) [] h0 := by
  cases S with
  | inl e =>
    obtain ⟨f, a⟩ := e
    exact ct_nameW2F ht hwd hn9 hT hM hlm hl hS.1 hS.2.1 hS.2.2 hQ
  | inr p => exact ct_nameW2P ht hwd hn9 hT hM hlm hl hS.1 hS.2.1 hS.2.2.1 hS.2.2.2 hQ
theorem ct_nameW26F {h0 : cv_H} {n : Nat} (ht : ∀ i, t i = ri_at h0 1 i % 256) (hwd : ∀ i, i < 34 → ri_at h0 52 i = tz_wc.getD i 0) (hn9 : n ≤ 900) (hT : cw_T G h0) {M : Int32} {l : List Int} (hM : M.toInt = l.length) (hlm : l.length < 6) (hl : ∀ k, k < l.length → ri_at h0 34 k = l.getD k 0) {f : Int} {a : Nat} (h4 : ri_at h0 50 4 = f) (h5 : ri_at h0 50 5 = a) (hf : 1 ≤ f) (hQ : ∀ (x : Int32) h', cw_T G h' → cw_Fr cw_Ds cw_sh kk_X5_readNewName_1.2.2.2.2.2.1 h0 h' → zCr t n h' x (.inl (f, a)) → Q (some (cv_i x), h')) : cw_X X 64 Q 0 (cv_ent 0 [cv_r 50, cv_r 34, cv_i M]) [] h0 := by
  have Fh0 : cw_Fr cw_Ds cw_sh kk_X5_readNewName_1.2.2.2.2.2.1 h0 h0 := cw_Fr_refl
  refine ex_al oq_X5_readNewName_0 rfl ?_
  obtain ⟨x101, ax101, rx101, lx101, ux101⟩ := ri_fld (k := 50) (d := 5) (f := 4) hT rfl rfl rfl
  try dsimp only at lx101 ux101
  refine ex_gf oq_X5_readNewName_1 hT (k := 50) (d := 5) rfl rfl ax101 ?_
  refine ex_if0 oq_X5_readNewName_4 (t := 18) rfl rfl (fun (c102 : ¬ x101.toInt = 0) => ?_) (fun (c102 : ¬ (¬ x101.toInt = 0)) => ?_)
  · refine ex_al oq_X5_readNewName_18 rfl ?_
    refine ex_ic oq_X5_readNewName_19 (m := 1) (by decide) (fun x103 hx103 => ?_)
    refine ex_cv oq_X5_readNewName_20 (by decide) hT (k := 50) (d := 5) (as := [cv_i x103]) (stk := []) rfl rfl rfl rfl rfl rfl ⟨rfl, rfl⟩ (R := fun o => ∃ (x : Int32) (hb : cv_H), o = (some (cv_i x), hb) ∧ cw_T G hb ∧ cw_Fr cw_Ds cw_sh kk_X5_fail.2.2.2.2.2.1 h0 hb ∧ x.toInt = 0 ∧ (ri_at h0 50 4 = 0 ∧ ri_at hb 50 4 = x103.toInt ∧ ri_at hb 50 5 = ri_at h0 51 5 ∨ ¬ ri_at h0 50 4 = 0 ∧ ri_at hb 50 4 = ri_at h0 50 4 ∧ ri_at hb 50 5 = ri_at h0 50 5)) (ct_fail hT x103 (fun x hb b1 b2 b3 b4 => ⟨x, hb, rfl, b1, b2, b3, b4⟩)) (fun o ho => ?_)
    obtain ⟨x104, h105, rfl, Th105, Ch105, zh105, fh105⟩ := ho
    show cw_X _ _ _ _ _ [cv_i x104] h105
    have Fh105 : cw_Fr cw_Ds cw_sh kk_X5_readNewName_1.2.2.2.2.2.1 h0 h105 := cw_Fr_tr Fh0 (cw_Fr_mono (by decide +kernel) Ch105)
    have eh105_51_2 : ri_at h105 51 2 = ri_at h0 51 2 := ri_frf Ch105 (d := 6) rfl rfl (by decide +kernel)
    have eh105_51_3 : ri_at h105 51 3 = ri_at h0 51 3 := ri_frf Ch105 (d := 6) rfl rfl (by decide +kernel)
    have eh105_51_4 : ri_at h105 51 4 = ri_at h0 51 4 := ri_frf Ch105 (d := 6) rfl rfl (by decide +kernel)
    have eh105_51_5 : ri_at h105 51 5 = ri_at h0 51 5 := ri_frf Ch105 (d := 6) rfl rfl (by decide +kernel)
    have eh105_51_6 : ri_at h105 51 6 = ri_at h0 51 6 := ri_frf Ch105 (d := 6) rfl rfl (by decide +kernel)
    exact ex_reti oq_X5_readNewName_23 rfl (hQ x104 h105 Th105 Fh105 (.inr ⟨_, rfl, by omega, by omega, by omega, by omega⟩))
  · exfalso; omega
theorem ct_nameW26P {h0 : cv_H} {n : Nat} (ht : ∀ i, t i = ri_at h0 1 i % 256) (hwd : ∀ i, i < 34 → ri_at h0 52 i = tz_wc.getD i 0) (hn9 : n ≤ 900) (hT : cw_T G h0) {M : Int32} {l : List Int} (hM : M.toInt = l.length) (hlm : l.length < 6) (hl : ∀ k, k < l.length → ri_at h0 34 k = l.getD k 0) {p : Nat} (hpn : p ≤ n) (hz : zC t n p h0) (h4 : ri_at h0 50 4 = 0) (h5 : ri_at h0 50 5 = -1) (hQ : ∀ (x : Int32) h', cw_T G h' → cw_Fr cw_Ds cw_sh kk_X5_readNewName_1.2.2.2.2.2.1 h0 h' → zCr t n h' x (zm t n l p) → Q (some (cv_i x), h')) : cw_X X 64 Q 0 (cv_ent 0 [cv_r 50, cv_r 34, cv_i M]) [] h0 := by
  have Fh0 : cw_Fr cw_Ds cw_sh kk_X5_readNewName_1.2.2.2.2.2.1 h0 h0 := cw_Fr_refl
  obtain ⟨z1, z2, z3, z4⟩ := id hz
  have zl := zx_le (t := t) hpn
  have rn := rl_nam z4
  have hA : ∀ h, cw_Fr cw_Ds cw_sh kk_X5_readNewName_1.2.2.2.2.2.1 h0 h → ∀ i, ri_at h 1 i = ri_at h0 1 i := fun h F i => ri_frr F (k := 1) (d := 13) rfl rfl (by decide +kernel)
  have hB : ∀ h, cw_Fr cw_Ds cw_sh kk_X5_readNewName_1.2.2.2.2.2.1 h0 h → ∀ i, ri_at h 52 i = ri_at h0 52 i := fun h F i => ri_frr F (k := 52) (d := 43) rfl rfl (by decide +kernel)
  refine ex_al oq_X5_readNewName_0 rfl ?_
  obtain ⟨x301, ax301, rx301, lx301, ux301⟩ := ri_fld (k := 50) (d := 5) (f := 4) hT rfl rfl rfl
  try dsimp only at lx301 ux301
  refine ex_gf oq_X5_readNewName_1 hT (k := 50) (d := 5) rfl rfl ax301 ?_
  refine ex_if0 oq_X5_readNewName_4 (t := 18) rfl rfl (fun (c302 : ¬ x301.toInt = 0) => ?_) (fun (c302 : ¬ (¬ x301.toInt = 0)) => ?_)
  · exfalso; omega
  · refine ex_al oq_X5_readNewName_7 rfl ?_
    refine ex_gf oq_X5_readNewName_8 hT (k := 50) (d := 5) rfl rfl (ri_ref (k := 50) (k' := 51) (d := 5) (f := 0) hT rfl rfl rfl (by decide) (ri_uniq (by decide +kernel))) ?_
    obtain ⟨x303, ax303, rx303, lx303, ux303⟩ := ri_fld (k := 51) (d := 6) (f := 4) hT rfl rfl rfl
    try dsimp only at lx303 ux303
    refine ex_gf oq_X5_readNewName_11 hT (k := 51) (d := 6) rfl rfl ax303 ?_
    refine ex_ic oq_X5_readNewName_14 (m := 3) (by decide) (fun x304 hx304 => ?_)
    refine ex_if oq_X5_readNewName_15 (t := 24) rfl rfl (fun (c305 : x303.toInt = x304.toInt) => ?_) (fun (c305 : ¬ (x303.toInt = x304.toInt)) => ?_)
    · refine ex_al oq_X5_readNewName_24 rfl ?_
      refine ex_gf oq_X5_readNewName_25 hT (k := 50) (d := 5) rfl rfl (ri_ref (k := 50) (k' := 51) (d := 5) (f := 0) hT rfl rfl rfl (by decide) (ri_uniq (by decide +kernel))) ?_
      obtain ⟨x306, ax306, rx306, lx306, ux306⟩ := ri_fld (k := 51) (d := 6) (f := 6) hT rfl rfl rfl
      try dsimp only at lx306 ux306
      refine ex_gf oq_X5_readNewName_28 hT (k := 51) (d := 6) rfl rfl ax306 ?_
      refine ex_isA oq_X5_readNewName_31 (fun L307 gL307_3 kL307 => ?_)
      have gL307_0 : cv_get L307 0 = some (cv_r 50) := kL307 0 _ (by decide) (fun q => absurd q (by decide)) rfl
      have gL307_1 : cv_get L307 1 = some (cv_r 34) := kL307 1 _ (by decide) (fun q => absurd q (by decide)) rfl
      have gL307_2 : cv_get L307 2 = some (cv_i M) := kL307 2 _ (by decide) (fun _ => rfl) rfl
      refine ex_il oq_X5_readNewName_32 gL307_3 ?_
      refine ex_al oq_X5_readNewName_33 gL307_1 ?_
      refine ex_il oq_X5_readNewName_34 gL307_2 ?_
      refine ex_cs oq_X5_readNewName_35 (by decide) (as := [cv_i x306, cv_r 34, cv_i M]) (stk := []) rfl rfl rfl ⟨rfl, rfl⟩ (R := fun o => ∃ x : Int32, o = (some (cv_i x), h0) ∧ x.toInt = tz_find l x306.toInt 0) (ct_placeW26 (l := l) hT (by omega) (by omega) hl (fun x q => ⟨x, rfl, q⟩)) (fun o ho => ?_)
      obtain ⟨x308, rfl, qx308⟩ := ho
      show cw_X _ _ _ _ _ [cv_i x308] h0
      rw [show x306.toInt = zw t n p from by omega] at qx308
      have qb := zfd_b (x := zw t n p) l 0
      refine ex_ic oq_X5_readNewName_38 (m := (-1)) (by decide) (fun x309 hx309 => ?_)
      refine ex_if oq_X5_readNewName_39 (t := 48) rfl rfl (fun (c310 : x308.toInt = x309.toInt) => ?_) (fun (c310 : ¬ (x308.toInt = x309.toInt)) => ?_)
      · refine ex_al oq_X5_readNewName_48 gL307_0 ?_
        refine ex_gf oq_X5_readNewName_49 hT (k := 50) (d := 5) rfl rfl (ri_ref (k := 50) (k' := 51) (d := 5) (f := 0) hT rfl rfl rfl (by decide) (ri_uniq (by decide +kernel))) ?_
        refine ex_cv oq_X5_readNewName_52 (by decide) hT (k := 51) (d := 6) (as := []) (stk := []) rfl rfl rfl rfl rfl rfl ⟨rfl, rfl⟩ (R := fun o => ∃ hb : cv_H, o = (none, hb) ∧ cw_T G hb ∧ cw_Fr cw_Ds cw_sh kk_X6_step.2.2.2.2.2.1 h0 hb ∧ zC t n (zx t n p) hb) (ct_step (t := t) (n := n) (p := zx t n p) (fun i => by rw [ht, ← hA _ Fh0]) (fun i hi => by rw [hB _ Fh0]; exact hwd i hi) hT hn9 (by omega) (by omega) (fun hb b1 b2 b3 b4 b5 b6 => ⟨hb, rfl, b1, b2, b3, b4, b5, b6⟩)) (fun o ho => ?_)
        obtain ⟨h311, rfl, Th311, Ch311, Zh311⟩ := ho
        show cw_X _ _ _ _ _ [] h311
        have Fh311 : cw_Fr cw_Ds cw_sh kk_X5_readNewName_1.2.2.2.2.2.1 h0 h311 := cw_Fr_tr Fh0 (cw_Fr_mono (by decide +kernel) Ch311)
        have eh311_50_4 : ri_at h311 50 4 = ri_at h0 50 4 := ri_frf Ch311 (d := 5) rfl rfl (by decide +kernel)
        have eh311_50_5 : ri_at h311 50 5 = ri_at h0 50 5 := ri_frf Ch311 (d := 5) rfl rfl (by decide +kernel)
        obtain ⟨zah311, zbh311, zch311, zdh311⟩ := id Zh311
        have zlh311 := zx_le (t := t) (n := n) (p := (zx t n p)) (by omega)
        refine ex_il oq_X5_readNewName_55 gL307_3 ?_
        exact ex_reti oq_X5_readNewName_56 rfl (hQ x306 h311 Th311 Fh311 (.inl ⟨_, _, zm_ok (by omega) (by omega), by omega, zx_le hpn, Zh311, by omega, by omega⟩))
      · refine ex_al oq_X5_readNewName_42 gL307_0 ?_
        refine ex_ic oq_X5_readNewName_43 (m := 3) (by decide) (fun x312 hx312 => ?_)
        refine ex_cv oq_X5_readNewName_44 (by decide) hT (k := 50) (d := 5) (as := [cv_i x312]) (stk := []) rfl rfl rfl rfl rfl rfl ⟨rfl, rfl⟩ (R := fun o => ∃ (x : Int32) (hb : cv_H), o = (some (cv_i x), hb) ∧ cw_T G hb ∧ cw_Fr cw_Ds cw_sh kk_X5_fail.2.2.2.2.2.1 h0 hb ∧ x.toInt = 0 ∧ (ri_at h0 50 4 = 0 ∧ ri_at hb 50 4 = x312.toInt ∧ ri_at hb 50 5 = ri_at h0 51 5 ∨ ¬ ri_at h0 50 4 = 0 ∧ ri_at hb 50 4 = ri_at h0 50 4 ∧ ri_at hb 50 5 = ri_at h0 50 5)) (ct_fail hT x312 (fun x hb b1 b2 b3 b4 => ⟨x, hb, rfl, b1, b2, b3, b4⟩)) (fun o ho => ?_)
        obtain ⟨x313, h314, rfl, Th314, Ch314, zh314, fh314⟩ := ho
        show cw_X _ _ _ _ _ [cv_i x313] h314
        have Fh314 : cw_Fr cw_Ds cw_sh kk_X5_readNewName_1.2.2.2.2.2.1 h0 h314 := cw_Fr_tr Fh0 (cw_Fr_mono (by decide +kernel) Ch314)
        have eh314_51_2 : ri_at h314 51 2 = ri_at h0 51 2 := ri_frf Ch314 (d := 6) rfl rfl (by decide +kernel)
        have eh314_51_3 : ri_at h314 51 3 = ri_at h0 51 3 := ri_frf Ch314 (d := 6) rfl rfl (by decide +kernel)
        have eh314_51_4 : ri_at h314 51 4 = ri_at h0 51 4 := ri_frf Ch314 (d := 6) rfl rfl (by decide +kernel)
        have eh314_51_5 : ri_at h314 51 5 = ri_at h0 51 5 := ri_frf Ch314 (d := 6) rfl rfl (by decide +kernel)
        have eh314_51_6 : ri_at h314 51 6 = ri_at h0 51 6 := ri_frf Ch314 (d := 6) rfl rfl (by decide +kernel)
        exact ex_reti oq_X5_readNewName_47 rfl (hQ x313 h314 Th314 Fh314 (.inr ⟨_, zm_3 (by omega) (by omega), by omega, by omega, by omega, by decide⟩))
    · refine ex_al oq_X5_readNewName_18 rfl ?_
      refine ex_ic oq_X5_readNewName_19 (m := 1) (by decide) (fun x315 hx315 => ?_)
      refine ex_cv oq_X5_readNewName_20 (by decide) hT (k := 50) (d := 5) (as := [cv_i x315]) (stk := []) rfl rfl rfl rfl rfl rfl ⟨rfl, rfl⟩ (R := fun o => ∃ (x : Int32) (hb : cv_H), o = (some (cv_i x), hb) ∧ cw_T G hb ∧ cw_Fr cw_Ds cw_sh kk_X5_fail.2.2.2.2.2.1 h0 hb ∧ x.toInt = 0 ∧ (ri_at h0 50 4 = 0 ∧ ri_at hb 50 4 = x315.toInt ∧ ri_at hb 50 5 = ri_at h0 51 5 ∨ ¬ ri_at h0 50 4 = 0 ∧ ri_at hb 50 4 = ri_at h0 50 4 ∧ ri_at hb 50 5 = ri_at h0 50 5)) (ct_fail hT x315 (fun x hb b1 b2 b3 b4 => ⟨x, hb, rfl, b1, b2, b3, b4⟩)) (fun o ho => ?_)
      obtain ⟨x316, h317, rfl, Th317, Ch317, zh317, fh317⟩ := ho
      show cw_X _ _ _ _ _ [cv_i x316] h317
      have Fh317 : cw_Fr cw_Ds cw_sh kk_X5_readNewName_1.2.2.2.2.2.1 h0 h317 := cw_Fr_tr Fh0 (cw_Fr_mono (by decide +kernel) Ch317)
      have eh317_51_2 : ri_at h317 51 2 = ri_at h0 51 2 := ri_frf Ch317 (d := 6) rfl rfl (by decide +kernel)
      have eh317_51_3 : ri_at h317 51 3 = ri_at h0 51 3 := ri_frf Ch317 (d := 6) rfl rfl (by decide +kernel)
      have eh317_51_4 : ri_at h317 51 4 = ri_at h0 51 4 := ri_frf Ch317 (d := 6) rfl rfl (by decide +kernel)
      have eh317_51_5 : ri_at h317 51 5 = ri_at h0 51 5 := ri_frf Ch317 (d := 6) rfl rfl (by decide +kernel)
      have eh317_51_6 : ri_at h317 51 6 = ri_at h0 51 6 := ri_frf Ch317 (d := 6) rfl rfl (by decide +kernel)
      exact ex_reti oq_X5_readNewName_23 rfl (hQ x316 h317 Th317 Fh317 (.inr ⟨_, zm_1 (by omega), by omega, by omega, by omega, by decide⟩))
theorem ct_nameW26 {h0 : cv_H} {n : Nat} (ht : ∀ i, t i = ri_at h0 1 i % 256) (hwd : ∀ i, i < 34 → ri_at h0 52 i = tz_wc.getD i 0) (hn9 : n ≤ 900) (hT : cw_T G h0) {M : Int32} {l : List Int} (hM : M.toInt = l.length) (hlm : l.length < 6) (hl : ∀ k, k < l.length → ri_at h0 34 k = l.getD k 0) {S : (Int × Nat) ⊕ Nat} (hS : zCs t n S h0) (hQ : ∀ (x : Int32) h', cw_T G h' → cw_Fr cw_Ds cw_sh kk_X5_readNewName_1.2.2.2.2.2.1 h0 h' → zCr t n h' x (zbd S (zm t n l)) → Q (some (cv_i x), h')) : cw_X X 64 Q 0 (cv_ent 0 [cv_r 50, cv_r 34, cv_i M]) [] h0 := by
  cases S with
  | inl e =>
    obtain ⟨f, a⟩ := e
    exact ct_nameW26F ht hwd hn9 hT hM hlm hl hS.1 hS.2.1 hS.2.2 hQ
  | inr p => exact ct_nameW26P ht hwd hn9 hT hM hlm hl hS.1 hS.2.1 hS.2.2.1 hS.2.2.2 hQ
theorem ct_nameC2F {h0 : cv_H} {n : Nat} (ht : ∀ i, t i = ri_at h0 1 i % 256) (hwd : ∀ i, i < 34 → ri_at h0 52 i = tz_wc.getD i 0) (hn9 : n ≤ 900) (hT : cw_T G h0) {M : Int32} {l : List Int} (hM : M.toInt = l.length) (hlm : l.length < 6) (hl : ∀ k, k < l.length → ri_at h0 14 k = l.getD k 0) {f : Int} {a : Nat} (h4 : ri_at h0 50 4 = f) (h5 : ri_at h0 50 5 = a) (hf : 1 ≤ f) (hQ : ∀ (x : Int32) h', cw_T G h' → cw_Fr cw_Ds cw_sh kk_X5_readNewName_2.2.2.2.2.2.1 h0 h' → zCr t n h' x (.inl (f, a)) → Q (some (cv_i x), h')) : cw_X X 64 Q 0 (cv_ent 0 [cv_r 50, cv_r 14, cv_i M]) [] h0 := by
  have Fh0 : cw_Fr cw_Ds cw_sh kk_X5_readNewName_2.2.2.2.2.2.1 h0 h0 := cw_Fr_refl
  refine ex_al oq_X5_readNewName_0 rfl ?_
  obtain ⟨x101, ax101, rx101, lx101, ux101⟩ := ri_fld (k := 50) (d := 5) (f := 4) hT rfl rfl rfl
  try dsimp only at lx101 ux101
  refine ex_gf oq_X5_readNewName_1 hT (k := 50) (d := 5) rfl rfl ax101 ?_
  refine ex_if0 oq_X5_readNewName_4 (t := 18) rfl rfl (fun (c102 : ¬ x101.toInt = 0) => ?_) (fun (c102 : ¬ (¬ x101.toInt = 0)) => ?_)
  · refine ex_al oq_X5_readNewName_18 rfl ?_
    refine ex_ic oq_X5_readNewName_19 (m := 1) (by decide) (fun x103 hx103 => ?_)
    refine ex_cv oq_X5_readNewName_20 (by decide) hT (k := 50) (d := 5) (as := [cv_i x103]) (stk := []) rfl rfl rfl rfl rfl rfl ⟨rfl, rfl⟩ (R := fun o => ∃ (x : Int32) (hb : cv_H), o = (some (cv_i x), hb) ∧ cw_T G hb ∧ cw_Fr cw_Ds cw_sh kk_X5_fail.2.2.2.2.2.1 h0 hb ∧ x.toInt = 0 ∧ (ri_at h0 50 4 = 0 ∧ ri_at hb 50 4 = x103.toInt ∧ ri_at hb 50 5 = ri_at h0 51 5 ∨ ¬ ri_at h0 50 4 = 0 ∧ ri_at hb 50 4 = ri_at h0 50 4 ∧ ri_at hb 50 5 = ri_at h0 50 5)) (ct_fail hT x103 (fun x hb b1 b2 b3 b4 => ⟨x, hb, rfl, b1, b2, b3, b4⟩)) (fun o ho => ?_)
    obtain ⟨x104, h105, rfl, Th105, Ch105, zh105, fh105⟩ := ho
    show cw_X _ _ _ _ _ [cv_i x104] h105
    have Fh105 : cw_Fr cw_Ds cw_sh kk_X5_readNewName_2.2.2.2.2.2.1 h0 h105 := cw_Fr_tr Fh0 (cw_Fr_mono (by decide +kernel) Ch105)
    have eh105_51_2 : ri_at h105 51 2 = ri_at h0 51 2 := ri_frf Ch105 (d := 6) rfl rfl (by decide +kernel)
    have eh105_51_3 : ri_at h105 51 3 = ri_at h0 51 3 := ri_frf Ch105 (d := 6) rfl rfl (by decide +kernel)
    have eh105_51_4 : ri_at h105 51 4 = ri_at h0 51 4 := ri_frf Ch105 (d := 6) rfl rfl (by decide +kernel)
    have eh105_51_5 : ri_at h105 51 5 = ri_at h0 51 5 := ri_frf Ch105 (d := 6) rfl rfl (by decide +kernel)
    have eh105_51_6 : ri_at h105 51 6 = ri_at h0 51 6 := ri_frf Ch105 (d := 6) rfl rfl (by decide +kernel)
    exact ex_reti oq_X5_readNewName_23 rfl (hQ x104 h105 Th105 Fh105 (.inr ⟨_, rfl, by omega, by omega, by omega, by omega⟩))
  · exfalso; omega
theorem ct_nameC2P {h0 : cv_H} {n : Nat} (ht : ∀ i, t i = ri_at h0 1 i % 256) (hwd : ∀ i, i < 34 → ri_at h0 52 i = tz_wc.getD i 0) (hn9 : n ≤ 900) (hT : cw_T G h0) {M : Int32} {l : List Int} (hM : M.toInt = l.length) (hlm : l.length < 6) (hl : ∀ k, k < l.length → ri_at h0 14 k = l.getD k 0) {p : Nat} (hpn : p ≤ n) (hz : zC t n p h0) (h4 : ri_at h0 50 4 = 0) (h5 : ri_at h0 50 5 = -1) (hQ : ∀ (x : Int32) h', cw_T G h' → cw_Fr cw_Ds cw_sh kk_X5_readNewName_2.2.2.2.2.2.1 h0 h' → zCr t n h' x (zm t n l p) → Q (some (cv_i x), h')) : cw_X X 64 Q 0 (cv_ent 0 [cv_r 50, cv_r 14, cv_i M]) [] h0 := by
  have Fh0 : cw_Fr cw_Ds cw_sh kk_X5_readNewName_2.2.2.2.2.2.1 h0 h0 := cw_Fr_refl
  obtain ⟨z1, z2, z3, z4⟩ := id hz
  have zl := zx_le (t := t) hpn
  have rn := rl_nam z4
  have hA : ∀ h, cw_Fr cw_Ds cw_sh kk_X5_readNewName_2.2.2.2.2.2.1 h0 h → ∀ i, ri_at h 1 i = ri_at h0 1 i := fun h F i => ri_frr F (k := 1) (d := 13) rfl rfl (by decide +kernel)
  have hB : ∀ h, cw_Fr cw_Ds cw_sh kk_X5_readNewName_2.2.2.2.2.2.1 h0 h → ∀ i, ri_at h 52 i = ri_at h0 52 i := fun h F i => ri_frr F (k := 52) (d := 43) rfl rfl (by decide +kernel)
  refine ex_al oq_X5_readNewName_0 rfl ?_
  obtain ⟨x301, ax301, rx301, lx301, ux301⟩ := ri_fld (k := 50) (d := 5) (f := 4) hT rfl rfl rfl
  try dsimp only at lx301 ux301
  refine ex_gf oq_X5_readNewName_1 hT (k := 50) (d := 5) rfl rfl ax301 ?_
  refine ex_if0 oq_X5_readNewName_4 (t := 18) rfl rfl (fun (c302 : ¬ x301.toInt = 0) => ?_) (fun (c302 : ¬ (¬ x301.toInt = 0)) => ?_)
  · exfalso; omega
  · refine ex_al oq_X5_readNewName_7 rfl ?_
    refine ex_gf oq_X5_readNewName_8 hT (k := 50) (d := 5) rfl rfl (ri_ref (k := 50) (k' := 51) (d := 5) (f := 0) hT rfl rfl rfl (by decide) (ri_uniq (by decide +kernel))) ?_
    obtain ⟨x303, ax303, rx303, lx303, ux303⟩ := ri_fld (k := 51) (d := 6) (f := 4) hT rfl rfl rfl
    try dsimp only at lx303 ux303
    refine ex_gf oq_X5_readNewName_11 hT (k := 51) (d := 6) rfl rfl ax303 ?_
    refine ex_ic oq_X5_readNewName_14 (m := 3) (by decide) (fun x304 hx304 => ?_)
    refine ex_if oq_X5_readNewName_15 (t := 24) rfl rfl (fun (c305 : x303.toInt = x304.toInt) => ?_) (fun (c305 : ¬ (x303.toInt = x304.toInt)) => ?_)
    · refine ex_al oq_X5_readNewName_24 rfl ?_
      refine ex_gf oq_X5_readNewName_25 hT (k := 50) (d := 5) rfl rfl (ri_ref (k := 50) (k' := 51) (d := 5) (f := 0) hT rfl rfl rfl (by decide) (ri_uniq (by decide +kernel))) ?_
      obtain ⟨x306, ax306, rx306, lx306, ux306⟩ := ri_fld (k := 51) (d := 6) (f := 6) hT rfl rfl rfl
      try dsimp only at lx306 ux306
      refine ex_gf oq_X5_readNewName_28 hT (k := 51) (d := 6) rfl rfl ax306 ?_
      refine ex_isA oq_X5_readNewName_31 (fun L307 gL307_3 kL307 => ?_)
      have gL307_0 : cv_get L307 0 = some (cv_r 50) := kL307 0 _ (by decide) (fun q => absurd q (by decide)) rfl
      have gL307_1 : cv_get L307 1 = some (cv_r 14) := kL307 1 _ (by decide) (fun q => absurd q (by decide)) rfl
      have gL307_2 : cv_get L307 2 = some (cv_i M) := kL307 2 _ (by decide) (fun _ => rfl) rfl
      refine ex_il oq_X5_readNewName_32 gL307_3 ?_
      refine ex_al oq_X5_readNewName_33 gL307_1 ?_
      refine ex_il oq_X5_readNewName_34 gL307_2 ?_
      refine ex_cs oq_X5_readNewName_35 (by decide) (as := [cv_i x306, cv_r 14, cv_i M]) (stk := []) rfl rfl rfl ⟨rfl, rfl⟩ (R := fun o => ∃ x : Int32, o = (some (cv_i x), h0) ∧ x.toInt = tz_find l x306.toInt 0) (ct_placeC2 (l := l) hT (by omega) (by omega) hl (fun x q => ⟨x, rfl, q⟩)) (fun o ho => ?_)
      obtain ⟨x308, rfl, qx308⟩ := ho
      show cw_X _ _ _ _ _ [cv_i x308] h0
      rw [show x306.toInt = zw t n p from by omega] at qx308
      have qb := zfd_b (x := zw t n p) l 0
      refine ex_ic oq_X5_readNewName_38 (m := (-1)) (by decide) (fun x309 hx309 => ?_)
      refine ex_if oq_X5_readNewName_39 (t := 48) rfl rfl (fun (c310 : x308.toInt = x309.toInt) => ?_) (fun (c310 : ¬ (x308.toInt = x309.toInt)) => ?_)
      · refine ex_al oq_X5_readNewName_48 gL307_0 ?_
        refine ex_gf oq_X5_readNewName_49 hT (k := 50) (d := 5) rfl rfl (ri_ref (k := 50) (k' := 51) (d := 5) (f := 0) hT rfl rfl rfl (by decide) (ri_uniq (by decide +kernel))) ?_
        refine ex_cv oq_X5_readNewName_52 (by decide) hT (k := 51) (d := 6) (as := []) (stk := []) rfl rfl rfl rfl rfl rfl ⟨rfl, rfl⟩ (R := fun o => ∃ hb : cv_H, o = (none, hb) ∧ cw_T G hb ∧ cw_Fr cw_Ds cw_sh kk_X6_step.2.2.2.2.2.1 h0 hb ∧ zC t n (zx t n p) hb) (ct_step (t := t) (n := n) (p := zx t n p) (fun i => by rw [ht, ← hA _ Fh0]) (fun i hi => by rw [hB _ Fh0]; exact hwd i hi) hT hn9 (by omega) (by omega) (fun hb b1 b2 b3 b4 b5 b6 => ⟨hb, rfl, b1, b2, b3, b4, b5, b6⟩)) (fun o ho => ?_)
        obtain ⟨h311, rfl, Th311, Ch311, Zh311⟩ := ho
        show cw_X _ _ _ _ _ [] h311
        have Fh311 : cw_Fr cw_Ds cw_sh kk_X5_readNewName_2.2.2.2.2.2.1 h0 h311 := cw_Fr_tr Fh0 (cw_Fr_mono (by decide +kernel) Ch311)
        have eh311_50_4 : ri_at h311 50 4 = ri_at h0 50 4 := ri_frf Ch311 (d := 5) rfl rfl (by decide +kernel)
        have eh311_50_5 : ri_at h311 50 5 = ri_at h0 50 5 := ri_frf Ch311 (d := 5) rfl rfl (by decide +kernel)
        obtain ⟨zah311, zbh311, zch311, zdh311⟩ := id Zh311
        have zlh311 := zx_le (t := t) (n := n) (p := (zx t n p)) (by omega)
        refine ex_il oq_X5_readNewName_55 gL307_3 ?_
        exact ex_reti oq_X5_readNewName_56 rfl (hQ x306 h311 Th311 Fh311 (.inl ⟨_, _, zm_ok (by omega) (by omega), by omega, zx_le hpn, Zh311, by omega, by omega⟩))
      · refine ex_al oq_X5_readNewName_42 gL307_0 ?_
        refine ex_ic oq_X5_readNewName_43 (m := 3) (by decide) (fun x312 hx312 => ?_)
        refine ex_cv oq_X5_readNewName_44 (by decide) hT (k := 50) (d := 5) (as := [cv_i x312]) (stk := []) rfl rfl rfl rfl rfl rfl ⟨rfl, rfl⟩ (R := fun o => ∃ (x : Int32) (hb : cv_H), o = (some (cv_i x), hb) ∧ cw_T G hb ∧ cw_Fr cw_Ds cw_sh kk_X5_fail.2.2.2.2.2.1 h0 hb ∧ x.toInt = 0 ∧ (ri_at h0 50 4 = 0 ∧ ri_at hb 50 4 = x312.toInt ∧ ri_at hb 50 5 = ri_at h0 51 5 ∨ ¬ ri_at h0 50 4 = 0 ∧ ri_at hb 50 4 = ri_at h0 50 4 ∧ ri_at hb 50 5 = ri_at h0 50 5)) (ct_fail hT x312 (fun x hb b1 b2 b3 b4 => ⟨x, hb, rfl, b1, b2, b3, b4⟩)) (fun o ho => ?_)
        obtain ⟨x313, h314, rfl, Th314, Ch314, zh314, fh314⟩ := ho
        show cw_X _ _ _ _ _ [cv_i x313] h314
        have Fh314 : cw_Fr cw_Ds cw_sh kk_X5_readNewName_2.2.2.2.2.2.1 h0 h314 := cw_Fr_tr Fh0 (cw_Fr_mono (by decide +kernel) Ch314)
        have eh314_51_2 : ri_at h314 51 2 = ri_at h0 51 2 := ri_frf Ch314 (d := 6) rfl rfl (by decide +kernel)
        have eh314_51_3 : ri_at h314 51 3 = ri_at h0 51 3 := ri_frf Ch314 (d := 6) rfl rfl (by decide +kernel)
        have eh314_51_4 : ri_at h314 51 4 = ri_at h0 51 4 := ri_frf Ch314 (d := 6) rfl rfl (by decide +kernel)
        have eh314_51_5 : ri_at h314 51 5 = ri_at h0 51 5 := ri_frf Ch314 (d := 6) rfl rfl (by decide +kernel)
        have eh314_51_6 : ri_at h314 51 6 = ri_at h0 51 6 := ri_frf Ch314 (d := 6) rfl rfl (by decide +kernel)
        exact ex_reti oq_X5_readNewName_47 rfl (hQ x313 h314 Th314 Fh314 (.inr ⟨_, zm_3 (by omega) (by omega), by omega, by omega, by omega, by decide⟩))
    · refine ex_al oq_X5_readNewName_18 rfl ?_
      refine ex_ic oq_X5_readNewName_19 (m := 1) (by decide) (fun x315 hx315 => ?_)
      refine ex_cv oq_X5_readNewName_20 (by decide) hT (k := 50) (d := 5) (as := [cv_i x315]) (stk := []) rfl rfl rfl rfl rfl rfl ⟨rfl, rfl⟩ (R := fun o => ∃ (x : Int32) (hb : cv_H), o = (some (cv_i x), hb) ∧ cw_T G hb ∧ cw_Fr cw_Ds cw_sh kk_X5_fail.2.2.2.2.2.1 h0 hb ∧ x.toInt = 0 ∧ (ri_at h0 50 4 = 0 ∧ ri_at hb 50 4 = x315.toInt ∧ ri_at hb 50 5 = ri_at h0 51 5 ∨ ¬ ri_at h0 50 4 = 0 ∧ ri_at hb 50 4 = ri_at h0 50 4 ∧ ri_at hb 50 5 = ri_at h0 50 5)) (ct_fail hT x315 (fun x hb b1 b2 b3 b4 => ⟨x, hb, rfl, b1, b2, b3, b4⟩)) (fun o ho => ?_)
      obtain ⟨x316, h317, rfl, Th317, Ch317, zh317, fh317⟩ := ho
      show cw_X _ _ _ _ _ [cv_i x316] h317
      have Fh317 : cw_Fr cw_Ds cw_sh kk_X5_readNewName_2.2.2.2.2.2.1 h0 h317 := cw_Fr_tr Fh0 (cw_Fr_mono (by decide +kernel) Ch317)
      have eh317_51_2 : ri_at h317 51 2 = ri_at h0 51 2 := ri_frf Ch317 (d := 6) rfl rfl (by decide +kernel)
      have eh317_51_3 : ri_at h317 51 3 = ri_at h0 51 3 := ri_frf Ch317 (d := 6) rfl rfl (by decide +kernel)
      have eh317_51_4 : ri_at h317 51 4 = ri_at h0 51 4 := ri_frf Ch317 (d := 6) rfl rfl (by decide +kernel)
      have eh317_51_5 : ri_at h317 51 5 = ri_at h0 51 5 := ri_frf Ch317 (d := 6) rfl rfl (by decide +kernel)
      have eh317_51_6 : ri_at h317 51 6 = ri_at h0 51 6 := ri_frf Ch317 (d := 6) rfl rfl (by decide +kernel)
      exact ex_reti oq_X5_readNewName_23 rfl (hQ x316 h317 Th317 Fh317 (.inr ⟨_, zm_1 (by omega), by omega, by omega, by omega, by decide⟩))
theorem ct_nameC2 {h0 : cv_H} {n : Nat} (ht : ∀ i, t i = ri_at h0 1 i % 256) (hwd : ∀ i, i < 34 → ri_at h0 52 i = tz_wc.getD i 0) (hn9 : n ≤ 900) (hT : cw_T G h0) {M : Int32} {l : List Int} (hM : M.toInt = l.length) (hlm : l.length < 6) (hl : ∀ k, k < l.length → ri_at h0 14 k = l.getD k 0) {S : (Int × Nat) ⊕ Nat} (hS : zCs t n S h0) (hQ : ∀ (x : Int32) h', cw_T G h' → cw_Fr cw_Ds cw_sh kk_X5_readNewName_2.2.2.2.2.2.1 h0 h' → zCr t n h' x (zbd S (zm t n l)) → Q (some (cv_i x), h')) : cw_X X 64 Q 0 (cv_ent 0 [cv_r 50, cv_r 14, cv_i M]) [] h0 := by
  cases S with
  | inl e =>
    obtain ⟨f, a⟩ := e
    exact ct_nameC2F ht hwd hn9 hT hM hlm hl hS.1 hS.2.1 hS.2.2 hQ
  | inr p => exact ct_nameC2P ht hwd hn9 hT hM hlm hl hS.1 hS.2.1 hS.2.2.1 hS.2.2.2 hQ
theorem ct_nameC26F {h0 : cv_H} {n : Nat} (ht : ∀ i, t i = ri_at h0 1 i % 256) (hwd : ∀ i, i < 34 → ri_at h0 52 i = tz_wc.getD i 0) (hn9 : n ≤ 900) (hT : cw_T G h0) {M : Int32} {l : List Int} (hM : M.toInt = l.length) (hlm : l.length < 6) (hl : ∀ k, k < l.length → ri_at h0 38 k = l.getD k 0) {f : Int} {a : Nat} (h4 : ri_at h0 50 4 = f) (h5 : ri_at h0 50 5 = a) (hf : 1 ≤ f) (hQ : ∀ (x : Int32) h', cw_T G h' → cw_Fr cw_Ds cw_sh kk_X5_readNewName_2.2.2.2.2.2.1 h0 h' → zCr t n h' x (.inl (f, a)) → Q (some (cv_i x), h')) : cw_X X 64 Q 0 (cv_ent 0 [cv_r 50, cv_r 38, cv_i M]) [] h0 := by
  have Fh0 : cw_Fr cw_Ds cw_sh kk_X5_readNewName_2.2.2.2.2.2.1 h0 h0 := cw_Fr_refl
  refine ex_al oq_X5_readNewName_0 rfl ?_
  obtain ⟨x101, ax101, rx101, lx101, ux101⟩ := ri_fld (k := 50) (d := 5) (f := 4) hT rfl rfl rfl
  try dsimp only at lx101 ux101
  refine ex_gf oq_X5_readNewName_1 hT (k := 50) (d := 5) rfl rfl ax101 ?_
  refine ex_if0 oq_X5_readNewName_4 (t := 18) rfl rfl (fun (c102 : ¬ x101.toInt = 0) => ?_) (fun (c102 : ¬ (¬ x101.toInt = 0)) => ?_)
  · refine ex_al oq_X5_readNewName_18 rfl ?_
    refine ex_ic oq_X5_readNewName_19 (m := 1) (by decide) (fun x103 hx103 => ?_)
    refine ex_cv oq_X5_readNewName_20 (by decide) hT (k := 50) (d := 5) (as := [cv_i x103]) (stk := []) rfl rfl rfl rfl rfl rfl ⟨rfl, rfl⟩ (R := fun o => ∃ (x : Int32) (hb : cv_H), o = (some (cv_i x), hb) ∧ cw_T G hb ∧ cw_Fr cw_Ds cw_sh kk_X5_fail.2.2.2.2.2.1 h0 hb ∧ x.toInt = 0 ∧ (ri_at h0 50 4 = 0 ∧ ri_at hb 50 4 = x103.toInt ∧ ri_at hb 50 5 = ri_at h0 51 5 ∨ ¬ ri_at h0 50 4 = 0 ∧ ri_at hb 50 4 = ri_at h0 50 4 ∧ ri_at hb 50 5 = ri_at h0 50 5)) (ct_fail hT x103 (fun x hb b1 b2 b3 b4 => ⟨x, hb, rfl, b1, b2, b3, b4⟩)) (fun o ho => ?_)
    obtain ⟨x104, h105, rfl, Th105, Ch105, zh105, fh105⟩ := ho
    show cw_X _ _ _ _ _ [cv_i x104] h105
    have Fh105 : cw_Fr cw_Ds cw_sh kk_X5_readNewName_2.2.2.2.2.2.1 h0 h105 := cw_Fr_tr Fh0 (cw_Fr_mono (by decide +kernel) Ch105)
    have eh105_51_2 : ri_at h105 51 2 = ri_at h0 51 2 := ri_frf Ch105 (d := 6) rfl rfl (by decide +kernel)
    have eh105_51_3 : ri_at h105 51 3 = ri_at h0 51 3 := ri_frf Ch105 (d := 6) rfl rfl (by decide +kernel)
    have eh105_51_4 : ri_at h105 51 4 = ri_at h0 51 4 := ri_frf Ch105 (d := 6) rfl rfl (by decide +kernel)
    have eh105_51_5 : ri_at h105 51 5 = ri_at h0 51 5 := ri_frf Ch105 (d := 6) rfl rfl (by decide +kernel)
    have eh105_51_6 : ri_at h105 51 6 = ri_at h0 51 6 := ri_frf Ch105 (d := 6) rfl rfl (by decide +kernel)
    exact ex_reti oq_X5_readNewName_23 rfl (hQ x104 h105 Th105 Fh105 (.inr ⟨_, rfl, by omega, by omega, by omega, by omega⟩))
  · exfalso; omega
theorem ct_nameC26P {h0 : cv_H} {n : Nat} (ht : ∀ i, t i = ri_at h0 1 i % 256) (hwd : ∀ i, i < 34 → ri_at h0 52 i = tz_wc.getD i 0) (hn9 : n ≤ 900) (hT : cw_T G h0) {M : Int32} {l : List Int} (hM : M.toInt = l.length) (hlm : l.length < 6) (hl : ∀ k, k < l.length → ri_at h0 38 k = l.getD k 0) {p : Nat} (hpn : p ≤ n) (hz : zC t n p h0) (h4 : ri_at h0 50 4 = 0) (h5 : ri_at h0 50 5 = -1) (hQ : ∀ (x : Int32) h', cw_T G h' → cw_Fr cw_Ds cw_sh kk_X5_readNewName_2.2.2.2.2.2.1 h0 h' → zCr t n h' x (zm t n l p) → Q (some (cv_i x), h')) : cw_X X 64 Q 0 (cv_ent 0 [cv_r 50, cv_r 38, cv_i M]) [] h0 := by
  have Fh0 : cw_Fr cw_Ds cw_sh kk_X5_readNewName_2.2.2.2.2.2.1 h0 h0 := cw_Fr_refl
  obtain ⟨z1, z2, z3, z4⟩ := id hz
  have zl := zx_le (t := t) hpn
  have rn := rl_nam z4
  have hA : ∀ h, cw_Fr cw_Ds cw_sh kk_X5_readNewName_2.2.2.2.2.2.1 h0 h → ∀ i, ri_at h 1 i = ri_at h0 1 i := fun h F i => ri_frr F (k := 1) (d := 13) rfl rfl (by decide +kernel)
  have hB : ∀ h, cw_Fr cw_Ds cw_sh kk_X5_readNewName_2.2.2.2.2.2.1 h0 h → ∀ i, ri_at h 52 i = ri_at h0 52 i := fun h F i => ri_frr F (k := 52) (d := 43) rfl rfl (by decide +kernel)
  refine ex_al oq_X5_readNewName_0 rfl ?_
  obtain ⟨x301, ax301, rx301, lx301, ux301⟩ := ri_fld (k := 50) (d := 5) (f := 4) hT rfl rfl rfl
  try dsimp only at lx301 ux301
  refine ex_gf oq_X5_readNewName_1 hT (k := 50) (d := 5) rfl rfl ax301 ?_
  refine ex_if0 oq_X5_readNewName_4 (t := 18) rfl rfl (fun (c302 : ¬ x301.toInt = 0) => ?_) (fun (c302 : ¬ (¬ x301.toInt = 0)) => ?_)
  · exfalso; omega
  · refine ex_al oq_X5_readNewName_7 rfl ?_
    refine ex_gf oq_X5_readNewName_8 hT (k := 50) (d := 5) rfl rfl (ri_ref (k := 50) (k' := 51) (d := 5) (f := 0) hT rfl rfl rfl (by decide) (ri_uniq (by decide +kernel))) ?_
    obtain ⟨x303, ax303, rx303, lx303, ux303⟩ := ri_fld (k := 51) (d := 6) (f := 4) hT rfl rfl rfl
    try dsimp only at lx303 ux303
    refine ex_gf oq_X5_readNewName_11 hT (k := 51) (d := 6) rfl rfl ax303 ?_
    refine ex_ic oq_X5_readNewName_14 (m := 3) (by decide) (fun x304 hx304 => ?_)
    refine ex_if oq_X5_readNewName_15 (t := 24) rfl rfl (fun (c305 : x303.toInt = x304.toInt) => ?_) (fun (c305 : ¬ (x303.toInt = x304.toInt)) => ?_)
    · refine ex_al oq_X5_readNewName_24 rfl ?_
      refine ex_gf oq_X5_readNewName_25 hT (k := 50) (d := 5) rfl rfl (ri_ref (k := 50) (k' := 51) (d := 5) (f := 0) hT rfl rfl rfl (by decide) (ri_uniq (by decide +kernel))) ?_
      obtain ⟨x306, ax306, rx306, lx306, ux306⟩ := ri_fld (k := 51) (d := 6) (f := 6) hT rfl rfl rfl
      try dsimp only at lx306 ux306
      refine ex_gf oq_X5_readNewName_28 hT (k := 51) (d := 6) rfl rfl ax306 ?_
      refine ex_isA oq_X5_readNewName_31 (fun L307 gL307_3 kL307 => ?_)
      have gL307_0 : cv_get L307 0 = some (cv_r 50) := kL307 0 _ (by decide) (fun q => absurd q (by decide)) rfl
      have gL307_1 : cv_get L307 1 = some (cv_r 38) := kL307 1 _ (by decide) (fun q => absurd q (by decide)) rfl
      have gL307_2 : cv_get L307 2 = some (cv_i M) := kL307 2 _ (by decide) (fun _ => rfl) rfl
      refine ex_il oq_X5_readNewName_32 gL307_3 ?_
      refine ex_al oq_X5_readNewName_33 gL307_1 ?_
      refine ex_il oq_X5_readNewName_34 gL307_2 ?_
      refine ex_cs oq_X5_readNewName_35 (by decide) (as := [cv_i x306, cv_r 38, cv_i M]) (stk := []) rfl rfl rfl ⟨rfl, rfl⟩ (R := fun o => ∃ x : Int32, o = (some (cv_i x), h0) ∧ x.toInt = tz_find l x306.toInt 0) (ct_placeC26 (l := l) hT (by omega) (by omega) hl (fun x q => ⟨x, rfl, q⟩)) (fun o ho => ?_)
      obtain ⟨x308, rfl, qx308⟩ := ho
      show cw_X _ _ _ _ _ [cv_i x308] h0
      rw [show x306.toInt = zw t n p from by omega] at qx308
      have qb := zfd_b (x := zw t n p) l 0
      refine ex_ic oq_X5_readNewName_38 (m := (-1)) (by decide) (fun x309 hx309 => ?_)
      refine ex_if oq_X5_readNewName_39 (t := 48) rfl rfl (fun (c310 : x308.toInt = x309.toInt) => ?_) (fun (c310 : ¬ (x308.toInt = x309.toInt)) => ?_)
      · refine ex_al oq_X5_readNewName_48 gL307_0 ?_
        refine ex_gf oq_X5_readNewName_49 hT (k := 50) (d := 5) rfl rfl (ri_ref (k := 50) (k' := 51) (d := 5) (f := 0) hT rfl rfl rfl (by decide) (ri_uniq (by decide +kernel))) ?_
        refine ex_cv oq_X5_readNewName_52 (by decide) hT (k := 51) (d := 6) (as := []) (stk := []) rfl rfl rfl rfl rfl rfl ⟨rfl, rfl⟩ (R := fun o => ∃ hb : cv_H, o = (none, hb) ∧ cw_T G hb ∧ cw_Fr cw_Ds cw_sh kk_X6_step.2.2.2.2.2.1 h0 hb ∧ zC t n (zx t n p) hb) (ct_step (t := t) (n := n) (p := zx t n p) (fun i => by rw [ht, ← hA _ Fh0]) (fun i hi => by rw [hB _ Fh0]; exact hwd i hi) hT hn9 (by omega) (by omega) (fun hb b1 b2 b3 b4 b5 b6 => ⟨hb, rfl, b1, b2, b3, b4, b5, b6⟩)) (fun o ho => ?_)
        obtain ⟨h311, rfl, Th311, Ch311, Zh311⟩ := ho
        show cw_X _ _ _ _ _ [] h311
        have Fh311 : cw_Fr cw_Ds cw_sh kk_X5_readNewName_2.2.2.2.2.2.1 h0 h311 := cw_Fr_tr Fh0 (cw_Fr_mono (by decide +kernel) Ch311)
        have eh311_50_4 : ri_at h311 50 4 = ri_at h0 50 4 := ri_frf Ch311 (d := 5) rfl rfl (by decide +kernel)
        have eh311_50_5 : ri_at h311 50 5 = ri_at h0 50 5 := ri_frf Ch311 (d := 5) rfl rfl (by decide +kernel)
        obtain ⟨zah311, zbh311, zch311, zdh311⟩ := id Zh311
        have zlh311 := zx_le (t := t) (n := n) (p := (zx t n p)) (by omega)
        refine ex_il oq_X5_readNewName_55 gL307_3 ?_
        exact ex_reti oq_X5_readNewName_56 rfl (hQ x306 h311 Th311 Fh311 (.inl ⟨_, _, zm_ok (by omega) (by omega), by omega, zx_le hpn, Zh311, by omega, by omega⟩))
      · refine ex_al oq_X5_readNewName_42 gL307_0 ?_
        refine ex_ic oq_X5_readNewName_43 (m := 3) (by decide) (fun x312 hx312 => ?_)
        refine ex_cv oq_X5_readNewName_44 (by decide) hT (k := 50) (d := 5) (as := [cv_i x312]) (stk := []) rfl rfl rfl rfl rfl rfl ⟨rfl, rfl⟩ (R := fun o => ∃ (x : Int32) (hb : cv_H), o = (some (cv_i x), hb) ∧ cw_T G hb ∧ cw_Fr cw_Ds cw_sh kk_X5_fail.2.2.2.2.2.1 h0 hb ∧ x.toInt = 0 ∧ (ri_at h0 50 4 = 0 ∧ ri_at hb 50 4 = x312.toInt ∧ ri_at hb 50 5 = ri_at h0 51 5 ∨ ¬ ri_at h0 50 4 = 0 ∧ ri_at hb 50 4 = ri_at h0 50 4 ∧ ri_at hb 50 5 = ri_at h0 50 5)) (ct_fail hT x312 (fun x hb b1 b2 b3 b4 => ⟨x, hb, rfl, b1, b2, b3, b4⟩)) (fun o ho => ?_)
        obtain ⟨x313, h314, rfl, Th314, Ch314, zh314, fh314⟩ := ho
        show cw_X _ _ _ _ _ [cv_i x313] h314
        have Fh314 : cw_Fr cw_Ds cw_sh kk_X5_readNewName_2.2.2.2.2.2.1 h0 h314 := cw_Fr_tr Fh0 (cw_Fr_mono (by decide +kernel) Ch314)
        have eh314_51_2 : ri_at h314 51 2 = ri_at h0 51 2 := ri_frf Ch314 (d := 6) rfl rfl (by decide +kernel)
        have eh314_51_3 : ri_at h314 51 3 = ri_at h0 51 3 := ri_frf Ch314 (d := 6) rfl rfl (by decide +kernel)
        have eh314_51_4 : ri_at h314 51 4 = ri_at h0 51 4 := ri_frf Ch314 (d := 6) rfl rfl (by decide +kernel)
        have eh314_51_5 : ri_at h314 51 5 = ri_at h0 51 5 := ri_frf Ch314 (d := 6) rfl rfl (by decide +kernel)
        have eh314_51_6 : ri_at h314 51 6 = ri_at h0 51 6 := ri_frf Ch314 (d := 6) rfl rfl (by decide +kernel)
        exact ex_reti oq_X5_readNewName_47 rfl (hQ x313 h314 Th314 Fh314 (.inr ⟨_, zm_3 (by omega) (by omega), by omega, by omega, by omega, by decide⟩))
    · refine ex_al oq_X5_readNewName_18 rfl ?_
      refine ex_ic oq_X5_readNewName_19 (m := 1) (by decide) (fun x315 hx315 => ?_)
      refine ex_cv oq_X5_readNewName_20 (by decide) hT (k := 50) (d := 5) (as := [cv_i x315]) (stk := []) rfl rfl rfl rfl rfl rfl ⟨rfl, rfl⟩ (R := fun o => ∃ (x : Int32) (hb : cv_H), o = (some (cv_i x), hb) ∧ cw_T G hb ∧ cw_Fr cw_Ds cw_sh kk_X5_fail.2.2.2.2.2.1 h0 hb ∧ x.toInt = 0 ∧ (ri_at h0 50 4 = 0 ∧ ri_at hb 50 4 = x315.toInt ∧ ri_at hb 50 5 = ri_at h0 51 5 ∨ ¬ ri_at h0 50 4 = 0 ∧ ri_at hb 50 4 = ri_at h0 50 4 ∧ ri_at hb 50 5 = ri_at h0 50 5)) (ct_fail hT x315 (fun x hb b1 b2 b3 b4 => ⟨x, hb, rfl, b1, b2, b3, b4⟩)) (fun o ho => ?_)
      obtain ⟨x316, h317, rfl, Th317, Ch317, zh317, fh317⟩ := ho
      show cw_X _ _ _ _ _ [cv_i x316] h317
      have Fh317 : cw_Fr cw_Ds cw_sh kk_X5_readNewName_2.2.2.2.2.2.1 h0 h317 := cw_Fr_tr Fh0 (cw_Fr_mono (by decide +kernel) Ch317)
      have eh317_51_2 : ri_at h317 51 2 = ri_at h0 51 2 := ri_frf Ch317 (d := 6) rfl rfl (by decide +kernel)
      have eh317_51_3 : ri_at h317 51 3 = ri_at h0 51 3 := ri_frf Ch317 (d := 6) rfl rfl (by decide +kernel)
      have eh317_51_4 : ri_at h317 51 4 = ri_at h0 51 4 := ri_frf Ch317 (d := 6) rfl rfl (by decide +kernel)
      have eh317_51_5 : ri_at h317 51 5 = ri_at h0 51 5 := ri_frf Ch317 (d := 6) rfl rfl (by decide +kernel)
      have eh317_51_6 : ri_at h317 51 6 = ri_at h0 51 6 := ri_frf Ch317 (d := 6) rfl rfl (by decide +kernel)
      exact ex_reti oq_X5_readNewName_23 rfl (hQ x316 h317 Th317 Fh317 (.inr ⟨_, zm_1 (by omega), by omega, by omega, by omega, by decide⟩))
theorem ct_nameC26 {h0 : cv_H} {n : Nat} (ht : ∀ i, t i = ri_at h0 1 i % 256) (hwd : ∀ i, i < 34 → ri_at h0 52 i = tz_wc.getD i 0) (hn9 : n ≤ 900) (hT : cw_T G h0) {M : Int32} {l : List Int} (hM : M.toInt = l.length) (hlm : l.length < 6) (hl : ∀ k, k < l.length → ri_at h0 38 k = l.getD k 0) {S : (Int × Nat) ⊕ Nat} (hS : zCs t n S h0) (hQ : ∀ (x : Int32) h', cw_T G h' → cw_Fr cw_Ds cw_sh kk_X5_readNewName_2.2.2.2.2.2.1 h0 h' → zCr t n h' x (zbd S (zm t n l)) → Q (some (cv_i x), h')) : cw_X X 64 Q 0 (cv_ent 0 [cv_r 50, cv_r 38, cv_i M]) [] h0 := by
  cases S with
  | inl e =>
    obtain ⟨f, a⟩ := e
    exact ct_nameC26F ht hwd hn9 hT hM hlm hl hS.1 hS.2.1 hS.2.2 hQ
  | inr p => exact ct_nameC26P ht hwd hn9 hT hM hlm hl hS.1 hS.2.1 hS.2.2.1 hS.2.2.2 hQ
theorem oq_X5_readSemicolon_0 : cw_ho 62 0 (.aload_n 0) 1 0 0 0 := rfl
theorem oq_X5_readSemicolon_1 : cw_ho 62 1 (.getfield 46) 3 5 4 0 := rfl
theorem oq_X5_readSemicolon_4 : cw_ho 62 4 (.ifCond .ne 15) 3 0 0 0 := rfl
theorem oq_X5_readSemicolon_7 : cw_ho 62 7 (.aload_n 0) 1 0 0 0 := rfl
theorem oq_X5_readSemicolon_8 : cw_ho 62 8 (.getfield 20) 3 5 0 4 := rfl
theorem oq_X5_readSemicolon_11 : cw_ho 62 11 (.getfield 53) 3 6 4 0 := rfl
theorem oq_X5_readSemicolon_14 : cw_ho 62 14 (.bipush 8) 2 0 0 0 := rfl
theorem oq_X5_readSemicolon_16 : cw_ho 62 16 (.if_icmp .eq 10) 3 0 0 0 := rfl
theorem oq_X5_readSemicolon_19 : cw_ho 62 19 (.aload_n 0) 1 0 0 0 := rfl
theorem oq_X5_readSemicolon_20 : cw_ho 62 20 (.iconst 1) 1 0 0 0 := rfl
theorem oq_X5_readSemicolon_21 : cw_ho 62 21 (.invokevirtual 74) 3 61 1 5 := rfl
theorem oq_X5_readSemicolon_24 : cw_ho 62 24 (.pop) 1 0 0 0 := rfl
theorem oq_X5_readSemicolon_25 : cw_ho 62 25 (.return_) 1 0 0 0 := rfl
theorem oq_X5_readSemicolon_26 : cw_ho 62 26 (.aload_n 0) 1 0 0 0 := rfl
theorem oq_X5_readSemicolon_27 : cw_ho 62 27 (.getfield 20) 3 5 0 4 := rfl
theorem oq_X5_readSemicolon_30 : cw_ho 62 30 (.invokevirtual 82) 3 78 0 6 := rfl
theorem oq_X5_readSemicolon_33 : cw_ho 62 33 (.return_) 1 0 0 0 := rfl
theorem ct_semicolon {h0 : cv_H} {n : Nat} (ht : ∀ i, t i = ri_at h0 1 i % 256) (hwd : ∀ i, i < 34 → ri_at h0 52 i = tz_wc.getD i 0) (hn9 : n ≤ 900) (hT : cw_T G h0) {S : (Int × Nat) ⊕ Nat} (hS : zCs t n S h0) (hQ : ∀ h', cw_T G h' → cw_Fr cw_Ds cw_sh kk_X5_readSemicolon.2.2.2.2.2.1 h0 h' → zCs t n (zbd S (zsm t n)) h' → Q (none, h')) : cw_X X 62 Q 0 (cv_ent 0 [cv_r 50]) [] h0 := by
  have Fh0 : cw_Fr cw_Ds cw_sh kk_X5_readSemicolon.2.2.2.2.2.1 h0 h0 := cw_Fr_refl
  have hA : ∀ h, cw_Fr cw_Ds cw_sh kk_X5_readSemicolon.2.2.2.2.2.1 h0 h → ∀ i, ri_at h 1 i = ri_at h0 1 i := fun h F i => ri_frr F (k := 1) (d := 13) rfl rfl (by decide +kernel)
  have hB : ∀ h, cw_Fr cw_Ds cw_sh kk_X5_readSemicolon.2.2.2.2.2.1 h0 h → ∀ i, ri_at h 52 i = ri_at h0 52 i := fun h F i => ri_frr F (k := 52) (d := 43) rfl rfl (by decide +kernel)
  cases S with
  | inl e =>
    obtain ⟨f, a⟩ := e
    obtain ⟨h4, h5, hf⟩ := hS
    refine ex_al oq_X5_readSemicolon_0 rfl ?_
    obtain ⟨x101, ax101, rx101, lx101, ux101⟩ := ri_fld (k := 50) (d := 5) (f := 4) hT rfl rfl rfl
    try dsimp only at lx101 ux101
    refine ex_gf oq_X5_readSemicolon_1 hT (k := 50) (d := 5) rfl rfl ax101 ?_
    refine ex_if0 oq_X5_readSemicolon_4 (t := 19) rfl rfl (fun (c102 : ¬ x101.toInt = 0) => ?_) (fun (c102 : ¬ (¬ x101.toInt = 0)) => ?_)
    · refine ex_al oq_X5_readSemicolon_19 rfl ?_
      refine ex_ic oq_X5_readSemicolon_20 (m := 1) (by decide) (fun x103 hx103 => ?_)
      refine ex_cv oq_X5_readSemicolon_21 (by decide) hT (k := 50) (d := 5) (as := [cv_i x103]) (stk := []) rfl rfl rfl rfl rfl rfl ⟨rfl, rfl⟩ (R := fun o => ∃ (x : Int32) (hb : cv_H), o = (some (cv_i x), hb) ∧ cw_T G hb ∧ cw_Fr cw_Ds cw_sh kk_X5_fail.2.2.2.2.2.1 h0 hb ∧ x.toInt = 0 ∧ (ri_at h0 50 4 = 0 ∧ ri_at hb 50 4 = x103.toInt ∧ ri_at hb 50 5 = ri_at h0 51 5 ∨ ¬ ri_at h0 50 4 = 0 ∧ ri_at hb 50 4 = ri_at h0 50 4 ∧ ri_at hb 50 5 = ri_at h0 50 5)) (ct_fail hT x103 (fun x hb b1 b2 b3 b4 => ⟨x, hb, rfl, b1, b2, b3, b4⟩)) (fun o ho => ?_)
      obtain ⟨x104, h105, rfl, Th105, Ch105, zh105, fh105⟩ := ho
      show cw_X _ _ _ _ _ [cv_i x104] h105
      have Fh105 : cw_Fr cw_Ds cw_sh kk_X5_readSemicolon.2.2.2.2.2.1 h0 h105 := cw_Fr_tr Fh0 (cw_Fr_mono (by decide +kernel) Ch105)
      have eh105_51_2 : ri_at h105 51 2 = ri_at h0 51 2 := ri_frf Ch105 (d := 6) rfl rfl (by decide +kernel)
      have eh105_51_3 : ri_at h105 51 3 = ri_at h0 51 3 := ri_frf Ch105 (d := 6) rfl rfl (by decide +kernel)
      have eh105_51_4 : ri_at h105 51 4 = ri_at h0 51 4 := ri_frf Ch105 (d := 6) rfl rfl (by decide +kernel)
      have eh105_51_5 : ri_at h105 51 5 = ri_at h0 51 5 := ri_frf Ch105 (d := 6) rfl rfl (by decide +kernel)
      have eh105_51_6 : ri_at h105 51 6 = ri_at h0 51 6 := ri_frf Ch105 (d := 6) rfl rfl (by decide +kernel)
      refine ex_pop oq_X5_readSemicolon_24 rfl ?_
      exact ex_retv oq_X5_readSemicolon_25 rfl (hQ h105 Th105 Fh105 ⟨by omega, by omega, by omega⟩)
    · exfalso; omega
  | inr p =>
    obtain ⟨hpn, hz, h4, h5⟩ := hS
    obtain ⟨z1, z2, z3, z4⟩ := id hz
    have zl := zx_le (t := t) hpn
    have rs := rl_sem z4
    refine ex_al oq_X5_readSemicolon_0 rfl ?_
    obtain ⟨x301, ax301, rx301, lx301, ux301⟩ := ri_fld (k := 50) (d := 5) (f := 4) hT rfl rfl rfl
    try dsimp only at lx301 ux301
    refine ex_gf oq_X5_readSemicolon_1 hT (k := 50) (d := 5) rfl rfl ax301 ?_
    refine ex_if0 oq_X5_readSemicolon_4 (t := 19) rfl rfl (fun (c302 : ¬ x301.toInt = 0) => ?_) (fun (c302 : ¬ (¬ x301.toInt = 0)) => ?_)
    · exfalso; omega
    · refine ex_al oq_X5_readSemicolon_7 rfl ?_
      refine ex_gf oq_X5_readSemicolon_8 hT (k := 50) (d := 5) rfl rfl (ri_ref (k := 50) (k' := 51) (d := 5) (f := 0) hT rfl rfl rfl (by decide) (ri_uniq (by decide +kernel))) ?_
      obtain ⟨x303, ax303, rx303, lx303, ux303⟩ := ri_fld (k := 51) (d := 6) (f := 4) hT rfl rfl rfl
      try dsimp only at lx303 ux303
      refine ex_gf oq_X5_readSemicolon_11 hT (k := 51) (d := 6) rfl rfl ax303 ?_
      refine ex_bi oq_X5_readSemicolon_14 (m := 8) (by decide) (fun x304 hx304 => ?_)
      refine ex_if oq_X5_readSemicolon_16 (t := 26) rfl rfl (fun (c305 : x303.toInt = x304.toInt) => ?_) (fun (c305 : ¬ (x303.toInt = x304.toInt)) => ?_)
      · refine ex_al oq_X5_readSemicolon_26 rfl ?_
        refine ex_gf oq_X5_readSemicolon_27 hT (k := 50) (d := 5) rfl rfl (ri_ref (k := 50) (k' := 51) (d := 5) (f := 0) hT rfl rfl rfl (by decide) (ri_uniq (by decide +kernel))) ?_
        refine ex_cv oq_X5_readSemicolon_30 (by decide) hT (k := 51) (d := 6) (as := []) (stk := []) rfl rfl rfl rfl rfl rfl ⟨rfl, rfl⟩ (R := fun o => ∃ hb : cv_H, o = (none, hb) ∧ cw_T G hb ∧ cw_Fr cw_Ds cw_sh kk_X6_step.2.2.2.2.2.1 h0 hb ∧ zC t n (zx t n p) hb) (ct_step (t := t) (n := n) (p := zx t n p) (fun i => by rw [ht, ← hA _ Fh0]) (fun i hi => by rw [hB _ Fh0]; exact hwd i hi) hT hn9 (by omega) (by omega) (fun hb b1 b2 b3 b4 b5 b6 => ⟨hb, rfl, b1, b2, b3, b4, b5, b6⟩)) (fun o ho => ?_)
        obtain ⟨h306, rfl, Th306, Ch306, Zh306⟩ := ho
        show cw_X _ _ _ _ _ [] h306
        have Fh306 : cw_Fr cw_Ds cw_sh kk_X5_readSemicolon.2.2.2.2.2.1 h0 h306 := cw_Fr_tr Fh0 (cw_Fr_mono (by decide +kernel) Ch306)
        have eh306_50_4 : ri_at h306 50 4 = ri_at h0 50 4 := ri_frf Ch306 (d := 5) rfl rfl (by decide +kernel)
        have eh306_50_5 : ri_at h306 50 5 = ri_at h0 50 5 := ri_frf Ch306 (d := 5) rfl rfl (by decide +kernel)
        obtain ⟨zah306, zbh306, zch306, zdh306⟩ := id Zh306
        have zlh306 := zx_le (t := t) (n := n) (p := (zx t n p)) (by omega)
        exact ex_retv oq_X5_readSemicolon_33 rfl (hQ h306 Th306 Fh306 (by show zCs t n (zsm t n p) _; rw [show zsm t n p = .inr (zx t n p) from by unfold zsm; rw [if_pos (by omega)]]; exact ⟨zx_le hpn, Zh306, by omega, by omega⟩))
      · refine ex_al oq_X5_readSemicolon_19 rfl ?_
        refine ex_ic oq_X5_readSemicolon_20 (m := 1) (by decide) (fun x307 hx307 => ?_)
        refine ex_cv oq_X5_readSemicolon_21 (by decide) hT (k := 50) (d := 5) (as := [cv_i x307]) (stk := []) rfl rfl rfl rfl rfl rfl ⟨rfl, rfl⟩ (R := fun o => ∃ (x : Int32) (hb : cv_H), o = (some (cv_i x), hb) ∧ cw_T G hb ∧ cw_Fr cw_Ds cw_sh kk_X5_fail.2.2.2.2.2.1 h0 hb ∧ x.toInt = 0 ∧ (ri_at h0 50 4 = 0 ∧ ri_at hb 50 4 = x307.toInt ∧ ri_at hb 50 5 = ri_at h0 51 5 ∨ ¬ ri_at h0 50 4 = 0 ∧ ri_at hb 50 4 = ri_at h0 50 4 ∧ ri_at hb 50 5 = ri_at h0 50 5)) (ct_fail hT x307 (fun x hb b1 b2 b3 b4 => ⟨x, hb, rfl, b1, b2, b3, b4⟩)) (fun o ho => ?_)
        obtain ⟨x308, h309, rfl, Th309, Ch309, zh309, fh309⟩ := ho
        show cw_X _ _ _ _ _ [cv_i x308] h309
        have Fh309 : cw_Fr cw_Ds cw_sh kk_X5_readSemicolon.2.2.2.2.2.1 h0 h309 := cw_Fr_tr Fh0 (cw_Fr_mono (by decide +kernel) Ch309)
        have eh309_51_2 : ri_at h309 51 2 = ri_at h0 51 2 := ri_frf Ch309 (d := 6) rfl rfl (by decide +kernel)
        have eh309_51_3 : ri_at h309 51 3 = ri_at h0 51 3 := ri_frf Ch309 (d := 6) rfl rfl (by decide +kernel)
        have eh309_51_4 : ri_at h309 51 4 = ri_at h0 51 4 := ri_frf Ch309 (d := 6) rfl rfl (by decide +kernel)
        have eh309_51_5 : ri_at h309 51 5 = ri_at h0 51 5 := ri_frf Ch309 (d := 6) rfl rfl (by decide +kernel)
        have eh309_51_6 : ri_at h309 51 6 = ri_at h0 51 6 := ri_frf Ch309 (d := 6) rfl rfl (by decide +kernel)
        refine ex_pop oq_X5_readSemicolon_24 rfl ?_
        exact ex_retv oq_X5_readSemicolon_25 rfl (hQ h309 Th309 Fh309 (by show zCs t n (zsm t n p) _; rw [show zsm t n p = .inl (1, za t n p) from by unfold zsm; rw [if_neg (by omega)]]; exact ⟨by omega, by omega, by decide⟩))
end TZ
