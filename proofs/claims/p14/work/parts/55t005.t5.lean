/-! ===== the reference reads words: letters packed, signs, the word ===== -/
theorem tz_shl5 {x y : Int32} (hy : y.toInt = 5) (h0 : 0 ≤ x.toInt) (h1 : x.toInt < 33554432) : (x <<< (y &&& 31)).toInt = 32 * x.toInt := by
  have ey : y = 5 := by rw [← Int32.toInt_inj, hy]; rfl
  subst ey
  have e : (x <<< ((5 : Int32) &&& 31)) = x * 32 := by
    rw [← Int32.toBitVec_inj]
    rw [Int32.toBitVec_mul]
    have : (x <<< ((5 : Int32) &&& 31)).toBitVec = x.toBitVec <<< (5 : Nat) := rfl
    rw [this, ← BitVec.mul_twoPow_eq_shiftLeft]
    rfl
  rw [e, Int32.toInt_mul, show (32 : Int32).toInt = 32 from rfl, cw_bm (by omega) (by omega), Int.mul_comm]
def tz_pf (t : Nat → Int) (a b : Nat) : Nat → Int
  | 0 => 0
  | i + 1 => 32 * tz_pf t a b i + tz_dg t a b i
theorem tz_pf6 {t : Nat → Int} {a b : Nat} : tz_pf t a b 6 = tz_pk t a b := by
  unfold tz_pk
  simp only [tz_pf]
  omega
theorem tz_pfb {t : Nat → Int} {a b : Nat} (hl : ∀ i, a ≤ i → i < b → 97 ≤ t i ∧ t i ≤ 122) : ∀ i, i < 6 → 0 ≤ tz_pf t a b i ∧ tz_pf t a b i < 33554432 := by
  have d0 := (tw_dgb (t := t) (a := a) (b := b) (j := 0) hl).2.2
  have d1 := (tw_dgb (t := t) (a := a) (b := b) (j := 1) hl).2.2
  have d2 := (tw_dgb (t := t) (a := a) (b := b) (j := 2) hl).2.2
  have d3 := (tw_dgb (t := t) (a := a) (b := b) (j := 3) hl).2.2
  have d4 := (tw_dgb (t := t) (a := a) (b := b) (j := 4) hl).2.2
  intro i hi
  match i, hi with
  | 0, _ => simp only [tz_pf]; omega
  | 1, _ => simp only [tz_pf]; omega
  | 2, _ => simp only [tz_pf]; omega
  | 3, _ => simp only [tz_pf]; omega
  | 4, _ => simp only [tz_pf]; omega
  | 5, _ => simp only [tz_pf]; omega
  | i + 6, hi => omega
theorem tz_pfo {t : Nat → Int} {a b i : Nat} {x y : Int32} (hx : x.toInt = 32 * tz_pf t a b i) (hb : 0 ≤ tz_pf t a b i ∧ tz_pf t a b i < 33554432) (hy : y.toInt = tz_dg t a b i) (hd : 0 ≤ tz_dg t a b i ∧ tz_dg t a b i ≤ 26) : (x ||| y).toInt = tz_pf t a b (i + 1) := by
  rw [tz_or (k := 5) (w := (tz_pf t a b i).toNat) (by omega) (by omega) (by omega) (by omega), hx, hy]
  rfl
theorem tz_tk_ok {t : Nat → Int} {n a : Nat} (ha : a ≤ n) : (tz_tk t n a).2.2 ≤ n ∧ a ≤ (tz_tk t n a).2.2 ∧ ((tz_tk t n a).1 = 1 → 0 ≤ (tz_tk t n a).2.1 ∧ (tz_tk t n a).2.1 ≤ 33) ∧ ((tz_tk t n a).1 = 5 → 0 ≤ (tz_tk t n a).2.1 ∧ (tz_tk t n a).2.1 ≤ 5) ∧ 0 ≤ (tz_tk t n a).1 ∧ (tz_tk t n a).1 ≤ 6 ∧ ((tz_tk t n a).1 ≠ 0 → a < (tz_tk t n a).2.2) ∧ ((tz_tk t n a).1 = 3 → 0 ≤ (tz_tk t n a).2.1 ∧ (tz_tk t n a).2.1 ≤ 99999) := by
  by_cases h1 : a < n
  · by_cases h2 : tz_l t a = true
    · have g1 := tz_le (c := tz_l t) (n := n) (p := a) ha
      have g2 := tz_to_step (c := tz_l t) (n := n) (p := a) h1 h2
      have g3 := tz_ge (c := tz_l t) (n := n) (p := a + 1)
      have hw : ∀ (l : List Int) (x : Int) (k : Nat), tz_find l x k ≤ k + l.length - 1 ∨ tz_find l x k = -1 := by
        intro l x
        induction l with
        | nil => intro k; exact .inr rfl
        | cons y l ih =>
          intro k
          unfold tz_find
          split
          · left; simp only [List.length_cons]; omega
          · rcases ih (k + 1) with q | q
            · left; simp only [List.length_cons]; omega
            · exact .inr q
      have hw2 : tz_word t a (tz_to (tz_l t) n a) ≤ 33 := by
        unfold tz_word
        split
        · have hl : tz_wl.length = 34 := by decide
          rcases hw tz_wl (tz_pk t a (tz_to (tz_l t) n a)) 0 with q | q <;> omega
        · omega
      unfold tz_tk
      rw [if_pos h1, if_pos h2]
      split
      · refine ⟨?_, ?_, ?_, ?_, ?_, ?_, ?_, ?_⟩ <;> dsimp only <;> omega
      · split
        · refine ⟨?_, ?_, ?_, ?_, ?_, ?_, ?_, ?_⟩ <;> dsimp only <;> omega
        · refine ⟨?_, ?_, ?_, ?_, ?_, ?_, ?_, ?_⟩ <;> dsimp only <;> omega
    · have h2 : tz_l t a = false := by simpa using h2
      by_cases h3 : tz_d t a = true
      · have g1 := tz_le (c := tz_d t) (n := n) (p := a) ha
        have g2 := tz_to_step (c := tz_d t) (n := n) (p := a) h1 h3
        have g3 := tz_ge (c := tz_d t) (n := n) (p := a + 1)
        have hn : ∀ k, (∀ j, j < k → tz_d t (a + j) = true) → 0 ≤ tz_num t a k ∧ tz_num t a k ≤ 99999 := by
          intro k
          induction k with
          | zero => intro _; show (0 : Int) ≤ 0 ∧ (0 : Int) ≤ 99999; decide
          | succ k ih =>
            intro h
            have q1 := ih (fun j hj => h j (by omega))
            have q2 := tz_d_e (h k (by omega))
            show 0 ≤ (if 9999 < tz_num t a k then tz_num t a k else 10 * tz_num t a k + (t (a + k) - 48)) ∧ (if 9999 < tz_num t a k then tz_num t a k else 10 * tz_num t a k + (t (a + k) - 48)) ≤ 99999
            split <;> omega
        have hn2 := hn (tz_to (tz_d t) n a - a) (fun j hj => tz_in (c := tz_d t) (n := n) (p := a) (by omega) (by omega))
        rw [tz_kd h1 h2 h3]
        refine ⟨?_, ?_, ?_, ?_, ?_, ?_, ?_, ?_⟩ <;> dsimp only <;> omega
      · have h3 : tz_d t a = false := by simpa using h3
        rw [tz_ks h1 h2 h3]
        unfold tz_s
        split
        · refine ⟨?_, ?_, ?_, ?_, ?_, ?_, ?_, ?_⟩ <;> dsimp only <;> omega
        · split
          · split
            · refine ⟨?_, ?_, ?_, ?_, ?_, ?_, ?_, ?_⟩ <;> dsimp only <;> omega
            · split <;> (refine ⟨?_, ?_, ?_, ?_, ?_, ?_, ?_, ?_⟩ <;> dsimp only <;> omega)
          · split
            · split <;> (refine ⟨?_, ?_, ?_, ?_, ?_, ?_, ?_, ?_⟩ <;> dsimp only <;> omega)
            · split <;> (refine ⟨?_, ?_, ?_, ?_, ?_, ?_, ?_, ?_⟩ <;> dsimp only <;> omega)
  · rw [tz_ke h1]
    refine ⟨?_, ?_, ?_, ?_, ?_, ?_, ?_, ?_⟩ <;> dsimp only <;> omega
def tz_ne (x y : Int) : Prop := ¬ x = y
theorem tz_s8n {t : Nat → Int} {n a : Nat} (h1 : tz_ne (t a) 59) (h2 : tz_ne (t a) 40) (h3 : tz_ne (t a) 41) (h4 : tz_ne (t a) 43) (h5 : tz_ne (t a) 45) (h6 : tz_ne (t a) 42) (h7 : tz_ne (t a) 47) (h8 : tz_ne (t a) 61) (h9 : tz_ne (t a) 60) (h10 : tz_ne (t a) 62) : tz_s t n a = (6, 0, a + 1) := by
  unfold tz_ne at h1 h2 h3 h4 h5 h6 h7
  exact tz_s8 (fun q => by
    rcases q with q | q | q | q | q | q | q
    · exact h1 q
    · exact h2 q
    · exact h3 q
    · exact h4 q
    · exact h5 q
    · exact h6 q
    · exact h7 q) h8 h9 h10
section TZ
variable {G : Int} {X : cv_X} {Q : cv_O → Prop} {t : Nat → Int}
theorem oq_X12_packed_0 : cw_ho 165 0 (.iconst 0) 1 0 0 0 := rfl
theorem oq_X12_packed_1 : cw_ho 165 1 (.istore_n 3) 1 0 0 0 := rfl
theorem oq_X12_packed_2 : cw_ho 165 2 (.iload_n 1) 1 0 0 0 := rfl
theorem oq_X12_packed_3 : cw_ho 165 3 (.istore 4) 2 0 0 0 := rfl
theorem oq_X12_packed_5 : cw_ho 165 5 (.iload 4) 2 0 0 0 := rfl
theorem oq_X12_packed_7 : cw_ho 165 7 (.iload_n 1) 1 0 0 0 := rfl
theorem oq_X12_packed_8 : cw_ho 165 8 (.bipush 6) 2 0 0 0 := rfl
theorem oq_X12_packed_10 : cw_ho 165 10 (.iadd) 1 0 0 0 := rfl
theorem oq_X12_packed_11 : cw_ho 165 11 (.if_icmp .ge 34) 3 0 0 0 := rfl
theorem oq_X12_packed_14 : cw_ho 165 14 (.iload_n 3) 1 0 0 0 := rfl
theorem oq_X12_packed_15 : cw_ho 165 15 (.iconst 5) 1 0 0 0 := rfl
theorem oq_X12_packed_16 : cw_ho 165 16 (.ishl) 1 0 0 0 := rfl
theorem oq_X12_packed_17 : cw_ho 165 17 (.iload 4) 2 0 0 0 := rfl
theorem oq_X12_packed_19 : cw_ho 165 19 (.iload_n 2) 1 0 0 0 := rfl
theorem oq_X12_packed_20 : cw_ho 165 20 (.if_icmp .ge 16) 3 0 0 0 := rfl
theorem oq_X12_packed_23 : cw_ho 165 23 (.aload_n 0) 1 0 0 0 := rfl
theorem oq_X12_packed_24 : cw_ho 165 24 (.getfield 7) 3 12 0 4 := rfl
theorem oq_X12_packed_27 : cw_ho 165 27 (.iload 4) 2 0 0 0 := rfl
theorem oq_X12_packed_29 : cw_ho 165 29 (.iaload) 1 0 0 0 := rfl
theorem oq_X12_packed_30 : cw_ho 165 30 (.bipush 96) 2 0 0 0 := rfl
theorem oq_X12_packed_32 : cw_ho 165 32 (.isub) 1 0 0 0 := rfl
theorem oq_X12_packed_33 : cw_ho 165 33 (.goto 4) 3 0 0 0 := rfl
theorem oq_X12_packed_36 : cw_ho 165 36 (.iconst 0) 1 0 0 0 := rfl
theorem oq_X12_packed_37 : cw_ho 165 37 (.ior) 1 0 0 0 := rfl
theorem oq_X12_packed_38 : cw_ho 165 38 (.istore_n 3) 1 0 0 0 := rfl
theorem oq_X12_packed_39 : cw_ho 165 39 (.iinc 4 1) 3 0 0 0 := rfl
theorem oq_X12_packed_42 : cw_ho 165 42 (.goto (-37)) 3 0 0 0 := rfl
theorem oq_X12_packed_45 : cw_ho 165 45 (.iload_n 3) 1 0 0 0 := rfl
theorem oq_X12_packed_46 : cw_ho 165 46 (.ireturn) 1 0 0 0 := rfl
theorem rt_packedL {h : cv_H} {n : Nat} (ht : ∀ i, i < n → t i = ri_at h 112 i) (hT : cw_T G h) (hn9 : n ≤ 900) {A B : Int32} {a b : Nat} (hA : A.toInt = a) (hB : B.toInt = b) (hab : a ≤ b) (hbn : b ≤ n) (hl : ∀ i, a ≤ i → i < b → 97 ≤ t i ∧ t i ≤ 122) (hQ : ∀ x : Int32, x.toInt = tz_pk t a b → Q (some (cv_i x), h)) :
    ∀ (f i : Nat) (L : cv_L) (N K : Int32), 6 - i = f → i ≤ 6 → K.toInt = ((a + i : Nat) : Int) → N.toInt = tz_pf t a b i → cv_get L 0 = some (cv_r 111) → cv_get L 1 = some (cv_i A) → cv_get L 2 = some (cv_i B) → cv_get L 3 = some (cv_i N) → cv_get L 4 = some (cv_i K) → cw_X X 165 Q 5 L [] h := by
  intro f
  induction f with
  | zero =>
    intro i L N K hf hi hK hN g0 g1 g2 g3 g4
    have ei : i = 6 := by omega
    refine ex_ilw oq_X12_packed_5 g4 ?_
    refine ex_il oq_X12_packed_7 g1 ?_
    refine ex_bi oq_X12_packed_8 (m := 6) (by decide) (fun x101 hx101 => ?_)
    refine ex_add oq_X12_packed_10 (by omega) (fun x102 hx102 => ?_)
    refine ex_if oq_X12_packed_11 (t := 45) rfl rfl (fun (c103 : x102.toInt ≤ K.toInt) => ?_) (fun (c103 : ¬ (x102.toInt ≤ K.toInt)) => ?_)
    · refine ex_il oq_X12_packed_45 g3 ?_
      exact ex_reti oq_X12_packed_46 rfl (hQ N (by rw [hN, ei]; exact tz_pf6))
    · exfalso; omega
  | succ f ih =>
    intro i L N K hf hi hK hN g0 g1 g2 g3 g4
    have hpb := tz_pfb hl i (by omega)
    have hdg := tw_dgb (t := t) (a := a) (b := b) (j := i) hl
    have hli : a + i < b → 97 ≤ ri_at h 112 (a + i) ∧ ri_at h 112 (a + i) ≤ 122 := fun q => by rw [← ht _ (by omega)]; exact hl _ (by omega) q
    refine ex_ilw oq_X12_packed_5 g4 ?_
    refine ex_il oq_X12_packed_7 g1 ?_
    refine ex_bi oq_X12_packed_8 (m := 6) (by decide) (fun x101 hx101 => ?_)
    refine ex_add oq_X12_packed_10 (by omega) (fun x102 hx102 => ?_)
    refine ex_if oq_X12_packed_11 (t := 45) rfl rfl (fun (c103 : x102.toInt ≤ K.toInt) => ?_) (fun (c103 : ¬ (x102.toInt ≤ K.toInt)) => ?_)
    · exfalso; omega
    · refine ex_il oq_X12_packed_14 g3 ?_
      refine ex_ic oq_X12_packed_15 (m := 5) (by decide) (fun x104 hx104 => ?_)
      refine ex_shlE oq_X12_packed_16 (fun x105 hx105 => ?_)
      refine ex_ilw oq_X12_packed_17 g4 ?_
      refine ex_il oq_X12_packed_19 g2 ?_
      refine ex_if oq_X12_packed_20 (t := 36) rfl rfl (fun (c106 : B.toInt ≤ K.toInt) => ?_) (fun (c106 : ¬ (B.toInt ≤ K.toInt)) => ?_)
      · refine ex_ic oq_X12_packed_36 (m := 0) (by decide) (fun x107 hx107 => ?_)
        refine ex_orE oq_X12_packed_37 (fun x108 hx108 => ?_)
        refine ex_isA oq_X12_packed_38 (fun L109 gL109_3 kL109 => ?_)
        have gL109_0 : cv_get L109 0 = some (cv_r 111) := kL109 0 _ (by decide) (fun q => absurd q (by decide)) g0
        have gL109_1 : cv_get L109 1 = some (cv_i A) := kL109 1 _ (by decide) (fun q => absurd q (by decide)) g1
        have gL109_2 : cv_get L109 2 = some (cv_i B) := kL109 2 _ (by decide) (fun _ => rfl) g2
        have gL109_4 : cv_get L109 4 = some (cv_i K) := kL109 4 _ (by decide) (fun q => absurd q (by decide)) g4
        refine ex_incA oq_X12_packed_39 (v := K) (m := 1) gL109_4 (by decide) (by omega) (fun L111 x110 hx110 gL111_4 kL111 => ?_)
        have gL111_3 : cv_get L111 3 = some (cv_i x108) := kL111 3 _ (by decide) (fun _ => rfl) gL109_3
        have gL111_0 : cv_get L111 0 = some (cv_r 111) := kL111 0 _ (by decide) (fun q => absurd q (by decide)) gL109_0
        have gL111_1 : cv_get L111 1 = some (cv_i A) := kL111 1 _ (by decide) (fun q => absurd q (by decide)) gL109_1
        have gL111_2 : cv_get L111 2 = some (cv_i B) := kL111 2 _ (by decide) (fun q => absurd q (by decide)) gL109_2
        refine ex_go oq_X12_packed_42 (t := 5) rfl rfl ?_
        exact ih (i + 1) L111 x108 x110 (by omega) (by omega) (by omega) (by rw [hx108]; exact tz_pfo (by rw [hx105, tz_shl5 (by omega) (by omega) (by omega)]; omega) hpb (by rw [hdg.2.1 (by omega)]; omega) hdg.2.2) gL111_0 gL111_1 gL111_2 gL111_3 gL111_4
      · refine ex_al oq_X12_packed_23 g0 ?_
        refine ex_gf oq_X12_packed_24 hT (k := 111) (d := 12) rfl rfl (fr_tape hT) ?_
        refine ex_ilw oq_X12_packed_27 g4 ?_
        refine ex_ia1 oq_X12_packed_29 hT (k := 112) (d := 51) (j := a + i) rfl rfl (by omega) (by omega) (fun x112 hx112 lx112 ux112 => ?_)
        refine ex_bi oq_X12_packed_30 (m := 96) (by decide) (fun x113 hx113 => ?_)
        refine ex_sub oq_X12_packed_32 (by omega) (fun x114 hx114 => ?_)
        refine ex_go oq_X12_packed_33 (t := 37) rfl rfl ?_
        refine ex_orE oq_X12_packed_37 (fun x115 hx115 => ?_)
        refine ex_isA oq_X12_packed_38 (fun L116 gL116_3 kL116 => ?_)
        have gL116_0 : cv_get L116 0 = some (cv_r 111) := kL116 0 _ (by decide) (fun q => absurd q (by decide)) g0
        have gL116_1 : cv_get L116 1 = some (cv_i A) := kL116 1 _ (by decide) (fun q => absurd q (by decide)) g1
        have gL116_2 : cv_get L116 2 = some (cv_i B) := kL116 2 _ (by decide) (fun _ => rfl) g2
        have gL116_4 : cv_get L116 4 = some (cv_i K) := kL116 4 _ (by decide) (fun q => absurd q (by decide)) g4
        refine ex_incA oq_X12_packed_39 (v := K) (m := 1) gL116_4 (by decide) (by omega) (fun L118 x117 hx117 gL118_4 kL118 => ?_)
        have gL118_3 : cv_get L118 3 = some (cv_i x115) := kL118 3 _ (by decide) (fun _ => rfl) gL116_3
        have gL118_0 : cv_get L118 0 = some (cv_r 111) := kL118 0 _ (by decide) (fun q => absurd q (by decide)) gL116_0
        have gL118_1 : cv_get L118 1 = some (cv_i A) := kL118 1 _ (by decide) (fun q => absurd q (by decide)) gL116_1
        have gL118_2 : cv_get L118 2 = some (cv_i B) := kL118 2 _ (by decide) (fun q => absurd q (by decide)) gL116_2
        refine ex_go oq_X12_packed_42 (t := 5) rfl rfl ?_
        exact ih (i + 1) L118 x115 x117 (by omega) (by omega) (by omega) (by rw [hx115]; exact tz_pfo (by rw [hx105, tz_shl5 (by omega) (by omega) (by omega)]; omega) hpb (by rw [tz_dg_t (by omega), ht (a + i) (by omega)]; omega) hdg.2.2) gL118_0 gL118_1 gL118_2 gL118_3 gL118_4
theorem rt_packed {h : cv_H} {n : Nat} (ht : ∀ i, i < n → t i = ri_at h 112 i) (hT : cw_T G h) (hn9 : n ≤ 900) {A B : Int32} {a b : Nat} (hA : A.toInt = a) (hB : B.toInt = b) (hab : a ≤ b) (hbn : b ≤ n) (hl : ∀ i, a ≤ i → i < b → 97 ≤ t i ∧ t i ≤ 122) (hQ : ∀ x : Int32, x.toInt = tz_pk t a b → Q (some (cv_i x), h)) : cw_X X 165 Q 0 (cv_ent 0 [cv_r 111, cv_i A, cv_i B]) [] h := by
  refine ex_ic oq_X12_packed_0 (m := 0) (by decide) (fun x201 hx201 => ?_)
  refine ex_isA oq_X12_packed_1 (fun L202 gL202_3 kL202 => ?_)
  have gL202_0 : cv_get L202 0 = some (cv_r 111) := kL202 0 _ (by decide) (fun q => absurd q (by decide)) rfl
  have gL202_1 : cv_get L202 1 = some (cv_i A) := kL202 1 _ (by decide) (fun q => absurd q (by decide)) rfl
  have gL202_2 : cv_get L202 2 = some (cv_i B) := kL202 2 _ (by decide) (fun _ => rfl) rfl
  refine ex_il oq_X12_packed_2 gL202_1 ?_
  refine ex_iswA oq_X12_packed_3 (fun L203 gL203_4 kL203 => ?_)
  have gL203_3 : cv_get L203 3 = some (cv_i x201) := kL203 3 _ (by decide) (fun _ => rfl) gL202_3
  have gL203_0 : cv_get L203 0 = some (cv_r 111) := kL203 0 _ (by decide) (fun q => absurd q (by decide)) gL202_0
  have gL203_1 : cv_get L203 1 = some (cv_i A) := kL203 1 _ (by decide) (fun q => absurd q (by decide)) gL202_1
  have gL203_2 : cv_get L203 2 = some (cv_i B) := kL203 2 _ (by decide) (fun q => absurd q (by decide)) gL202_2
  exact rt_packedL ht hT hn9 hA hB hab hbn hl hQ 6 0 L203 x201 A (by omega) (by omega) (by omega) (by show _ = (0 : Int); omega) gL203_0 gL203_1 gL203_2 gL203_3 gL203_4
set_option maxHeartbeats 4000000 in
theorem rt_sign60 {h0 : cv_H} {n a : Nat} (ht : ∀ i, i < n → t i = ri_at h0 112 i) (hT : cw_T G h0) (hn9 : n ≤ 900) (han : a < n) (hs : ri_at h0 111 6 = n) (hx : ri_at h0 111 7 = a) (hQ : ∀ h', cw_T G h' → cw_Fr cw_Ds cw_sh kk_X12_signToken.2.2.2.2.2.1 h0 h' → ri_at h' 111 6 = n → ri_at h' 111 10 = ri_at h0 111 10 → ri_at h' 111 7 = (tz_s t n a).2.2 → ri_at h' 111 8 = (tz_s t n a).1 → ((tz_s t n a).1 ≠ 6 → ri_at h' 111 9 = (tz_s t n a).2.1) → Q (none, h')) (q60 : ri_at h0 112 a = 60) : cw_X X 164 Q 0 (cv_ent 0 [cv_r 111]) [] h0 := by
  have Fh0 : cw_Fr cw_Ds cw_sh kk_X12_signToken.2.2.2.2.2.1 h0 h0 := cw_Fr_refl
  have hA : ∀ h, cw_Fr cw_Ds cw_sh kk_X12_signToken.2.2.2.2.2.1 h0 h → ∀ i, ri_at h 112 i = ri_at h0 112 i := fun h F i => ri_frr F (k := 112) (d := 51) rfl rfl (by decide +kernel)
  have hta := ht a han
  refine ex_al oq_X12_signToken_0 rfl ?_
  refine ex_al oq_X12_signToken_1 rfl ?_
  refine ex_gf oq_X12_signToken_2 hT (k := 111) (d := 12) rfl rfl (fr_tape hT) ?_
  refine ex_al oq_X12_signToken_5 rfl ?_
  obtain ⟨x401, ax401, rx401, lx401, ux401⟩ := fi_next hT
  refine ex_gf oq_X12_signToken_6 hT (k := 111) (d := 12) rfl rfl ax401 ?_
  refine ex_ia1 oq_X12_signToken_9 hT (k := 112) (d := 51) (j := a) rfl rfl (by omega) (by omega) (fun x402 hx402 lx402 ux402 => ?_)
  have tx402 : t (a) = x402.toInt := by rw [ht (a) (by omega), ← hA _ Fh0, hx402]
  refine ex_pfi oq_X12_signToken_10 hT (k := 111) (d := 12) rfl rfl rfl (cw_i32 _).1 (cw_i32 _).2 (fun h403 Th403 wh403 => ?_)
  have Fh403 : cw_Fr cw_Ds cw_sh kk_X12_signToken.2.2.2.2.2.1 h0 h403 := cw_Fr_tr Fh0 (cw_Fr_wrf wh403 (k := 111) (d := 12) rfl rfl (by decide +kernel))
  have eh403_6 : ri_at h403 111 6 = ri_at h0 111 6 := ri_ne wh403 (by decide)
  have eh403_7 : ri_at h403 111 7 = ri_at h0 111 7 := ri_ne wh403 (by decide)
  have eh403_8 : ri_at h403 111 8 = ri_at h0 111 8 := ri_ne wh403 (by decide)
  have eh403_9 : ri_at h403 111 9 = x402.toInt := ri_self wh403
  have eh403_10 : ri_at h403 111 10 = ri_at h0 111 10 := ri_ne wh403 (by decide)
  refine ex_al oq_X12_signToken_13 rfl ?_
  refine ex_dup oq_X12_signToken_14 rfl ?_
  obtain ⟨x404, ax404, rx404, lx404, ux404⟩ := fi_next Th403
  refine ex_gf oq_X12_signToken_15 Th403 (k := 111) (d := 12) rfl rfl ax404 ?_
  refine ex_ic oq_X12_signToken_18 (m := 1) (by decide) (fun x405 hx405 => ?_)
  refine ex_add oq_X12_signToken_19 (by omega) (fun x406 hx406 => ?_)
  refine ex_pfi oq_X12_signToken_20 Th403 (k := 111) (d := 12) rfl rfl rfl (by omega) (by omega) (fun h407 Th407 wh407 => ?_)
  have Fh407 : cw_Fr cw_Ds cw_sh kk_X12_signToken.2.2.2.2.2.1 h0 h407 := cw_Fr_tr Fh403 (cw_Fr_wrf wh407 (k := 111) (d := 12) rfl rfl (by decide +kernel))
  have eh407_6 : ri_at h407 111 6 = ri_at h403 111 6 := ri_ne wh407 (by decide)
  have eh407_7 : ri_at h407 111 7 = x406.toInt := ri_self wh407
  have eh407_8 : ri_at h407 111 8 = ri_at h403 111 8 := ri_ne wh407 (by decide)
  have eh407_9 : ri_at h407 111 9 = ri_at h403 111 9 := ri_ne wh407 (by decide)
  have eh407_10 : ri_at h407 111 10 = ri_at h403 111 10 := ri_ne wh407 (by decide)
  refine ex_al oq_X12_signToken_23 rfl ?_
  obtain ⟨x408, ax408, rx408, lx408, ux408⟩ := fi_which Th407
  refine ex_gf oq_X12_signToken_24 Th407 (k := 111) (d := 12) rfl rfl ax408 ?_
  refine ex_bi oq_X12_signToken_27 (m := 60) (by decide) (fun x409 hx409 => ?_)
  refine ex_if oq_X12_signToken_29 (t := 50) rfl rfl (fun (c410 : x408.toInt = x409.toInt) => ?_) (fun (c410 : ¬ (x408.toInt = x409.toInt)) => ?_)
  · refine ex_al oq_X12_signToken_50 rfl ?_
    obtain ⟨x411, ax411, rx411, lx411, ux411⟩ := fi_next Th407
    refine ex_gf oq_X12_signToken_51 Th407 (k := 111) (d := 12) rfl rfl ax411 ?_
    refine ex_al oq_X12_signToken_54 rfl ?_
    obtain ⟨x412, ax412, rx412, lx412, ux412⟩ := fi_stop Th407
    refine ex_gf oq_X12_signToken_55 Th407 (k := 111) (d := 12) rfl rfl ax412 ?_
    refine ex_if oq_X12_signToken_58 (t := 73) rfl rfl (fun (c413 : x412.toInt ≤ x411.toInt) => ?_) (fun (c413 : ¬ (x412.toInt ≤ x411.toInt)) => ?_)
    · refine ex_ic oq_X12_signToken_73 (m := 0) (by decide) (fun x414 hx414 => ?_)
      refine ex_isA oq_X12_signToken_74 (fun L415 gL415_1 kL415 => ?_)
      have gL415_0 : cv_get L415 0 = some (cv_r 111) := kL415 0 _ (by decide) (fun _ => rfl) rfl
      refine ex_al oq_X12_signToken_75 gL415_0 ?_
      obtain ⟨x416, ax416, rx416, lx416, ux416⟩ := fi_which Th407
      refine ex_gf oq_X12_signToken_76 Th407 (k := 111) (d := 12) rfl rfl ax416 ?_
      refine ex_bi oq_X12_signToken_79 (m := 61) (by decide) (fun x417 hx417 => ?_)
      refine ex_if oq_X12_signToken_81 (t := 94) rfl rfl (fun (c418 : x416.toInt = x417.toInt) => ?_) (fun (c418 : ¬ (x416.toInt = x417.toInt)) => ?_)
      · exfalso; omega
      · refine ex_il oq_X12_signToken_84 gL415_1 ?_
        refine ex_bi oq_X12_signToken_85 (m := 61) (by decide) (fun x419 hx419 => ?_)
        refine ex_if oq_X12_signToken_87 (t := 94) rfl rfl (fun (c420 : ¬ x414.toInt = x419.toInt) => ?_) (fun (c420 : ¬ (¬ x414.toInt = x419.toInt)) => ?_)
        · refine ex_ic oq_X12_signToken_94 (m := 0) (by decide) (fun x421 hx421 => ?_)
          refine ex_isA oq_X12_signToken_95 (fun L422 gL422_2 kL422 => ?_)
          have gL422_1 : cv_get L422 1 = some (cv_i x414) := kL422 1 _ (by decide) (fun _ => rfl) gL415_1
          have gL422_0 : cv_get L422 0 = some (cv_r 111) := kL422 0 _ (by decide) (fun q => absurd q (by decide)) gL415_0
          refine ex_al oq_X12_signToken_96 gL422_0 ?_
          obtain ⟨x423, ax423, rx423, lx423, ux423⟩ := fi_which Th407
          refine ex_gf oq_X12_signToken_97 Th407 (k := 111) (d := 12) rfl rfl ax423 ?_
          refine ex_bi oq_X12_signToken_100 (m := 60) (by decide) (fun x424 hx424 => ?_)
          refine ex_if oq_X12_signToken_102 (t := 115) rfl rfl (fun (c425 : ¬ x423.toInt = x424.toInt) => ?_) (fun (c425 : ¬ (¬ x423.toInt = x424.toInt)) => ?_)
          · exfalso; omega
          · refine ex_il oq_X12_signToken_105 gL422_1 ?_
            refine ex_bi oq_X12_signToken_106 (m := 62) (by decide) (fun x426 hx426 => ?_)
            refine ex_if oq_X12_signToken_108 (t := 115) rfl rfl (fun (c427 : ¬ x414.toInt = x426.toInt) => ?_) (fun (c427 : ¬ (¬ x414.toInt = x426.toInt)) => ?_)
            · refine ex_ic oq_X12_signToken_115 (m := 0) (by decide) (fun x428 hx428 => ?_)
              refine ex_isA oq_X12_signToken_116 (fun L429 gL429_3 kL429 => ?_)
              have gL429_2 : cv_get L429 2 = some (cv_i x421) := kL429 2 _ (by decide) (fun _ => rfl) gL422_2
              have gL429_1 : cv_get L429 1 = some (cv_i x414) := kL429 1 _ (by decide) (fun q => absurd q (by decide)) gL422_1
              have gL429_0 : cv_get L429 0 = some (cv_r 111) := kL429 0 _ (by decide) (fun q => absurd q (by decide)) gL422_0
              refine ex_il oq_X12_signToken_117 gL429_2 ?_
              refine ex_if0 oq_X12_signToken_118 (t := 125) rfl rfl (fun (c430 : ¬ x421.toInt = 0) => ?_) (fun (c430 : ¬ (¬ x421.toInt = 0)) => ?_)
              · exfalso; omega
              · refine ex_il oq_X12_signToken_121 gL429_3 ?_
                refine ex_if0 oq_X12_signToken_122 (t := 135) rfl rfl (fun (c431 : x428.toInt = 0) => ?_) (fun (c431 : ¬ (x428.toInt = 0)) => ?_)
                · refine ex_al oq_X12_signToken_135 gL429_0 ?_
                  refine ex_ic oq_X12_signToken_136 (m := 5) (by decide) (fun x432 hx432 => ?_)
                  refine ex_pfi oq_X12_signToken_137 Th407 (k := 111) (d := 12) rfl rfl rfl (by omega) (by omega) (fun h433 Th433 wh433 => ?_)
                  have Fh433 : cw_Fr cw_Ds cw_sh kk_X12_signToken.2.2.2.2.2.1 h0 h433 := cw_Fr_tr Fh407 (cw_Fr_wrf wh433 (k := 111) (d := 12) rfl rfl (by decide +kernel))
                  have eh433_6 : ri_at h433 111 6 = ri_at h407 111 6 := ri_ne wh433 (by decide)
                  have eh433_7 : ri_at h433 111 7 = ri_at h407 111 7 := ri_ne wh433 (by decide)
                  have eh433_8 : ri_at h433 111 8 = x432.toInt := ri_self wh433
                  have eh433_9 : ri_at h433 111 9 = ri_at h407 111 9 := ri_ne wh433 (by decide)
                  have eh433_10 : ri_at h433 111 10 = ri_at h407 111 10 := ri_ne wh433 (by decide)
                  refine ex_al oq_X12_signToken_140 gL429_0 ?_
                  refine ex_al oq_X12_signToken_141 gL429_0 ?_
                  obtain ⟨x434, ax434, rx434, lx434, ux434⟩ := fi_which Th433
                  refine ex_gf oq_X12_signToken_142 Th433 (k := 111) (d := 12) rfl rfl ax434 ?_
                  refine ex_bi oq_X12_signToken_145 (m := 61) (by decide) (fun x435 hx435 => ?_)
                  refine ex_if oq_X12_signToken_147 (t := 154) rfl rfl (fun (c436 : ¬ x434.toInt = x435.toInt) => ?_) (fun (c436 : ¬ (¬ x434.toInt = x435.toInt)) => ?_)
                  · refine ex_al oq_X12_signToken_154 gL429_0 ?_
                    obtain ⟨x437, ax437, rx437, lx437, ux437⟩ := fi_which Th433
                    refine ex_gf oq_X12_signToken_155 Th433 (k := 111) (d := 12) rfl rfl ax437 ?_
                    refine ex_bi oq_X12_signToken_158 (m := 60) (by decide) (fun x438 hx438 => ?_)
                    refine ex_if oq_X12_signToken_160 (t := 183) rfl rfl (fun (c439 : ¬ x437.toInt = x438.toInt) => ?_) (fun (c439 : ¬ (¬ x437.toInt = x438.toInt)) => ?_)
                    · exfalso; omega
                    · refine ex_il oq_X12_signToken_163 gL429_2 ?_
                      refine ex_if0 oq_X12_signToken_164 (t := 171) rfl rfl (fun (c440 : x421.toInt = 0) => ?_) (fun (c440 : ¬ (x421.toInt = 0)) => ?_)
                      · refine ex_il oq_X12_signToken_171 gL429_3 ?_
                        refine ex_if0 oq_X12_signToken_172 (t := 179) rfl rfl (fun (c441 : x428.toInt = 0) => ?_) (fun (c441 : ¬ (x428.toInt = 0)) => ?_)
                        · refine ex_ic oq_X12_signToken_179 (m := 0) (by decide) (fun x442 hx442 => ?_)
                          refine ex_go oq_X12_signToken_180 (t := 192) rfl rfl ?_
                          refine ex_pfi oq_X12_signToken_192 Th433 (k := 111) (d := 12) rfl rfl rfl (cw_i32 _).1 (cw_i32 _).2 (fun h443 Th443 wh443 => ?_)
                          have Fh443 : cw_Fr cw_Ds cw_sh kk_X12_signToken.2.2.2.2.2.1 h0 h443 := cw_Fr_tr Fh433 (cw_Fr_wrf wh443 (k := 111) (d := 12) rfl rfl (by decide +kernel))
                          have eh443_6 : ri_at h443 111 6 = ri_at h433 111 6 := ri_ne wh443 (by decide)
                          have eh443_7 : ri_at h443 111 7 = ri_at h433 111 7 := ri_ne wh443 (by decide)
                          have eh443_8 : ri_at h443 111 8 = ri_at h433 111 8 := ri_ne wh443 (by decide)
                          have eh443_9 : ri_at h443 111 9 = x442.toInt := ri_self wh443
                          have eh443_10 : ri_at h443 111 10 = ri_at h433 111 10 := ri_ne wh443 (by decide)
                          refine ex_go oq_X12_signToken_195 (t := 281) rfl rfl ?_
                          first | (exfalso; omega) | exact ex_retv oq_X12_signToken_281 rfl (hQ h443 Th443 Fh443 (by omega) (by omega) (by rw [tz_s4 (by omega) (by omega) (by omega)]; dsimp only; omega) (by rw [tz_s4 (by omega) (by omega) (by omega)]; dsimp only; omega) (by rw [tz_s4 (by omega) (by omega) (by omega)]; dsimp only; omega))
                        · exfalso; omega
                      · exfalso; omega
                  · exfalso; omega
                · exfalso; omega
            · exfalso; omega
        · exfalso; omega
    · refine ex_al oq_X12_signToken_61 rfl ?_
      refine ex_gf oq_X12_signToken_62 Th407 (k := 111) (d := 12) rfl rfl (fr_tape Th407) ?_
      refine ex_al oq_X12_signToken_65 rfl ?_
      obtain ⟨x444, ax444, rx444, lx444, ux444⟩ := fi_next Th407
      refine ex_gf oq_X12_signToken_66 Th407 (k := 111) (d := 12) rfl rfl ax444 ?_
      refine ex_ia1 oq_X12_signToken_69 Th407 (k := 112) (d := 51) (j := a + 1) rfl rfl (by omega) (by omega) (fun x445 hx445 lx445 ux445 => ?_)
      have tx445 : t (a + 1) = x445.toInt := by rw [ht (a + 1) (by omega), ← hA _ Fh407, hx445]
      refine ex_go oq_X12_signToken_70 (t := 74) rfl rfl ?_
      refine ex_isA oq_X12_signToken_74 (fun L446 gL446_1 kL446 => ?_)
      have gL446_0 : cv_get L446 0 = some (cv_r 111) := kL446 0 _ (by decide) (fun _ => rfl) rfl
      refine ex_al oq_X12_signToken_75 gL446_0 ?_
      obtain ⟨x447, ax447, rx447, lx447, ux447⟩ := fi_which Th407
      refine ex_gf oq_X12_signToken_76 Th407 (k := 111) (d := 12) rfl rfl ax447 ?_
      refine ex_bi oq_X12_signToken_79 (m := 61) (by decide) (fun x448 hx448 => ?_)
      refine ex_if oq_X12_signToken_81 (t := 94) rfl rfl (fun (c449 : x447.toInt = x448.toInt) => ?_) (fun (c449 : ¬ (x447.toInt = x448.toInt)) => ?_)
      · exfalso; omega
      · refine ex_il oq_X12_signToken_84 gL446_1 ?_
        refine ex_bi oq_X12_signToken_85 (m := 61) (by decide) (fun x450 hx450 => ?_)
        refine ex_if oq_X12_signToken_87 (t := 94) rfl rfl (fun (c451 : ¬ x445.toInt = x450.toInt) => ?_) (fun (c451 : ¬ (¬ x445.toInt = x450.toInt)) => ?_)
        · refine ex_ic oq_X12_signToken_94 (m := 0) (by decide) (fun x452 hx452 => ?_)
          refine ex_isA oq_X12_signToken_95 (fun L453 gL453_2 kL453 => ?_)
          have gL453_1 : cv_get L453 1 = some (cv_i x445) := kL453 1 _ (by decide) (fun _ => rfl) gL446_1
          have gL453_0 : cv_get L453 0 = some (cv_r 111) := kL453 0 _ (by decide) (fun q => absurd q (by decide)) gL446_0
          refine ex_al oq_X12_signToken_96 gL453_0 ?_
          obtain ⟨x454, ax454, rx454, lx454, ux454⟩ := fi_which Th407
          refine ex_gf oq_X12_signToken_97 Th407 (k := 111) (d := 12) rfl rfl ax454 ?_
          refine ex_bi oq_X12_signToken_100 (m := 60) (by decide) (fun x455 hx455 => ?_)
          refine ex_if oq_X12_signToken_102 (t := 115) rfl rfl (fun (c456 : ¬ x454.toInt = x455.toInt) => ?_) (fun (c456 : ¬ (¬ x454.toInt = x455.toInt)) => ?_)
          · exfalso; omega
          · refine ex_il oq_X12_signToken_105 gL453_1 ?_
            refine ex_bi oq_X12_signToken_106 (m := 62) (by decide) (fun x457 hx457 => ?_)
            refine ex_if oq_X12_signToken_108 (t := 115) rfl rfl (fun (c458 : ¬ x445.toInt = x457.toInt) => ?_) (fun (c458 : ¬ (¬ x445.toInt = x457.toInt)) => ?_)
            · refine ex_ic oq_X12_signToken_115 (m := 0) (by decide) (fun x459 hx459 => ?_)
              refine ex_isA oq_X12_signToken_116 (fun L460 gL460_3 kL460 => ?_)
              have gL460_2 : cv_get L460 2 = some (cv_i x452) := kL460 2 _ (by decide) (fun _ => rfl) gL453_2
              have gL460_1 : cv_get L460 1 = some (cv_i x445) := kL460 1 _ (by decide) (fun q => absurd q (by decide)) gL453_1
              have gL460_0 : cv_get L460 0 = some (cv_r 111) := kL460 0 _ (by decide) (fun q => absurd q (by decide)) gL453_0
              refine ex_il oq_X12_signToken_117 gL460_2 ?_
              refine ex_if0 oq_X12_signToken_118 (t := 125) rfl rfl (fun (c461 : ¬ x452.toInt = 0) => ?_) (fun (c461 : ¬ (¬ x452.toInt = 0)) => ?_)
              · exfalso; omega
              · refine ex_il oq_X12_signToken_121 gL460_3 ?_
                refine ex_if0 oq_X12_signToken_122 (t := 135) rfl rfl (fun (c462 : x459.toInt = 0) => ?_) (fun (c462 : ¬ (x459.toInt = 0)) => ?_)
                · refine ex_al oq_X12_signToken_135 gL460_0 ?_
                  refine ex_ic oq_X12_signToken_136 (m := 5) (by decide) (fun x463 hx463 => ?_)
                  refine ex_pfi oq_X12_signToken_137 Th407 (k := 111) (d := 12) rfl rfl rfl (by omega) (by omega) (fun h464 Th464 wh464 => ?_)
                  have Fh464 : cw_Fr cw_Ds cw_sh kk_X12_signToken.2.2.2.2.2.1 h0 h464 := cw_Fr_tr Fh407 (cw_Fr_wrf wh464 (k := 111) (d := 12) rfl rfl (by decide +kernel))
                  have eh464_6 : ri_at h464 111 6 = ri_at h407 111 6 := ri_ne wh464 (by decide)
                  have eh464_7 : ri_at h464 111 7 = ri_at h407 111 7 := ri_ne wh464 (by decide)
                  have eh464_8 : ri_at h464 111 8 = x463.toInt := ri_self wh464
                  have eh464_9 : ri_at h464 111 9 = ri_at h407 111 9 := ri_ne wh464 (by decide)
                  have eh464_10 : ri_at h464 111 10 = ri_at h407 111 10 := ri_ne wh464 (by decide)
                  refine ex_al oq_X12_signToken_140 gL460_0 ?_
                  refine ex_al oq_X12_signToken_141 gL460_0 ?_
                  obtain ⟨x465, ax465, rx465, lx465, ux465⟩ := fi_which Th464
                  refine ex_gf oq_X12_signToken_142 Th464 (k := 111) (d := 12) rfl rfl ax465 ?_
                  refine ex_bi oq_X12_signToken_145 (m := 61) (by decide) (fun x466 hx466 => ?_)
                  refine ex_if oq_X12_signToken_147 (t := 154) rfl rfl (fun (c467 : ¬ x465.toInt = x466.toInt) => ?_) (fun (c467 : ¬ (¬ x465.toInt = x466.toInt)) => ?_)
                  · refine ex_al oq_X12_signToken_154 gL460_0 ?_
                    obtain ⟨x468, ax468, rx468, lx468, ux468⟩ := fi_which Th464
                    refine ex_gf oq_X12_signToken_155 Th464 (k := 111) (d := 12) rfl rfl ax468 ?_
                    refine ex_bi oq_X12_signToken_158 (m := 60) (by decide) (fun x469 hx469 => ?_)
                    refine ex_if oq_X12_signToken_160 (t := 183) rfl rfl (fun (c470 : ¬ x468.toInt = x469.toInt) => ?_) (fun (c470 : ¬ (¬ x468.toInt = x469.toInt)) => ?_)
                    · exfalso; omega
                    · refine ex_il oq_X12_signToken_163 gL460_2 ?_
                      refine ex_if0 oq_X12_signToken_164 (t := 171) rfl rfl (fun (c471 : x452.toInt = 0) => ?_) (fun (c471 : ¬ (x452.toInt = 0)) => ?_)
                      · refine ex_il oq_X12_signToken_171 gL460_3 ?_
                        refine ex_if0 oq_X12_signToken_172 (t := 179) rfl rfl (fun (c472 : x459.toInt = 0) => ?_) (fun (c472 : ¬ (x459.toInt = 0)) => ?_)
                        · refine ex_ic oq_X12_signToken_179 (m := 0) (by decide) (fun x473 hx473 => ?_)
                          refine ex_go oq_X12_signToken_180 (t := 192) rfl rfl ?_
                          refine ex_pfi oq_X12_signToken_192 Th464 (k := 111) (d := 12) rfl rfl rfl (cw_i32 _).1 (cw_i32 _).2 (fun h474 Th474 wh474 => ?_)
                          have Fh474 : cw_Fr cw_Ds cw_sh kk_X12_signToken.2.2.2.2.2.1 h0 h474 := cw_Fr_tr Fh464 (cw_Fr_wrf wh474 (k := 111) (d := 12) rfl rfl (by decide +kernel))
                          have eh474_6 : ri_at h474 111 6 = ri_at h464 111 6 := ri_ne wh474 (by decide)
                          have eh474_7 : ri_at h474 111 7 = ri_at h464 111 7 := ri_ne wh474 (by decide)
                          have eh474_8 : ri_at h474 111 8 = ri_at h464 111 8 := ri_ne wh474 (by decide)
                          have eh474_9 : ri_at h474 111 9 = x473.toInt := ri_self wh474
                          have eh474_10 : ri_at h474 111 10 = ri_at h464 111 10 := ri_ne wh474 (by decide)
                          refine ex_go oq_X12_signToken_195 (t := 281) rfl rfl ?_
                          first | (exfalso; omega) | exact ex_retv oq_X12_signToken_281 rfl (hQ h474 Th474 Fh474 (by omega) (by omega) (by rw [tz_s4 (by omega) (by omega) (by omega)]; dsimp only; omega) (by rw [tz_s4 (by omega) (by omega) (by omega)]; dsimp only; omega) (by rw [tz_s4 (by omega) (by omega) (by omega)]; dsimp only; omega))
                        · exfalso; omega
                      · exfalso; omega
                  · exfalso; omega
                · exfalso; omega
            · refine ex_ic oq_X12_signToken_111 (m := 1) (by decide) (fun x475 hx475 => ?_)
              refine ex_go oq_X12_signToken_112 (t := 116) rfl rfl ?_
              refine ex_isA oq_X12_signToken_116 (fun L476 gL476_3 kL476 => ?_)
              have gL476_2 : cv_get L476 2 = some (cv_i x452) := kL476 2 _ (by decide) (fun _ => rfl) gL453_2
              have gL476_1 : cv_get L476 1 = some (cv_i x445) := kL476 1 _ (by decide) (fun q => absurd q (by decide)) gL453_1
              have gL476_0 : cv_get L476 0 = some (cv_r 111) := kL476 0 _ (by decide) (fun q => absurd q (by decide)) gL453_0
              refine ex_il oq_X12_signToken_117 gL476_2 ?_
              refine ex_if0 oq_X12_signToken_118 (t := 125) rfl rfl (fun (c477 : ¬ x452.toInt = 0) => ?_) (fun (c477 : ¬ (¬ x452.toInt = 0)) => ?_)
              · exfalso; omega
              · refine ex_il oq_X12_signToken_121 gL476_3 ?_
                refine ex_if0 oq_X12_signToken_122 (t := 135) rfl rfl (fun (c478 : x475.toInt = 0) => ?_) (fun (c478 : ¬ (x475.toInt = 0)) => ?_)
                · exfalso; omega
                · refine ex_al oq_X12_signToken_125 gL476_0 ?_
                  refine ex_dup oq_X12_signToken_126 rfl ?_
                  obtain ⟨x479, ax479, rx479, lx479, ux479⟩ := fi_next Th407
                  refine ex_gf oq_X12_signToken_127 Th407 (k := 111) (d := 12) rfl rfl ax479 ?_
                  refine ex_ic oq_X12_signToken_130 (m := 1) (by decide) (fun x480 hx480 => ?_)
                  refine ex_add oq_X12_signToken_131 (by omega) (fun x481 hx481 => ?_)
                  refine ex_pfi oq_X12_signToken_132 Th407 (k := 111) (d := 12) rfl rfl rfl (by omega) (by omega) (fun h482 Th482 wh482 => ?_)
                  have Fh482 : cw_Fr cw_Ds cw_sh kk_X12_signToken.2.2.2.2.2.1 h0 h482 := cw_Fr_tr Fh407 (cw_Fr_wrf wh482 (k := 111) (d := 12) rfl rfl (by decide +kernel))
                  have eh482_6 : ri_at h482 111 6 = ri_at h407 111 6 := ri_ne wh482 (by decide)
                  have eh482_7 : ri_at h482 111 7 = x481.toInt := ri_self wh482
                  have eh482_8 : ri_at h482 111 8 = ri_at h407 111 8 := ri_ne wh482 (by decide)
                  have eh482_9 : ri_at h482 111 9 = ri_at h407 111 9 := ri_ne wh482 (by decide)
                  have eh482_10 : ri_at h482 111 10 = ri_at h407 111 10 := ri_ne wh482 (by decide)
                  refine ex_al oq_X12_signToken_135 gL476_0 ?_
                  refine ex_ic oq_X12_signToken_136 (m := 5) (by decide) (fun x483 hx483 => ?_)
                  refine ex_pfi oq_X12_signToken_137 Th482 (k := 111) (d := 12) rfl rfl rfl (by omega) (by omega) (fun h484 Th484 wh484 => ?_)
                  have Fh484 : cw_Fr cw_Ds cw_sh kk_X12_signToken.2.2.2.2.2.1 h0 h484 := cw_Fr_tr Fh482 (cw_Fr_wrf wh484 (k := 111) (d := 12) rfl rfl (by decide +kernel))
                  have eh484_6 : ri_at h484 111 6 = ri_at h482 111 6 := ri_ne wh484 (by decide)
                  have eh484_7 : ri_at h484 111 7 = ri_at h482 111 7 := ri_ne wh484 (by decide)
                  have eh484_8 : ri_at h484 111 8 = x483.toInt := ri_self wh484
                  have eh484_9 : ri_at h484 111 9 = ri_at h482 111 9 := ri_ne wh484 (by decide)
                  have eh484_10 : ri_at h484 111 10 = ri_at h482 111 10 := ri_ne wh484 (by decide)
                  refine ex_al oq_X12_signToken_140 gL476_0 ?_
                  refine ex_al oq_X12_signToken_141 gL476_0 ?_
                  obtain ⟨x485, ax485, rx485, lx485, ux485⟩ := fi_which Th484
                  refine ex_gf oq_X12_signToken_142 Th484 (k := 111) (d := 12) rfl rfl ax485 ?_
                  refine ex_bi oq_X12_signToken_145 (m := 61) (by decide) (fun x486 hx486 => ?_)
                  refine ex_if oq_X12_signToken_147 (t := 154) rfl rfl (fun (c487 : ¬ x485.toInt = x486.toInt) => ?_) (fun (c487 : ¬ (¬ x485.toInt = x486.toInt)) => ?_)
                  · refine ex_al oq_X12_signToken_154 gL476_0 ?_
                    obtain ⟨x488, ax488, rx488, lx488, ux488⟩ := fi_which Th484
                    refine ex_gf oq_X12_signToken_155 Th484 (k := 111) (d := 12) rfl rfl ax488 ?_
                    refine ex_bi oq_X12_signToken_158 (m := 60) (by decide) (fun x489 hx489 => ?_)
                    refine ex_if oq_X12_signToken_160 (t := 183) rfl rfl (fun (c490 : ¬ x488.toInt = x489.toInt) => ?_) (fun (c490 : ¬ (¬ x488.toInt = x489.toInt)) => ?_)
                    · exfalso; omega
                    · refine ex_il oq_X12_signToken_163 gL476_2 ?_
                      refine ex_if0 oq_X12_signToken_164 (t := 171) rfl rfl (fun (c491 : x452.toInt = 0) => ?_) (fun (c491 : ¬ (x452.toInt = 0)) => ?_)
                      · refine ex_il oq_X12_signToken_171 gL476_3 ?_
                        refine ex_if0 oq_X12_signToken_172 (t := 179) rfl rfl (fun (c492 : x475.toInt = 0) => ?_) (fun (c492 : ¬ (x475.toInt = 0)) => ?_)
                        · exfalso; omega
                        · refine ex_ic oq_X12_signToken_175 (m := 3) (by decide) (fun x493 hx493 => ?_)
                          refine ex_go oq_X12_signToken_176 (t := 192) rfl rfl ?_
                          refine ex_pfi oq_X12_signToken_192 Th484 (k := 111) (d := 12) rfl rfl rfl (cw_i32 _).1 (cw_i32 _).2 (fun h494 Th494 wh494 => ?_)
                          have Fh494 : cw_Fr cw_Ds cw_sh kk_X12_signToken.2.2.2.2.2.1 h0 h494 := cw_Fr_tr Fh484 (cw_Fr_wrf wh494 (k := 111) (d := 12) rfl rfl (by decide +kernel))
                          have eh494_6 : ri_at h494 111 6 = ri_at h484 111 6 := ri_ne wh494 (by decide)
                          have eh494_7 : ri_at h494 111 7 = ri_at h484 111 7 := ri_ne wh494 (by decide)
                          have eh494_8 : ri_at h494 111 8 = ri_at h484 111 8 := ri_ne wh494 (by decide)
                          have eh494_9 : ri_at h494 111 9 = x493.toInt := ri_self wh494
                          have eh494_10 : ri_at h494 111 10 = ri_at h484 111 10 := ri_ne wh494 (by decide)
                          refine ex_go oq_X12_signToken_195 (t := 281) rfl rfl ?_
                          first | (exfalso; omega) | exact ex_retv oq_X12_signToken_281 rfl (hQ h494 Th494 Fh494 (by omega) (by omega) (by rw [tz_s3 (by omega) (by omega)]; dsimp only; omega) (by rw [tz_s3 (by omega) (by omega)]; dsimp only; omega) (by rw [tz_s3 (by omega) (by omega)]; dsimp only; omega))
                      · exfalso; omega
                  · exfalso; omega
        · refine ex_ic oq_X12_signToken_90 (m := 1) (by decide) (fun x495 hx495 => ?_)
          refine ex_go oq_X12_signToken_91 (t := 95) rfl rfl ?_
          refine ex_isA oq_X12_signToken_95 (fun L496 gL496_2 kL496 => ?_)
          have gL496_1 : cv_get L496 1 = some (cv_i x445) := kL496 1 _ (by decide) (fun _ => rfl) gL446_1
          have gL496_0 : cv_get L496 0 = some (cv_r 111) := kL496 0 _ (by decide) (fun q => absurd q (by decide)) gL446_0
          refine ex_al oq_X12_signToken_96 gL496_0 ?_
          obtain ⟨x497, ax497, rx497, lx497, ux497⟩ := fi_which Th407
          refine ex_gf oq_X12_signToken_97 Th407 (k := 111) (d := 12) rfl rfl ax497 ?_
          refine ex_bi oq_X12_signToken_100 (m := 60) (by decide) (fun x498 hx498 => ?_)
          refine ex_if oq_X12_signToken_102 (t := 115) rfl rfl (fun (c499 : ¬ x497.toInt = x498.toInt) => ?_) (fun (c499 : ¬ (¬ x497.toInt = x498.toInt)) => ?_)
          · exfalso; omega
          · refine ex_il oq_X12_signToken_105 gL496_1 ?_
            refine ex_bi oq_X12_signToken_106 (m := 62) (by decide) (fun x500 hx500 => ?_)
            refine ex_if oq_X12_signToken_108 (t := 115) rfl rfl (fun (c501 : ¬ x445.toInt = x500.toInt) => ?_) (fun (c501 : ¬ (¬ x445.toInt = x500.toInt)) => ?_)
            · refine ex_ic oq_X12_signToken_115 (m := 0) (by decide) (fun x502 hx502 => ?_)
              refine ex_isA oq_X12_signToken_116 (fun L503 gL503_3 kL503 => ?_)
              have gL503_2 : cv_get L503 2 = some (cv_i x495) := kL503 2 _ (by decide) (fun _ => rfl) gL496_2
              have gL503_1 : cv_get L503 1 = some (cv_i x445) := kL503 1 _ (by decide) (fun q => absurd q (by decide)) gL496_1
              have gL503_0 : cv_get L503 0 = some (cv_r 111) := kL503 0 _ (by decide) (fun q => absurd q (by decide)) gL496_0
              refine ex_il oq_X12_signToken_117 gL503_2 ?_
              refine ex_if0 oq_X12_signToken_118 (t := 125) rfl rfl (fun (c504 : ¬ x495.toInt = 0) => ?_) (fun (c504 : ¬ (¬ x495.toInt = 0)) => ?_)
              · refine ex_al oq_X12_signToken_125 gL503_0 ?_
                refine ex_dup oq_X12_signToken_126 rfl ?_
                obtain ⟨x505, ax505, rx505, lx505, ux505⟩ := fi_next Th407
                refine ex_gf oq_X12_signToken_127 Th407 (k := 111) (d := 12) rfl rfl ax505 ?_
                refine ex_ic oq_X12_signToken_130 (m := 1) (by decide) (fun x506 hx506 => ?_)
                refine ex_add oq_X12_signToken_131 (by omega) (fun x507 hx507 => ?_)
                refine ex_pfi oq_X12_signToken_132 Th407 (k := 111) (d := 12) rfl rfl rfl (by omega) (by omega) (fun h508 Th508 wh508 => ?_)
                have Fh508 : cw_Fr cw_Ds cw_sh kk_X12_signToken.2.2.2.2.2.1 h0 h508 := cw_Fr_tr Fh407 (cw_Fr_wrf wh508 (k := 111) (d := 12) rfl rfl (by decide +kernel))
                have eh508_6 : ri_at h508 111 6 = ri_at h407 111 6 := ri_ne wh508 (by decide)
                have eh508_7 : ri_at h508 111 7 = x507.toInt := ri_self wh508
                have eh508_8 : ri_at h508 111 8 = ri_at h407 111 8 := ri_ne wh508 (by decide)
                have eh508_9 : ri_at h508 111 9 = ri_at h407 111 9 := ri_ne wh508 (by decide)
                have eh508_10 : ri_at h508 111 10 = ri_at h407 111 10 := ri_ne wh508 (by decide)
                refine ex_al oq_X12_signToken_135 gL503_0 ?_
                refine ex_ic oq_X12_signToken_136 (m := 5) (by decide) (fun x509 hx509 => ?_)
                refine ex_pfi oq_X12_signToken_137 Th508 (k := 111) (d := 12) rfl rfl rfl (by omega) (by omega) (fun h510 Th510 wh510 => ?_)
                have Fh510 : cw_Fr cw_Ds cw_sh kk_X12_signToken.2.2.2.2.2.1 h0 h510 := cw_Fr_tr Fh508 (cw_Fr_wrf wh510 (k := 111) (d := 12) rfl rfl (by decide +kernel))
                have eh510_6 : ri_at h510 111 6 = ri_at h508 111 6 := ri_ne wh510 (by decide)
                have eh510_7 : ri_at h510 111 7 = ri_at h508 111 7 := ri_ne wh510 (by decide)
                have eh510_8 : ri_at h510 111 8 = x509.toInt := ri_self wh510
                have eh510_9 : ri_at h510 111 9 = ri_at h508 111 9 := ri_ne wh510 (by decide)
                have eh510_10 : ri_at h510 111 10 = ri_at h508 111 10 := ri_ne wh510 (by decide)
                refine ex_al oq_X12_signToken_140 gL503_0 ?_
                refine ex_al oq_X12_signToken_141 gL503_0 ?_
                obtain ⟨x511, ax511, rx511, lx511, ux511⟩ := fi_which Th510
                refine ex_gf oq_X12_signToken_142 Th510 (k := 111) (d := 12) rfl rfl ax511 ?_
                refine ex_bi oq_X12_signToken_145 (m := 61) (by decide) (fun x512 hx512 => ?_)
                refine ex_if oq_X12_signToken_147 (t := 154) rfl rfl (fun (c513 : ¬ x511.toInt = x512.toInt) => ?_) (fun (c513 : ¬ (¬ x511.toInt = x512.toInt)) => ?_)
                · refine ex_al oq_X12_signToken_154 gL503_0 ?_
                  obtain ⟨x514, ax514, rx514, lx514, ux514⟩ := fi_which Th510
                  refine ex_gf oq_X12_signToken_155 Th510 (k := 111) (d := 12) rfl rfl ax514 ?_
                  refine ex_bi oq_X12_signToken_158 (m := 60) (by decide) (fun x515 hx515 => ?_)
                  refine ex_if oq_X12_signToken_160 (t := 183) rfl rfl (fun (c516 : ¬ x514.toInt = x515.toInt) => ?_) (fun (c516 : ¬ (¬ x514.toInt = x515.toInt)) => ?_)
                  · exfalso; omega
                  · refine ex_il oq_X12_signToken_163 gL503_2 ?_
                    refine ex_if0 oq_X12_signToken_164 (t := 171) rfl rfl (fun (c517 : x495.toInt = 0) => ?_) (fun (c517 : ¬ (x495.toInt = 0)) => ?_)
                    · exfalso; omega
                    · refine ex_ic oq_X12_signToken_167 (m := 1) (by decide) (fun x518 hx518 => ?_)
                      refine ex_go oq_X12_signToken_168 (t := 192) rfl rfl ?_
                      refine ex_pfi oq_X12_signToken_192 Th510 (k := 111) (d := 12) rfl rfl rfl (cw_i32 _).1 (cw_i32 _).2 (fun h519 Th519 wh519 => ?_)
                      have Fh519 : cw_Fr cw_Ds cw_sh kk_X12_signToken.2.2.2.2.2.1 h0 h519 := cw_Fr_tr Fh510 (cw_Fr_wrf wh519 (k := 111) (d := 12) rfl rfl (by decide +kernel))
                      have eh519_6 : ri_at h519 111 6 = ri_at h510 111 6 := ri_ne wh519 (by decide)
                      have eh519_7 : ri_at h519 111 7 = ri_at h510 111 7 := ri_ne wh519 (by decide)
                      have eh519_8 : ri_at h519 111 8 = ri_at h510 111 8 := ri_ne wh519 (by decide)
                      have eh519_9 : ri_at h519 111 9 = x518.toInt := ri_self wh519
                      have eh519_10 : ri_at h519 111 10 = ri_at h510 111 10 := ri_ne wh519 (by decide)
                      refine ex_go oq_X12_signToken_195 (t := 281) rfl rfl ?_
                      first | (exfalso; omega) | exact ex_retv oq_X12_signToken_281 rfl (hQ h519 Th519 Fh519 (by omega) (by omega) (by rw [tz_s2 (by omega) (by omega)]; dsimp only; omega) (by rw [tz_s2 (by omega) (by omega)]; dsimp only; omega) (by rw [tz_s2 (by omega) (by omega)]; dsimp only; omega))
                · exfalso; omega
              · exfalso; omega
            · refine ex_ic oq_X12_signToken_111 (m := 1) (by decide) (fun x520 hx520 => ?_)
              refine ex_go oq_X12_signToken_112 (t := 116) rfl rfl ?_
              refine ex_isA oq_X12_signToken_116 (fun L521 gL521_3 kL521 => ?_)
              have gL521_2 : cv_get L521 2 = some (cv_i x495) := kL521 2 _ (by decide) (fun _ => rfl) gL496_2
              have gL521_1 : cv_get L521 1 = some (cv_i x445) := kL521 1 _ (by decide) (fun q => absurd q (by decide)) gL496_1
              have gL521_0 : cv_get L521 0 = some (cv_r 111) := kL521 0 _ (by decide) (fun q => absurd q (by decide)) gL496_0
              refine ex_il oq_X12_signToken_117 gL521_2 ?_
              refine ex_if0 oq_X12_signToken_118 (t := 125) rfl rfl (fun (c522 : ¬ x495.toInt = 0) => ?_) (fun (c522 : ¬ (¬ x495.toInt = 0)) => ?_)
              · refine ex_al oq_X12_signToken_125 gL521_0 ?_
                refine ex_dup oq_X12_signToken_126 rfl ?_
                obtain ⟨x523, ax523, rx523, lx523, ux523⟩ := fi_next Th407
                refine ex_gf oq_X12_signToken_127 Th407 (k := 111) (d := 12) rfl rfl ax523 ?_
                refine ex_ic oq_X12_signToken_130 (m := 1) (by decide) (fun x524 hx524 => ?_)
                refine ex_add oq_X12_signToken_131 (by omega) (fun x525 hx525 => ?_)
                refine ex_pfi oq_X12_signToken_132 Th407 (k := 111) (d := 12) rfl rfl rfl (by omega) (by omega) (fun h526 Th526 wh526 => ?_)
                have Fh526 : cw_Fr cw_Ds cw_sh kk_X12_signToken.2.2.2.2.2.1 h0 h526 := cw_Fr_tr Fh407 (cw_Fr_wrf wh526 (k := 111) (d := 12) rfl rfl (by decide +kernel))
                have eh526_6 : ri_at h526 111 6 = ri_at h407 111 6 := ri_ne wh526 (by decide)
                have eh526_7 : ri_at h526 111 7 = x525.toInt := ri_self wh526
                have eh526_8 : ri_at h526 111 8 = ri_at h407 111 8 := ri_ne wh526 (by decide)
                have eh526_9 : ri_at h526 111 9 = ri_at h407 111 9 := ri_ne wh526 (by decide)
                have eh526_10 : ri_at h526 111 10 = ri_at h407 111 10 := ri_ne wh526 (by decide)
                refine ex_al oq_X12_signToken_135 gL521_0 ?_
                refine ex_ic oq_X12_signToken_136 (m := 5) (by decide) (fun x527 hx527 => ?_)
                refine ex_pfi oq_X12_signToken_137 Th526 (k := 111) (d := 12) rfl rfl rfl (by omega) (by omega) (fun h528 Th528 wh528 => ?_)
                have Fh528 : cw_Fr cw_Ds cw_sh kk_X12_signToken.2.2.2.2.2.1 h0 h528 := cw_Fr_tr Fh526 (cw_Fr_wrf wh528 (k := 111) (d := 12) rfl rfl (by decide +kernel))
                have eh528_6 : ri_at h528 111 6 = ri_at h526 111 6 := ri_ne wh528 (by decide)
                have eh528_7 : ri_at h528 111 7 = ri_at h526 111 7 := ri_ne wh528 (by decide)
                have eh528_8 : ri_at h528 111 8 = x527.toInt := ri_self wh528
                have eh528_9 : ri_at h528 111 9 = ri_at h526 111 9 := ri_ne wh528 (by decide)
                have eh528_10 : ri_at h528 111 10 = ri_at h526 111 10 := ri_ne wh528 (by decide)
                refine ex_al oq_X12_signToken_140 gL521_0 ?_
                refine ex_al oq_X12_signToken_141 gL521_0 ?_
                obtain ⟨x529, ax529, rx529, lx529, ux529⟩ := fi_which Th528
                refine ex_gf oq_X12_signToken_142 Th528 (k := 111) (d := 12) rfl rfl ax529 ?_
                refine ex_bi oq_X12_signToken_145 (m := 61) (by decide) (fun x530 hx530 => ?_)
                refine ex_if oq_X12_signToken_147 (t := 154) rfl rfl (fun (c531 : ¬ x529.toInt = x530.toInt) => ?_) (fun (c531 : ¬ (¬ x529.toInt = x530.toInt)) => ?_)
                · refine ex_al oq_X12_signToken_154 gL521_0 ?_
                  obtain ⟨x532, ax532, rx532, lx532, ux532⟩ := fi_which Th528
                  refine ex_gf oq_X12_signToken_155 Th528 (k := 111) (d := 12) rfl rfl ax532 ?_
                  refine ex_bi oq_X12_signToken_158 (m := 60) (by decide) (fun x533 hx533 => ?_)
                  refine ex_if oq_X12_signToken_160 (t := 183) rfl rfl (fun (c534 : ¬ x532.toInt = x533.toInt) => ?_) (fun (c534 : ¬ (¬ x532.toInt = x533.toInt)) => ?_)
                  · exfalso; omega
                  · refine ex_il oq_X12_signToken_163 gL521_2 ?_
                    refine ex_if0 oq_X12_signToken_164 (t := 171) rfl rfl (fun (c535 : x495.toInt = 0) => ?_) (fun (c535 : ¬ (x495.toInt = 0)) => ?_)
                    · exfalso; omega
                    · refine ex_ic oq_X12_signToken_167 (m := 1) (by decide) (fun x536 hx536 => ?_)
                      refine ex_go oq_X12_signToken_168 (t := 192) rfl rfl ?_
                      refine ex_pfi oq_X12_signToken_192 Th528 (k := 111) (d := 12) rfl rfl rfl (cw_i32 _).1 (cw_i32 _).2 (fun h537 Th537 wh537 => ?_)
                      have Fh537 : cw_Fr cw_Ds cw_sh kk_X12_signToken.2.2.2.2.2.1 h0 h537 := cw_Fr_tr Fh528 (cw_Fr_wrf wh537 (k := 111) (d := 12) rfl rfl (by decide +kernel))
                      have eh537_6 : ri_at h537 111 6 = ri_at h528 111 6 := ri_ne wh537 (by decide)
                      have eh537_7 : ri_at h537 111 7 = ri_at h528 111 7 := ri_ne wh537 (by decide)
                      have eh537_8 : ri_at h537 111 8 = ri_at h528 111 8 := ri_ne wh537 (by decide)
                      have eh537_9 : ri_at h537 111 9 = x536.toInt := ri_self wh537
                      have eh537_10 : ri_at h537 111 10 = ri_at h528 111 10 := ri_ne wh537 (by decide)
                      refine ex_go oq_X12_signToken_195 (t := 281) rfl rfl ?_
                      first | (exfalso; omega) | exact ex_retv oq_X12_signToken_281 rfl (hQ h537 Th537 Fh537 (by omega) (by omega) (by rw [tz_s2 (by omega) (by omega)]; dsimp only; omega) (by rw [tz_s2 (by omega) (by omega)]; dsimp only; omega) (by rw [tz_s2 (by omega) (by omega)]; dsimp only; omega))
                · exfalso; omega
              · exfalso; omega
  · exfalso; omega
set_option maxHeartbeats 4000000 in
theorem rt_sign61 {h0 : cv_H} {n a : Nat} (ht : ∀ i, i < n → t i = ri_at h0 112 i) (hT : cw_T G h0) (hn9 : n ≤ 900) (han : a < n) (hs : ri_at h0 111 6 = n) (hx : ri_at h0 111 7 = a) (hQ : ∀ h', cw_T G h' → cw_Fr cw_Ds cw_sh kk_X12_signToken.2.2.2.2.2.1 h0 h' → ri_at h' 111 6 = n → ri_at h' 111 10 = ri_at h0 111 10 → ri_at h' 111 7 = (tz_s t n a).2.2 → ri_at h' 111 8 = (tz_s t n a).1 → ((tz_s t n a).1 ≠ 6 → ri_at h' 111 9 = (tz_s t n a).2.1) → Q (none, h')) (q61 : ri_at h0 112 a = 61) : cw_X X 164 Q 0 (cv_ent 0 [cv_r 111]) [] h0 := by
  have Fh0 : cw_Fr cw_Ds cw_sh kk_X12_signToken.2.2.2.2.2.1 h0 h0 := cw_Fr_refl
  have hA : ∀ h, cw_Fr cw_Ds cw_sh kk_X12_signToken.2.2.2.2.2.1 h0 h → ∀ i, ri_at h 112 i = ri_at h0 112 i := fun h F i => ri_frr F (k := 112) (d := 51) rfl rfl (by decide +kernel)
  have hta := ht a han
  refine ex_al oq_X12_signToken_0 rfl ?_
  refine ex_al oq_X12_signToken_1 rfl ?_
  refine ex_gf oq_X12_signToken_2 hT (k := 111) (d := 12) rfl rfl (fr_tape hT) ?_
  refine ex_al oq_X12_signToken_5 rfl ?_
  obtain ⟨x401, ax401, rx401, lx401, ux401⟩ := fi_next hT
  refine ex_gf oq_X12_signToken_6 hT (k := 111) (d := 12) rfl rfl ax401 ?_
  refine ex_ia1 oq_X12_signToken_9 hT (k := 112) (d := 51) (j := a) rfl rfl (by omega) (by omega) (fun x402 hx402 lx402 ux402 => ?_)
  have tx402 : t (a) = x402.toInt := by rw [ht (a) (by omega), ← hA _ Fh0, hx402]
  refine ex_pfi oq_X12_signToken_10 hT (k := 111) (d := 12) rfl rfl rfl (cw_i32 _).1 (cw_i32 _).2 (fun h403 Th403 wh403 => ?_)
  have Fh403 : cw_Fr cw_Ds cw_sh kk_X12_signToken.2.2.2.2.2.1 h0 h403 := cw_Fr_tr Fh0 (cw_Fr_wrf wh403 (k := 111) (d := 12) rfl rfl (by decide +kernel))
  have eh403_6 : ri_at h403 111 6 = ri_at h0 111 6 := ri_ne wh403 (by decide)
  have eh403_7 : ri_at h403 111 7 = ri_at h0 111 7 := ri_ne wh403 (by decide)
  have eh403_8 : ri_at h403 111 8 = ri_at h0 111 8 := ri_ne wh403 (by decide)
  have eh403_9 : ri_at h403 111 9 = x402.toInt := ri_self wh403
  have eh403_10 : ri_at h403 111 10 = ri_at h0 111 10 := ri_ne wh403 (by decide)
  refine ex_al oq_X12_signToken_13 rfl ?_
  refine ex_dup oq_X12_signToken_14 rfl ?_
  obtain ⟨x404, ax404, rx404, lx404, ux404⟩ := fi_next Th403
  refine ex_gf oq_X12_signToken_15 Th403 (k := 111) (d := 12) rfl rfl ax404 ?_
  refine ex_ic oq_X12_signToken_18 (m := 1) (by decide) (fun x405 hx405 => ?_)
  refine ex_add oq_X12_signToken_19 (by omega) (fun x406 hx406 => ?_)
  refine ex_pfi oq_X12_signToken_20 Th403 (k := 111) (d := 12) rfl rfl rfl (by omega) (by omega) (fun h407 Th407 wh407 => ?_)
  have Fh407 : cw_Fr cw_Ds cw_sh kk_X12_signToken.2.2.2.2.2.1 h0 h407 := cw_Fr_tr Fh403 (cw_Fr_wrf wh407 (k := 111) (d := 12) rfl rfl (by decide +kernel))
  have eh407_6 : ri_at h407 111 6 = ri_at h403 111 6 := ri_ne wh407 (by decide)
  have eh407_7 : ri_at h407 111 7 = x406.toInt := ri_self wh407
  have eh407_8 : ri_at h407 111 8 = ri_at h403 111 8 := ri_ne wh407 (by decide)
  have eh407_9 : ri_at h407 111 9 = ri_at h403 111 9 := ri_ne wh407 (by decide)
  have eh407_10 : ri_at h407 111 10 = ri_at h403 111 10 := ri_ne wh407 (by decide)
  refine ex_al oq_X12_signToken_23 rfl ?_
  obtain ⟨x408, ax408, rx408, lx408, ux408⟩ := fi_which Th407
  refine ex_gf oq_X12_signToken_24 Th407 (k := 111) (d := 12) rfl rfl ax408 ?_
  refine ex_bi oq_X12_signToken_27 (m := 60) (by decide) (fun x409 hx409 => ?_)
  refine ex_if oq_X12_signToken_29 (t := 50) rfl rfl (fun (c410 : x408.toInt = x409.toInt) => ?_) (fun (c410 : ¬ (x408.toInt = x409.toInt)) => ?_)
  · exfalso; omega
  · refine ex_al oq_X12_signToken_32 rfl ?_
    obtain ⟨x411, ax411, rx411, lx411, ux411⟩ := fi_which Th407
    refine ex_gf oq_X12_signToken_33 Th407 (k := 111) (d := 12) rfl rfl ax411 ?_
    refine ex_bi oq_X12_signToken_36 (m := 62) (by decide) (fun x412 hx412 => ?_)
    refine ex_if oq_X12_signToken_38 (t := 50) rfl rfl (fun (c413 : x411.toInt = x412.toInt) => ?_) (fun (c413 : ¬ (x411.toInt = x412.toInt)) => ?_)
    · exfalso; omega
    · refine ex_al oq_X12_signToken_41 rfl ?_
      obtain ⟨x414, ax414, rx414, lx414, ux414⟩ := fi_which Th407
      refine ex_gf oq_X12_signToken_42 Th407 (k := 111) (d := 12) rfl rfl ax414 ?_
      refine ex_bi oq_X12_signToken_45 (m := 61) (by decide) (fun x415 hx415 => ?_)
      refine ex_if oq_X12_signToken_47 (t := 198) rfl rfl (fun (c416 : ¬ x414.toInt = x415.toInt) => ?_) (fun (c416 : ¬ (¬ x414.toInt = x415.toInt)) => ?_)
      · exfalso; omega
      · refine ex_al oq_X12_signToken_50 rfl ?_
        obtain ⟨x417, ax417, rx417, lx417, ux417⟩ := fi_next Th407
        refine ex_gf oq_X12_signToken_51 Th407 (k := 111) (d := 12) rfl rfl ax417 ?_
        refine ex_al oq_X12_signToken_54 rfl ?_
        obtain ⟨x418, ax418, rx418, lx418, ux418⟩ := fi_stop Th407
        refine ex_gf oq_X12_signToken_55 Th407 (k := 111) (d := 12) rfl rfl ax418 ?_
        refine ex_if oq_X12_signToken_58 (t := 73) rfl rfl (fun (c419 : x418.toInt ≤ x417.toInt) => ?_) (fun (c419 : ¬ (x418.toInt ≤ x417.toInt)) => ?_)
        · refine ex_ic oq_X12_signToken_73 (m := 0) (by decide) (fun x420 hx420 => ?_)
          refine ex_isA oq_X12_signToken_74 (fun L421 gL421_1 kL421 => ?_)
          have gL421_0 : cv_get L421 0 = some (cv_r 111) := kL421 0 _ (by decide) (fun _ => rfl) rfl
          refine ex_al oq_X12_signToken_75 gL421_0 ?_
          obtain ⟨x422, ax422, rx422, lx422, ux422⟩ := fi_which Th407
          refine ex_gf oq_X12_signToken_76 Th407 (k := 111) (d := 12) rfl rfl ax422 ?_
          refine ex_bi oq_X12_signToken_79 (m := 61) (by decide) (fun x423 hx423 => ?_)
          refine ex_if oq_X12_signToken_81 (t := 94) rfl rfl (fun (c424 : x422.toInt = x423.toInt) => ?_) (fun (c424 : ¬ (x422.toInt = x423.toInt)) => ?_)
          · refine ex_ic oq_X12_signToken_94 (m := 0) (by decide) (fun x425 hx425 => ?_)
            refine ex_isA oq_X12_signToken_95 (fun L426 gL426_2 kL426 => ?_)
            have gL426_1 : cv_get L426 1 = some (cv_i x420) := kL426 1 _ (by decide) (fun _ => rfl) gL421_1
            have gL426_0 : cv_get L426 0 = some (cv_r 111) := kL426 0 _ (by decide) (fun q => absurd q (by decide)) gL421_0
            refine ex_al oq_X12_signToken_96 gL426_0 ?_
            obtain ⟨x427, ax427, rx427, lx427, ux427⟩ := fi_which Th407
            refine ex_gf oq_X12_signToken_97 Th407 (k := 111) (d := 12) rfl rfl ax427 ?_
            refine ex_bi oq_X12_signToken_100 (m := 60) (by decide) (fun x428 hx428 => ?_)
            refine ex_if oq_X12_signToken_102 (t := 115) rfl rfl (fun (c429 : ¬ x427.toInt = x428.toInt) => ?_) (fun (c429 : ¬ (¬ x427.toInt = x428.toInt)) => ?_)
            · refine ex_ic oq_X12_signToken_115 (m := 0) (by decide) (fun x430 hx430 => ?_)
              refine ex_isA oq_X12_signToken_116 (fun L431 gL431_3 kL431 => ?_)
              have gL431_2 : cv_get L431 2 = some (cv_i x425) := kL431 2 _ (by decide) (fun _ => rfl) gL426_2
              have gL431_1 : cv_get L431 1 = some (cv_i x420) := kL431 1 _ (by decide) (fun q => absurd q (by decide)) gL426_1
              have gL431_0 : cv_get L431 0 = some (cv_r 111) := kL431 0 _ (by decide) (fun q => absurd q (by decide)) gL426_0
              refine ex_il oq_X12_signToken_117 gL431_2 ?_
              refine ex_if0 oq_X12_signToken_118 (t := 125) rfl rfl (fun (c432 : ¬ x425.toInt = 0) => ?_) (fun (c432 : ¬ (¬ x425.toInt = 0)) => ?_)
              · exfalso; omega
              · refine ex_il oq_X12_signToken_121 gL431_3 ?_
                refine ex_if0 oq_X12_signToken_122 (t := 135) rfl rfl (fun (c433 : x430.toInt = 0) => ?_) (fun (c433 : ¬ (x430.toInt = 0)) => ?_)
                · refine ex_al oq_X12_signToken_135 gL431_0 ?_
                  refine ex_ic oq_X12_signToken_136 (m := 5) (by decide) (fun x434 hx434 => ?_)
                  refine ex_pfi oq_X12_signToken_137 Th407 (k := 111) (d := 12) rfl rfl rfl (by omega) (by omega) (fun h435 Th435 wh435 => ?_)
                  have Fh435 : cw_Fr cw_Ds cw_sh kk_X12_signToken.2.2.2.2.2.1 h0 h435 := cw_Fr_tr Fh407 (cw_Fr_wrf wh435 (k := 111) (d := 12) rfl rfl (by decide +kernel))
                  have eh435_6 : ri_at h435 111 6 = ri_at h407 111 6 := ri_ne wh435 (by decide)
                  have eh435_7 : ri_at h435 111 7 = ri_at h407 111 7 := ri_ne wh435 (by decide)
                  have eh435_8 : ri_at h435 111 8 = x434.toInt := ri_self wh435
                  have eh435_9 : ri_at h435 111 9 = ri_at h407 111 9 := ri_ne wh435 (by decide)
                  have eh435_10 : ri_at h435 111 10 = ri_at h407 111 10 := ri_ne wh435 (by decide)
                  refine ex_al oq_X12_signToken_140 gL431_0 ?_
                  refine ex_al oq_X12_signToken_141 gL431_0 ?_
                  obtain ⟨x436, ax436, rx436, lx436, ux436⟩ := fi_which Th435
                  refine ex_gf oq_X12_signToken_142 Th435 (k := 111) (d := 12) rfl rfl ax436 ?_
                  refine ex_bi oq_X12_signToken_145 (m := 61) (by decide) (fun x437 hx437 => ?_)
                  refine ex_if oq_X12_signToken_147 (t := 154) rfl rfl (fun (c438 : ¬ x436.toInt = x437.toInt) => ?_) (fun (c438 : ¬ (¬ x436.toInt = x437.toInt)) => ?_)
                  · exfalso; omega
                  · refine ex_ic oq_X12_signToken_150 (m := 2) (by decide) (fun x439 hx439 => ?_)
                    refine ex_go oq_X12_signToken_151 (t := 192) rfl rfl ?_
                    refine ex_pfi oq_X12_signToken_192 Th435 (k := 111) (d := 12) rfl rfl rfl (cw_i32 _).1 (cw_i32 _).2 (fun h440 Th440 wh440 => ?_)
                    have Fh440 : cw_Fr cw_Ds cw_sh kk_X12_signToken.2.2.2.2.2.1 h0 h440 := cw_Fr_tr Fh435 (cw_Fr_wrf wh440 (k := 111) (d := 12) rfl rfl (by decide +kernel))
                    have eh440_6 : ri_at h440 111 6 = ri_at h435 111 6 := ri_ne wh440 (by decide)
                    have eh440_7 : ri_at h440 111 7 = ri_at h435 111 7 := ri_ne wh440 (by decide)
                    have eh440_8 : ri_at h440 111 8 = ri_at h435 111 8 := ri_ne wh440 (by decide)
                    have eh440_9 : ri_at h440 111 9 = x439.toInt := ri_self wh440
                    have eh440_10 : ri_at h440 111 10 = ri_at h435 111 10 := ri_ne wh440 (by decide)
                    refine ex_go oq_X12_signToken_195 (t := 281) rfl rfl ?_
                    first | (exfalso; omega) | exact ex_retv oq_X12_signToken_281 rfl (hQ h440 Th440 Fh440 (by omega) (by omega) (by rw [tz_s1 (by omega)]; dsimp only; omega) (by rw [tz_s1 (by omega)]; dsimp only; omega) (by rw [tz_s1 (by omega)]; dsimp only; omega))
                · exfalso; omega
            · exfalso; omega
          · exfalso; omega
        · refine ex_al oq_X12_signToken_61 rfl ?_
          refine ex_gf oq_X12_signToken_62 Th407 (k := 111) (d := 12) rfl rfl (fr_tape Th407) ?_
          refine ex_al oq_X12_signToken_65 rfl ?_
          obtain ⟨x441, ax441, rx441, lx441, ux441⟩ := fi_next Th407
          refine ex_gf oq_X12_signToken_66 Th407 (k := 111) (d := 12) rfl rfl ax441 ?_
          refine ex_ia1 oq_X12_signToken_69 Th407 (k := 112) (d := 51) (j := a + 1) rfl rfl (by omega) (by omega) (fun x442 hx442 lx442 ux442 => ?_)
          have tx442 : t (a + 1) = x442.toInt := by rw [ht (a + 1) (by omega), ← hA _ Fh407, hx442]
          refine ex_go oq_X12_signToken_70 (t := 74) rfl rfl ?_
          refine ex_isA oq_X12_signToken_74 (fun L443 gL443_1 kL443 => ?_)
          have gL443_0 : cv_get L443 0 = some (cv_r 111) := kL443 0 _ (by decide) (fun _ => rfl) rfl
          refine ex_al oq_X12_signToken_75 gL443_0 ?_
          obtain ⟨x444, ax444, rx444, lx444, ux444⟩ := fi_which Th407
          refine ex_gf oq_X12_signToken_76 Th407 (k := 111) (d := 12) rfl rfl ax444 ?_
          refine ex_bi oq_X12_signToken_79 (m := 61) (by decide) (fun x445 hx445 => ?_)
          refine ex_if oq_X12_signToken_81 (t := 94) rfl rfl (fun (c446 : x444.toInt = x445.toInt) => ?_) (fun (c446 : ¬ (x444.toInt = x445.toInt)) => ?_)
          · refine ex_ic oq_X12_signToken_94 (m := 0) (by decide) (fun x447 hx447 => ?_)
            refine ex_isA oq_X12_signToken_95 (fun L448 gL448_2 kL448 => ?_)
            have gL448_1 : cv_get L448 1 = some (cv_i x442) := kL448 1 _ (by decide) (fun _ => rfl) gL443_1
            have gL448_0 : cv_get L448 0 = some (cv_r 111) := kL448 0 _ (by decide) (fun q => absurd q (by decide)) gL443_0
            refine ex_al oq_X12_signToken_96 gL448_0 ?_
            obtain ⟨x449, ax449, rx449, lx449, ux449⟩ := fi_which Th407
            refine ex_gf oq_X12_signToken_97 Th407 (k := 111) (d := 12) rfl rfl ax449 ?_
            refine ex_bi oq_X12_signToken_100 (m := 60) (by decide) (fun x450 hx450 => ?_)
            refine ex_if oq_X12_signToken_102 (t := 115) rfl rfl (fun (c451 : ¬ x449.toInt = x450.toInt) => ?_) (fun (c451 : ¬ (¬ x449.toInt = x450.toInt)) => ?_)
            · refine ex_ic oq_X12_signToken_115 (m := 0) (by decide) (fun x452 hx452 => ?_)
              refine ex_isA oq_X12_signToken_116 (fun L453 gL453_3 kL453 => ?_)
              have gL453_2 : cv_get L453 2 = some (cv_i x447) := kL453 2 _ (by decide) (fun _ => rfl) gL448_2
              have gL453_1 : cv_get L453 1 = some (cv_i x442) := kL453 1 _ (by decide) (fun q => absurd q (by decide)) gL448_1
              have gL453_0 : cv_get L453 0 = some (cv_r 111) := kL453 0 _ (by decide) (fun q => absurd q (by decide)) gL448_0
              refine ex_il oq_X12_signToken_117 gL453_2 ?_
              refine ex_if0 oq_X12_signToken_118 (t := 125) rfl rfl (fun (c454 : ¬ x447.toInt = 0) => ?_) (fun (c454 : ¬ (¬ x447.toInt = 0)) => ?_)
              · exfalso; omega
              · refine ex_il oq_X12_signToken_121 gL453_3 ?_
                refine ex_if0 oq_X12_signToken_122 (t := 135) rfl rfl (fun (c455 : x452.toInt = 0) => ?_) (fun (c455 : ¬ (x452.toInt = 0)) => ?_)
                · refine ex_al oq_X12_signToken_135 gL453_0 ?_
                  refine ex_ic oq_X12_signToken_136 (m := 5) (by decide) (fun x456 hx456 => ?_)
                  refine ex_pfi oq_X12_signToken_137 Th407 (k := 111) (d := 12) rfl rfl rfl (by omega) (by omega) (fun h457 Th457 wh457 => ?_)
                  have Fh457 : cw_Fr cw_Ds cw_sh kk_X12_signToken.2.2.2.2.2.1 h0 h457 := cw_Fr_tr Fh407 (cw_Fr_wrf wh457 (k := 111) (d := 12) rfl rfl (by decide +kernel))
                  have eh457_6 : ri_at h457 111 6 = ri_at h407 111 6 := ri_ne wh457 (by decide)
                  have eh457_7 : ri_at h457 111 7 = ri_at h407 111 7 := ri_ne wh457 (by decide)
                  have eh457_8 : ri_at h457 111 8 = x456.toInt := ri_self wh457
                  have eh457_9 : ri_at h457 111 9 = ri_at h407 111 9 := ri_ne wh457 (by decide)
                  have eh457_10 : ri_at h457 111 10 = ri_at h407 111 10 := ri_ne wh457 (by decide)
                  refine ex_al oq_X12_signToken_140 gL453_0 ?_
                  refine ex_al oq_X12_signToken_141 gL453_0 ?_
                  obtain ⟨x458, ax458, rx458, lx458, ux458⟩ := fi_which Th457
                  refine ex_gf oq_X12_signToken_142 Th457 (k := 111) (d := 12) rfl rfl ax458 ?_
                  refine ex_bi oq_X12_signToken_145 (m := 61) (by decide) (fun x459 hx459 => ?_)
                  refine ex_if oq_X12_signToken_147 (t := 154) rfl rfl (fun (c460 : ¬ x458.toInt = x459.toInt) => ?_) (fun (c460 : ¬ (¬ x458.toInt = x459.toInt)) => ?_)
                  · exfalso; omega
                  · refine ex_ic oq_X12_signToken_150 (m := 2) (by decide) (fun x461 hx461 => ?_)
                    refine ex_go oq_X12_signToken_151 (t := 192) rfl rfl ?_
                    refine ex_pfi oq_X12_signToken_192 Th457 (k := 111) (d := 12) rfl rfl rfl (cw_i32 _).1 (cw_i32 _).2 (fun h462 Th462 wh462 => ?_)
                    have Fh462 : cw_Fr cw_Ds cw_sh kk_X12_signToken.2.2.2.2.2.1 h0 h462 := cw_Fr_tr Fh457 (cw_Fr_wrf wh462 (k := 111) (d := 12) rfl rfl (by decide +kernel))
                    have eh462_6 : ri_at h462 111 6 = ri_at h457 111 6 := ri_ne wh462 (by decide)
                    have eh462_7 : ri_at h462 111 7 = ri_at h457 111 7 := ri_ne wh462 (by decide)
                    have eh462_8 : ri_at h462 111 8 = ri_at h457 111 8 := ri_ne wh462 (by decide)
                    have eh462_9 : ri_at h462 111 9 = x461.toInt := ri_self wh462
                    have eh462_10 : ri_at h462 111 10 = ri_at h457 111 10 := ri_ne wh462 (by decide)
                    refine ex_go oq_X12_signToken_195 (t := 281) rfl rfl ?_
                    first | (exfalso; omega) | exact ex_retv oq_X12_signToken_281 rfl (hQ h462 Th462 Fh462 (by omega) (by omega) (by rw [tz_s1 (by omega)]; dsimp only; omega) (by rw [tz_s1 (by omega)]; dsimp only; omega) (by rw [tz_s1 (by omega)]; dsimp only; omega))
                · exfalso; omega
            · exfalso; omega
          · exfalso; omega
set_option maxHeartbeats 4000000 in
theorem rt_sign62 {h0 : cv_H} {n a : Nat} (ht : ∀ i, i < n → t i = ri_at h0 112 i) (hT : cw_T G h0) (hn9 : n ≤ 900) (han : a < n) (hs : ri_at h0 111 6 = n) (hx : ri_at h0 111 7 = a) (hQ : ∀ h', cw_T G h' → cw_Fr cw_Ds cw_sh kk_X12_signToken.2.2.2.2.2.1 h0 h' → ri_at h' 111 6 = n → ri_at h' 111 10 = ri_at h0 111 10 → ri_at h' 111 7 = (tz_s t n a).2.2 → ri_at h' 111 8 = (tz_s t n a).1 → ((tz_s t n a).1 ≠ 6 → ri_at h' 111 9 = (tz_s t n a).2.1) → Q (none, h')) (q62 : ri_at h0 112 a = 62) : cw_X X 164 Q 0 (cv_ent 0 [cv_r 111]) [] h0 := by
  have Fh0 : cw_Fr cw_Ds cw_sh kk_X12_signToken.2.2.2.2.2.1 h0 h0 := cw_Fr_refl
  have hA : ∀ h, cw_Fr cw_Ds cw_sh kk_X12_signToken.2.2.2.2.2.1 h0 h → ∀ i, ri_at h 112 i = ri_at h0 112 i := fun h F i => ri_frr F (k := 112) (d := 51) rfl rfl (by decide +kernel)
  have hta := ht a han
  refine ex_al oq_X12_signToken_0 rfl ?_
  refine ex_al oq_X12_signToken_1 rfl ?_
  refine ex_gf oq_X12_signToken_2 hT (k := 111) (d := 12) rfl rfl (fr_tape hT) ?_
  refine ex_al oq_X12_signToken_5 rfl ?_
  obtain ⟨x401, ax401, rx401, lx401, ux401⟩ := fi_next hT
  refine ex_gf oq_X12_signToken_6 hT (k := 111) (d := 12) rfl rfl ax401 ?_
  refine ex_ia1 oq_X12_signToken_9 hT (k := 112) (d := 51) (j := a) rfl rfl (by omega) (by omega) (fun x402 hx402 lx402 ux402 => ?_)
  have tx402 : t (a) = x402.toInt := by rw [ht (a) (by omega), ← hA _ Fh0, hx402]
  refine ex_pfi oq_X12_signToken_10 hT (k := 111) (d := 12) rfl rfl rfl (cw_i32 _).1 (cw_i32 _).2 (fun h403 Th403 wh403 => ?_)
  have Fh403 : cw_Fr cw_Ds cw_sh kk_X12_signToken.2.2.2.2.2.1 h0 h403 := cw_Fr_tr Fh0 (cw_Fr_wrf wh403 (k := 111) (d := 12) rfl rfl (by decide +kernel))
  have eh403_6 : ri_at h403 111 6 = ri_at h0 111 6 := ri_ne wh403 (by decide)
  have eh403_7 : ri_at h403 111 7 = ri_at h0 111 7 := ri_ne wh403 (by decide)
  have eh403_8 : ri_at h403 111 8 = ri_at h0 111 8 := ri_ne wh403 (by decide)
  have eh403_9 : ri_at h403 111 9 = x402.toInt := ri_self wh403
  have eh403_10 : ri_at h403 111 10 = ri_at h0 111 10 := ri_ne wh403 (by decide)
  refine ex_al oq_X12_signToken_13 rfl ?_
  refine ex_dup oq_X12_signToken_14 rfl ?_
  obtain ⟨x404, ax404, rx404, lx404, ux404⟩ := fi_next Th403
  refine ex_gf oq_X12_signToken_15 Th403 (k := 111) (d := 12) rfl rfl ax404 ?_
  refine ex_ic oq_X12_signToken_18 (m := 1) (by decide) (fun x405 hx405 => ?_)
  refine ex_add oq_X12_signToken_19 (by omega) (fun x406 hx406 => ?_)
  refine ex_pfi oq_X12_signToken_20 Th403 (k := 111) (d := 12) rfl rfl rfl (by omega) (by omega) (fun h407 Th407 wh407 => ?_)
  have Fh407 : cw_Fr cw_Ds cw_sh kk_X12_signToken.2.2.2.2.2.1 h0 h407 := cw_Fr_tr Fh403 (cw_Fr_wrf wh407 (k := 111) (d := 12) rfl rfl (by decide +kernel))
  have eh407_6 : ri_at h407 111 6 = ri_at h403 111 6 := ri_ne wh407 (by decide)
  have eh407_7 : ri_at h407 111 7 = x406.toInt := ri_self wh407
  have eh407_8 : ri_at h407 111 8 = ri_at h403 111 8 := ri_ne wh407 (by decide)
  have eh407_9 : ri_at h407 111 9 = ri_at h403 111 9 := ri_ne wh407 (by decide)
  have eh407_10 : ri_at h407 111 10 = ri_at h403 111 10 := ri_ne wh407 (by decide)
  refine ex_al oq_X12_signToken_23 rfl ?_
  obtain ⟨x408, ax408, rx408, lx408, ux408⟩ := fi_which Th407
  refine ex_gf oq_X12_signToken_24 Th407 (k := 111) (d := 12) rfl rfl ax408 ?_
  refine ex_bi oq_X12_signToken_27 (m := 60) (by decide) (fun x409 hx409 => ?_)
  refine ex_if oq_X12_signToken_29 (t := 50) rfl rfl (fun (c410 : x408.toInt = x409.toInt) => ?_) (fun (c410 : ¬ (x408.toInt = x409.toInt)) => ?_)
  · exfalso; omega
  · refine ex_al oq_X12_signToken_32 rfl ?_
    obtain ⟨x411, ax411, rx411, lx411, ux411⟩ := fi_which Th407
    refine ex_gf oq_X12_signToken_33 Th407 (k := 111) (d := 12) rfl rfl ax411 ?_
    refine ex_bi oq_X12_signToken_36 (m := 62) (by decide) (fun x412 hx412 => ?_)
    refine ex_if oq_X12_signToken_38 (t := 50) rfl rfl (fun (c413 : x411.toInt = x412.toInt) => ?_) (fun (c413 : ¬ (x411.toInt = x412.toInt)) => ?_)
    · refine ex_al oq_X12_signToken_50 rfl ?_
      obtain ⟨x414, ax414, rx414, lx414, ux414⟩ := fi_next Th407
      refine ex_gf oq_X12_signToken_51 Th407 (k := 111) (d := 12) rfl rfl ax414 ?_
      refine ex_al oq_X12_signToken_54 rfl ?_
      obtain ⟨x415, ax415, rx415, lx415, ux415⟩ := fi_stop Th407
      refine ex_gf oq_X12_signToken_55 Th407 (k := 111) (d := 12) rfl rfl ax415 ?_
      refine ex_if oq_X12_signToken_58 (t := 73) rfl rfl (fun (c416 : x415.toInt ≤ x414.toInt) => ?_) (fun (c416 : ¬ (x415.toInt ≤ x414.toInt)) => ?_)
      · refine ex_ic oq_X12_signToken_73 (m := 0) (by decide) (fun x417 hx417 => ?_)
        refine ex_isA oq_X12_signToken_74 (fun L418 gL418_1 kL418 => ?_)
        have gL418_0 : cv_get L418 0 = some (cv_r 111) := kL418 0 _ (by decide) (fun _ => rfl) rfl
        refine ex_al oq_X12_signToken_75 gL418_0 ?_
        obtain ⟨x419, ax419, rx419, lx419, ux419⟩ := fi_which Th407
        refine ex_gf oq_X12_signToken_76 Th407 (k := 111) (d := 12) rfl rfl ax419 ?_
        refine ex_bi oq_X12_signToken_79 (m := 61) (by decide) (fun x420 hx420 => ?_)
        refine ex_if oq_X12_signToken_81 (t := 94) rfl rfl (fun (c421 : x419.toInt = x420.toInt) => ?_) (fun (c421 : ¬ (x419.toInt = x420.toInt)) => ?_)
        · exfalso; omega
        · refine ex_il oq_X12_signToken_84 gL418_1 ?_
          refine ex_bi oq_X12_signToken_85 (m := 61) (by decide) (fun x422 hx422 => ?_)
          refine ex_if oq_X12_signToken_87 (t := 94) rfl rfl (fun (c423 : ¬ x417.toInt = x422.toInt) => ?_) (fun (c423 : ¬ (¬ x417.toInt = x422.toInt)) => ?_)
          · refine ex_ic oq_X12_signToken_94 (m := 0) (by decide) (fun x424 hx424 => ?_)
            refine ex_isA oq_X12_signToken_95 (fun L425 gL425_2 kL425 => ?_)
            have gL425_1 : cv_get L425 1 = some (cv_i x417) := kL425 1 _ (by decide) (fun _ => rfl) gL418_1
            have gL425_0 : cv_get L425 0 = some (cv_r 111) := kL425 0 _ (by decide) (fun q => absurd q (by decide)) gL418_0
            refine ex_al oq_X12_signToken_96 gL425_0 ?_
            obtain ⟨x426, ax426, rx426, lx426, ux426⟩ := fi_which Th407
            refine ex_gf oq_X12_signToken_97 Th407 (k := 111) (d := 12) rfl rfl ax426 ?_
            refine ex_bi oq_X12_signToken_100 (m := 60) (by decide) (fun x427 hx427 => ?_)
            refine ex_if oq_X12_signToken_102 (t := 115) rfl rfl (fun (c428 : ¬ x426.toInt = x427.toInt) => ?_) (fun (c428 : ¬ (¬ x426.toInt = x427.toInt)) => ?_)
            · refine ex_ic oq_X12_signToken_115 (m := 0) (by decide) (fun x429 hx429 => ?_)
              refine ex_isA oq_X12_signToken_116 (fun L430 gL430_3 kL430 => ?_)
              have gL430_2 : cv_get L430 2 = some (cv_i x424) := kL430 2 _ (by decide) (fun _ => rfl) gL425_2
              have gL430_1 : cv_get L430 1 = some (cv_i x417) := kL430 1 _ (by decide) (fun q => absurd q (by decide)) gL425_1
              have gL430_0 : cv_get L430 0 = some (cv_r 111) := kL430 0 _ (by decide) (fun q => absurd q (by decide)) gL425_0
              refine ex_il oq_X12_signToken_117 gL430_2 ?_
              refine ex_if0 oq_X12_signToken_118 (t := 125) rfl rfl (fun (c431 : ¬ x424.toInt = 0) => ?_) (fun (c431 : ¬ (¬ x424.toInt = 0)) => ?_)
              · exfalso; omega
              · refine ex_il oq_X12_signToken_121 gL430_3 ?_
                refine ex_if0 oq_X12_signToken_122 (t := 135) rfl rfl (fun (c432 : x429.toInt = 0) => ?_) (fun (c432 : ¬ (x429.toInt = 0)) => ?_)
                · refine ex_al oq_X12_signToken_135 gL430_0 ?_
                  refine ex_ic oq_X12_signToken_136 (m := 5) (by decide) (fun x433 hx433 => ?_)
                  refine ex_pfi oq_X12_signToken_137 Th407 (k := 111) (d := 12) rfl rfl rfl (by omega) (by omega) (fun h434 Th434 wh434 => ?_)
                  have Fh434 : cw_Fr cw_Ds cw_sh kk_X12_signToken.2.2.2.2.2.1 h0 h434 := cw_Fr_tr Fh407 (cw_Fr_wrf wh434 (k := 111) (d := 12) rfl rfl (by decide +kernel))
                  have eh434_6 : ri_at h434 111 6 = ri_at h407 111 6 := ri_ne wh434 (by decide)
                  have eh434_7 : ri_at h434 111 7 = ri_at h407 111 7 := ri_ne wh434 (by decide)
                  have eh434_8 : ri_at h434 111 8 = x433.toInt := ri_self wh434
                  have eh434_9 : ri_at h434 111 9 = ri_at h407 111 9 := ri_ne wh434 (by decide)
                  have eh434_10 : ri_at h434 111 10 = ri_at h407 111 10 := ri_ne wh434 (by decide)
                  refine ex_al oq_X12_signToken_140 gL430_0 ?_
                  refine ex_al oq_X12_signToken_141 gL430_0 ?_
                  obtain ⟨x435, ax435, rx435, lx435, ux435⟩ := fi_which Th434
                  refine ex_gf oq_X12_signToken_142 Th434 (k := 111) (d := 12) rfl rfl ax435 ?_
                  refine ex_bi oq_X12_signToken_145 (m := 61) (by decide) (fun x436 hx436 => ?_)
                  refine ex_if oq_X12_signToken_147 (t := 154) rfl rfl (fun (c437 : ¬ x435.toInt = x436.toInt) => ?_) (fun (c437 : ¬ (¬ x435.toInt = x436.toInt)) => ?_)
                  · refine ex_al oq_X12_signToken_154 gL430_0 ?_
                    obtain ⟨x438, ax438, rx438, lx438, ux438⟩ := fi_which Th434
                    refine ex_gf oq_X12_signToken_155 Th434 (k := 111) (d := 12) rfl rfl ax438 ?_
                    refine ex_bi oq_X12_signToken_158 (m := 60) (by decide) (fun x439 hx439 => ?_)
                    refine ex_if oq_X12_signToken_160 (t := 183) rfl rfl (fun (c440 : ¬ x438.toInt = x439.toInt) => ?_) (fun (c440 : ¬ (¬ x438.toInt = x439.toInt)) => ?_)
                    · refine ex_il oq_X12_signToken_183 gL430_2 ?_
                      refine ex_if0 oq_X12_signToken_184 (t := 191) rfl rfl (fun (c441 : x424.toInt = 0) => ?_) (fun (c441 : ¬ (x424.toInt = 0)) => ?_)
                      · refine ex_ic oq_X12_signToken_191 (m := 5) (by decide) (fun x442 hx442 => ?_)
                        refine ex_pfi oq_X12_signToken_192 Th434 (k := 111) (d := 12) rfl rfl rfl (cw_i32 _).1 (cw_i32 _).2 (fun h443 Th443 wh443 => ?_)
                        have Fh443 : cw_Fr cw_Ds cw_sh kk_X12_signToken.2.2.2.2.2.1 h0 h443 := cw_Fr_tr Fh434 (cw_Fr_wrf wh443 (k := 111) (d := 12) rfl rfl (by decide +kernel))
                        have eh443_6 : ri_at h443 111 6 = ri_at h434 111 6 := ri_ne wh443 (by decide)
                        have eh443_7 : ri_at h443 111 7 = ri_at h434 111 7 := ri_ne wh443 (by decide)
                        have eh443_8 : ri_at h443 111 8 = ri_at h434 111 8 := ri_ne wh443 (by decide)
                        have eh443_9 : ri_at h443 111 9 = x442.toInt := ri_self wh443
                        have eh443_10 : ri_at h443 111 10 = ri_at h434 111 10 := ri_ne wh443 (by decide)
                        refine ex_go oq_X12_signToken_195 (t := 281) rfl rfl ?_
                        first | (exfalso; omega) | exact ex_retv oq_X12_signToken_281 rfl (hQ h443 Th443 Fh443 (by omega) (by omega) (by rw [tz_s6 (by omega) (by omega)]; dsimp only; omega) (by rw [tz_s6 (by omega) (by omega)]; dsimp only; omega) (by rw [tz_s6 (by omega) (by omega)]; dsimp only; omega))
                      · exfalso; omega
                    · exfalso; omega
                  · exfalso; omega
                · exfalso; omega
            · exfalso; omega
          · exfalso; omega
      · refine ex_al oq_X12_signToken_61 rfl ?_
        refine ex_gf oq_X12_signToken_62 Th407 (k := 111) (d := 12) rfl rfl (fr_tape Th407) ?_
        refine ex_al oq_X12_signToken_65 rfl ?_
        obtain ⟨x444, ax444, rx444, lx444, ux444⟩ := fi_next Th407
        refine ex_gf oq_X12_signToken_66 Th407 (k := 111) (d := 12) rfl rfl ax444 ?_
        refine ex_ia1 oq_X12_signToken_69 Th407 (k := 112) (d := 51) (j := a + 1) rfl rfl (by omega) (by omega) (fun x445 hx445 lx445 ux445 => ?_)
        have tx445 : t (a + 1) = x445.toInt := by rw [ht (a + 1) (by omega), ← hA _ Fh407, hx445]
        refine ex_go oq_X12_signToken_70 (t := 74) rfl rfl ?_
        refine ex_isA oq_X12_signToken_74 (fun L446 gL446_1 kL446 => ?_)
        have gL446_0 : cv_get L446 0 = some (cv_r 111) := kL446 0 _ (by decide) (fun _ => rfl) rfl
        refine ex_al oq_X12_signToken_75 gL446_0 ?_
        obtain ⟨x447, ax447, rx447, lx447, ux447⟩ := fi_which Th407
        refine ex_gf oq_X12_signToken_76 Th407 (k := 111) (d := 12) rfl rfl ax447 ?_
        refine ex_bi oq_X12_signToken_79 (m := 61) (by decide) (fun x448 hx448 => ?_)
        refine ex_if oq_X12_signToken_81 (t := 94) rfl rfl (fun (c449 : x447.toInt = x448.toInt) => ?_) (fun (c449 : ¬ (x447.toInt = x448.toInt)) => ?_)
        · exfalso; omega
        · refine ex_il oq_X12_signToken_84 gL446_1 ?_
          refine ex_bi oq_X12_signToken_85 (m := 61) (by decide) (fun x450 hx450 => ?_)
          refine ex_if oq_X12_signToken_87 (t := 94) rfl rfl (fun (c451 : ¬ x445.toInt = x450.toInt) => ?_) (fun (c451 : ¬ (¬ x445.toInt = x450.toInt)) => ?_)
          · refine ex_ic oq_X12_signToken_94 (m := 0) (by decide) (fun x452 hx452 => ?_)
            refine ex_isA oq_X12_signToken_95 (fun L453 gL453_2 kL453 => ?_)
            have gL453_1 : cv_get L453 1 = some (cv_i x445) := kL453 1 _ (by decide) (fun _ => rfl) gL446_1
            have gL453_0 : cv_get L453 0 = some (cv_r 111) := kL453 0 _ (by decide) (fun q => absurd q (by decide)) gL446_0
            refine ex_al oq_X12_signToken_96 gL453_0 ?_
            obtain ⟨x454, ax454, rx454, lx454, ux454⟩ := fi_which Th407
            refine ex_gf oq_X12_signToken_97 Th407 (k := 111) (d := 12) rfl rfl ax454 ?_
            refine ex_bi oq_X12_signToken_100 (m := 60) (by decide) (fun x455 hx455 => ?_)
            refine ex_if oq_X12_signToken_102 (t := 115) rfl rfl (fun (c456 : ¬ x454.toInt = x455.toInt) => ?_) (fun (c456 : ¬ (¬ x454.toInt = x455.toInt)) => ?_)
            · refine ex_ic oq_X12_signToken_115 (m := 0) (by decide) (fun x457 hx457 => ?_)
              refine ex_isA oq_X12_signToken_116 (fun L458 gL458_3 kL458 => ?_)
              have gL458_2 : cv_get L458 2 = some (cv_i x452) := kL458 2 _ (by decide) (fun _ => rfl) gL453_2
              have gL458_1 : cv_get L458 1 = some (cv_i x445) := kL458 1 _ (by decide) (fun q => absurd q (by decide)) gL453_1
              have gL458_0 : cv_get L458 0 = some (cv_r 111) := kL458 0 _ (by decide) (fun q => absurd q (by decide)) gL453_0
              refine ex_il oq_X12_signToken_117 gL458_2 ?_
              refine ex_if0 oq_X12_signToken_118 (t := 125) rfl rfl (fun (c459 : ¬ x452.toInt = 0) => ?_) (fun (c459 : ¬ (¬ x452.toInt = 0)) => ?_)
              · exfalso; omega
              · refine ex_il oq_X12_signToken_121 gL458_3 ?_
                refine ex_if0 oq_X12_signToken_122 (t := 135) rfl rfl (fun (c460 : x457.toInt = 0) => ?_) (fun (c460 : ¬ (x457.toInt = 0)) => ?_)
                · refine ex_al oq_X12_signToken_135 gL458_0 ?_
                  refine ex_ic oq_X12_signToken_136 (m := 5) (by decide) (fun x461 hx461 => ?_)
                  refine ex_pfi oq_X12_signToken_137 Th407 (k := 111) (d := 12) rfl rfl rfl (by omega) (by omega) (fun h462 Th462 wh462 => ?_)
                  have Fh462 : cw_Fr cw_Ds cw_sh kk_X12_signToken.2.2.2.2.2.1 h0 h462 := cw_Fr_tr Fh407 (cw_Fr_wrf wh462 (k := 111) (d := 12) rfl rfl (by decide +kernel))
                  have eh462_6 : ri_at h462 111 6 = ri_at h407 111 6 := ri_ne wh462 (by decide)
                  have eh462_7 : ri_at h462 111 7 = ri_at h407 111 7 := ri_ne wh462 (by decide)
                  have eh462_8 : ri_at h462 111 8 = x461.toInt := ri_self wh462
                  have eh462_9 : ri_at h462 111 9 = ri_at h407 111 9 := ri_ne wh462 (by decide)
                  have eh462_10 : ri_at h462 111 10 = ri_at h407 111 10 := ri_ne wh462 (by decide)
                  refine ex_al oq_X12_signToken_140 gL458_0 ?_
                  refine ex_al oq_X12_signToken_141 gL458_0 ?_
                  obtain ⟨x463, ax463, rx463, lx463, ux463⟩ := fi_which Th462
                  refine ex_gf oq_X12_signToken_142 Th462 (k := 111) (d := 12) rfl rfl ax463 ?_
                  refine ex_bi oq_X12_signToken_145 (m := 61) (by decide) (fun x464 hx464 => ?_)
                  refine ex_if oq_X12_signToken_147 (t := 154) rfl rfl (fun (c465 : ¬ x463.toInt = x464.toInt) => ?_) (fun (c465 : ¬ (¬ x463.toInt = x464.toInt)) => ?_)
                  · refine ex_al oq_X12_signToken_154 gL458_0 ?_
                    obtain ⟨x466, ax466, rx466, lx466, ux466⟩ := fi_which Th462
                    refine ex_gf oq_X12_signToken_155 Th462 (k := 111) (d := 12) rfl rfl ax466 ?_
                    refine ex_bi oq_X12_signToken_158 (m := 60) (by decide) (fun x467 hx467 => ?_)
                    refine ex_if oq_X12_signToken_160 (t := 183) rfl rfl (fun (c468 : ¬ x466.toInt = x467.toInt) => ?_) (fun (c468 : ¬ (¬ x466.toInt = x467.toInt)) => ?_)
                    · refine ex_il oq_X12_signToken_183 gL458_2 ?_
                      refine ex_if0 oq_X12_signToken_184 (t := 191) rfl rfl (fun (c469 : x452.toInt = 0) => ?_) (fun (c469 : ¬ (x452.toInt = 0)) => ?_)
                      · refine ex_ic oq_X12_signToken_191 (m := 5) (by decide) (fun x470 hx470 => ?_)
                        refine ex_pfi oq_X12_signToken_192 Th462 (k := 111) (d := 12) rfl rfl rfl (cw_i32 _).1 (cw_i32 _).2 (fun h471 Th471 wh471 => ?_)
                        have Fh471 : cw_Fr cw_Ds cw_sh kk_X12_signToken.2.2.2.2.2.1 h0 h471 := cw_Fr_tr Fh462 (cw_Fr_wrf wh471 (k := 111) (d := 12) rfl rfl (by decide +kernel))
                        have eh471_6 : ri_at h471 111 6 = ri_at h462 111 6 := ri_ne wh471 (by decide)
                        have eh471_7 : ri_at h471 111 7 = ri_at h462 111 7 := ri_ne wh471 (by decide)
                        have eh471_8 : ri_at h471 111 8 = ri_at h462 111 8 := ri_ne wh471 (by decide)
                        have eh471_9 : ri_at h471 111 9 = x470.toInt := ri_self wh471
                        have eh471_10 : ri_at h471 111 10 = ri_at h462 111 10 := ri_ne wh471 (by decide)
                        refine ex_go oq_X12_signToken_195 (t := 281) rfl rfl ?_
                        first | (exfalso; omega) | exact ex_retv oq_X12_signToken_281 rfl (hQ h471 Th471 Fh471 (by omega) (by omega) (by rw [tz_s6 (by omega) (by omega)]; dsimp only; omega) (by rw [tz_s6 (by omega) (by omega)]; dsimp only; omega) (by rw [tz_s6 (by omega) (by omega)]; dsimp only; omega))
                      · exfalso; omega
                    · exfalso; omega
                  · exfalso; omega
                · exfalso; omega
            · exfalso; omega
          · refine ex_ic oq_X12_signToken_90 (m := 1) (by decide) (fun x472 hx472 => ?_)
            refine ex_go oq_X12_signToken_91 (t := 95) rfl rfl ?_
            refine ex_isA oq_X12_signToken_95 (fun L473 gL473_2 kL473 => ?_)
            have gL473_1 : cv_get L473 1 = some (cv_i x445) := kL473 1 _ (by decide) (fun _ => rfl) gL446_1
            have gL473_0 : cv_get L473 0 = some (cv_r 111) := kL473 0 _ (by decide) (fun q => absurd q (by decide)) gL446_0
            refine ex_al oq_X12_signToken_96 gL473_0 ?_
            obtain ⟨x474, ax474, rx474, lx474, ux474⟩ := fi_which Th407
            refine ex_gf oq_X12_signToken_97 Th407 (k := 111) (d := 12) rfl rfl ax474 ?_
            refine ex_bi oq_X12_signToken_100 (m := 60) (by decide) (fun x475 hx475 => ?_)
            refine ex_if oq_X12_signToken_102 (t := 115) rfl rfl (fun (c476 : ¬ x474.toInt = x475.toInt) => ?_) (fun (c476 : ¬ (¬ x474.toInt = x475.toInt)) => ?_)
            · refine ex_ic oq_X12_signToken_115 (m := 0) (by decide) (fun x477 hx477 => ?_)
              refine ex_isA oq_X12_signToken_116 (fun L478 gL478_3 kL478 => ?_)
              have gL478_2 : cv_get L478 2 = some (cv_i x472) := kL478 2 _ (by decide) (fun _ => rfl) gL473_2
              have gL478_1 : cv_get L478 1 = some (cv_i x445) := kL478 1 _ (by decide) (fun q => absurd q (by decide)) gL473_1
              have gL478_0 : cv_get L478 0 = some (cv_r 111) := kL478 0 _ (by decide) (fun q => absurd q (by decide)) gL473_0
              refine ex_il oq_X12_signToken_117 gL478_2 ?_
              refine ex_if0 oq_X12_signToken_118 (t := 125) rfl rfl (fun (c479 : ¬ x472.toInt = 0) => ?_) (fun (c479 : ¬ (¬ x472.toInt = 0)) => ?_)
              · refine ex_al oq_X12_signToken_125 gL478_0 ?_
                refine ex_dup oq_X12_signToken_126 rfl ?_
                obtain ⟨x480, ax480, rx480, lx480, ux480⟩ := fi_next Th407
                refine ex_gf oq_X12_signToken_127 Th407 (k := 111) (d := 12) rfl rfl ax480 ?_
                refine ex_ic oq_X12_signToken_130 (m := 1) (by decide) (fun x481 hx481 => ?_)
                refine ex_add oq_X12_signToken_131 (by omega) (fun x482 hx482 => ?_)
                refine ex_pfi oq_X12_signToken_132 Th407 (k := 111) (d := 12) rfl rfl rfl (by omega) (by omega) (fun h483 Th483 wh483 => ?_)
                have Fh483 : cw_Fr cw_Ds cw_sh kk_X12_signToken.2.2.2.2.2.1 h0 h483 := cw_Fr_tr Fh407 (cw_Fr_wrf wh483 (k := 111) (d := 12) rfl rfl (by decide +kernel))
                have eh483_6 : ri_at h483 111 6 = ri_at h407 111 6 := ri_ne wh483 (by decide)
                have eh483_7 : ri_at h483 111 7 = x482.toInt := ri_self wh483
                have eh483_8 : ri_at h483 111 8 = ri_at h407 111 8 := ri_ne wh483 (by decide)
                have eh483_9 : ri_at h483 111 9 = ri_at h407 111 9 := ri_ne wh483 (by decide)
                have eh483_10 : ri_at h483 111 10 = ri_at h407 111 10 := ri_ne wh483 (by decide)
                refine ex_al oq_X12_signToken_135 gL478_0 ?_
                refine ex_ic oq_X12_signToken_136 (m := 5) (by decide) (fun x484 hx484 => ?_)
                refine ex_pfi oq_X12_signToken_137 Th483 (k := 111) (d := 12) rfl rfl rfl (by omega) (by omega) (fun h485 Th485 wh485 => ?_)
                have Fh485 : cw_Fr cw_Ds cw_sh kk_X12_signToken.2.2.2.2.2.1 h0 h485 := cw_Fr_tr Fh483 (cw_Fr_wrf wh485 (k := 111) (d := 12) rfl rfl (by decide +kernel))
                have eh485_6 : ri_at h485 111 6 = ri_at h483 111 6 := ri_ne wh485 (by decide)
                have eh485_7 : ri_at h485 111 7 = ri_at h483 111 7 := ri_ne wh485 (by decide)
                have eh485_8 : ri_at h485 111 8 = x484.toInt := ri_self wh485
                have eh485_9 : ri_at h485 111 9 = ri_at h483 111 9 := ri_ne wh485 (by decide)
                have eh485_10 : ri_at h485 111 10 = ri_at h483 111 10 := ri_ne wh485 (by decide)
                refine ex_al oq_X12_signToken_140 gL478_0 ?_
                refine ex_al oq_X12_signToken_141 gL478_0 ?_
                obtain ⟨x486, ax486, rx486, lx486, ux486⟩ := fi_which Th485
                refine ex_gf oq_X12_signToken_142 Th485 (k := 111) (d := 12) rfl rfl ax486 ?_
                refine ex_bi oq_X12_signToken_145 (m := 61) (by decide) (fun x487 hx487 => ?_)
                refine ex_if oq_X12_signToken_147 (t := 154) rfl rfl (fun (c488 : ¬ x486.toInt = x487.toInt) => ?_) (fun (c488 : ¬ (¬ x486.toInt = x487.toInt)) => ?_)
                · refine ex_al oq_X12_signToken_154 gL478_0 ?_
                  obtain ⟨x489, ax489, rx489, lx489, ux489⟩ := fi_which Th485
                  refine ex_gf oq_X12_signToken_155 Th485 (k := 111) (d := 12) rfl rfl ax489 ?_
                  refine ex_bi oq_X12_signToken_158 (m := 60) (by decide) (fun x490 hx490 => ?_)
                  refine ex_if oq_X12_signToken_160 (t := 183) rfl rfl (fun (c491 : ¬ x489.toInt = x490.toInt) => ?_) (fun (c491 : ¬ (¬ x489.toInt = x490.toInt)) => ?_)
                  · refine ex_il oq_X12_signToken_183 gL478_2 ?_
                    refine ex_if0 oq_X12_signToken_184 (t := 191) rfl rfl (fun (c492 : x472.toInt = 0) => ?_) (fun (c492 : ¬ (x472.toInt = 0)) => ?_)
                    · exfalso; omega
                    · refine ex_ic oq_X12_signToken_187 (m := 4) (by decide) (fun x493 hx493 => ?_)
                      refine ex_go oq_X12_signToken_188 (t := 192) rfl rfl ?_
                      refine ex_pfi oq_X12_signToken_192 Th485 (k := 111) (d := 12) rfl rfl rfl (cw_i32 _).1 (cw_i32 _).2 (fun h494 Th494 wh494 => ?_)
                      have Fh494 : cw_Fr cw_Ds cw_sh kk_X12_signToken.2.2.2.2.2.1 h0 h494 := cw_Fr_tr Fh485 (cw_Fr_wrf wh494 (k := 111) (d := 12) rfl rfl (by decide +kernel))
                      have eh494_6 : ri_at h494 111 6 = ri_at h485 111 6 := ri_ne wh494 (by decide)
                      have eh494_7 : ri_at h494 111 7 = ri_at h485 111 7 := ri_ne wh494 (by decide)
                      have eh494_8 : ri_at h494 111 8 = ri_at h485 111 8 := ri_ne wh494 (by decide)
                      have eh494_9 : ri_at h494 111 9 = x493.toInt := ri_self wh494
                      have eh494_10 : ri_at h494 111 10 = ri_at h485 111 10 := ri_ne wh494 (by decide)
                      refine ex_go oq_X12_signToken_195 (t := 281) rfl rfl ?_
                      first | (exfalso; omega) | exact ex_retv oq_X12_signToken_281 rfl (hQ h494 Th494 Fh494 (by omega) (by omega) (by rw [tz_s5 (by omega) (by omega)]; dsimp only; omega) (by rw [tz_s5 (by omega) (by omega)]; dsimp only; omega) (by rw [tz_s5 (by omega) (by omega)]; dsimp only; omega))
                  · exfalso; omega
                · exfalso; omega
              · exfalso; omega
            · exfalso; omega
    · exfalso; omega
set_option maxHeartbeats 4000000 in
theorem rt_signN {h0 : cv_H} {n a : Nat} (ht : ∀ i, i < n → t i = ri_at h0 112 i) (hT : cw_T G h0) (hn9 : n ≤ 900) (han : a < n) (hs : ri_at h0 111 6 = n) (hx : ri_at h0 111 7 = a) (hQ : ∀ h', cw_T G h' → cw_Fr cw_Ds cw_sh kk_X12_signToken.2.2.2.2.2.1 h0 h' → ri_at h' 111 6 = n → ri_at h' 111 10 = ri_at h0 111 10 → ri_at h' 111 7 = (tz_s t n a).2.2 → ri_at h' 111 8 = (tz_s t n a).1 → ((tz_s t n a).1 ≠ 6 → ri_at h' 111 9 = (tz_s t n a).2.1) → Q (none, h')) (q60 : ¬ ri_at h0 112 a = 60) (q61 : ¬ ri_at h0 112 a = 61) (q62 : ¬ ri_at h0 112 a = 62) : cw_X X 164 Q 0 (cv_ent 0 [cv_r 111]) [] h0 := by
  have Fh0 : cw_Fr cw_Ds cw_sh kk_X12_signToken.2.2.2.2.2.1 h0 h0 := cw_Fr_refl
  have hA : ∀ h, cw_Fr cw_Ds cw_sh kk_X12_signToken.2.2.2.2.2.1 h0 h → ∀ i, ri_at h 112 i = ri_at h0 112 i := fun h F i => ri_frr F (k := 112) (d := 51) rfl rfl (by decide +kernel)
  have hta := ht a han
  refine ex_al oq_X12_signToken_0 rfl ?_
  refine ex_al oq_X12_signToken_1 rfl ?_
  refine ex_gf oq_X12_signToken_2 hT (k := 111) (d := 12) rfl rfl (fr_tape hT) ?_
  refine ex_al oq_X12_signToken_5 rfl ?_
  obtain ⟨x401, ax401, rx401, lx401, ux401⟩ := fi_next hT
  refine ex_gf oq_X12_signToken_6 hT (k := 111) (d := 12) rfl rfl ax401 ?_
  refine ex_ia1 oq_X12_signToken_9 hT (k := 112) (d := 51) (j := a) rfl rfl (by omega) (by omega) (fun x402 hx402 lx402 ux402 => ?_)
  have tx402 : t (a) = x402.toInt := by rw [ht (a) (by omega), ← hA _ Fh0, hx402]
  refine ex_pfi oq_X12_signToken_10 hT (k := 111) (d := 12) rfl rfl rfl (cw_i32 _).1 (cw_i32 _).2 (fun h403 Th403 wh403 => ?_)
  have Fh403 : cw_Fr cw_Ds cw_sh kk_X12_signToken.2.2.2.2.2.1 h0 h403 := cw_Fr_tr Fh0 (cw_Fr_wrf wh403 (k := 111) (d := 12) rfl rfl (by decide +kernel))
  have eh403_6 : ri_at h403 111 6 = ri_at h0 111 6 := ri_ne wh403 (by decide)
  have eh403_7 : ri_at h403 111 7 = ri_at h0 111 7 := ri_ne wh403 (by decide)
  have eh403_8 : ri_at h403 111 8 = ri_at h0 111 8 := ri_ne wh403 (by decide)
  have eh403_9 : ri_at h403 111 9 = x402.toInt := ri_self wh403
  have eh403_10 : ri_at h403 111 10 = ri_at h0 111 10 := ri_ne wh403 (by decide)
  refine ex_al oq_X12_signToken_13 rfl ?_
  refine ex_dup oq_X12_signToken_14 rfl ?_
  obtain ⟨x404, ax404, rx404, lx404, ux404⟩ := fi_next Th403
  refine ex_gf oq_X12_signToken_15 Th403 (k := 111) (d := 12) rfl rfl ax404 ?_
  refine ex_ic oq_X12_signToken_18 (m := 1) (by decide) (fun x405 hx405 => ?_)
  refine ex_add oq_X12_signToken_19 (by omega) (fun x406 hx406 => ?_)
  refine ex_pfi oq_X12_signToken_20 Th403 (k := 111) (d := 12) rfl rfl rfl (by omega) (by omega) (fun h407 Th407 wh407 => ?_)
  have Fh407 : cw_Fr cw_Ds cw_sh kk_X12_signToken.2.2.2.2.2.1 h0 h407 := cw_Fr_tr Fh403 (cw_Fr_wrf wh407 (k := 111) (d := 12) rfl rfl (by decide +kernel))
  have eh407_6 : ri_at h407 111 6 = ri_at h403 111 6 := ri_ne wh407 (by decide)
  have eh407_7 : ri_at h407 111 7 = x406.toInt := ri_self wh407
  have eh407_8 : ri_at h407 111 8 = ri_at h403 111 8 := ri_ne wh407 (by decide)
  have eh407_9 : ri_at h407 111 9 = ri_at h403 111 9 := ri_ne wh407 (by decide)
  have eh407_10 : ri_at h407 111 10 = ri_at h403 111 10 := ri_ne wh407 (by decide)
  refine ex_al oq_X12_signToken_23 rfl ?_
  obtain ⟨x408, ax408, rx408, lx408, ux408⟩ := fi_which Th407
  refine ex_gf oq_X12_signToken_24 Th407 (k := 111) (d := 12) rfl rfl ax408 ?_
  refine ex_bi oq_X12_signToken_27 (m := 60) (by decide) (fun x409 hx409 => ?_)
  refine ex_if oq_X12_signToken_29 (t := 50) rfl rfl (fun (c410 : x408.toInt = x409.toInt) => ?_) (fun (c410 : ¬ (x408.toInt = x409.toInt)) => ?_)
  · exfalso; omega
  · have n60 : tz_ne (t a) 60 := fun e => q60 (by omega)
    clear c410 q60
    refine ex_al oq_X12_signToken_32 rfl ?_
    obtain ⟨x411, ax411, rx411, lx411, ux411⟩ := fi_which Th407
    refine ex_gf oq_X12_signToken_33 Th407 (k := 111) (d := 12) rfl rfl ax411 ?_
    refine ex_bi oq_X12_signToken_36 (m := 62) (by decide) (fun x412 hx412 => ?_)
    refine ex_if oq_X12_signToken_38 (t := 50) rfl rfl (fun (c413 : x411.toInt = x412.toInt) => ?_) (fun (c413 : ¬ (x411.toInt = x412.toInt)) => ?_)
    · exfalso; omega
    · have n62 : tz_ne (t a) 62 := fun e => q62 (by omega)
      clear c413 q62
      refine ex_al oq_X12_signToken_41 rfl ?_
      obtain ⟨x414, ax414, rx414, lx414, ux414⟩ := fi_which Th407
      refine ex_gf oq_X12_signToken_42 Th407 (k := 111) (d := 12) rfl rfl ax414 ?_
      refine ex_bi oq_X12_signToken_45 (m := 61) (by decide) (fun x415 hx415 => ?_)
      refine ex_if oq_X12_signToken_47 (t := 198) rfl rfl (fun (c416 : ¬ x414.toInt = x415.toInt) => ?_) (fun (c416 : ¬ (¬ x414.toInt = x415.toInt)) => ?_)
      · have n61 : tz_ne (t a) 61 := fun e => q61 (by omega)
        clear c416 q61
        refine ex_al oq_X12_signToken_198 rfl ?_
        obtain ⟨x417, ax417, rx417, lx417, ux417⟩ := fi_which Th407
        refine ex_gf oq_X12_signToken_199 Th407 (k := 111) (d := 12) rfl rfl ax417 ?_
        refine ex_bi oq_X12_signToken_202 (m := 59) (by decide) (fun x418 hx418 => ?_)
        refine ex_if oq_X12_signToken_204 (t := 261) rfl rfl (fun (c419 : x417.toInt = x418.toInt) => ?_) (fun (c419 : ¬ (x417.toInt = x418.toInt)) => ?_)
        · refine ex_ic oq_X12_signToken_261 (m := 1) (by decide) (fun x420 hx420 => ?_)
          refine ex_go oq_X12_signToken_262 (t := 266) rfl rfl ?_
          refine ex_isA oq_X12_signToken_266 (fun L421 gL421_1 kL421 => ?_)
          have gL421_0 : cv_get L421 0 = some (cv_r 111) := kL421 0 _ (by decide) (fun _ => rfl) rfl
          refine ex_al oq_X12_signToken_267 gL421_0 ?_
          refine ex_il oq_X12_signToken_268 gL421_1 ?_
          refine ex_if0 oq_X12_signToken_269 (t := 276) rfl rfl (fun (c422 : x420.toInt = 0) => ?_) (fun (c422 : ¬ (x420.toInt = 0)) => ?_)
          · exfalso; omega
          · refine ex_ic oq_X12_signToken_272 (m := 4) (by decide) (fun x423 hx423 => ?_)
            refine ex_go oq_X12_signToken_273 (t := 278) rfl rfl ?_
            refine ex_pfi oq_X12_signToken_278 Th407 (k := 111) (d := 12) rfl rfl rfl (by omega) (by omega) (fun h424 Th424 wh424 => ?_)
            have Fh424 : cw_Fr cw_Ds cw_sh kk_X12_signToken.2.2.2.2.2.1 h0 h424 := cw_Fr_tr Fh407 (cw_Fr_wrf wh424 (k := 111) (d := 12) rfl rfl (by decide +kernel))
            have eh424_6 : ri_at h424 111 6 = ri_at h407 111 6 := ri_ne wh424 (by decide)
            have eh424_7 : ri_at h424 111 7 = ri_at h407 111 7 := ri_ne wh424 (by decide)
            have eh424_8 : ri_at h424 111 8 = x423.toInt := ri_self wh424
            have eh424_9 : ri_at h424 111 9 = ri_at h407 111 9 := ri_ne wh424 (by decide)
            have eh424_10 : ri_at h424 111 10 = ri_at h407 111 10 := ri_ne wh424 (by decide)
            first | (exfalso; omega) | exact ex_retv oq_X12_signToken_281 rfl (hQ h424 Th424 Fh424 (by omega) (by omega) (by rw [tz_s7 (by omega)]; dsimp only; omega) (by rw [tz_s7 (by omega)]; dsimp only; omega) (by rw [tz_s7 (by omega)]; dsimp only; omega))
        · have n59 : tz_ne (t a) 59 := fun e => c419 (by omega)
          clear c419
          refine ex_al oq_X12_signToken_207 rfl ?_
          obtain ⟨x425, ax425, rx425, lx425, ux425⟩ := fi_which Th407
          refine ex_gf oq_X12_signToken_208 Th407 (k := 111) (d := 12) rfl rfl ax425 ?_
          refine ex_bi oq_X12_signToken_211 (m := 40) (by decide) (fun x426 hx426 => ?_)
          refine ex_if oq_X12_signToken_213 (t := 261) rfl rfl (fun (c427 : x425.toInt = x426.toInt) => ?_) (fun (c427 : ¬ (x425.toInt = x426.toInt)) => ?_)
          · refine ex_ic oq_X12_signToken_261 (m := 1) (by decide) (fun x428 hx428 => ?_)
            refine ex_go oq_X12_signToken_262 (t := 266) rfl rfl ?_
            refine ex_isA oq_X12_signToken_266 (fun L429 gL429_1 kL429 => ?_)
            have gL429_0 : cv_get L429 0 = some (cv_r 111) := kL429 0 _ (by decide) (fun _ => rfl) rfl
            refine ex_al oq_X12_signToken_267 gL429_0 ?_
            refine ex_il oq_X12_signToken_268 gL429_1 ?_
            refine ex_if0 oq_X12_signToken_269 (t := 276) rfl rfl (fun (c430 : x428.toInt = 0) => ?_) (fun (c430 : ¬ (x428.toInt = 0)) => ?_)
            · exfalso; omega
            · refine ex_ic oq_X12_signToken_272 (m := 4) (by decide) (fun x431 hx431 => ?_)
              refine ex_go oq_X12_signToken_273 (t := 278) rfl rfl ?_
              refine ex_pfi oq_X12_signToken_278 Th407 (k := 111) (d := 12) rfl rfl rfl (by omega) (by omega) (fun h432 Th432 wh432 => ?_)
              have Fh432 : cw_Fr cw_Ds cw_sh kk_X12_signToken.2.2.2.2.2.1 h0 h432 := cw_Fr_tr Fh407 (cw_Fr_wrf wh432 (k := 111) (d := 12) rfl rfl (by decide +kernel))
              have eh432_6 : ri_at h432 111 6 = ri_at h407 111 6 := ri_ne wh432 (by decide)
              have eh432_7 : ri_at h432 111 7 = ri_at h407 111 7 := ri_ne wh432 (by decide)
              have eh432_8 : ri_at h432 111 8 = x431.toInt := ri_self wh432
              have eh432_9 : ri_at h432 111 9 = ri_at h407 111 9 := ri_ne wh432 (by decide)
              have eh432_10 : ri_at h432 111 10 = ri_at h407 111 10 := ri_ne wh432 (by decide)
              first | (exfalso; omega) | exact ex_retv oq_X12_signToken_281 rfl (hQ h432 Th432 Fh432 (by omega) (by omega) (by rw [tz_s7 (by omega)]; dsimp only; omega) (by rw [tz_s7 (by omega)]; dsimp only; omega) (by rw [tz_s7 (by omega)]; dsimp only; omega))
          · have n40 : tz_ne (t a) 40 := fun e => c427 (by omega)
            clear c427
            refine ex_al oq_X12_signToken_216 rfl ?_
            obtain ⟨x433, ax433, rx433, lx433, ux433⟩ := fi_which Th407
            refine ex_gf oq_X12_signToken_217 Th407 (k := 111) (d := 12) rfl rfl ax433 ?_
            refine ex_bi oq_X12_signToken_220 (m := 41) (by decide) (fun x434 hx434 => ?_)
            refine ex_if oq_X12_signToken_222 (t := 261) rfl rfl (fun (c435 : x433.toInt = x434.toInt) => ?_) (fun (c435 : ¬ (x433.toInt = x434.toInt)) => ?_)
            · refine ex_ic oq_X12_signToken_261 (m := 1) (by decide) (fun x436 hx436 => ?_)
              refine ex_go oq_X12_signToken_262 (t := 266) rfl rfl ?_
              refine ex_isA oq_X12_signToken_266 (fun L437 gL437_1 kL437 => ?_)
              have gL437_0 : cv_get L437 0 = some (cv_r 111) := kL437 0 _ (by decide) (fun _ => rfl) rfl
              refine ex_al oq_X12_signToken_267 gL437_0 ?_
              refine ex_il oq_X12_signToken_268 gL437_1 ?_
              refine ex_if0 oq_X12_signToken_269 (t := 276) rfl rfl (fun (c438 : x436.toInt = 0) => ?_) (fun (c438 : ¬ (x436.toInt = 0)) => ?_)
              · exfalso; omega
              · refine ex_ic oq_X12_signToken_272 (m := 4) (by decide) (fun x439 hx439 => ?_)
                refine ex_go oq_X12_signToken_273 (t := 278) rfl rfl ?_
                refine ex_pfi oq_X12_signToken_278 Th407 (k := 111) (d := 12) rfl rfl rfl (by omega) (by omega) (fun h440 Th440 wh440 => ?_)
                have Fh440 : cw_Fr cw_Ds cw_sh kk_X12_signToken.2.2.2.2.2.1 h0 h440 := cw_Fr_tr Fh407 (cw_Fr_wrf wh440 (k := 111) (d := 12) rfl rfl (by decide +kernel))
                have eh440_6 : ri_at h440 111 6 = ri_at h407 111 6 := ri_ne wh440 (by decide)
                have eh440_7 : ri_at h440 111 7 = ri_at h407 111 7 := ri_ne wh440 (by decide)
                have eh440_8 : ri_at h440 111 8 = x439.toInt := ri_self wh440
                have eh440_9 : ri_at h440 111 9 = ri_at h407 111 9 := ri_ne wh440 (by decide)
                have eh440_10 : ri_at h440 111 10 = ri_at h407 111 10 := ri_ne wh440 (by decide)
                first | (exfalso; omega) | exact ex_retv oq_X12_signToken_281 rfl (hQ h440 Th440 Fh440 (by omega) (by omega) (by rw [tz_s7 (by omega)]; dsimp only; omega) (by rw [tz_s7 (by omega)]; dsimp only; omega) (by rw [tz_s7 (by omega)]; dsimp only; omega))
            · have n41 : tz_ne (t a) 41 := fun e => c435 (by omega)
              clear c435
              refine ex_al oq_X12_signToken_225 rfl ?_
              obtain ⟨x441, ax441, rx441, lx441, ux441⟩ := fi_which Th407
              refine ex_gf oq_X12_signToken_226 Th407 (k := 111) (d := 12) rfl rfl ax441 ?_
              refine ex_bi oq_X12_signToken_229 (m := 43) (by decide) (fun x442 hx442 => ?_)
              refine ex_if oq_X12_signToken_231 (t := 261) rfl rfl (fun (c443 : x441.toInt = x442.toInt) => ?_) (fun (c443 : ¬ (x441.toInt = x442.toInt)) => ?_)
              · refine ex_ic oq_X12_signToken_261 (m := 1) (by decide) (fun x444 hx444 => ?_)
                refine ex_go oq_X12_signToken_262 (t := 266) rfl rfl ?_
                refine ex_isA oq_X12_signToken_266 (fun L445 gL445_1 kL445 => ?_)
                have gL445_0 : cv_get L445 0 = some (cv_r 111) := kL445 0 _ (by decide) (fun _ => rfl) rfl
                refine ex_al oq_X12_signToken_267 gL445_0 ?_
                refine ex_il oq_X12_signToken_268 gL445_1 ?_
                refine ex_if0 oq_X12_signToken_269 (t := 276) rfl rfl (fun (c446 : x444.toInt = 0) => ?_) (fun (c446 : ¬ (x444.toInt = 0)) => ?_)
                · exfalso; omega
                · refine ex_ic oq_X12_signToken_272 (m := 4) (by decide) (fun x447 hx447 => ?_)
                  refine ex_go oq_X12_signToken_273 (t := 278) rfl rfl ?_
                  refine ex_pfi oq_X12_signToken_278 Th407 (k := 111) (d := 12) rfl rfl rfl (by omega) (by omega) (fun h448 Th448 wh448 => ?_)
                  have Fh448 : cw_Fr cw_Ds cw_sh kk_X12_signToken.2.2.2.2.2.1 h0 h448 := cw_Fr_tr Fh407 (cw_Fr_wrf wh448 (k := 111) (d := 12) rfl rfl (by decide +kernel))
                  have eh448_6 : ri_at h448 111 6 = ri_at h407 111 6 := ri_ne wh448 (by decide)
                  have eh448_7 : ri_at h448 111 7 = ri_at h407 111 7 := ri_ne wh448 (by decide)
                  have eh448_8 : ri_at h448 111 8 = x447.toInt := ri_self wh448
                  have eh448_9 : ri_at h448 111 9 = ri_at h407 111 9 := ri_ne wh448 (by decide)
                  have eh448_10 : ri_at h448 111 10 = ri_at h407 111 10 := ri_ne wh448 (by decide)
                  first | (exfalso; omega) | exact ex_retv oq_X12_signToken_281 rfl (hQ h448 Th448 Fh448 (by omega) (by omega) (by rw [tz_s7 (by omega)]; dsimp only; omega) (by rw [tz_s7 (by omega)]; dsimp only; omega) (by rw [tz_s7 (by omega)]; dsimp only; omega))
              · have n43 : tz_ne (t a) 43 := fun e => c443 (by omega)
                clear c443
                refine ex_al oq_X12_signToken_234 rfl ?_
                obtain ⟨x449, ax449, rx449, lx449, ux449⟩ := fi_which Th407
                refine ex_gf oq_X12_signToken_235 Th407 (k := 111) (d := 12) rfl rfl ax449 ?_
                refine ex_bi oq_X12_signToken_238 (m := 45) (by decide) (fun x450 hx450 => ?_)
                refine ex_if oq_X12_signToken_240 (t := 261) rfl rfl (fun (c451 : x449.toInt = x450.toInt) => ?_) (fun (c451 : ¬ (x449.toInt = x450.toInt)) => ?_)
                · refine ex_ic oq_X12_signToken_261 (m := 1) (by decide) (fun x452 hx452 => ?_)
                  refine ex_go oq_X12_signToken_262 (t := 266) rfl rfl ?_
                  refine ex_isA oq_X12_signToken_266 (fun L453 gL453_1 kL453 => ?_)
                  have gL453_0 : cv_get L453 0 = some (cv_r 111) := kL453 0 _ (by decide) (fun _ => rfl) rfl
                  refine ex_al oq_X12_signToken_267 gL453_0 ?_
                  refine ex_il oq_X12_signToken_268 gL453_1 ?_
                  refine ex_if0 oq_X12_signToken_269 (t := 276) rfl rfl (fun (c454 : x452.toInt = 0) => ?_) (fun (c454 : ¬ (x452.toInt = 0)) => ?_)
                  · exfalso; omega
                  · refine ex_ic oq_X12_signToken_272 (m := 4) (by decide) (fun x455 hx455 => ?_)
                    refine ex_go oq_X12_signToken_273 (t := 278) rfl rfl ?_
                    refine ex_pfi oq_X12_signToken_278 Th407 (k := 111) (d := 12) rfl rfl rfl (by omega) (by omega) (fun h456 Th456 wh456 => ?_)
                    have Fh456 : cw_Fr cw_Ds cw_sh kk_X12_signToken.2.2.2.2.2.1 h0 h456 := cw_Fr_tr Fh407 (cw_Fr_wrf wh456 (k := 111) (d := 12) rfl rfl (by decide +kernel))
                    have eh456_6 : ri_at h456 111 6 = ri_at h407 111 6 := ri_ne wh456 (by decide)
                    have eh456_7 : ri_at h456 111 7 = ri_at h407 111 7 := ri_ne wh456 (by decide)
                    have eh456_8 : ri_at h456 111 8 = x455.toInt := ri_self wh456
                    have eh456_9 : ri_at h456 111 9 = ri_at h407 111 9 := ri_ne wh456 (by decide)
                    have eh456_10 : ri_at h456 111 10 = ri_at h407 111 10 := ri_ne wh456 (by decide)
                    first | (exfalso; omega) | exact ex_retv oq_X12_signToken_281 rfl (hQ h456 Th456 Fh456 (by omega) (by omega) (by rw [tz_s7 (by omega)]; dsimp only; omega) (by rw [tz_s7 (by omega)]; dsimp only; omega) (by rw [tz_s7 (by omega)]; dsimp only; omega))
                · have n45 : tz_ne (t a) 45 := fun e => c451 (by omega)
                  clear c451
                  refine ex_al oq_X12_signToken_243 rfl ?_
                  obtain ⟨x457, ax457, rx457, lx457, ux457⟩ := fi_which Th407
                  refine ex_gf oq_X12_signToken_244 Th407 (k := 111) (d := 12) rfl rfl ax457 ?_
                  refine ex_bi oq_X12_signToken_247 (m := 42) (by decide) (fun x458 hx458 => ?_)
                  refine ex_if oq_X12_signToken_249 (t := 261) rfl rfl (fun (c459 : x457.toInt = x458.toInt) => ?_) (fun (c459 : ¬ (x457.toInt = x458.toInt)) => ?_)
                  · refine ex_ic oq_X12_signToken_261 (m := 1) (by decide) (fun x460 hx460 => ?_)
                    refine ex_go oq_X12_signToken_262 (t := 266) rfl rfl ?_
                    refine ex_isA oq_X12_signToken_266 (fun L461 gL461_1 kL461 => ?_)
                    have gL461_0 : cv_get L461 0 = some (cv_r 111) := kL461 0 _ (by decide) (fun _ => rfl) rfl
                    refine ex_al oq_X12_signToken_267 gL461_0 ?_
                    refine ex_il oq_X12_signToken_268 gL461_1 ?_
                    refine ex_if0 oq_X12_signToken_269 (t := 276) rfl rfl (fun (c462 : x460.toInt = 0) => ?_) (fun (c462 : ¬ (x460.toInt = 0)) => ?_)
                    · exfalso; omega
                    · refine ex_ic oq_X12_signToken_272 (m := 4) (by decide) (fun x463 hx463 => ?_)
                      refine ex_go oq_X12_signToken_273 (t := 278) rfl rfl ?_
                      refine ex_pfi oq_X12_signToken_278 Th407 (k := 111) (d := 12) rfl rfl rfl (by omega) (by omega) (fun h464 Th464 wh464 => ?_)
                      have Fh464 : cw_Fr cw_Ds cw_sh kk_X12_signToken.2.2.2.2.2.1 h0 h464 := cw_Fr_tr Fh407 (cw_Fr_wrf wh464 (k := 111) (d := 12) rfl rfl (by decide +kernel))
                      have eh464_6 : ri_at h464 111 6 = ri_at h407 111 6 := ri_ne wh464 (by decide)
                      have eh464_7 : ri_at h464 111 7 = ri_at h407 111 7 := ri_ne wh464 (by decide)
                      have eh464_8 : ri_at h464 111 8 = x463.toInt := ri_self wh464
                      have eh464_9 : ri_at h464 111 9 = ri_at h407 111 9 := ri_ne wh464 (by decide)
                      have eh464_10 : ri_at h464 111 10 = ri_at h407 111 10 := ri_ne wh464 (by decide)
                      first | (exfalso; omega) | exact ex_retv oq_X12_signToken_281 rfl (hQ h464 Th464 Fh464 (by omega) (by omega) (by rw [tz_s7 (by omega)]; dsimp only; omega) (by rw [tz_s7 (by omega)]; dsimp only; omega) (by rw [tz_s7 (by omega)]; dsimp only; omega))
                  · have n42 : tz_ne (t a) 42 := fun e => c459 (by omega)
                    clear c459
                    refine ex_al oq_X12_signToken_252 rfl ?_
                    obtain ⟨x465, ax465, rx465, lx465, ux465⟩ := fi_which Th407
                    refine ex_gf oq_X12_signToken_253 Th407 (k := 111) (d := 12) rfl rfl ax465 ?_
                    refine ex_bi oq_X12_signToken_256 (m := 47) (by decide) (fun x466 hx466 => ?_)
                    refine ex_if oq_X12_signToken_258 (t := 265) rfl rfl (fun (c467 : ¬ x465.toInt = x466.toInt) => ?_) (fun (c467 : ¬ (¬ x465.toInt = x466.toInt)) => ?_)
                    · have n47 : tz_ne (t a) 47 := fun e => c467 (by omega)
                      clear c467
                      refine ex_ic oq_X12_signToken_265 (m := 0) (by decide) (fun x468 hx468 => ?_)
                      refine ex_isA oq_X12_signToken_266 (fun L469 gL469_1 kL469 => ?_)
                      have gL469_0 : cv_get L469 0 = some (cv_r 111) := kL469 0 _ (by decide) (fun _ => rfl) rfl
                      refine ex_al oq_X12_signToken_267 gL469_0 ?_
                      refine ex_il oq_X12_signToken_268 gL469_1 ?_
                      refine ex_if0 oq_X12_signToken_269 (t := 276) rfl rfl (fun (c470 : x468.toInt = 0) => ?_) (fun (c470 : ¬ (x468.toInt = 0)) => ?_)
                      · refine ex_bi oq_X12_signToken_276 (m := 6) (by decide) (fun x471 hx471 => ?_)
                        refine ex_pfi oq_X12_signToken_278 Th407 (k := 111) (d := 12) rfl rfl rfl (by omega) (by omega) (fun h472 Th472 wh472 => ?_)
                        have Fh472 : cw_Fr cw_Ds cw_sh kk_X12_signToken.2.2.2.2.2.1 h0 h472 := cw_Fr_tr Fh407 (cw_Fr_wrf wh472 (k := 111) (d := 12) rfl rfl (by decide +kernel))
                        have eh472_6 : ri_at h472 111 6 = ri_at h407 111 6 := ri_ne wh472 (by decide)
                        have eh472_7 : ri_at h472 111 7 = ri_at h407 111 7 := ri_ne wh472 (by decide)
                        have eh472_8 : ri_at h472 111 8 = x471.toInt := ri_self wh472
                        have eh472_9 : ri_at h472 111 9 = ri_at h407 111 9 := ri_ne wh472 (by decide)
                        have eh472_10 : ri_at h472 111 10 = ri_at h407 111 10 := ri_ne wh472 (by decide)
                        first | (exfalso; omega) | exact ex_retv oq_X12_signToken_281 rfl (hQ h472 Th472 Fh472 (by omega) (by omega) (by rw [tz_s8n n59 n40 n41 n43 n45 n42 n47 n61 n60 n62]; dsimp only; omega) (by rw [tz_s8n n59 n40 n41 n43 n45 n42 n47 n61 n60 n62]; dsimp only; omega) (by rw [tz_s8n n59 n40 n41 n43 n45 n42 n47 n61 n60 n62]; dsimp only; omega))
                      · exfalso; omega
                    · have cpc467 : x465.toInt = x466.toInt := by omega
                      clear c467
                      refine ex_ic oq_X12_signToken_261 (m := 1) (by decide) (fun x473 hx473 => ?_)
                      refine ex_go oq_X12_signToken_262 (t := 266) rfl rfl ?_
                      refine ex_isA oq_X12_signToken_266 (fun L474 gL474_1 kL474 => ?_)
                      have gL474_0 : cv_get L474 0 = some (cv_r 111) := kL474 0 _ (by decide) (fun _ => rfl) rfl
                      refine ex_al oq_X12_signToken_267 gL474_0 ?_
                      refine ex_il oq_X12_signToken_268 gL474_1 ?_
                      refine ex_if0 oq_X12_signToken_269 (t := 276) rfl rfl (fun (c475 : x473.toInt = 0) => ?_) (fun (c475 : ¬ (x473.toInt = 0)) => ?_)
                      · exfalso; omega
                      · refine ex_ic oq_X12_signToken_272 (m := 4) (by decide) (fun x476 hx476 => ?_)
                        refine ex_go oq_X12_signToken_273 (t := 278) rfl rfl ?_
                        refine ex_pfi oq_X12_signToken_278 Th407 (k := 111) (d := 12) rfl rfl rfl (by omega) (by omega) (fun h477 Th477 wh477 => ?_)
                        have Fh477 : cw_Fr cw_Ds cw_sh kk_X12_signToken.2.2.2.2.2.1 h0 h477 := cw_Fr_tr Fh407 (cw_Fr_wrf wh477 (k := 111) (d := 12) rfl rfl (by decide +kernel))
                        have eh477_6 : ri_at h477 111 6 = ri_at h407 111 6 := ri_ne wh477 (by decide)
                        have eh477_7 : ri_at h477 111 7 = ri_at h407 111 7 := ri_ne wh477 (by decide)
                        have eh477_8 : ri_at h477 111 8 = x476.toInt := ri_self wh477
                        have eh477_9 : ri_at h477 111 9 = ri_at h407 111 9 := ri_ne wh477 (by decide)
                        have eh477_10 : ri_at h477 111 10 = ri_at h407 111 10 := ri_ne wh477 (by decide)
                        first | (exfalso; omega) | exact ex_retv oq_X12_signToken_281 rfl (hQ h477 Th477 Fh477 (by omega) (by omega) (by rw [tz_s7 (by omega)]; dsimp only; omega) (by rw [tz_s7 (by omega)]; dsimp only; omega) (by rw [tz_s7 (by omega)]; dsimp only; omega))
      · exfalso; omega
theorem rt_signToken {h0 : cv_H} {n a : Nat} (ht : ∀ i, i < n → t i = ri_at h0 112 i) (hT : cw_T G h0) (hn9 : n ≤ 900) (han : a < n) (hs : ri_at h0 111 6 = n) (hx : ri_at h0 111 7 = a) (hQ : ∀ h', cw_T G h' → cw_Fr cw_Ds cw_sh kk_X12_signToken.2.2.2.2.2.1 h0 h' → ri_at h' 111 6 = n → ri_at h' 111 10 = ri_at h0 111 10 → ri_at h' 111 7 = (tz_s t n a).2.2 → ri_at h' 111 8 = (tz_s t n a).1 → ((tz_s t n a).1 ≠ 6 → ri_at h' 111 9 = (tz_s t n a).2.1) → Q (none, h')) : cw_X X 164 Q 0 (cv_ent 0 [cv_r 111]) [] h0 := by
  by_cases q60 : ri_at h0 112 a = 60
  · exact rt_sign60 ht hT hn9 han hs hx hQ q60
  by_cases q61 : ri_at h0 112 a = 61
  · exact rt_sign61 ht hT hn9 han hs hx hQ q61
  by_cases q62 : ri_at h0 112 a = 62
  · exact rt_sign62 ht hT hn9 han hs hx hQ q62
  exact rt_signN ht hT hn9 han hs hx hQ q60 q61 q62
end TZ
