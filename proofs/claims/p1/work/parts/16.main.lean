/-! ===== the law from its entry ===== -/
theorem av_cut_ok {x : Int} (hx : x ≤ 2147483647) : ∀ (l : List Int) (lo : Int), lo ≤ x → ∃ b ∈ av_cut lo l, b.1 ≤ x ∧ x ≤ b.2 := by
  intro l
  induction l with
  | nil => intro lo h; exact ⟨_, List.mem_singleton.mpr rfl, h, hx⟩
  | cons c l ih =>
    intro lo h
    by_cases hc : x < c
    · exact ⟨(lo, c - 1), List.mem_cons_self, h, by dsimp only; omega⟩
    · obtain ⟨b, h1, h2⟩ := ih c (by omega)
      exact ⟨b, List.mem_cons_of_mem _ h1, h2⟩
def lw_rowA (x : Int32) (b : Int × Int) : List av_V := [av_i (x.toInt, x.toInt), av_i b, av_i av_top, av_i av_top, av_i av_top, av_i av_top]
theorem lw_dnT {sv : Nat → Value} (x : Int32) : av_dn sv [] (av_i av_top) (.int x) := ⟨x, rfl, av_top_ok x⟩
theorem lw_dnB {sv : Nat → Value} {xs : Nat → Int32} {b : Int × Int} (h : b.1 ≤ (xs 1).toInt ∧ (xs 1).toInt ≤ b.2) : ∀ (k : Nat) (v : av_V), (lw_row b)[k]? = some v → av_dn sv [] v (.int (xs k)) := by
  intro k v hk
  match k, hk with
  | 0, hk => cases hk; exact lw_dnT _
  | 1, hk => cases hk; exact ⟨_, rfl, h⟩
  | 2, hk => cases hk; exact lw_dnT _
  | 3, hk => cases hk; exact lw_dnT _
  | 4, hk => cases hk; exact lw_dnT _
  | 5, hk => cases hk; exact lw_dnT _
  | k + 6, hk => exact absurd hk (by show ¬ ([] : List av_V)[k]? = some v; simp)
theorem lw_dnA {sv : Nat → Value} {xs : Nat → Int32} {b : Int × Int} (h : b.1 ≤ (xs 1).toInt ∧ (xs 1).toInt ≤ b.2) : ∀ (k : Nat) (v : av_V), (lw_rowA (xs 0) b)[k]? = some v → av_dn sv [] v (.int (xs k)) := by
  intro k v hk
  match k, hk with
  | 0, hk => cases hk; exact ⟨_, rfl, Int.le_refl _, Int.le_refl _⟩
  | 1, hk => cases hk; exact ⟨_, rfl, h⟩
  | 2, hk => cases hk; exact lw_dnT _
  | 3, hk => cases hk; exact lw_dnT _
  | 4, hk => cases hk; exact lw_dnT _
  | 5, hk => cases hk; exact lw_dnT _
  | k + 6, hk => exact absurd hk (by show ¬ ([] : List av_V)[k]? = some v; simp)
theorem lw_dnS {sv : Nat → Value} {xs : Nat → Int32} {L : Nat} : ∀ (k : Nat) (v : av_V), (List.replicate L (av_i av_top))[k]? = some v → av_dn sv [] v (.int (xs k)) := fun k v hk => by rw [av_rep hk]; exact lw_dnT _
theorem lw_sub23 : ∀ q ∈ av_from 23 op_L_law, q ∈ op_L_law := fun q h => av_from_mem h
theorem lw_sub40 : ∀ q ∈ av_from 40 op_L_law, q ∈ op_L_law := fun q h => av_from_mem h
theorem lw_sub377 : ∀ q ∈ av_from 377 op_L_law, q ∈ op_L_law := fun q h => av_from_mem h
set_option maxRecDepth 1000000 in
theorem rn_short : ∀ L, L < 6 → lw_ends (av_run fk_all mt_all 100 (wd_bytes, some (List.replicate L (av_i av_top))) 128 (av_from 23 op_L_law) (23, lw_loc, [], hp_3, 150, 5612)) = true := by decide +kernel
theorem lw_and {k : Nat} (x : Int32) (hk : k < 64) (h : x &&& 63 = nI k) : av_b2 (fun x y => x &&& y) (x.toInt, x.toInt) (63, 63) = (Int.ofNat k, Int.ofNat k) := by
  unfold av_b2
  have e1 : (decide ((x.toInt, x.toInt).1 = (x.toInt, x.toInt).2) && decide (((63 : Int), (63 : Int)).1 = ((63 : Int), (63 : Int)).2)) = true := by simp
  rw [e1, cond_true]
  dsimp only
  rw [Int32.ofInt_toInt]
  have e2 : Int32.ofInt 63 = 63 := by decide
  rw [e2, h, nI_toInt (by omega)]
  rfl
theorem rn_all : ∀ k, k < 64 → k ≠ 4 → (av_cut (-2147483648) (lw_cuts k)).all (lw_ck k) = true := by
  intro k hk h4
  match k, hk, h4 with
  | 0, _, _ => exact rn_0
  | 1, _, _ => exact rn_1
  | 2, _, _ => exact rn_2
  | 3, _, _ => exact rn_3
  | 4, _, h4 => exact absurd rfl h4
  | 5, _, _ => exact rn_5
  | 6, _, _ => exact rn_6
  | 7, _, _ => exact rn_7
  | 8, _, _ => exact rn_8
  | 9, _, _ => exact rn_9
  | 10, _, _ => exact rn_10
  | 11, _, _ => exact rn_11
  | 12, _, _ => exact rn_12
  | 13, _, _ => exact rn_13
  | 14, _, _ => exact rn_14
  | 15, _, _ => exact rn_15
  | 16, _, _ => exact rn_16
  | 17, _, _ => exact rn_17
  | 18, _, _ => exact rn_18
  | 19, _, _ => exact rn_19
  | 20, _, _ => exact rn_20
  | 21, _, _ => exact rn_21
  | 22, _, _ => exact rn_22
  | 23, _, _ => exact rn_23
  | 24, _, _ => exact rn_24
  | 25, _, _ => exact rn_25
  | 26, _, _ => exact rn_26
  | 27, _, _ => exact rn_27
  | 28, _, _ => exact rn_28
  | 29, _, _ => exact rn_29
  | 30, _, _ => exact rn_30
  | 31, _, _ => exact rn_31
  | 32, _, _ => exact rn_32
  | 33, _, _ => exact rn_33
  | 34, _, _ => exact rn_34
  | 35, _, _ => exact rn_35
  | 36, _, _ => exact rn_36
  | 37, _, _ => exact rn_37
  | 38, _, _ => exact rn_38
  | 39, _, _ => exact rn_39
  | 40, _, _ => exact rn_40
  | 41, _, _ => exact rn_41
  | 42, _, _ => exact rn_42
  | 43, _, _ => exact rn_43
  | 44, _, _ => exact rn_44
  | 45, _, _ => exact rn_45
  | 46, _, _ => exact rn_46
  | 47, _, _ => exact rn_47
  | 48, _, _ => exact rn_48
  | 49, _, _ => exact rn_49
  | 50, _, _ => exact rn_50
  | 51, _, _ => exact rn_51
  | 52, _, _ => exact rn_52
  | 53, _, _ => exact rn_53
  | 54, _, _ => exact rn_54
  | 55, _, _ => exact rn_55
  | 56, _, _ => exact rn_56
  | 57, _, _ => exact rn_57
  | 58, _, _ => exact rn_58
  | 59, _, _ => exact rn_59
  | 60, _, _ => exact rn_60
  | 61, _, _ => exact rn_61
  | 62, _, _ => exact rn_62
  | 63, _, _ => exact rn_63
  | k + 64, hk, _ => omega
def lw_d6 : Int × Int := av_b2 (fun x y => x - y) ((Int32.ofNat 6).toInt, (Int32.ofNat 6).toInt) ((Int8.ofInt 6).toInt32.toInt, (Int8.ofInt 6).toInt32.toInt)
theorem lw_d6_eq : lw_d6 = (0, 0) := by decide +kernel
set_option maxRecDepth 1000000 in
theorem lw_steps23 (x : Int32) (b : Int × Int) : av_stp (wd_bytes, some (lw_rowA x b)) fk_all mt_L_law 5 (av_from 23 op_L_law) (23, lw_loc, [], hp_3, 150, 5612) = some (30, lw_loc, [av_i lw_d6, av_i (0, 0)], hp_3, 150, 5612) := by rfl
set_option maxRecDepth 1000000 in
theorem lw_steps30 (x : Int32) (b : Int × Int) : av_stp (wd_bytes, some (lw_rowA x b)) fk_all mt_L_law 5 (av_from 30 op_L_law) (30, lw_loc, [av_i (0, 0), av_i (0, 0)], hp_3, 150, 5612) = some (39, lw_loc, [av_i (63, 63), av_i (x.toInt, x.toInt)], hp_3, 150, 5612) := by rfl
section LM
variable {D : va_G} {cy : Nat → ClassId} {sv : Nat → Value} {l : Launch} {p : Program} {e : Env} {s : State} {m : MethodId} {b : Nat} {below : List Frame} {meth : Method} {c : Code}
theorem lw_open {L : Nat} {xs : Nat → Int32} (hL : L ≤ 6) (hsv2 : sv 2 = .ref b)
    (mkC : ∀ ys : List av_V, ys.length = L → (∀ (k : Nat) (v : av_V), ys[k]? = some v → av_dn sv [] v (.int (xs k))) → av_Cx av_T vwCl D cy (fun q => s.heap.size ≤ q) sv (wd_bytes, some ys) mt_L_law p room_1 s m #[Value.ref b] meth c)
    (hlook : ∀ b1 ∈ av_cut (-2147483648) (lw_cuts 4), av_Cx av_T vwCl D cy (fun q => s.heap.size ≤ q) sv (wd_bytes, some (lw_row b1)) mt_L_law p room_1 s m #[Value.ref b] meth c → av_Good vwCl D cy (fun q => s.heap.size ≤ q) sv [] 7 p l e room_1 s m #[Value.ref b] below meth c (lw_Z below #[Value.ref b] s) (40, lw_loc, [av_i (Int.ofNat 4, Int.ofNat 4)], hp_3, 150, 5612)) :
    W p l e room_1 s m #[Value.ref b] below meth c s.heap [] 0 0 (lw_Z below #[Value.ref b] s) (entryFrame m ([Value.ref b] : List Value).toArray 7) := by
  have hg : av_Good vwCl D cy (fun q => s.heap.size ≤ q) sv [] 7 p l e room_1 s m #[Value.ref b] below meth c (lw_Z below #[Value.ref b] s) (0, [(0, av_s 2)], [], [], 0, 0) := by
    by_cases h6 : L < 6
    · have C := mkC (List.replicate L (av_i av_top)) (by simp) lw_dnS
      exact lw_make C rfl (lw_run C lw_sub23 (rn_short L h6))
    · have hL6 : L = 6 := by omega
      subst hL6
      obtain ⟨k, hk, hx0⟩ := pk_andE (xs 0) (m := 63) 6 (by decide)
      have hk : k < 64 := hk
      obtain ⟨b1, hb1, hb2⟩ := av_cut_ok (av_i32 (xs 1)).2 (lw_cuts k) (-2147483648) (av_i32 (xs 1)).1
      have CA := mkC (lw_rowA (xs 0) b1) rfl (lw_dnA hb2)
      have CB := mkC (lw_row b1) rfl (lw_dnB hb2)
      refine lw_make CA rfl ?_
      refine lw_stp CA lw_sub23 (lw_steps23 (xs 0) b1) ?_
      rw [lw_d6_eq]
      refine lw_stp CA (fun q h => av_from_mem h) (lw_steps30 (xs 0) b1) ?_
      refine av_bin_ok (mt := mt_all) (ins := .iand) (len := 1) (a := 0) (b := 0) (z := 0) (r := (Int.ofNat k, Int.ofNat k)) CA (ok_L_law_0 _ (List.mem_of_getElem? (i := 23) rfl)) rfl (by show some (av_b2 _ _ _) = _; rw [lw_and (xs 0) hk hx0]) ?_
      by_cases h4 : k = 4
      · subst h4
        exact hlook b1 hb1 CB
      · exact lw_run CB lw_sub40 (List.all_eq_true.mp (rn_all k hk h4) b1 hb1)
  rw [lg_entry_eq]
  have hl := lv_entry ([.ref b]) (n := 7) (Nat.le_of_ble_eq_true rfl)
  refine hg [] [] s.heap [] _ [] (List.prefix_refl _) ⟨rfl, rfl, fun k c hk => by simp at hk⟩ (fun k q h => by simp at h) ⟨fun i j p q h => by simp at h, fun k q h => by simp at h⟩ va_S.rf ⟨_, hl, fun q hq => ?_⟩ trivial
  obtain rfl : q = (0, av_s 2) := by simpa using hq
  exact ⟨.ref b, hsv2.symm, List.mem_cons_self⟩
end LM
