/-! ===== the law: feed, text, look; a turn; all turns ===== -/
theorem lg_L_set {L : cv_L} {i : Int32} {k : Nat} {v : cv_V} (hk : 5 ≤ k) (hL : lg_L L i) : lg_L (cv_set L k v) i := by
  obtain ⟨l0, l1, l2, l3, l4⟩ := hL
  exact ⟨cw_Lk_set 0 _ (by omega) (fun q => absurd q (by omega)) l0, cw_Lk_set 1 _ (by omega) (fun q => absurd q (by omega)) l1, cw_Lk_set 2 _ (by omega) (fun q => absurd q (by omega)) l2, cw_Lk_set 3 _ (by omega) (fun q => absurd q (by omega)) l3, cw_Lk_set 4 _ (by omega) (fun _ => rfl) l4⟩
theorem lg_L_inc {L : cv_L} {i j : Int32} (hL : lg_L L i) : lg_L (cv_set L 4 (cv_i j)) j := by
  obtain ⟨l0, l1, l2, l3, l4⟩ := hL
  exact ⟨cw_Lk_set 0 _ (by decide) (fun q => absurd q (by decide)) l0, cw_Lk_set 1 _ (by decide) (fun q => absurd q (by decide)) l1, cw_Lk_set 2 _ (by decide) (fun q => absurd q (by decide)) l2, cw_Lk_set 3 _ (by decide) (fun _ => rfl) l3, cw_gs_self _ _ _⟩
section LG
variable {X : cv_X} {G : cv_S → Prop} {xs : List Int32} {L : cv_L} {i : Int32} {h : cv_H} {c n : Nat}
theorem lg_c4 (hR : lg_R X G) (hX : cw_Xok X) (h2 : X 2 = some xs) (h0 : 0 ≤ i.toInt) (h6 : i.toInt + 6 ≤ xs.length) (hl : xs.length ≤ 3072) (hL : lg_L L i) (hH : lg_H h) (hc : c + 20 ≤ 601024) (hs : n + 200 ≤ 7293034) (kk : ∀ L' h', lg_L L' i → lg_H h' → G (1487, L', [], h', c + 20, n + 200)) : G (360, L, [], h, c, n) := by
  obtain ⟨Gn, hT, hP, he, y, hy⟩ := hH
  refine lg_ld hR (lg_o_ok (show lg_o 360 (.aload_n 1) 1 0 0 0 = true by decide +kernel)) rfl rfl hL.2.1 rfl ?_
  refine lg_args hR h2 h0 h6 hl hL [1, 2] 361 _ (by decide +kernel) ?_
  refine lg_ld hR (lg_o_ok (show lg_o 373 (.aload_n 3) 1 0 0 0 = true by decide +kernel)) rfl rfl hL.2.2.2.1 rfl ?_
  refine hR.2.2.2.1 L h c n (lg_v xs i 1) (lg_v xs i 2) Gn y hT hP hy hc hs (fun x h1 y1 hT1 hP1 t1 hy1 => ?_)
  refine hR.1 _ (377, L, [cv_i x], h1, c + 20, n + 200) (379, cv_set L 5 (cv_i x), [], h1, c + 20, n + 200) (lg_o_ok (show lg_o 377 (.istore 5) 2 0 0 0 = true by decide +kernel)) rfl ?_
  have hL1 : lg_L (cv_set L 5 (cv_i x)) i := lg_L_set (by decide) hL
  refine lg_callJ (pc := 379) (js := [1, 2]) (lv := 2) (ix := 44) (j := 218) (d := 12) (p1 := 395) hR h2 h0 h6 hl hL1 hT1 hc hs (by decide +kernel) hL1.2.2.1 (k := 111) rfl rfl (by decide +kernel) ⟨rfl, rfl⟩ (by decide) rfl (zR_c4 _ Gn h1 ([1, 2].map (lg_v xs i)) (cw_Xok_no2 hX) rfl hT1 hP1 (lg_E_S he t1)) (fun o ho => ?_)
  obtain ⟨x2, G2, h3, rfl, hT2, hP2, he2, y2⟩ := ho
  refine hR.1 _ (395, cv_set L 5 (cv_i x), [cv_i x2], h3, c + 20, n + 200) (397, cv_set (cv_set L 5 (cv_i x)) 6 (cv_i x2), [], h3, c + 20, n + 200) (lg_o_ok (show lg_o 395 (.istore 6) 2 0 0 0 = true by decide +kernel)) rfl ?_
  exact lg_goto (off := 1090) hR (by decide +kernel) (by decide +kernel) (kk _ h3 (lg_L_set (by decide) hL1) ⟨G2, hT2, hP2, he2, y1, by rw [y2]; exact hy1⟩)
def lg_offs : Array Int := #[160, 233, 258, 283, 320, 360, 397, 422, 447, 484, 509, 534, 571, 584, 621, 682, 719, 768, 817, 854, 927, 952, 977, 1002, 1051, 1088, 1125, 1150, 1175, 1212, 1237, 1286, 1323, 1396, 1409, 1422]
def lg_tgs : List Nat := [200, 273, 298, 323, 360, 400, 437, 462, 487, 524, 549, 574, 611, 624, 661, 722, 759, 808, 857, 894, 967, 992, 1017, 1042, 1091, 1128, 1165, 1190, 1215, 1252, 1277, 1326, 1363, 1436, 1449, 1462, 1487, 1487, 1487, 1487, 1487, 1487, 1487, 1487, 1487, 1487, 1487, 1487, 1487, 1487, 1487, 1487, 1487, 1487, 1487, 1487, 1487, 1487, 1487, 1487, 1487, 1487, 1487, 1487]
def lg_swt (x : Int32) : Option Nat := bif decide (x.toInt < 0) || decide ((35 : Int) < x.toInt) then (bif cv_jmp 40 1447 then some (cv_tgt 40 1447) else none) else
  (match lg_offs[(x.toInt - 0).toNat]? with
  | some off => bif cv_jmp 40 off then some (cv_tgt 40 off) else none
  | none => none)
set_option maxRecDepth 20000 in
theorem lg_sw (x : Int32) : cv_one X (40, .tableswitch 1447 0 35 lg_offs, 160, 0, 0, 0) (40, L, [cv_i x], h, c, n) = (lg_swt x).map (fun t => (t, L, [], h, c, n)) := by
  show (bif decide (x.toInt < 0) || decide ((35 : Int) < x.toInt) then (bif cv_jmp 40 1447 then some (cv_tgt 40 1447, L, [], h, c, n) else none) else
        (match lg_offs[(x.toInt - 0).toNat]? with
        | some off => bif cv_jmp 40 off then some (cv_tgt 40 off, L, [], h, c, n) else none
        | none => none)) = _
  unfold lg_swt
  cases decide (x.toInt < 0) || decide ((35 : Int) < x.toInt) with
  | true =>
    dsimp only [cond_true]
    cases cv_jmp 40 1447 <;> rfl
  | false =>
    dsimp only [cond_false]
    cases lg_offs[(x.toInt - 0).toNat]? with
    | none => rfl
    | some off =>
      dsimp only
      cases cv_jmp 40 off <;> rfl
theorem lg_swk : ∀ k, k < 64 → lg_swt (nI k) = some (lg_tgs.getD k 0) := by
  have h : ((List.range 64).all fun k => decide (lg_swt (nI k) = some (lg_tgs.getD k 0))) = true := by decide +kernel
  intro k hk
  exact of_decide_eq_true (List.all_eq_true.mp h k (List.mem_range.mpr hk))
set_option maxRecDepth 20000 in
theorem lg_turn (hR : lg_R X G) (hX : cw_Xok X) (h2 : X 2 = some xs) (h0 : 0 ≤ i.toInt) (h6 : i.toInt + 6 ≤ xs.length) (hl : xs.length ≤ 3072) (hL : lg_L L i) (hH : lg_H h) (hc : c + 20 ≤ 601024) (hs : n + 200 ≤ 7293034) (kk : ∀ L' h' c' n', lg_L L' i → lg_H h' → c' ≤ c + 20 → n' ≤ n + 200 → G (1487, L', [], h', c', n')) : G (33, L, [], h, c, n) := by
  refine lg_ld hR (lg_o_ok (show lg_o 33 (.aload_n 0) 1 0 0 0 = true by decide +kernel)) rfl rfl hL.1 rfl ?_
  refine lg_ld hR (lg_o_ok (show lg_o 34 (.iload 4) 2 0 0 0 = true by decide +kernel)) rfl rfl hL.2.2.2.2 rfl ?_
  refine lg_iald hR h2 (lg_o_ok (show lg_o 36 .iaload 1 0 0 0 = true by decide +kernel)) h0 (by omega) ?_
  refine hR.1 _ _ (39, L, [cv_i (Int8.ofInt 63).toInt32, cv_i (xs.getD i.toNatClampNeg 0)], h, c, n) (lg_o_ok (show lg_o 37 (.bipush 63) 2 0 0 0 = true by decide +kernel)) rfl ?_
  refine hR.1 _ _ (40, L, [cv_i (xs.getD i.toNatClampNeg 0 &&& (Int8.ofInt 63).toInt32)], h, c, n) (lg_o_ok (show lg_o 39 .iand 1 0 0 0 = true by decide +kernel)) rfl ?_
  rw [show (Int8.ofInt 63).toInt32 = 63 by decide]
  obtain ⟨k, hk, e⟩ := pk_andE (xs.getD i.toNatClampNeg 0) (m := 63) 6 (by decide)
  have hk : k < 64 := hk
  rw [e]
  refine hR.1 _ _ (lg_tgs.getD k 0, L, [], h, c, n) (lg_o_ok (show lg_o 40 (.tableswitch 1447 0 35 lg_offs) 160 0 0 0 = true by decide +kernel)) (by rw [lg_sw, lg_swk k hk]; rfl) ?_
  have hc' : c ≤ 601024 := by omega
  have hs' : n ≤ 7293034 := by omega
  have k0 : ∀ h', lg_H h' → G (1487, L, [], h', c, n) := fun h' hh => kk L h' c n hL hh (by omega) (by omega)
  match k, hk with
  | 0, _ => exact lg_c0 hR hX h2 h0 h6 hl hL hH hc' hs' k0
  | 1, _ => exact lg_c1 hR hX h2 h0 h6 hl hL hH hc' hs' k0
  | 2, _ => exact lg_c2 hR hX h2 h0 h6 hl hL hH hc' hs' k0
  | 3, _ => exact lg_c3 hR hX h2 h0 h6 hl hL hH hc' hs' k0
  | 4, _ => exact lg_c4 hR hX h2 h0 h6 hl hL hH hc hs (fun L' h' a b => kk L' h' _ _ a b (Nat.le_refl _) (Nat.le_refl _))
  | 5, _ => exact lg_c5 hR hX h2 h0 h6 hl hL hH hc' hs' k0
  | 6, _ => exact lg_c6 hR hX h2 h0 h6 hl hL hH hc' hs' k0
  | 7, _ => exact lg_c7 hR hX h2 h0 h6 hl hL hH hc' hs' k0
  | 8, _ => exact lg_c8 hR hX h2 h0 h6 hl hL hH hc' hs' k0
  | 9, _ => exact lg_c9 hR hX h2 h0 h6 hl hL hH hc' hs' k0
  | 10, _ => exact lg_c10 hR hX h2 h0 h6 hl hL hH hc' hs' k0
  | 11, _ => exact lg_c11 hR hX h2 h0 h6 hl hL hH hc' hs' k0
  | 12, _ => exact lg_c12 hR hX h2 h0 h6 hl hL hH hc' hs' k0
  | 13, _ => exact lg_c13 hR hX h2 h0 h6 hl hL hH hc' hs' k0
  | 14, _ => exact lg_c14 hR hX h2 h0 h6 hl hL hH hc' hs' k0
  | 15, _ => exact lg_c15 hR hX h2 h0 h6 hl hL hH hc' hs' k0
  | 16, _ => exact lg_c16 hR hX h2 h0 h6 hl hL hH hc' hs' k0
  | 17, _ => exact lg_c17 hR hX h2 h0 h6 hl hL hH hc' hs' k0
  | 18, _ => exact lg_c18 hR hX h2 h0 h6 hl hL hH hc' hs' k0
  | 19, _ => exact lg_c19 hR hX h2 h0 h6 hl hL hH hc' hs' k0
  | 20, _ => exact lg_c20 hR hX h2 h0 h6 hl hL hH hc' hs' k0
  | 21, _ => exact lg_c21 hR hX h2 h0 h6 hl hL hH hc' hs' k0
  | 22, _ => exact lg_c22 hR hX h2 h0 h6 hl hL hH hc' hs' k0
  | 23, _ => exact lg_c23 hR hX h2 h0 h6 hl hL hH hc' hs' k0
  | 24, _ => exact lg_c24 hR hX h2 h0 h6 hl hL hH hc' hs' k0
  | 25, _ => exact lg_c25 hR hX h2 h0 h6 hl hL hH hc' hs' k0
  | 26, _ => exact lg_c26 hR hX h2 h0 h6 hl hL hH hc' hs' k0
  | 27, _ => exact lg_c27 hR hX h2 h0 h6 hl hL hH hc' hs' k0
  | 28, _ => exact lg_c28 hR hX h2 h0 h6 hl hL hH hc' hs' k0
  | 29, _ => exact lg_c29 hR hX h2 h0 h6 hl hL hH hc' hs' k0
  | 30, _ => exact lg_c30 hR hX h2 h0 h6 hl hL hH hc' hs' k0
  | 31, _ => exact lg_c31 hR hX h2 h0 h6 hl hL hH hc' hs' k0
  | 32, _ => exact lg_c32 hR hX h2 h0 h6 hl hL hH hc' hs' k0
  | 33, _ => exact lg_c33 hR hX h2 h0 h6 hl hL hH hc' hs' k0
  | 34, _ => exact lg_c34 hR hX h2 h0 h6 hl hL hH hc' hs' k0
  | 35, _ => exact lg_c35 hR hX h2 h0 h6 hl hL hH hc' hs' k0
  | 36, _ => exact k0 h hH
  | 37, _ => exact k0 h hH
  | 38, _ => exact k0 h hH
  | 39, _ => exact k0 h hH
  | 40, _ => exact k0 h hH
  | 41, _ => exact k0 h hH
  | 42, _ => exact k0 h hH
  | 43, _ => exact k0 h hH
  | 44, _ => exact k0 h hH
  | 45, _ => exact k0 h hH
  | 46, _ => exact k0 h hH
  | 47, _ => exact k0 h hH
  | 48, _ => exact k0 h hH
  | 49, _ => exact k0 h hH
  | 50, _ => exact k0 h hH
  | 51, _ => exact k0 h hH
  | 52, _ => exact k0 h hH
  | 53, _ => exact k0 h hH
  | 54, _ => exact k0 h hH
  | 55, _ => exact k0 h hH
  | 56, _ => exact k0 h hH
  | 57, _ => exact k0 h hH
  | 58, _ => exact k0 h hH
  | 59, _ => exact k0 h hH
  | 60, _ => exact k0 h hH
  | 61, _ => exact k0 h hH
  | 62, _ => exact k0 h hH
  | 63, _ => exact k0 h hH
  | k + 64, hk => omega
theorem lg_exit (hR : lg_R X G) (hc : c ≤ 601024) (hs : n ≤ 7293034) : G (1493, L, [], h, c, n) := by
  refine hR.1 _ _ (1494, L, [cv_i (Int32.ofInt 1)], h, c, n) (lg_o_ok (show lg_o 1493 (.iconst 1) 1 0 0 0 = true by decide +kernel)) rfl ?_
  exact hR.2.2.2.2 L h c n hc hs
set_option maxRecDepth 20000 in
theorem lg_head (hR : lg_R X G) (h2 : X 2 = some xs) (hl : xs.length ≤ 3072) (h0 : 0 ≤ i.toInt) (h3 : i.toInt ≤ 4000) (kt : (xs.length : Int) < i.toInt + 6 → G (1493, L, [], h, c, n)) (kf : i.toInt + 6 ≤ xs.length → G (33, L, [], h, c, n)) : G (26, L, [cv_s 2, cv_i i], h, c, n) := by
  refine hR.1 _ _ (27, L, [cv_i (Int32.ofNat xs.length), cv_i i], h, c, n) (lg_o_ok (show lg_o 26 .arraylength 1 0 0 0 = true by decide +kernel)) ?_ ?_
  · show Option.map _ (X 2) = _
    rw [h2]
    rfl
  refine hR.1 _ _ (29, L, [cv_i (Int8.ofInt 6).toInt32, cv_i (Int32.ofNat xs.length), cv_i i], h, c, n) (lg_o_ok (show lg_o 27 (.bipush 6) 2 0 0 0 = true by decide +kernel)) rfl ?_
  refine hR.1 _ _ (30, L, [cv_i (Int32.ofNat xs.length - (Int8.ofInt 6).toInt32), cv_i i], h, c, n) (lg_o_ok (show lg_o 29 .isub 1 0 0 0 = true by decide +kernel)) rfl ?_
  have e6 : (Int8.ofInt 6).toInt32.toInt = 6 := by decide
  have en : (Int32.ofNat xs.length).toInt = xs.length := by
    rw [Int32.toInt_ofNat', show (Int32.size : Nat) = 4294967296 from rfl, Int.bmod_eq_of_le (by omega) (by omega)]
  have e : (Int32.ofNat xs.length - (Int8.ofInt 6).toInt32).toInt = (xs.length : Int) - 6 := by rw [Int32.toInt_sub, e6, en, cw_bm (by omega) (by omega)]
  generalize Int32.ofNat xs.length - (Int8.ofInt 6).toInt32 = m at e ⊢
  have h1 : cv_one X (30, .if_icmp .gt 1463, 3, 0, 0, 0) (30, L, [cv_i m, cv_i i], h, c, n) = some ((bif cv_cmp .gt i m then 1493 else 33), L, [], h, c, n) := rfl
  cases hc : cv_cmp .gt i m with
  | true =>
    rw [hc] at h1
    have q : m.toInt < i.toInt := cw_cmp_Z.mp hc
    exact hR.1 _ _ _ (lg_o_ok (show lg_o 30 (.if_icmp .gt 1463) 3 0 0 0 = true by decide +kernel)) h1 (kt (by omega))
  | false =>
    rw [hc] at h1
    have q : ¬ m.toInt < i.toInt := fun q => by rw [cw_cmp_Z.mpr (show cw_cmpZ .gt i.toInt m.toInt from q)] at hc; cases hc
    exact hR.1 _ _ _ (lg_o_ok (show lg_o 30 (.if_icmp .gt 1463) 3 0 0 0 = true by decide +kernel)) h1 (kf (by omega))
/-- every turn, then the end -/
theorem lg_loop (hR : lg_R X G) (hX : cw_Xok X) (h2 : X 2 = some xs) (hl : xs.length ≤ 3072) : ∀ (t : Nat) (L : cv_L) (h : cv_H) (i : Int32) (c n : Nat), lg_L L i → lg_H h → 0 ≤ i.toInt → i.toInt ≤ 4000 → (xs.length : Int) < i.toInt + 6 * t → c + 20 * t ≤ 601024 → n + 200 * t ≤ 7293034 → G (23, L, [], h, c, n) := by
  intro t
  induction t with
  | zero =>
    intro L h i c n hL hH h0 h3 ht hc hs
    refine lg_ld hR (lg_o_ok (show lg_o 23 (.iload 4) 2 0 0 0 = true by decide +kernel)) rfl rfl hL.2.2.2.2 rfl ?_
    refine lg_ld hR (lg_o_ok (show lg_o 25 (.aload_n 0) 1 0 0 0 = true by decide +kernel)) rfl rfl hL.1 rfl ?_
    exact lg_head hR h2 hl h0 h3 (fun _ => lg_exit hR (by omega) (by omega)) (fun q => absurd q (by omega))
  | succ t ih =>
    intro L h i c n hL hH h0 h3 ht hc hs
    refine lg_ld hR (lg_o_ok (show lg_o 23 (.iload 4) 2 0 0 0 = true by decide +kernel)) rfl rfl hL.2.2.2.2 rfl ?_
    refine lg_ld hR (lg_o_ok (show lg_o 25 (.aload_n 0) 1 0 0 0 = true by decide +kernel)) rfl rfl hL.1 rfl ?_
    refine lg_head hR h2 hl h0 h3 (fun _ => lg_exit hR (by omega) (by omega)) (fun h6 => ?_)
    refine lg_turn hR hX h2 h0 h6 hl hL hH (by omega) (by omega) (fun L' h' c' n' hL' hH' hc' hn' => ?_)
    have e6 : (Int32.ofInt 6).toInt = 6 := by decide
    have e : (i + Int32.ofInt 6).toInt = i.toInt + 6 := by rw [Int32.toInt_add, e6, cw_bm (by omega) (by omega)]
    refine hR.1 _ _ (1490, cv_set L' 4 (cv_i (i + Int32.ofInt 6)), [], h', c', n') (lg_o_ok (show lg_o 1487 (.iinc 4 6) 3 0 0 0 = true by decide +kernel)) ?_ ?_
    · show (match cv_get L' 4 with
        | some (.inl x) => _
        | _ => _) = _
      rw [hL'.2.2.2.2]
      rfl
    · refine lg_goto (off := -1467) (t := 23) hR (by decide +kernel) (by decide +kernel) ?_
      exact ih _ h' _ c' n' (lg_L_inc hL') hH' (by omega) (by omega) (by omega) (by omega) (by omega)
end LG
