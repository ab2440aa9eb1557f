/-! ===== a week of a gate: the reference ===== -/
theorem gK_1 {v : Int} (h : v < 0) : gCl (some v) = 0 := by
  show (if v < 0 then (0 : Int) else if 9999 < v then 9999 else v) = _
  rw [if_pos h]
theorem gK_2 {v : Int} (h : ¬ v < 0) (h2 : 9999 < v) : gCl (some v) = 9999 := by
  show (if v < 0 then (0 : Int) else if 9999 < v then 9999 else v) = _
  rw [if_neg h, if_pos h2]
theorem gK_3 {v : Int} (h : ¬ v < 0) (h2 : ¬ 9999 < v) : gCl (some v) = v := by
  show (if v < 0 then (0 : Int) else if 9999 < v then 9999 else v) = _
  rw [if_neg h, if_neg h2]
theorem gK_o {o : Option Int} {y e : Int} (d : e = 0 ∧ o = some y ∨ e = 1 ∧ o = none ∧ y = 0) : gCl (some y) = gCl o := by
  rcases d with ⟨_, d⟩ | ⟨_, d, q⟩
  · rw [d]
  · rw [d, q]
    rfl
/-- what putting a law's growth down may change -/
def zW4 (h h' : cv_H) : Prop := (∀ k : Nat, k ≠ 111 → k ≠ 133 → k ≠ 134 → h'[k]? = h[k]?) ∧ ∀ i, i ≠ 48 → cw_at h' 111 i = cw_at h 111 i
theorem zW4_ri {h h' : cv_H} {k i : Nat} (a : zW4 h h') (p : k ≠ 111) (q : k ≠ 133) (r : k ≠ 134) : ri_at h' k i = ri_at h k i := ri_eq (by unfold cw_at; rw [a.1 k p q r])
theorem zW4_rl {h h' : cv_H} {k i : Nat} (a : zW4 h h') (p : k ≠ 111) (q : k ≠ 133) (r : k ≠ 134) : rl_at h' k i = rl_at h k i := rl_eq (by unfold cw_at; rw [a.1 k p q r])
theorem zW4_tr {h h' h'' : cv_H} (a : zW4 h h') (b : zW4 h' h'') : zW4 h h'' := ⟨fun k p q r => (b.1 k p q r).trans (a.1 k p q r), fun i q => (b.2 i q).trans (a.2 i q)⟩
theorem zW4_9 {h h' h'' : cv_H} {j : Nat} {v : cv_V} (a : zE9 h h') (w : cw_Wr h' h'' 134 j v) : zW4 h h'' := ⟨fun k p q r => (w.2.2 k r).trans (a.1 k p q), fun i q => (w.2.1 111 i (.inl (by decide))).trans (a.2 i q)⟩
/-- what a gate's week may change -/
def zW6 (h h' : cv_H) : Prop := (∀ k : Nat, k ≠ 111 → k ≠ 131 → k ≠ 132 → k ≠ 133 → k ≠ 134 → h'[k]? = h[k]?) ∧ ∀ i, i ≠ 48 → cw_at h' 111 i = cw_at h 111 i
theorem zW6_0 {h : cv_H} : zW6 h h := ⟨fun _ _ _ _ _ _ => rfl, fun _ _ => rfl⟩
theorem zW6_tr {h h' h'' : cv_H} (a : zW6 h h') (b : zW6 h' h'') : zW6 h h'' := ⟨fun k p q r s t => (b.1 k p q r s t).trans (a.1 k p q r s t), fun i q => (b.2 i q).trans (a.2 i q)⟩
theorem zW6_c {h h' : cv_H} {R : Nat} (c : cp_F R h h') (hR : R = 131 ∨ R = 132 ∨ R = 134) : zW6 h h' := by
  refine ⟨fun k p q r s t => c k (by omega), fun i _ => ?_⟩
  unfold cw_at
  rw [c 111 (by omega)]
theorem zW6_4 {h h' : cv_H} (a : zW4 h h') : zW6 h h' := ⟨fun k p _ _ s t => a.1 k p s t, a.2⟩
theorem zW6_ri {h h' : cv_H} {k i : Nat} (a : zW6 h h') (p : k ≠ 111) (q : k ≠ 131) (r : k ≠ 132) (s : k ≠ 133) (t : k ≠ 134) : ri_at h' k i = ri_at h k i := ri_eq (by unfold cw_at; rw [a.1 k p q r s t])
theorem zMs_1 {dk dv : List Int} {S : Nat} {kind : Int} {c : Nat} (h : S.testBit c = true ∧ dk.getD c 0 = kind) : zMs dk dv S kind (c + 1) = zMs dk dv S kind c + dv.getD c 0 := by
  show _ + (if _ then _ else _) = _
  rw [if_pos h]
theorem zMs_2 {dk dv : List Int} {S : Nat} {kind : Int} {c : Nat} (h : ¬ (S.testBit c = true ∧ dk.getD c 0 = kind)) : zMs dk dv S kind (c + 1) = zMs dk dv S kind c := by
  show _ + (if _ then _ else _) = _
  rw [if_neg h]
  omega
section GN
variable {G : Int} {X : cv_X} {Q : cv_O → Prop} {h0 h : cv_H}
theorem oq_X12_goes_26 : cw_ho 214 26 (.lload 4) 2 0 0 0 := rfl
theorem oq_X12_goes_28 : cw_ho 214 28 (.lconst 0) 1 0 0 0 := rfl
theorem oq_X12_goes_29 : cw_ho 214 29 (.lcmp) 1 0 0 0 := rfl
theorem oq_X12_goes_30 : cw_ho 214 30 (.ifCond .ge 7) 3 0 0 0 := rfl
theorem oq_X12_goes_33 : cw_ho 214 33 (.lconst 0) 1 0 0 0 := rfl
theorem oq_X12_goes_34 : cw_ho 214 34 (.goto 20) 3 0 0 0 := rfl
theorem oq_X12_goes_37 : cw_ho 214 37 (.lload 4) 2 0 0 0 := rfl
theorem oq_X12_goes_39 : cw_ho 214 39 (.ldc2_w 399) 3 0 0 9999 := rfl
theorem oq_X12_goes_42 : cw_ho 214 42 (.lcmp) 1 0 0 0 := rfl
theorem oq_X12_goes_43 : cw_ho 214 43 (.ifCond .le 9) 3 0 0 0 := rfl
theorem oq_X12_goes_46 : cw_ho 214 46 (.ldc2_w 399) 3 0 0 9999 := rfl
theorem oq_X12_goes_49 : cw_ho 214 49 (.goto 5) 3 0 0 0 := rfl
theorem oq_X12_goes_52 : cw_ho 214 52 (.lload 4) 2 0 0 0 := rfl
theorem go_c1 {v : Int64} {l : Int32} {L : cv_L} (g4 : cv_get L 4 = some (cv_l v)) (hk : ∀ x : Int64, x.toInt = gCl (some v.toInt) → cw_X X 214 Q 54 L [cv_l x, cv_i l, cv_r 134] h) : cw_X X 214 Q 26 L [cv_i l, cv_r 134] h := by
  refine ex_llw oq_X12_goes_26 g4 ?_
  refine ex_lc oq_X12_goes_28 (m := 0) (by decide) (fun x101 hx101 => ?_)
  refine ex_lcmpV oq_X12_goes_29 (fun x102 hx102 => ?_)
  refine ex_if0 oq_X12_goes_30 (t := 37) rfl rfl (fun (c103 : 0 ≤ x102.toInt) => ?_) (fun (c103 : ¬ (0 ≤ x102.toInt)) => ?_)
  · refine ex_llw oq_X12_goes_37 g4 ?_
    refine ex_ldc2V oq_X12_goes_39 (m := 9999) (by decide) (fun x104 hx104 => ?_)
    refine ex_lcmpV oq_X12_goes_42 (fun x105 hx105 => ?_)
    refine ex_if0 oq_X12_goes_43 (t := 52) rfl rfl (fun (c106 : x105.toInt ≤ 0) => ?_) (fun (c106 : ¬ (x105.toInt ≤ 0)) => ?_)
    · refine ex_llw oq_X12_goes_52 g4 ?_
      exact hk v (by have q := gK_3 (v := v.toInt) (by omega) (by omega); omega)
    · refine ex_ldc2V oq_X12_goes_46 (m := 9999) (by decide) (fun x107 hx107 => ?_)
      refine ex_go oq_X12_goes_49 (t := 54) rfl rfl ?_
      exact hk x107 (by have q := gK_2 (v := v.toInt) (by omega) (by omega); omega)
  · refine ex_lc oq_X12_goes_33 (m := 0) (by decide) (fun x108 hx108 => ?_)
    refine ex_go oq_X12_goes_34 (t := 54) rfl rfl ?_
    exact hk x108 (by have q := gK_1 (v := v.toInt) (by omega); omega)
theorem oq_X12_goes_9 : cw_ho 214 9 (.iload_n 3) 1 0 0 0 := rfl
theorem oq_X12_goes_10 : cw_ho 214 10 (.iconst 3) 1 0 0 0 := rfl
theorem oq_X12_goes_11 : cw_ho 214 11 (.if_icmp .ge 50) 3 0 0 0 := rfl
theorem oq_X12_goes_14 : cw_ho 214 14 (.aload_n 0) 1 0 0 0 := rfl
theorem oq_X12_goes_15 : cw_ho 214 15 (.iload_n 3) 1 0 0 0 := rfl
theorem oq_X12_goes_16 : cw_ho 214 16 (.invokevirtual 396) 3 213 1 12 := rfl
theorem oq_X12_goes_19 : cw_ho 214 19 (.lstore 4) 2 0 0 0 := rfl
theorem oq_X12_goes_21 : cw_ho 214 21 (.aload_n 0) 1 0 0 0 := rfl
theorem oq_X12_goes_22 : cw_ho 214 22 (.getfield 82) 3 12 49 4 := rfl
theorem oq_X12_goes_25 : cw_ho 214 25 (.iload_n 3) 1 0 0 0 := rfl
theorem oq_X12_goes_54 : cw_ho 214 54 (.lastore) 1 0 0 0 := rfl
theorem oq_X12_goes_55 : cw_ho 214 55 (.iinc 3 1) 3 0 0 0 := rfl
theorem oq_X12_goes_58 : cw_ho 214 58 (.goto (-49)) 3 0 0 0 := rfl
theorem go_it (hT : cw_T G h) {l g w : Int32} {ln : Nat} (hl : l.toInt = ln) (hl3 : ln < 3) {oo : Option (List Int)} (hL : zRL h ln oo) {N : Nat → Int} (hN : ∀ j, j < 10 → rl_at h 132 j = N j) (hNb : ∀ j, zbb (N j)) {L : cv_L} (g0 : cv_get L 0 = some (cv_r 111)) (g1 : cv_get L 1 = some (cv_i g)) (g2 : cv_get L 2 = some (cv_i w)) (g3 : cv_get L 3 = some (cv_i l)) (hk : ∀ (h' : cv_H) (L' : cv_L) (l' : Int32), cw_T G h' → zW4 h h' → rl_at h' 134 ln = gLw oo N → (∀ i, i ≠ ln → rl_at h' 134 i = rl_at h 134 i) → l'.toInt = ((ln + 1 : Nat) : Int) → cv_get L' 0 = some (cv_r 111) → cv_get L' 1 = some (cv_i g) → cv_get L' 2 = some (cv_i w) → cv_get L' 3 = some (cv_i l') → cw_X X 214 Q 9 L' [] h') : cw_X X 214 Q 9 L [] h := by
  refine ex_il oq_X12_goes_9 g3 ?_
  refine ex_ic oq_X12_goes_10 (m := 3) (by decide) (fun x101 hx101 => ?_)
  refine ex_if oq_X12_goes_11 (t := 61) rfl rfl (fun (c102 : x101.toInt ≤ l.toInt) => ?_) (fun (c102 : ¬ (x101.toInt ≤ l.toInt)) => ?_)
  · exfalso; omega
  · refine ex_al oq_X12_goes_14 g0 ?_
    refine ex_il oq_X12_goes_15 g3 ?_
    refine ex_cv oq_X12_goes_16 (by decide) hT (k := 111) (d := 12) (as := [cv_i l]) (stk := []) rfl rfl rfl rfl rfl rfl ⟨rfl, rfl⟩ (R := fun o => ∃ (y : Int64) (hb : cv_H), o = (some (cv_l y), hb) ∧ cw_T G hb ∧ zE9 h hb ∧ (ri_at hb 111 48 = 0 ∧ zLo oo N = some y.toInt ∨ ri_at hb 111 48 = 1 ∧ zLo oo N = none ∧ y.toInt = 0)) (rl_lawOf hT hl (by omega) hL hN hNb (fun y hb b1 b2 b3 => ⟨y, hb, rfl, b1, b2, b3⟩)) (fun o ho => ?_)
    obtain ⟨x103, h104, rfl, Th104, zh104, dx103⟩ := ho
    show cw_X _ _ _ _ _ [cv_l x103] h104
    refine ex_lswA oq_X12_goes_19 (fun L105 gL105_4 kL105 => ?_)
    have gL105_0 : cv_get L105 0 = some (cv_r 111) := kL105 0 _ (by decide) (by decide) (fun q => absurd q (by decide)) g0
    have gL105_1 : cv_get L105 1 = some (cv_i g) := kL105 1 _ (by decide) (by decide) (fun q => absurd q (by decide)) g1
    have gL105_2 : cv_get L105 2 = some (cv_i w) := kL105 2 _ (by decide) (by decide) (fun q => absurd q (by decide)) g2
    have gL105_3 : cv_get L105 3 = some (cv_i l) := kL105 3 _ (by decide) (by decide) (fun _ => rfl) g3
    refine ex_al oq_X12_goes_21 gL105_0 ?_
    refine ex_gf oq_X12_goes_22 Th104 (k := 111) (d := 12) rfl rfl (fr_grows Th104) ?_
    refine ex_il oq_X12_goes_25 gL105_3 ?_
    refine go_c1 gL105_4 (fun x106 hx106 => ?_)
    refine ex_lw oq_X12_goes_54 Th104 (k := 134) (d := 73) (j := ln) rfl rfl (by omega) (by omega) (fun h107 Th107 wh107 => ?_)
    refine ex_incA oq_X12_goes_55 (v := l) (m := 1) gL105_3 (by decide) (by omega) (fun L109 x108 hx108 gL109_3 kL109 => ?_)
    have gL109_4 : cv_get L109 4 = some (cv_l x103) := kL109 4 _ (by decide) (fun q => absurd q (by decide)) gL105_4
    have gL109_0 : cv_get L109 0 = some (cv_r 111) := kL109 0 _ (by decide) (fun q => absurd q (by decide)) gL105_0
    have gL109_1 : cv_get L109 1 = some (cv_i g) := kL109 1 _ (by decide) (fun q => absurd q (by decide)) gL105_1
    have gL109_2 : cv_get L109 2 = some (cv_i w) := kL109 2 _ (by decide) (fun _ => rfl) gL105_2
    refine ex_go oq_X12_goes_58 (t := 9) rfl rfl ?_
    exact hk h107 L109 x108 Th107 (zW4_9 zh104 wh107) ((rl_self wh107).trans (by rw [gLw_o, ← gK_o dx103]; exact hx106)) (fun i hi => (rl_ne wh107 (.inr hi)).trans (zE9_rl zh104 (by decide) (by decide))) (by omega) gL109_0 gL109_1 gL109_2 gL109_3
theorem oq_X12_goes_63 : cw_ho 214 63 (.iload_n 3) 1 0 0 0 := rfl
theorem oq_X12_goes_64 : cw_ho 214 64 (.aload_n 0) 1 0 0 0 := rfl
theorem oq_X12_goes_65 : cw_ho 214 65 (.getfield 222) 3 12 14 0 := rfl
theorem oq_X12_goes_68 : cw_ho 214 68 (.if_icmp .ge 52) 3 0 0 0 := rfl
theorem oq_X12_goes_71 : cw_ho 214 71 (.aload_n 0) 1 0 0 0 := rfl
theorem oq_X12_goes_72 : cw_ho 214 72 (.getfield 72) 3 12 45 4 := rfl
theorem oq_X12_goes_75 : cw_ho 214 75 (.bipush 10) 2 0 0 0 := rfl
theorem oq_X12_goes_77 : cw_ho 214 77 (.iaload) 1 0 0 0 := rfl
theorem oq_X12_goes_78 : cw_ho 214 78 (.iload_n 3) 1 0 0 0 := rfl
theorem oq_X12_goes_79 : cw_ho 214 79 (.invokestatic 272) 3 157 2 0 := rfl
theorem oq_X12_goes_82 : cw_ho 214 82 (.ifCond .eq 32) 3 0 0 0 := rfl
theorem oq_X12_goes_85 : cw_ho 214 85 (.aload_n 0) 1 0 0 0 := rfl
theorem oq_X12_goes_86 : cw_ho 214 86 (.getfield 82) 3 12 49 4 := rfl
theorem oq_X12_goes_89 : cw_ho 214 89 (.aload_n 0) 1 0 0 0 := rfl
theorem oq_X12_goes_90 : cw_ho 214 90 (.getfield 51) 3 12 31 4 := rfl
theorem oq_X12_goes_93 : cw_ho 214 93 (.iconst 3) 1 0 0 0 := rfl
theorem oq_X12_goes_94 : cw_ho 214 94 (.iload_n 3) 1 0 0 0 := rfl
theorem oq_X12_goes_95 : cw_ho 214 95 (.imul) 1 0 0 0 := rfl
theorem oq_X12_goes_96 : cw_ho 214 96 (.iconst 1) 1 0 0 0 := rfl
theorem oq_X12_goes_97 : cw_ho 214 97 (.iadd) 1 0 0 0 := rfl
theorem oq_X12_goes_98 : cw_ho 214 98 (.iaload) 1 0 0 0 := rfl
theorem oq_X12_goes_99 : cw_ho 214 99 (.dup2) 1 0 0 0 := rfl
theorem oq_X12_goes_100 : cw_ho 214 100 (.laload) 1 0 0 0 := rfl
theorem oq_X12_goes_101 : cw_ho 214 101 (.aload_n 0) 1 0 0 0 := rfl
theorem oq_X12_goes_102 : cw_ho 214 102 (.getfield 51) 3 12 31 4 := rfl
theorem oq_X12_goes_105 : cw_ho 214 105 (.iconst 3) 1 0 0 0 := rfl
theorem oq_X12_goes_106 : cw_ho 214 106 (.iload_n 3) 1 0 0 0 := rfl
theorem oq_X12_goes_107 : cw_ho 214 107 (.imul) 1 0 0 0 := rfl
theorem oq_X12_goes_108 : cw_ho 214 108 (.iconst 2) 1 0 0 0 := rfl
theorem oq_X12_goes_109 : cw_ho 214 109 (.iadd) 1 0 0 0 := rfl
theorem oq_X12_goes_110 : cw_ho 214 110 (.iaload) 1 0 0 0 := rfl
theorem oq_X12_goes_111 : cw_ho 214 111 (.i2l) 1 0 0 0 := rfl
theorem oq_X12_goes_112 : cw_ho 214 112 (.ladd) 1 0 0 0 := rfl
theorem oq_X12_goes_113 : cw_ho 214 113 (.lastore) 1 0 0 0 := rfl
theorem oq_X12_goes_114 : cw_ho 214 114 (.iinc 3 1) 3 0 0 0 := rfl
theorem oq_X12_goes_117 : cw_ho 214 117 (.goto (-54)) 3 0 0 0 := rfl
theorem go_cs {n : Nat} (hn : ri_at h0 111 14 = n) (hn6 : n ≤ 6) {dk dv : List Int} (d1 : ∀ c, c < n → ri_at h0 124 (3 * c + 1) = dk.getD c 0) (d2 : ∀ c, c < n → ri_at h0 124 (3 * c + 2) = dv.getD c 0) (hv : ∀ c, 0 ≤ dv.getD c 0 ∧ dv.getD c 0 ≤ 999) (hkd : ∀ c, c < n → 0 ≤ dk.getD c 0 ∧ dk.getD c 0 ≤ 2) {S : Nat} (hS : ri_at h0 131 10 = S) (hS64 : S < 64) {A : Nat → Int} (hA : ∀ k, 0 ≤ A k ∧ A k ≤ 9999) {g w : Int32} (hk : ∀ (h' : cv_H) (L' : cv_L), cw_T G h' → cp_F 134 h0 h' → (∀ k : Nat, k < 3 → rl_at h' 134 k = A k + zMs dk dv S (k : Int) n) → cv_get L' 0 = some (cv_r 111) → cv_get L' 1 = some (cv_i g) → cv_get L' 2 = some (cv_i w) → cw_X X 214 Q 120 L' [] h') : ∀ (f c : Nat) (C : Int32) (h : cv_H) (L : cv_L), n - c = f → c ≤ n → C.toInt = c → cw_T G h → cp_F 134 h0 h → (∀ k : Nat, k < 3 → rl_at h 134 k = A k + zMs dk dv S (k : Int) c) → cv_get L 0 = some (cv_r 111) → cv_get L 1 = some (cv_i g) → cv_get L 2 = some (cv_i w) → cv_get L 3 = some (cv_i C) → cw_X X 214 Q 63 L [] h := by
  intro f
  induction f with
  | zero =>
    intro c C h L hf hcn hC hT hF hV g0 g1 g2 g3
    refine ex_il oq_X12_goes_63 g3 ?_
    refine ex_al oq_X12_goes_64 g0 ?_
    obtain ⟨x101, ax101, rx101, lx101, ux101⟩ := fi_causes hT
    refine ex_gf oq_X12_goes_65 hT (k := 111) (d := 12) rfl rfl ax101 ?_
    have rx101 := (rx101.symm.trans ((ri_eq (cp_at hF (by decide))).trans hn) : x101.toInt = (n : Int))
    refine ex_if oq_X12_goes_68 (t := 120) rfl rfl (fun (c102 : x101.toInt ≤ C.toInt) => ?_) (fun (c102 : ¬ (x101.toInt ≤ C.toInt)) => ?_)
    · exact hk h L hT hF (fun k q => by rw [hV k q, show c = n from by omega]) g0 g1 g2
    · exfalso; omega
  | succ f ih =>
    intro c C h L hf hcn hC hT hF hV g0 g1 g2 g3
    have mb := zMs_b (dk := dk) (S := S) (kind := (((dk.getD c 0).toNat : Nat) : Int)) hv c
    have hv1 := hv c
    have hk1 := hkd c (by omega)
    have hA1 := hA (dk.getD c 0).toNat
    refine ex_il oq_X12_goes_63 g3 ?_
    refine ex_al oq_X12_goes_64 g0 ?_
    obtain ⟨x101, ax101, rx101, lx101, ux101⟩ := fi_causes hT
    refine ex_gf oq_X12_goes_65 hT (k := 111) (d := 12) rfl rfl ax101 ?_
    have rx101 := (rx101.symm.trans ((ri_eq (cp_at hF (by decide))).trans hn) : x101.toInt = (n : Int))
    refine ex_if oq_X12_goes_68 (t := 120) rfl rfl (fun (c102 : x101.toInt ≤ C.toInt) => ?_) (fun (c102 : ¬ (x101.toInt ≤ C.toInt)) => ?_)
    · exfalso; omega
    · refine ex_al oq_X12_goes_71 g0 ?_
      refine ex_gf oq_X12_goes_72 hT (k := 111) (d := 12) rfl rfl (fr_now hT) ?_
      refine ex_bi oq_X12_goes_75 (m := 10) (by decide) (fun x103 hx103 => ?_)
      refine ex_ia1 oq_X12_goes_77 hT (k := 131) (d := 70) (j := 10) rfl rfl (by omega) (by omega) (fun x104 hx104 lx104 ux104 => ?_)
      have hx104 := (hx104.symm.trans ((cp_ri hF (by decide)).trans hS) : x104.toInt = (S : Int))
      refine ex_il oq_X12_goes_78 g3 ?_
      refine ex_cs oq_X12_goes_79 (by decide) (as := [cv_i x104, cv_i C]) (stk := []) rfl rfl rfl ⟨rfl, rfl⟩ (R := fun o => ∃ y : Int32, o = (some (cv_i y), h) ∧ (y.toInt = 1 ∧ S.testBit c = true ∨ y.toInt = 0 ∧ ¬ S.testBit c = true)) (rt_isOf (m := S) (j := c) (by omega) (by omega) (by omega) (by omega) (fun y q => ⟨y, rfl, q⟩)) (fun o ho => ?_)
      obtain ⟨x105, rfl, dx105⟩ := ho
      show cw_X _ _ _ _ _ [cv_i x105] h
      refine ex_if0 oq_X12_goes_82 (t := 114) rfl rfl (fun (c106 : x105.toInt = 0) => ?_) (fun (c106 : ¬ (x105.toInt = 0)) => ?_)
      · have hb : ¬ S.testBit c = true := by
          rcases dx105 with q | q
          · exfalso; omega
          · exact q.2
        clear dx105
        refine ex_incA oq_X12_goes_114 (v := C) (m := 1) g3 (by decide) (by omega) (fun L108 x107 hx107 gL108_3 kL108 => ?_)
        have gL108_0 : cv_get L108 0 = some (cv_r 111) := kL108 0 _ (by decide) (fun q => absurd q (by decide)) g0
        have gL108_1 : cv_get L108 1 = some (cv_i g) := kL108 1 _ (by decide) (fun q => absurd q (by decide)) g1
        have gL108_2 : cv_get L108 2 = some (cv_i w) := kL108 2 _ (by decide) (fun _ => rfl) g2
        refine ex_go oq_X12_goes_117 (t := 63) rfl rfl ?_
        exact ih (c + 1) x107 h L108 (by omega) (by omega) (by omega) hT hF (fun k q => by rw [hV k q, zMs_2 (fun z => hb z.1)]) gL108_0 gL108_1 gL108_2 gL108_3
      · have hb : S.testBit c = true := by
          rcases dx105 with q | q
          · exact q.2
          · exfalso; omega
        clear dx105
        refine ex_al oq_X12_goes_85 g0 ?_
        refine ex_gf oq_X12_goes_86 hT (k := 111) (d := 12) rfl rfl (fr_grows hT) ?_
        refine ex_al oq_X12_goes_89 g0 ?_
        refine ex_gf oq_X12_goes_90 hT (k := 111) (d := 12) rfl rfl (fr_causeHas hT) ?_
        refine ex_ic oq_X12_goes_93 (m := 3) (by decide) (fun x109 hx109 => ?_)
        refine ex_il oq_X12_goes_94 g3 ?_
        refine ex_mul oq_X12_goes_95 (m := 3 * C.toInt) (by rw [hx109]) (by omega) (fun x110 hx110 => ?_)
        refine ex_ic oq_X12_goes_96 (m := 1) (by decide) (fun x111 hx111 => ?_)
        refine ex_add oq_X12_goes_97 (by omega) (fun x112 hx112 => ?_)
        refine ex_iap oq_X12_goes_98 hT (k := 124) (d := 63) (j := 3 * c + 1) rfl rfl (by omega) (by omega) (fun x113 hx113 => ?_)
        have hx113 := (hx113.symm.trans ((cp_ri hF (by decide)).trans (d1 c (by omega))) : x113.toInt = dk.getD c 0)
        refine ex_dup2 oq_X12_goes_99 rfl rfl ?_
        refine ex_laV oq_X12_goes_100 hT (k := 134) (d := 73) (j := (dk.getD c 0).toNat) rfl rfl (by omega) (by omega) (fun x114 hx114 => ?_)
        replace hx114 : x114.toInt = (A (dk.getD c 0).toNat + zMs dk dv S (((dk.getD c 0).toNat : Nat) : Int) c) := hx114.symm.trans (hV _ (by omega))
        refine ex_al oq_X12_goes_101 g0 ?_
        refine ex_gf oq_X12_goes_102 hT (k := 111) (d := 12) rfl rfl (fr_causeHas hT) ?_
        refine ex_ic oq_X12_goes_105 (m := 3) (by decide) (fun x115 hx115 => ?_)
        refine ex_il oq_X12_goes_106 g3 ?_
        refine ex_mul oq_X12_goes_107 (m := 3 * C.toInt) (by rw [hx115]) (by omega) (fun x116 hx116 => ?_)
        refine ex_ic oq_X12_goes_108 (m := 2) (by decide) (fun x117 hx117 => ?_)
        refine ex_add oq_X12_goes_109 (by omega) (fun x118 hx118 => ?_)
        refine ex_iap oq_X12_goes_110 hT (k := 124) (d := 63) (j := 3 * c + 2) rfl rfl (by omega) (by omega) (fun x119 hx119 => ?_)
        have hx119 := (hx119.symm.trans ((cp_ri hF (by decide)).trans (d2 c (by omega))) : x119.toInt = dv.getD c 0)
        refine ex_i2l oq_X12_goes_111 (fun x120 hx120 => ?_)
        refine ex_laddV oq_X12_goes_112 (by omega) (fun x121 hx121 => ?_)
        refine ex_lw oq_X12_goes_113 hT (k := 134) (d := 73) (j := (dk.getD c 0).toNat) rfl rfl (by omega) (by omega) (fun h122 Th122 wh122 => ?_)
        have eh122_111_14 : ri_at h122 111 14 = (n : Int) := (ri_ne wh122 (.inl (by decide))).trans ((ri_eq (cp_at hF (by decide))).trans hn)
        refine ex_incA oq_X12_goes_114 (v := C) (m := 1) g3 (by decide) (by omega) (fun L124 x123 hx123 gL124_3 kL124 => ?_)
        have gL124_0 : cv_get L124 0 = some (cv_r 111) := kL124 0 _ (by decide) (fun q => absurd q (by decide)) g0
        have gL124_1 : cv_get L124 1 = some (cv_i g) := kL124 1 _ (by decide) (fun q => absurd q (by decide)) g1
        have gL124_2 : cv_get L124 2 = some (cv_i w) := kL124 2 _ (by decide) (fun _ => rfl) g2
        refine ex_go oq_X12_goes_117 (t := 63) rfl rfl ?_
        refine ih (c + 1) x123 h122 L124 (by omega) (by omega) (by omega) Th122 (cp_w wh122 hF) (fun k q => ?_) gL124_0 gL124_1 gL124_2 gL124_3
        by_cases ck : k = (dk.getD c 0).toNat
        · rw [ck, rl_self wh122, zMs_1 ⟨hb, by omega⟩]
          omega
        · rw [rl_ne wh122 (.inr ck), hV k q, zMs_2 (fun z => by have := z.2; omega)]
theorem oq_X12_goes_148 : cw_ho 214 148 (.lload 4) 2 0 0 0 := rfl
theorem oq_X12_goes_150 : cw_ho 214 150 (.ldc2_w 401) 3 0 0 1000000 := rfl
theorem oq_X12_goes_153 : cw_ho 214 153 (.lcmp) 1 0 0 0 := rfl
theorem oq_X12_goes_154 : cw_ho 214 154 (.ifCond .le 9) 3 0 0 0 := rfl
theorem oq_X12_goes_157 : cw_ho 214 157 (.ldc2_w 401) 3 0 0 1000000 := rfl
theorem oq_X12_goes_160 : cw_ho 214 160 (.goto 5) 3 0 0 0 := rfl
theorem oq_X12_goes_163 : cw_ho 214 163 (.lload 4) 2 0 0 0 := rfl
theorem go_c3 {v : Int64} {l : Int32} {L : cv_L} (g4 : cv_get L 4 = some (cv_l v)) (hk : ∀ x : Int64, x.toInt = min 1000000 v.toInt → cw_X X 214 Q 165 L [cv_l x, cv_i l, cv_r 131] h) : cw_X X 214 Q 148 L [cv_i l, cv_r 131] h := by
  refine ex_llw oq_X12_goes_148 g4 ?_
  refine ex_ldc2V oq_X12_goes_150 (m := 1000000) (by decide) (fun x101 hx101 => ?_)
  refine ex_lcmpV oq_X12_goes_153 (fun x102 hx102 => ?_)
  refine ex_if0 oq_X12_goes_154 (t := 163) rfl rfl (fun (c103 : x102.toInt ≤ 0) => ?_) (fun (c103 : ¬ (x102.toInt ≤ 0)) => ?_)
  · refine ex_llw oq_X12_goes_163 g4 ?_
    exact hk v (by omega)
  · refine ex_ldc2V oq_X12_goes_157 (m := 1000000) (by decide) (fun x104 hx104 => ?_)
    refine ex_go oq_X12_goes_160 (t := 165) rfl rfl ?_
    exact hk x104 (by omega)
theorem oq_X12_goes_122 : cw_ho 214 122 (.iload_n 3) 1 0 0 0 := rfl
theorem oq_X12_goes_123 : cw_ho 214 123 (.iconst 3) 1 0 0 0 := rfl
theorem oq_X12_goes_124 : cw_ho 214 124 (.if_icmp .ge 49) 3 0 0 0 := rfl
theorem oq_X12_goes_127 : cw_ho 214 127 (.aload_n 0) 1 0 0 0 := rfl
theorem oq_X12_goes_128 : cw_ho 214 128 (.getfield 72) 3 12 45 4 := rfl
theorem oq_X12_goes_131 : cw_ho 214 131 (.iload_n 3) 1 0 0 0 := rfl
theorem oq_X12_goes_132 : cw_ho 214 132 (.iaload) 1 0 0 0 := rfl
theorem oq_X12_goes_133 : cw_ho 214 133 (.i2l) 1 0 0 0 := rfl
theorem oq_X12_goes_134 : cw_ho 214 134 (.aload_n 0) 1 0 0 0 := rfl
theorem oq_X12_goes_135 : cw_ho 214 135 (.getfield 82) 3 12 49 4 := rfl
theorem oq_X12_goes_138 : cw_ho 214 138 (.iload_n 3) 1 0 0 0 := rfl
theorem oq_X12_goes_139 : cw_ho 214 139 (.laload) 1 0 0 0 := rfl
theorem oq_X12_goes_140 : cw_ho 214 140 (.ladd) 1 0 0 0 := rfl
theorem oq_X12_goes_141 : cw_ho 214 141 (.lstore 4) 2 0 0 0 := rfl
theorem oq_X12_goes_143 : cw_ho 214 143 (.aload_n 0) 1 0 0 0 := rfl
theorem oq_X12_goes_144 : cw_ho 214 144 (.getfield 72) 3 12 45 4 := rfl
theorem oq_X12_goes_147 : cw_ho 214 147 (.iload_n 3) 1 0 0 0 := rfl
theorem oq_X12_goes_165 : cw_ho 214 165 (.l2i) 1 0 0 0 := rfl
theorem oq_X12_goes_166 : cw_ho 214 166 (.iastore) 1 0 0 0 := rfl
theorem oq_X12_goes_167 : cw_ho 214 167 (.iinc 3 1) 3 0 0 0 := rfl
theorem oq_X12_goes_170 : cw_ho 214 170 (.goto (-48)) 3 0 0 0 := rfl
theorem go_i3 (hT : cw_T G h) {l g w : Int32} {ln : Nat} (hl : l.toInt = ln) (hl3 : ln < 3) {A B : Int} (ha : ri_at h 131 ln = A) (hb : rl_at h 134 ln = B) (hab : 0 ≤ A ∧ A ≤ 1000000 ∧ 0 ≤ B ∧ B ≤ 1000000) {L : cv_L} (g0 : cv_get L 0 = some (cv_r 111)) (g1 : cv_get L 1 = some (cv_i g)) (g2 : cv_get L 2 = some (cv_i w)) (g3 : cv_get L 3 = some (cv_i l)) (hk : ∀ (h' : cv_H) (L' : cv_L) (l' : Int32), cw_T G h' → cp_F 131 h h' → ri_at h' 131 ln = min 1000000 (A + B) → (∀ i, i ≠ ln → ri_at h' 131 i = ri_at h 131 i) → l'.toInt = ((ln + 1 : Nat) : Int) → cv_get L' 0 = some (cv_r 111) → cv_get L' 1 = some (cv_i g) → cv_get L' 2 = some (cv_i w) → cv_get L' 3 = some (cv_i l') → cw_X X 214 Q 122 L' [] h') : cw_X X 214 Q 122 L [] h := by
  refine ex_il oq_X12_goes_122 g3 ?_
  refine ex_ic oq_X12_goes_123 (m := 3) (by decide) (fun x101 hx101 => ?_)
  refine ex_if oq_X12_goes_124 (t := 173) rfl rfl (fun (c102 : x101.toInt ≤ l.toInt) => ?_) (fun (c102 : ¬ (x101.toInt ≤ l.toInt)) => ?_)
  · exfalso; omega
  · refine ex_al oq_X12_goes_127 g0 ?_
    refine ex_gf oq_X12_goes_128 hT (k := 111) (d := 12) rfl rfl (fr_now hT) ?_
    refine ex_il oq_X12_goes_131 g3 ?_
    refine ex_ia1 oq_X12_goes_132 hT (k := 131) (d := 70) (j := ln) rfl rfl (by omega) (by omega) (fun x103 hx103 lx103 ux103 => ?_)
    have hx103 := (hx103.symm.trans ha : x103.toInt = A)
    refine ex_i2l oq_X12_goes_133 (fun x104 hx104 => ?_)
    refine ex_al oq_X12_goes_134 g0 ?_
    refine ex_gf oq_X12_goes_135 hT (k := 111) (d := 12) rfl rfl (fr_grows hT) ?_
    refine ex_il oq_X12_goes_138 g3 ?_
    refine ex_laV oq_X12_goes_139 hT (k := 134) (d := 73) (j := ln) rfl rfl (by omega) (by omega) (fun x105 hx105 => ?_)
    replace hx105 : x105.toInt = B := hx105.symm.trans (hb)
    refine ex_laddV oq_X12_goes_140 (by omega) (fun x106 hx106 => ?_)
    refine ex_lswA oq_X12_goes_141 (fun L107 gL107_4 kL107 => ?_)
    have gL107_0 : cv_get L107 0 = some (cv_r 111) := kL107 0 _ (by decide) (by decide) (fun q => absurd q (by decide)) g0
    have gL107_1 : cv_get L107 1 = some (cv_i g) := kL107 1 _ (by decide) (by decide) (fun q => absurd q (by decide)) g1
    have gL107_2 : cv_get L107 2 = some (cv_i w) := kL107 2 _ (by decide) (by decide) (fun q => absurd q (by decide)) g2
    have gL107_3 : cv_get L107 3 = some (cv_i l) := kL107 3 _ (by decide) (by decide) (fun _ => rfl) g3
    refine ex_al oq_X12_goes_143 gL107_0 ?_
    refine ex_gf oq_X12_goes_144 hT (k := 111) (d := 12) rfl rfl (fr_now hT) ?_
    refine ex_il oq_X12_goes_147 gL107_3 ?_
    refine go_c3 gL107_4 (fun x108 hx108 => ?_)
    refine ex_l2iV oq_X12_goes_165 (by omega) (fun x109 hx109 => ?_)
    refine ex_iw1 oq_X12_goes_166 hT (k := 131) (d := 70) (j := ln) rfl rfl (by omega) (by omega) ⟨(cw_i32 _).1, (cw_i32 _).2⟩ (fun h110 Th110 wh110 => ?_)
    refine ex_incA oq_X12_goes_167 (v := l) (m := 1) gL107_3 (by decide) (by omega) (fun L112 x111 hx111 gL112_3 kL112 => ?_)
    have gL112_4 : cv_get L112 4 = some (cv_l x106) := kL112 4 _ (by decide) (fun q => absurd q (by decide)) gL107_4
    have gL112_0 : cv_get L112 0 = some (cv_r 111) := kL112 0 _ (by decide) (fun q => absurd q (by decide)) gL107_0
    have gL112_1 : cv_get L112 1 = some (cv_i g) := kL112 1 _ (by decide) (fun q => absurd q (by decide)) gL107_1
    have gL112_2 : cv_get L112 2 = some (cv_i w) := kL112 2 _ (by decide) (fun _ => rfl) gL107_2
    refine ex_go oq_X12_goes_170 (t := 122) rfl rfl ?_
    exact hk h110 L112 x111 Th110 (cp_w wh110 cp_0) ((ri_self wh110).trans (by omega)) (fun i hi => ri_ne wh110 (.inr hi)) (by omega) gL112_0 gL112_1 gL112_2 gL112_3
theorem oq_X12_goes_0 : cw_ho 214 0 (.aload_n 0) 1 0 0 0 := rfl
theorem oq_X12_goes_1 : cw_ho 214 1 (.iload_n 1) 1 0 0 0 := rfl
theorem oq_X12_goes_2 : cw_ho 214 2 (.iload_n 2) 1 0 0 0 := rfl
theorem oq_X12_goes_3 : cw_ho 214 3 (.iconst 0) 1 0 0 0 := rfl
theorem oq_X12_goes_4 : cw_ho 214 4 (.invokevirtual 393) 3 212 3 12 := rfl
theorem oq_X12_goes_7 : cw_ho 214 7 (.iconst 0) 1 0 0 0 := rfl
theorem oq_X12_goes_8 : cw_ho 214 8 (.istore_n 3) 1 0 0 0 := rfl
theorem oq_X12_goes_61 : cw_ho 214 61 (.iconst 0) 1 0 0 0 := rfl
theorem oq_X12_goes_62 : cw_ho 214 62 (.istore_n 3) 1 0 0 0 := rfl
theorem oq_X12_goes_120 : cw_ho 214 120 (.iconst 0) 1 0 0 0 := rfl
theorem oq_X12_goes_121 : cw_ho 214 121 (.istore_n 3) 1 0 0 0 := rfl
theorem oq_X12_goes_173 : cw_ho 214 173 (.return_) 1 0 0 0 := rfl
set_option maxHeartbeats 4000000 in
theorem rl_goes (hT : cw_T G h0) {g : Int32} {gn : Nat} (hg : g.toInt = gn) (hg4 : gn < 4) {T γ : Nat → Int} (gT : zGT h0 gn T) (nV : zNV h0 γ) (rT : gTR T) (rG : gGR γ) {f : Nat → Int} (hG : ∀ j, j < 12 → ri_at h0 114 j = f j) (hf : ∀ j, 0 ≤ f j ∧ f j ≤ 100) {w : Int32} (hw : 0 ≤ w.toInt ∧ w.toInt ≤ 10000000) {LL : Nat → Option (List Int)} (hL : ∀ l, l < 3 → zRL h0 l (LL l)) {n : Nat} (hn : ri_at h0 111 14 = n) (hn6 : n ≤ 6) {dk dv : List Int} (d1 : ∀ c, c < n → ri_at h0 124 (3 * c + 1) = dk.getD c 0) (d2 : ∀ c, c < n → ri_at h0 124 (3 * c + 2) = dv.getD c 0) (hv : ∀ c, 0 ≤ dv.getD c 0 ∧ dv.getD c 0 ≤ 999) (hkd : ∀ c, c < n → 0 ≤ dk.getD c 0 ∧ dk.getD c 0 ≤ 2) {S : Nat} (hS : γ 11 = S) (hS64 : S < 64) (hM : γ 12 = zMs dk dv S 0 n ∧ γ 13 = zMs dk dv S 1 n ∧ γ 14 = zMs dk dv S 2 n) (hQ : ∀ h', cw_T G h' → zW6 h0 h' → zNV h' (gWk T f LL w.toInt γ) → Q (none, h')) : cw_X X 214 Q 0 (cv_ent 0 [cv_r 111, cv_i g, cv_i w]) [] h0 := by
  refine ex_al oq_X12_goes_0 rfl ?_
  refine ex_il oq_X12_goes_1 rfl ?_
  refine ex_il oq_X12_goes_2 rfl ?_
  refine ex_ic oq_X12_goes_3 (m := 0) (by decide) (fun x101 hx101 => ?_)
  refine ex_cv oq_X12_goes_4 (by decide) hT (k := 111) (d := 12) (as := [cv_i g, cv_i w, cv_i x101]) (stk := []) rfl rfl rfl rfl rfl rfl ⟨rfl, rfl⟩ (R := fun o => ∃ hb : cv_H, o = (none, hb) ∧ cw_T G hb ∧ cp_F 132 h0 hb ∧ (∀ j, j < 10 → rl_at hb 132 j = gNm T γ (gFirm f w.toInt) w.toInt x101.toInt j)) (rl_layNames hT hg hg4 gT nV rT rG hG hf hw (fun hb b1 b2 b3 => ⟨hb, rfl, b1, b2, b3⟩)) (fun o ho => ?_)
  obtain ⟨h102, rfl, Th102, ch102, Nh102⟩ := ho
  show cw_X _ _ _ _ _ [] h102
  rw [hx101] at Nh102
  refine ex_ic oq_X12_goes_7 (m := 0) (by decide) (fun x103 hx103 => ?_)
  refine ex_isA oq_X12_goes_8 (fun L104 gL104_3 kL104 => ?_)
  have gL104_0 : cv_get L104 0 = some (cv_r 111) := kL104 0 _ (by decide) (fun q => absurd q (by decide)) rfl
  have gL104_1 : cv_get L104 1 = some (cv_i g) := kL104 1 _ (by decide) (fun q => absurd q (by decide)) rfl
  have gL104_2 : cv_get L104 2 = some (cv_i w) := kL104 2 _ (by decide) (fun _ => rfl) rfl
  have hNb : ∀ j, zbb ((gNm T γ (gFirm f w.toInt) w.toInt 0) j) := gNm_b rT rG (hf _) hw (by omega)
  have L0 : ∀ l, l < 3 → zRL h102 l (LL l) := fun l q => zRL_eq (hL l q) (fun k i hk => cp_ri ch102 (by omega))
  refine go_it Th102 (ln := 0) (by omega) (by omega) (L0 0 (by omega)) Nh102 hNb gL104_0 gL104_1 gL104_2 gL104_3 (fun u0 M0 l0 Tu0 Wu0 v0 o0 hl0 q00 q01 q02 q03 => ?_)
  have Nu0 : ∀ j, j < 10 → rl_at u0 132 j = (gNm T γ (gFirm f w.toInt) w.toInt 0) j := fun j hj => (zW4_rl Wu0 (by decide) (by decide) (by decide)).trans (Nh102 j hj)
  have Lu0 : ∀ l, l < 3 → zRL u0 l (LL l) := fun l q => zRL_eq (L0 l q) (fun k i hk => zW4_ri Wu0 (by omega) (by omega) (by omega))
  refine go_it Tu0 (ln := 1) (by omega) (by omega) (Lu0 1 (by omega)) Nu0 hNb q00 q01 q02 q03 (fun u1 M1 l1 Tu1 Wu1 v1 o1 hl1 q10 q11 q12 q13 => ?_)
  have Nu1 : ∀ j, j < 10 → rl_at u1 132 j = (gNm T γ (gFirm f w.toInt) w.toInt 0) j := fun j hj => (zW4_rl Wu1 (by decide) (by decide) (by decide)).trans (Nu0 j hj)
  have Lu1 : ∀ l, l < 3 → zRL u1 l (LL l) := fun l q => zRL_eq (Lu0 l q) (fun k i hk => zW4_ri Wu1 (by omega) (by omega) (by omega))
  refine go_it Tu1 (ln := 2) (by omega) (by omega) (Lu1 2 (by omega)) Nu1 hNb q10 q11 q12 q13 (fun u2 M2 l2 Tu2 Wu2 v2 o2 hl2 q20 q21 q22 q23 => ?_)
  have Nu2 : ∀ j, j < 10 → rl_at u2 132 j = (gNm T γ (gFirm f w.toInt) w.toInt 0) j := fun j hj => (zW4_rl Wu2 (by decide) (by decide) (by decide)).trans (Nu1 j hj)
  have Lu2 : ∀ l, l < 3 → zRL u2 l (LL l) := fun l q => zRL_eq (Lu1 l q) (fun k i hk => zW4_ri Wu2 (by omega) (by omega) (by omega))
  have a0 : rl_at u2 134 0 = gLw (LL 0) (gNm T γ (gFirm f w.toInt) w.toInt 0) := (o2 0 (by decide)).trans ((o1 0 (by decide)).trans v0)
  have a1 : rl_at u2 134 1 = gLw (LL 1) (gNm T γ (gFirm f w.toInt) w.toInt 0) := (o2 1 (by decide)).trans v1
  have W2 : zW4 h102 u2 := zW4_tr Wu0 (zW4_tr Wu1 Wu2)
  have F2 : zW6 h0 u2 := zW6_tr (zW6_c ch102 (.inr (.inl rfl))) (zW6_4 W2)
  have n2 : ∀ j, ri_at u2 131 j = ri_at h0 131 j := fun j => (zW4_ri W2 (by decide) (by decide) (by decide)).trans (cp_ri ch102 (by decide))
  refine ex_il oq_X12_goes_9 q23 ?_
  refine ex_ic oq_X12_goes_10 (m := 3) (by decide) (fun x105 hx105 => ?_)
  refine ex_if oq_X12_goes_11 (t := 61) rfl rfl (fun (c106 : x105.toInt ≤ l2.toInt) => ?_) (fun (c106 : ¬ (x105.toInt ≤ l2.toInt)) => ?_)
  · refine ex_ic oq_X12_goes_61 (m := 0) (by decide) (fun x107 hx107 => ?_)
    refine ex_isA oq_X12_goes_62 (fun L108 gL108_3 kL108 => ?_)
    have gL108_0 : cv_get L108 0 = some (cv_r 111) := kL108 0 _ (by decide) (fun q => absurd q (by decide)) q20
    have gL108_1 : cv_get L108 1 = some (cv_i g) := kL108 1 _ (by decide) (fun q => absurd q (by decide)) q21
    have gL108_2 : cv_get L108 2 = some (cv_i w) := kL108 2 _ (by decide) (fun _ => rfl) q22
    have gb : ∀ k, 0 ≤ gLw (LL k) (gNm T γ (gFirm f w.toInt) w.toInt 0) ∧ gLw (LL k) (gNm T γ (gFirm f w.toInt) w.toInt 0) ≤ 9999 := fun k => gLw_b
    refine go_cs (h0 := u2) ((ri_eq (F2.2 14 (by decide))).trans hn) hn6 (fun c q => (zW6_ri F2 (by decide) (by decide) (by decide) (by decide) (by decide)).trans (d1 c q)) (fun c q => (zW6_ri F2 (by decide) (by decide) (by decide) (by decide) (by decide)).trans (d2 c q)) hv hkd (S := S) ((n2 10).trans ((nV 10 (by decide)).trans hS)) hS64 (A := fun k => gLw (LL k) (gNm T γ (gFirm f w.toInt) w.toInt 0)) gb (fun u3 M3 Tu3 c3 vA q30 q31 q32 => ?_) n 0 x107 u2 L108 (by omega) (by omega) (by omega) Tu2 cp_0 (fun k q => ?_) gL108_0 gL108_1 gL108_2 gL108_3
    rotate_left
    · have : k = 0 ∨ k = 1 ∨ k = 2 := by omega
      show rl_at u2 134 k = gLw (LL k) _ + 0
      rw [Int.add_zero]
      rcases this with rfl | rfl | rfl
      · exact a0
      · exact a1
      · exact v2
    have F3 : zW6 h0 u3 := zW6_tr F2 (zW6_c c3 (.inr (.inr rfl)))
    have n3 : ∀ j, ri_at u3 131 j = ri_at h0 131 j := fun j => (cp_ri c3 (by decide)).trans (n2 j)
    refine ex_ic oq_X12_goes_120 (m := 0) (by decide) (fun x109 hx109 => ?_)
    refine ex_isA oq_X12_goes_121 (fun L110 gL110_3 kL110 => ?_)
    have gL110_0 : cv_get L110 0 = some (cv_r 111) := kL110 0 _ (by decide) (fun q => absurd q (by decide)) q30
    have gL110_1 : cv_get L110 1 = some (cv_i g) := kL110 1 _ (by decide) (fun q => absurd q (by decide)) q31
    have gL110_2 : cv_get L110 2 = some (cv_i w) := kL110 2 _ (by decide) (fun _ => rfl) q32
    obtain ⟨hM0, hM1, hM2⟩ := hM
    have z0 := zMs_b (dk := dk) (S := S) (kind := (0 : Int)) hv n
    have gb0 := gb 0
    have z1 := zMs_b (dk := dk) (S := S) (kind := (1 : Int)) hv n
    have gb1 := gb 1
    have z2 := zMs_b (dk := dk) (S := S) (kind := (2 : Int)) hv n
    have gb2 := gb 2
    obtain ⟨rG1, rG2, rG3, rG4, rG5, rG6, rG7, rG8, rG9, rG10, rG11, rG12, rG13, rG14, rG15, rG16⟩ := rG
    refine go_i3 Tu3 (ln := 0) (A := γ 1) (B := gLw (LL 0) (gNm T γ (gFirm f w.toInt) w.toInt 0) + zMs dk dv S 0 n) (by omega) (by omega) ((n3 0).trans (nV 0 (by decide))) (vA 0 (by decide)) (by omega) gL110_0 gL110_1 gL110_2 gL110_3 (fun x0 K0 m0 Tx0 f0 r0 p0 hm0 s00 s01 s02 s03 => ?_)
    refine go_i3 Tx0 (ln := 1) (A := γ 2) (B := gLw (LL 1) (gNm T γ (gFirm f w.toInt) w.toInt 0) + zMs dk dv S 1 n) (by omega) (by omega) ((p0 1 (by decide)).trans ((n3 1).trans (nV 1 (by decide)))) ((rl_eq (cp_at f0 (by decide))).trans (vA 1 (by decide))) (by omega) s00 s01 s02 s03 (fun x1 K1 m1 Tx1 f1 r1 p1 hm1 s10 s11 s12 s13 => ?_)
    refine go_i3 Tx1 (ln := 2) (A := γ 3) (B := gLw (LL 2) (gNm T γ (gFirm f w.toInt) w.toInt 0) + zMs dk dv S 2 n) (by omega) (by omega) ((p1 2 (by decide)).trans ((p0 2 (by decide)).trans ((n3 2).trans (nV 2 (by decide))))) ((rl_eq (cp_at f1 (by decide))).trans ((rl_eq (cp_at f0 (by decide))).trans (vA 2 (by decide)))) (by omega) s10 s11 s12 s13 (fun x2 K2 m2 Tx2 f2 r2 p2 hm2 s20 s21 s22 s23 => ?_)
    have F6 : zW6 h0 x2 := zW6_tr F3 (zW6_tr (zW6_c f0 (.inl rfl)) (zW6_tr (zW6_c f1 (.inl rfl)) (zW6_c f2 (.inl rfl))))
    have nE : zNV x2 (gWk T f LL w.toInt γ) := by
      intro j hj
      have e3 : j ≠ 0 → j ≠ 1 → j ≠ 2 → ri_at x2 131 j = γ (zni j) := fun c0 c1 c2 => (p2 j c2).trans ((p1 j c1).trans ((p0 j c0).trans ((n3 j).trans (nV j hj))))
      have : j = 0 ∨ j = 1 ∨ j = 2 ∨ j = 3 ∨ j = 4 ∨ j = 5 ∨ j = 6 ∨ j = 7 ∨ j = 8 ∨ j = 9 ∨ j = 10 := by omega
      rcases this with rfl | rfl | rfl | rfl | rfl | rfl | rfl | rfl | rfl | rfl | rfl
      · show _ = min 1000000 (γ 1 + gLw (LL 0) (gNm T γ (gFirm f w.toInt) w.toInt 0) + γ 12)
        rw [(p2 0 (by decide)), (p1 0 (by decide)), r0, hM0, Int.add_assoc]
      · show _ = min 1000000 (γ 2 + gLw (LL 1) (gNm T γ (gFirm f w.toInt) w.toInt 0) + γ 13)
        rw [(p2 1 (by decide)), r1, hM1, Int.add_assoc]
      · show _ = min 1000000 (γ 3 + gLw (LL 2) (gNm T γ (gFirm f w.toInt) w.toInt 0) + γ 14)
        rw [r2, hM2, Int.add_assoc]
      · exact e3 (by decide) (by decide) (by decide)
      · exact e3 (by decide) (by decide) (by decide)
      · exact e3 (by decide) (by decide) (by decide)
      · exact e3 (by decide) (by decide) (by decide)
      · exact e3 (by decide) (by decide) (by decide)
      · exact e3 (by decide) (by decide) (by decide)
      · exact e3 (by decide) (by decide) (by decide)
      · exact e3 (by decide) (by decide) (by decide)
    refine ex_il oq_X12_goes_122 s23 ?_
    refine ex_ic oq_X12_goes_123 (m := 3) (by decide) (fun x111 hx111 => ?_)
    refine ex_if oq_X12_goes_124 (t := 173) rfl rfl (fun (c112 : x111.toInt ≤ m2.toInt) => ?_) (fun (c112 : ¬ (x111.toInt ≤ m2.toInt)) => ?_)
    · exact ex_retv oq_X12_goes_173 rfl (hQ x2 Tx2 F6 nE)
    · exfalso; omega
  · exfalso; omega
end GN
