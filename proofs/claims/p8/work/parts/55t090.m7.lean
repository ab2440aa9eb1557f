/-! ===== weeks go by: the reference ===== -/
theorem gWk_k {T g : Nat → Int} {LL : Nat → Option (List Int)} {w : Int} {γ : Nat → Int} : gWk T g LL w γ 11 = γ 11 ∧ gWk T g LL w γ 12 = γ 12 ∧ gWk T g LL w γ 13 = γ 13 ∧ gWk T g LL w γ 14 = γ 14 := ⟨rfl, rfl, rfl, rfl⟩
theorem gPs_k {T g : Nat → Int} {LL : Nat → Option (List Int)} : ∀ {n : Nat} {w : Int} {γ : Nat → Int}, gPs T g LL n w γ 11 = γ 11 ∧ gPs T g LL n w γ 12 = γ 12 ∧ gPs T g LL n w γ 13 = γ 13 ∧ gPs T g LL n w γ 14 = γ 14
  | 0, _, _ => ⟨rfl, rfl, rfl, rfl⟩
  | _ + 1, _, _ => gPs_k (γ := gWk T g LL _ _)
theorem gWk_R {T g : Nat → Int} {LL : Nat → Option (List Int)} {w : Int} {γ : Nat → Int} (rG : gGR γ) : gGR (gWk T g LL w γ) := gGrow_R rG gLw_b gLw_b gLw_b
theorem gPs_R {T g : Nat → Int} {LL : Nat → Option (List Int)} : ∀ {n : Nat} {w : Int} {γ : Nat → Int}, gGR γ → gGR (gPs T g LL n w γ)
  | 0, _, _, a => a
  | n + 1, w, γ, a => (gPs_R (gWk_R a) : gGR (gPs T g LL n (w + 1) (gWk T g LL w γ)))
section GN
variable {G : Int} {X : cv_X} {Q : cv_O → Prop} {h0 h : cv_H}
theorem oq_X12_goesOn_2 : cw_ho 215 2 (.iload_n 3) 1 0 0 0 := rfl
theorem oq_X12_goesOn_3 : cw_ho 215 3 (.iload_n 2) 1 0 0 0 := rfl
theorem oq_X12_goesOn_4 : cw_ho 215 4 (.if_icmp .ge 20) 3 0 0 0 := rfl
theorem oq_X12_goesOn_7 : cw_ho 215 7 (.aload_n 0) 1 0 0 0 := rfl
theorem oq_X12_goesOn_8 : cw_ho 215 8 (.iload_n 1) 1 0 0 0 := rfl
theorem oq_X12_goesOn_9 : cw_ho 215 9 (.aload_n 0) 1 0 0 0 := rfl
theorem oq_X12_goesOn_10 : cw_ho 215 10 (.getfield 240) 3 12 43 0 := rfl
theorem oq_X12_goesOn_13 : cw_ho 215 13 (.iload_n 3) 1 0 0 0 := rfl
theorem oq_X12_goesOn_14 : cw_ho 215 14 (.iadd) 1 0 0 0 := rfl
theorem oq_X12_goesOn_15 : cw_ho 215 15 (.invokevirtual 403) 3 214 2 12 := rfl
theorem oq_X12_goesOn_18 : cw_ho 215 18 (.iinc 3 1) 3 0 0 0 := rfl
theorem oq_X12_goesOn_21 : cw_ho 215 21 (.goto (-19)) 3 0 0 0 := rfl
theorem oq_X12_goesOn_24 : cw_ho 215 24 (.return_) 1 0 0 0 := rfl
set_option maxHeartbeats 4000000 in
theorem go_lp {g : Int32} {gn : Nat} (hg : g.toInt = gn) (hg4 : gn < 4) {T : Nat → Int} (gT : zGT h0 gn T) (rT : gTR T) {f : Nat → Int} (hG : ∀ j, j < 12 → ri_at h0 114 j = f j) (hf : ∀ j, 0 ≤ f j ∧ f j ≤ 100) {LL : Nat → Option (List Int)} (hL : ∀ l, l < 3 → zRL h0 l (LL l)) {n : Nat} (hn : ri_at h0 111 14 = n) (hn6 : n ≤ 6) {dk dv : List Int} (d1 : ∀ c, c < n → ri_at h0 124 (3 * c + 1) = dk.getD c 0) (d2 : ∀ c, c < n → ri_at h0 124 (3 * c + 2) = dv.getD c 0) (hv : ∀ c, 0 ≤ dv.getD c 0 ∧ dv.getD c 0 ≤ 999) (hkd : ∀ c, c < n → 0 ≤ dk.getD c 0 ∧ dk.getD c 0 ≤ 2) {S : Nat} (hS64 : S < 64) {W : Int} (hW : ri_at h0 111 43 = W) {N : Int32} {RR : Nat → Int} (hb : 0 ≤ W ∧ 0 ≤ N.toInt ∧ W + N.toInt ≤ 1000000) (hQ : ∀ h', cw_T G h' → zW6 h0 h' → zNV h' RR → Q (none, h')) : ∀ (m : Nat) (w : Int) (γ : Nat → Int) (K : Int32) (h : cv_H) (L : cv_L), K.toInt + m = N.toInt → 0 ≤ K.toInt → w = W + K.toInt → cw_T G h → zW6 h0 h → zNV h γ → gGR γ → γ 11 = S → (γ 12 = zMs dk dv S 0 n ∧ γ 13 = zMs dk dv S 1 n ∧ γ 14 = zMs dk dv S 2 n) → gPs T f LL m w γ = RR → cv_get L 0 = some (cv_r 111) → cv_get L 1 = some (cv_i g) → cv_get L 2 = some (cv_i N) → cv_get L 3 = some (cv_i K) → cw_X X 215 Q 2 L [] h := by
  intro m
  induction m with
  | zero =>
    intro w γ K h L hK hK0 hw hT hF nV rG hS hM hR g0 g1 g2 g3
    refine ex_il oq_X12_goesOn_2 g3 ?_
    refine ex_il oq_X12_goesOn_3 g2 ?_
    refine ex_if oq_X12_goesOn_4 (t := 24) rfl rfl (fun (c101 : N.toInt ≤ K.toInt) => ?_) (fun (c101 : ¬ (N.toInt ≤ K.toInt)) => ?_)
    · exact ex_retv oq_X12_goesOn_24 rfl (hQ h hT hF (by rw [← hR]; exact nV))
    · exfalso; omega
  | succ m ih =>
    intro w γ K h L hK hK0 hw hT hF nV rG hS hM hR g0 g1 g2 g3
    refine ex_il oq_X12_goesOn_2 g3 ?_
    refine ex_il oq_X12_goesOn_3 g2 ?_
    refine ex_if oq_X12_goesOn_4 (t := 24) rfl rfl (fun (c101 : N.toInt ≤ K.toInt) => ?_) (fun (c101 : ¬ (N.toInt ≤ K.toInt)) => ?_)
    · exfalso; omega
    · refine ex_al oq_X12_goesOn_7 g0 ?_
      refine ex_il oq_X12_goesOn_8 g1 ?_
      refine ex_al oq_X12_goesOn_9 g0 ?_
      obtain ⟨x102, ax102, rx102, lx102, ux102⟩ := fi_week hT
      refine ex_gf oq_X12_goesOn_10 hT (k := 111) (d := 12) rfl rfl ax102 ?_
      have rx102 := (rx102.symm.trans ((ri_eq (hF.2 43 (by decide))).trans hW) : x102.toInt = W)
      refine ex_il oq_X12_goesOn_13 g3 ?_
      refine ex_add oq_X12_goesOn_14 (by omega) (fun x103 hx103 => ?_)
      refine ex_cv oq_X12_goesOn_15 (by decide) hT (k := 111) (d := 12) (as := [cv_i g, cv_i x103]) (stk := []) rfl rfl rfl rfl rfl rfl ⟨rfl, rfl⟩ (R := fun o => ∃ hb : cv_H, o = (none, hb) ∧ cw_T G hb ∧ zW6 h hb ∧ zNV hb (gWk T f LL x103.toInt γ)) (rl_goes hT hg hg4 (fun j q => (zW6_ri hF (by decide) (by decide) (by decide) (by decide) (by decide)).trans (gT j q)) nV rT rG (fun j q => (zW6_ri hF (by decide) (by decide) (by decide) (by decide) (by decide)).trans (hG j q)) hf (by omega) (fun l q => zRL_eq (hL l q) (fun k i hk => zW6_ri hF (by omega) (by omega) (by omega) (by omega) (by omega))) ((ri_eq (hF.2 14 (by decide))).trans hn) hn6 (fun c q => (zW6_ri hF (by decide) (by decide) (by decide) (by decide) (by decide)).trans (d1 c q)) (fun c q => (zW6_ri hF (by decide) (by decide) (by decide) (by decide) (by decide)).trans (d2 c q)) hv hkd hS hS64 hM (fun hb b1 b2 b3 => ⟨hb, rfl, b1, b2, b3⟩)) (fun o ho => ?_)
      obtain ⟨h104, rfl, Th104, zh104, Nh104⟩ := ho
      show cw_X _ _ _ _ _ [] h104
      rw [show x103.toInt = w from by omega] at Nh104
      refine ex_incA oq_X12_goesOn_18 (v := K) (m := 1) g3 (by decide) (by omega) (fun L106 x105 hx105 gL106_3 kL106 => ?_)
      have gL106_0 : cv_get L106 0 = some (cv_r 111) := kL106 0 _ (by decide) (fun q => absurd q (by decide)) g0
      have gL106_1 : cv_get L106 1 = some (cv_i g) := kL106 1 _ (by decide) (fun q => absurd q (by decide)) g1
      have gL106_2 : cv_get L106 2 = some (cv_i N) := kL106 2 _ (by decide) (fun _ => rfl) g2
      refine ex_go oq_X12_goesOn_21 (t := 2) rfl rfl ?_
      exact ih (w + 1) (gWk T f LL w γ) x105 h104 L106 (by omega) (by omega) (by omega) Th104 (zW6_tr hF zh104) Nh104 (gWk_R rG) hS hM hR gL106_0 gL106_1 gL106_2 gL106_3
theorem oq_X12_goesOn_0 : cw_ho 215 0 (.iconst 0) 1 0 0 0 := rfl
theorem oq_X12_goesOn_1 : cw_ho 215 1 (.istore_n 3) 1 0 0 0 := rfl
theorem rl_goesOn (hT : cw_T G h0) {g : Int32} {gn : Nat} (hg : g.toInt = gn) (hg4 : gn < 4) {T : Nat → Int} (gT : zGT h0 gn T) (rT : gTR T) {f : Nat → Int} (hG : ∀ j, j < 12 → ri_at h0 114 j = f j) (hf : ∀ j, 0 ≤ f j ∧ f j ≤ 100) {LL : Nat → Option (List Int)} (hL : ∀ l, l < 3 → zRL h0 l (LL l)) {n : Nat} (hn : ri_at h0 111 14 = n) (hn6 : n ≤ 6) {dk dv : List Int} (d1 : ∀ c, c < n → ri_at h0 124 (3 * c + 1) = dk.getD c 0) (d2 : ∀ c, c < n → ri_at h0 124 (3 * c + 2) = dv.getD c 0) (hv : ∀ c, 0 ≤ dv.getD c 0 ∧ dv.getD c 0 ≤ 999) (hkd : ∀ c, c < n → 0 ≤ dk.getD c 0 ∧ dk.getD c 0 ≤ 2) {S : Nat} (hS64 : S < 64) {W : Int} (hW : ri_at h0 111 43 = W) {N : Int32} {m : Nat} (hN : N.toInt = m) (hb : 0 ≤ W ∧ W + m ≤ 1000000) {γ : Nat → Int} (nV : zNV h0 γ) (rG : gGR γ) (hS : γ 11 = S) (hM : γ 12 = zMs dk dv S 0 n ∧ γ 13 = zMs dk dv S 1 n ∧ γ 14 = zMs dk dv S 2 n) (hQ : ∀ h', cw_T G h' → zW6 h0 h' → zNV h' (gPs T f LL m W γ) → Q (none, h')) : cw_X X 215 Q 0 (cv_ent 0 [cv_r 111, cv_i g, cv_i N]) [] h0 := by
  refine ex_ic oq_X12_goesOn_0 (m := 0) (by decide) (fun x101 hx101 => ?_)
  refine ex_isA oq_X12_goesOn_1 (fun L102 gL102_3 kL102 => ?_)
  have gL102_0 : cv_get L102 0 = some (cv_r 111) := kL102 0 _ (by decide) (fun q => absurd q (by decide)) rfl
  have gL102_1 : cv_get L102 1 = some (cv_i g) := kL102 1 _ (by decide) (fun q => absurd q (by decide)) rfl
  have gL102_2 : cv_get L102 2 = some (cv_i N) := kL102 2 _ (by decide) (fun _ => rfl) rfl
  exact go_lp hg hg4 gT rT hG hf hL hn hn6 d1 d2 hv hkd hS64 hW (N := N) ⟨hb.1, by omega, by omega⟩ hQ m W γ x101 h0 L102 (by omega) (by omega) (by omega) hT zW6_0 nV rG hS hM rfl gL102_0 gL102_1 gL102_2 gL102_3
theorem oq_X12_loads_0 : cw_ho 202 0 (.aload_n 0) 1 0 0 0 := rfl
theorem oq_X12_loads_1 : cw_ho 202 1 (.getfield 72) 3 12 45 4 := rfl
theorem oq_X12_loads_4 : cw_ho 202 4 (.iconst 0) 1 0 0 0 := rfl
theorem oq_X12_loads_5 : cw_ho 202 5 (.aload_n 0) 1 0 0 0 := rfl
theorem oq_X12_loads_6 : cw_ho 202 6 (.getfield 69) 3 12 44 4 := rfl
theorem oq_X12_loads_9 : cw_ho 202 9 (.bipush 16) 2 0 0 0 := rfl
theorem oq_X12_loads_11 : cw_ho 202 11 (.iload_n 1) 1 0 0 0 := rfl
theorem oq_X12_loads_12 : cw_ho 202 12 (.imul) 1 0 0 0 := rfl
theorem oq_X12_loads_13 : cw_ho 202 13 (.invokestatic 236) 3 200 4 0 := rfl
theorem oq_X12_loads_16 : cw_ho 202 16 (.return_) 1 0 0 0 := rfl
theorem rl_loads (hT : cw_T G h) {g : Int32} {gn : Nat} (hg : g.toInt = gn) (hg4 : gn < 4) {γ : Nat → Int} (sV : ∀ j, j < 11 → ri_at h 130 (16 * gn + j) = γ (zni j)) (hQ : ∀ h', cw_T G h' → cp_F 131 h h' → zNV h' γ → Q (none, h')) : cw_X X 202 Q 0 (cv_ent 0 [cv_r 111, cv_i g]) [] h := by
  refine ex_al oq_X12_loads_0 rfl ?_
  refine ex_gf oq_X12_loads_1 hT (k := 111) (d := 12) rfl rfl (fr_now hT) ?_
  refine ex_ic oq_X12_loads_4 (m := 0) (by decide) (fun x101 hx101 => ?_)
  refine ex_al oq_X12_loads_5 rfl ?_
  refine ex_gf oq_X12_loads_6 hT (k := 111) (d := 12) rfl rfl (fr_state hT) ?_
  refine ex_bi oq_X12_loads_9 (m := 16) (by decide) (fun x102 hx102 => ?_)
  refine ex_il oq_X12_loads_11 rfl ?_
  refine ex_mul oq_X12_loads_12 (m := 16 * g.toInt) (by rw [hx102]) (by omega) (fun x103 hx103 => ?_)
  refine ex_cs oq_X12_loads_13 (by decide) (as := [cv_r 131, cv_i x101, cv_r 130, cv_i x103]) (stk := []) rfl rfl rfl ⟨rfl, rfl⟩ (R := fun o => ∃ hb : cv_H, o = (none, hb) ∧ cw_T G hb ∧ cp_F 131 h hb ∧ (∀ i, i < 16 → ri_at hb 131 (0 + i) = ri_at h 130 (16 * gn + i)) ∧ (∀ i, (i < 0 ∨ 0 + 16 ≤ i) → ri_at hb 131 i = ri_at h 131 i)) (rt_lays hT (R1 := 131) (d1 := 70) (R2 := 130) (d2 := 69) (a := 0) (b := 16 * gn) rfl rfl rfl rfl (by decide) (by omega) (by omega) (by omega) (by omega) (by decide) (by decide) (fun j _ _ r hr => free1 hr) (fun hb b1 b2 b3 b4 => ⟨hb, rfl, b1, b2, b3, b4⟩)) (fun o ho => ?_)
  obtain ⟨h104, rfl, Th104, ch104, yh104, nh104⟩ := ho
  show cw_X _ _ _ _ _ [] h104
  exact ex_retv oq_X12_loads_16 rfl (hQ h104 Th104 ch104 (fun j hj => by have e := yh104 j (by omega); rw [Nat.zero_add] at e; exact e.trans (sV j hj)))
end GN
