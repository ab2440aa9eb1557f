section
/-! ===== weeks go by: the reference ===== -/
theorem gPs_k {T g : Nat → Int} {LL : Nat → Option (List Int)} : ∀ {n : Nat} {w : Int} {γ : Nat → Int}, gPs T g LL n w γ 11 = γ 11 ∧ gPs T g LL n w γ 12 = γ 12 ∧ gPs T g LL n w γ 13 = γ 13 ∧ gPs T g LL n w γ 14 = γ 14
  | 0, _, _ => ⟨rfl, rfl, rfl, rfl⟩
  | _ + 1, _, _ => gPs_k (γ := gWk T g LL _ _)
theorem gWk_R {T g : Nat → Int} {LL : Nat → Option (List Int)} {w : Int} {γ : Nat → Int} (rG : gGR γ) : gGR (gWk T g LL w γ) := gGrow_R rG gLw_b gLw_b gLw_b
theorem gPs_R {T g : Nat → Int} {LL : Nat → Option (List Int)} : ∀ {n : Nat} {w : Int} {γ : Nat → Int}, gGR γ → gGR (gPs T g LL n w γ)
  | 0, _, _, a => a
  | n + 1, w, γ, a => (gPs_R (gWk_R a) : gGR (gPs T g LL n (w + 1) (gWk T g LL w γ)))
section GN
variable {G : Int} {X : cv_X} {Q : cv_O → Prop} {h0 h : cv_H}
theorem oq_X12_goesOn_2 : cw_ho 215 2 (.iload_n 3) 1 0 0 0 := rfl
theorem oq_X12_goesOn_3 : cw_ho 215 3 (.iload_n 2) 1 0 0 0 := rfl
theorem oq_X12_goesOn_4 : cw_ho 215 4 (.if_icmp .ge 20) 3 0 0 0 := rfl
theorem oq_X12_goesOn_7 : cw_ho 215 7 (.aload_n 0) 1 0 0 0 := rfl
theorem oq_X12_goesOn_8 : cw_ho 215 8 (.iload_n 1) 1 0 0 0 := rfl
theorem oq_X12_goesOn_9 : cw_ho 215 9 (.aload_n 0) 1 0 0 0 := rfl
theorem oq_X12_goesOn_10 : cw_ho 215 10 (.getfield 240) 3 12 43 0 := rfl
theorem oq_X12_goesOn_13 : cw_ho 215 13 (.iload_n 3) 1 0 0 0 := rfl
theorem oq_X12_goesOn_14 : cw_ho 215 14 (.iadd) 1 0 0 0 := rfl
theorem oq_X12_goesOn_15 : cw_ho 215 15 (.invokevirtual 403) 3 214 2 12 := rfl
theorem oq_X12_goesOn_18 : cw_ho 215 18 (.iinc 3 1) 3 0 0 0 := rfl
theorem oq_X12_goesOn_21 : cw_ho 215 21 (.goto (-19)) 3 0 0 0 := rfl
theorem oq_X12_goesOn_24 : cw_ho 215 24 (.return_) 1 0 0 0 := rfl
set_option maxHeartbeats 4000000 in
theorem go_lp {g : Int32} {gn : Nat} (hg : g.toInt = gn) (hg4 : gn < 4) {T : Nat → Int} (gT : zGT h0 gn T) (rT : gTR T) {f : Nat → Int} (hG : ∀ j, j < 12 → ri_at h0 114 j = f j) (hf : ∀ j, 0 ≤ f j ∧ f j ≤ 100) {LL : Nat → Option (List Int)} (hL : ∀ l, l < 3 → zRL h0 l (LL l)) {n : Nat} (hn : ri_at h0 111 14 = n) (hn6 : n ≤ 6) {dk dv : List Int} (d1 : ∀ c, c < n → ri_at h0 124 (3 * c + 1) = dk.getD c 0) (d2 : ∀ c, c < n → ri_at h0 124 (3 * c + 2) = dv.getD c 0) (hv : ∀ c, 0 ≤ dv.getD c 0 ∧ dv.getD c 0 ≤ 999) (hkd : ∀ c, c < n → 0 ≤ dk.getD c 0 ∧ dk.getD c 0 ≤ 2) {S : Nat} (hS64 : S < 64) {W : Int} (hW : ri_at h0 111 43 = W) {N : Int32} {RR : Nat → Int} (hb : 0 ≤ W ∧ 0 ≤ N.toInt ∧ W + N.toInt ≤ 1000000) (hQ : ∀ h', cw_T G h' → zW6 h0 h' → zNV h' RR → Q (none, h')) : ∀ (m : Nat) (w : Int) (γ : Nat → Int) (K : Int32) (h : cv_H) (L : cv_L), K.toInt + m = N.toInt → 0 ≤ K.toInt → w = W + K.toInt → cw_T G h → zW6 h0 h → zNV h γ → gGR γ → γ 11 = S → (γ 12 = zMs dk dv S 0 n ∧ γ 13 = zMs dk dv S 1 n ∧ γ 14 = zMs dk dv S 2 n) → gPs T f LL m w γ = RR → cv_get L 0 = some (cv_r 111) → cv_get L 1 = some (cv_i g) → cv_get L 2 = some (cv_i N) → cv_get L 3 = some (cv_i K) → cw_X X 215 Q 2 L [] h := by
  intro m
  induction m with
  | zero =>
    intro w γ K h L hK hK0 hw hT hF nV rG hS hM hR g0 g1 g2 g3
    refine ex_il oq_X12_goesOn_2 g3 ?_
    refine ex_il oq_X12_goesOn_3 g2 ?_
    refine ex_if oq_X12_goesOn_4 (t := 24) rfl rfl (fun (c101 : N.toInt ≤ K.toInt) => ?_) (fun (c101 : ¬ (N.toInt ≤ K.toInt)) => ?_)
    · exact ex_retv oq_X12_goesOn_24 rfl (hQ h hT hF (by rw [← hR]; exact nV))
    · exfalso; omega
  | succ m ih =>
    intro w γ K h L hK hK0 hw hT hF nV rG hS hM hR g0 g1 g2 g3
    refine ex_il oq_X12_goesOn_2 g3 ?_
    refine ex_il oq_X12_goesOn_3 g2 ?_
    refine ex_if oq_X12_goesOn_4 (t := 24) rfl rfl (fun (c101 : N.toInt ≤ K.toInt) => ?_) (fun (c101 : ¬ (N.toInt ≤ K.toInt)) => ?_)
    · exfalso; omega
    · refine ex_al oq_X12_goesOn_7 g0 ?_
      refine ex_il oq_X12_goesOn_8 g1 ?_
      refine ex_al oq_X12_goesOn_9 g0 ?_
      obtain ⟨x102, ax102, rx102, lx102, ux102⟩ := fi_week hT
      refine ex_gf oq_X12_goesOn_10 hT (k := 111) (d := 12) rfl rfl ax102 ?_
      have rx102 := (rx102.symm.trans ((ri_eq (hF.2 43 (by decide))).trans hW) : x102.toInt = W)
      refine ex_il oq_X12_goesOn_13 g3 ?_
      refine ex_add oq_X12_goesOn_14 (by omega) (fun x103 hx103 => ?_)
      refine ex_cv oq_X12_goesOn_15 (by decide) hT (k := 111) (d := 12) (as := [cv_i g, cv_i x103]) (stk := []) rfl rfl rfl rfl rfl rfl ⟨rfl, rfl⟩ (R := fun o => ∃ hb : cv_H, o = (none, hb) ∧ cw_T G hb ∧ zW6 h hb ∧ zNV hb (gWk T f LL x103.toInt γ)) (rl_goes hT hg hg4 (fun j q => (zW6_ri hF (by decide) (by decide) (by decide) (by decide) (by decide)).trans (gT j q)) nV rT rG (fun j q => (zW6_ri hF (by decide) (by decide) (by decide) (by decide) (by decide)).trans (hG j q)) hf (by omega) (fun l q => zRL_eq (hL l q) (fun k i hk => zW6_ri hF (by omega) (by omega) (by omega) (by omega) (by omega))) ((ri_eq (hF.2 14 (by decide))).trans hn) hn6 (fun c q => (zW6_ri hF (by decide) (by decide) (by decide) (by decide) (by decide)).trans (d1 c q)) (fun c q => (zW6_ri hF (by decide) (by decide) (by decide) (by decide) (by decide)).trans (d2 c q)) hv hkd hS hS64 hM (fun hb b1 b2 b3 => ⟨hb, rfl, b1, b2, b3⟩)) (fun o ho => ?_)
      obtain ⟨h104, rfl, Th104, zh104, Nh104⟩ := ho
      show cw_X _ _ _ _ _ [] h104
      rw [show x103.toInt = w from by omega] at Nh104
      refine ex_incA oq_X12_goesOn_18 (v := K) (m := 1) g3 (by decide) (by omega) (fun L106 x105 hx105 gL106_3 kL106 => ?_)
      have gL106_0 : cv_get L106 0 = some (cv_r 111) := kL106 0 _ (by decide) (fun q => absurd q (by decide)) g0
      have gL106_1 : cv_get L106 1 = some (cv_i g) := kL106 1 _ (by decide) (fun q => absurd q (by decide)) g1
      have gL106_2 : cv_get L106 2 = some (cv_i N) := kL106 2 _ (by decide) (fun _ => rfl) g2
      refine ex_go oq_X12_goesOn_21 (t := 2) rfl rfl ?_
      exact ih (w + 1) (gWk T f LL w γ) x105 h104 L106 (by omega) (by omega) (by omega) Th104 (zW6_tr hF zh104) Nh104 (gWk_R rG) hS hM hR gL106_0 gL106_1 gL106_2 gL106_3
theorem oq_X12_goesOn_0 : cw_ho 215 0 (.iconst 0) 1 0 0 0 := rfl
theorem oq_X12_goesOn_1 : cw_ho 215 1 (.istore_n 3) 1 0 0 0 := rfl
theorem rl_goesOn (hT : cw_T G h0) {g : Int32} {gn : Nat} (hg : g.toInt = gn) (hg4 : gn < 4) {T : Nat → Int} (gT : zGT h0 gn T) (rT : gTR T) {f : Nat → Int} (hG : ∀ j, j < 12 → ri_at h0 114 j = f j) (hf : ∀ j, 0 ≤ f j ∧ f j ≤ 100) {LL : Nat → Option (List Int)} (hL : ∀ l, l < 3 → zRL h0 l (LL l)) {n : Nat} (hn : ri_at h0 111 14 = n) (hn6 : n ≤ 6) {dk dv : List Int} (d1 : ∀ c, c < n → ri_at h0 124 (3 * c + 1) = dk.getD c 0) (d2 : ∀ c, c < n → ri_at h0 124 (3 * c + 2) = dv.getD c 0) (hv : ∀ c, 0 ≤ dv.getD c 0 ∧ dv.getD c 0 ≤ 999) (hkd : ∀ c, c < n → 0 ≤ dk.getD c 0 ∧ dk.getD c 0 ≤ 2) {S : Nat} (hS64 : S < 64) {W : Int} (hW : ri_at h0 111 43 = W) {N : Int32} {m : Nat} (hN : N.toInt = m) (hb : 0 ≤ W ∧ W + m ≤ 1000000) {γ : Nat → Int} (nV : zNV h0 γ) (rG : gGR γ) (hS : γ 11 = S) (hM : γ 12 = zMs dk dv S 0 n ∧ γ 13 = zMs dk dv S 1 n ∧ γ 14 = zMs dk dv S 2 n) (hQ : ∀ h', cw_T G h' → zW6 h0 h' → zNV h' (gPs T f LL m W γ) → Q (none, h')) : cw_X X 215 Q 0 (cv_ent 0 [cv_r 111, cv_i g, cv_i N]) [] h0 := by
  refine ex_ic oq_X12_goesOn_0 (m := 0) (by decide) (fun x101 hx101 => ?_)
  refine ex_isA oq_X12_goesOn_1 (fun L102 gL102_3 kL102 => ?_)
  have gL102_0 : cv_get L102 0 = some (cv_r 111) := kL102 0 _ (by decide) (fun q => absurd q (by decide)) rfl
  have gL102_1 : cv_get L102 1 = some (cv_i g) := kL102 1 _ (by decide) (fun q => absurd q (by decide)) rfl
  have gL102_2 : cv_get L102 2 = some (cv_i N) := kL102 2 _ (by decide) (fun _ => rfl) rfl
  exact go_lp hg hg4 gT rT hG hf hL hn hn6 d1 d2 hv hkd hS64 hW (N := N) ⟨hb.1, by omega, by omega⟩ hQ m W γ x101 h0 L102 (by omega) (by omega) (by omega) hT zW6_0 nV rG hS hM rfl gL102_0 gL102_1 gL102_2 gL102_3
theorem oq_X12_loads_0 : cw_ho 202 0 (.aload_n 0) 1 0 0 0 := rfl
theorem oq_X12_loads_1 : cw_ho 202 1 (.getfield 72) 3 12 45 4 := rfl
theorem oq_X12_loads_4 : cw_ho 202 4 (.iconst 0) 1 0 0 0 := rfl
theorem oq_X12_loads_5 : cw_ho 202 5 (.aload_n 0) 1 0 0 0 := rfl
theorem oq_X12_loads_6 : cw_ho 202 6 (.getfield 69) 3 12 44 4 := rfl
theorem oq_X12_loads_9 : cw_ho 202 9 (.bipush 16) 2 0 0 0 := rfl
theorem oq_X12_loads_11 : cw_ho 202 11 (.iload_n 1) 1 0 0 0 := rfl
theorem oq_X12_loads_12 : cw_ho 202 12 (.imul) 1 0 0 0 := rfl
theorem oq_X12_loads_13 : cw_ho 202 13 (.invokestatic 236) 3 200 4 0 := rfl
theorem oq_X12_loads_16 : cw_ho 202 16 (.return_) 1 0 0 0 := rfl
theorem rl_loads (hT : cw_T G h) {g : Int32} {gn : Nat} (hg : g.toInt = gn) (hg4 : gn < 4) {γ : Nat → Int} (sV : ∀ j, j < 11 → ri_at h 130 (16 * gn + j) = γ (zni j)) (hQ : ∀ h', cw_T G h' → cp_F 131 h h' → zNV h' γ → Q (none, h')) : cw_X X 202 Q 0 (cv_ent 0 [cv_r 111, cv_i g]) [] h := by
  refine ex_al oq_X12_loads_0 rfl ?_
  refine ex_gf oq_X12_loads_1 hT (k := 111) (d := 12) rfl rfl (fr_now hT) ?_
  refine ex_ic oq_X12_loads_4 (m := 0) (by decide) (fun x101 hx101 => ?_)
  refine ex_al oq_X12_loads_5 rfl ?_
  refine ex_gf oq_X12_loads_6 hT (k := 111) (d := 12) rfl rfl (fr_state hT) ?_
  refine ex_bi oq_X12_loads_9 (m := 16) (by decide) (fun x102 hx102 => ?_)
  refine ex_il oq_X12_loads_11 rfl ?_
  refine ex_mul oq_X12_loads_12 (m := 16 * g.toInt) (by rw [hx102]) (by omega) (fun x103 hx103 => ?_)
  refine ex_cs oq_X12_loads_13 (by decide) (as := [cv_r 131, cv_i x101, cv_r 130, cv_i x103]) (stk := []) rfl rfl rfl ⟨rfl, rfl⟩ (R := fun o => ∃ hb : cv_H, o = (none, hb) ∧ cw_T G hb ∧ cp_F 131 h hb ∧ (∀ i, i < 16 → ri_at hb 131 (0 + i) = ri_at h 130 (16 * gn + i)) ∧ (∀ i, (i < 0 ∨ 0 + 16 ≤ i) → ri_at hb 131 i = ri_at h 131 i)) (rt_lays hT (R1 := 131) (d1 := 70) (R2 := 130) (d2 := 69) (a := 0) (b := 16 * gn) rfl rfl rfl rfl (by decide) (by omega) (by omega) (by omega) (by omega) (by decide) (by decide) (fun j _ _ r hr => free1 hr) (fun hb b1 b2 b3 b4 => ⟨hb, rfl, b1, b2, b3, b4⟩)) (fun o ho => ?_)
  obtain ⟨h104, rfl, Th104, ch104, yh104, nh104⟩ := ho
  show cw_X _ _ _ _ _ [] h104
  exact ex_retv oq_X12_loads_16 rfl (hQ h104 Th104 ch104 (fun j hj => by have e := yh104 j (by omega); rw [Nat.zero_add] at e; exact e.trans (sV j hj)))
end GN
end
section
/-! ===== what both hold of the gates; weeks: the reference ===== -/
/-- a plan's numbers, in range -/
def zPD (ng n : Nat) (Ts : Nat → Nat → Int) (f : Nat → Int) (dk dv : List Int) : Prop := ng ≤ 4 ∧ n ≤ 6 ∧ (∀ g, g < ng → gTR (Ts g)) ∧ (∀ j, 0 ≤ f j ∧ f j ≤ 100) ∧ (∀ c, 0 ≤ dv.getD c 0 ∧ dv.getD c 0 ≤ 999) ∧ ∀ c, c < n → 0 ≤ dk.getD c 0 ∧ dk.getD c 0 ≤ 2
/-- the reference holds a plan -/
def zRD (h : cv_H) (ng n : Nat) (Ts : Nat → Nat → Int) (f : Nat → Int) (LL : Nat → Option (List Int)) (dk dv : List Int) : Prop := ri_at h 111 12 = ng ∧ ri_at h 111 14 = n ∧ (∀ g, g < ng → zGT h g (Ts g)) ∧ (∀ j, j < 12 → ri_at h 114 j = f j) ∧ (∀ l, l < 4 → zRL h l (LL l)) ∧ (∀ c, c < n → ri_at h 124 (3 * c + 1) = dk.getD c 0) ∧ ∀ c, c < n → ri_at h 124 (3 * c + 2) = dv.getD c 0
theorem zRD_eq {h h' : cv_H} {ng n : Nat} {Ts : Nat → Nat → Int} {f : Nat → Int} {LL : Nat → Option (List Int)} {dk dv : List Int} (a : zRD h ng n Ts f LL dk dv) (e : ∀ k i, (k = 114 ∨ k = 115 ∨ k = 116 ∨ k = 117 ∨ k = 119 ∨ k = 124 ∨ k = 125 ∨ k = 126 ∨ k = 127) → ri_at h' k i = ri_at h k i) (e1 : ri_at h' 111 12 = ri_at h 111 12) (e2 : ri_at h' 111 14 = ri_at h 111 14) : zRD h' ng n Ts f LL dk dv := by
  obtain ⟨a1, a2, a3, a4, a5, a6, a7⟩ := a
  exact ⟨e1.trans a1, e2.trans a2, fun g q j r => (e 119 _ (by omega)).trans (a3 g q j r), fun j q => (e 114 j (by omega)).trans (a4 j q), fun l q => zRL_eq (a5 l q) (fun k i hk => e k i (by omega)), fun c q => (e 124 _ (by omega)).trans (a6 c q), fun c q => (e 124 _ (by omega)).trans (a7 c q)⟩
/-- what a gate's causes add is told by their set -/
def zCA (dk dv : List Int) (n : Nat) (γ : Nat → Int) : Prop := γ 12 = zMs dk dv (γ 11).toNat 0 n ∧ γ 13 = zMs dk dv (γ 11).toNat 1 n ∧ γ 14 = zMs dk dv (γ 11).toNat 2 n
def zGP (ng n : Nat) (dk dv : List Int) (γs : Nat → Nat → Int) : Prop := ∀ g, g < ng → gGR (γs g) ∧ zCA dk dv n (γs g)
/-- the reference holds the gates -/
def zSS (h : cv_H) (ng : Nat) (γs : Nat → Nat → Int) : Prop := ∀ g, g < ng → ∀ j, j < 11 → ri_at h 130 (16 * g + j) = γs g (zni j)
theorem zCA_P {dk dv : List Int} {n m : Nat} {T g : Nat → Int} {LL : Nat → Option (List Int)} {w : Int} {γ : Nat → Int} (a : zCA dk dv n γ) : zCA dk dv n (gPs T g LL m w γ) := by
  obtain ⟨e1, e2, e3, e4⟩ := gPs_k (T := T) (g := g) (LL := LL) (n := m) (w := w) (γ := γ)
  unfold zCA
  rw [e1, e2, e3, e4]
  exact a
/-- what weeks may change -/
def zW7 (h h' : cv_H) : Prop := (∀ k : Nat, k ≠ 111 → k ≠ 130 → k ≠ 131 → k ≠ 132 → k ≠ 133 → k ≠ 134 → h'[k]? = h[k]?) ∧ ∀ i, i ≠ 2 → i ≠ 43 → i ≠ 48 → cw_at h' 111 i = cw_at h 111 i
theorem zW7_tr {h h' h'' : cv_H} (a : zW7 h h') (b : zW7 h' h'') : zW7 h h'' := ⟨fun k p q r s t u => (b.1 k p q r s t u).trans (a.1 k p q r s t u), fun i q r s => (b.2 i q r s).trans (a.2 i q r s)⟩
theorem zW7_6 {h h' : cv_H} (a : zW6 h h') : zW7 h h' := ⟨fun k p _ r s t u => a.1 k p r s t u, fun i _ _ q => a.2 i q⟩
theorem zW7_c {h h' : cv_H} {R : Nat} (c : cp_F R h h') (hR : R = 130 ∨ R = 131) : zW7 h h' := by
  refine ⟨fun k p q r s t u => c k (by omega), fun i _ _ _ => ?_⟩
  unfold cw_at
  rw [c 111 (by omega)]
theorem zW7_w {h h' : cv_H} {j : Nat} {v : cv_V} (hj : j = 2 ∨ j = 43) (w : cw_Wr h h' 111 j v) : zW7 h h' := ⟨fun k p _ _ _ _ _ => w.2.2 k p, fun i p q _ => w.2.1 111 i (.inr (by omega))⟩
theorem zW7_ri {h h' : cv_H} {k i : Nat} (a : zW7 h h') (p : k ≠ 111) (q : k ≠ 130) (r : k ≠ 131) (s : k ≠ 132) (t : k ≠ 133) (u : k ≠ 134) : ri_at h' k i = ri_at h k i := ri_eq (by unfold cw_at; rw [a.1 k p q r s t u])
theorem zRD_7 {h h' : cv_H} {ng n : Nat} {Ts : Nat → Nat → Int} {f : Nat → Int} {LL : Nat → Option (List Int)} {dk dv : List Int} (z : zW7 h h') (a : zRD h ng n Ts f LL dk dv) : zRD h' ng n Ts f LL dk dv :=
  zRD_eq a (fun k i hk => zW7_ri z (by omega) (by omega) (by omega) (by omega) (by omega) (by omega)) (ri_eq (z.2 12 (by decide) (by decide) (by decide))) (ri_eq (z.2 14 (by decide) (by decide) (by decide)))
section GN
variable {G : Int} {X : cv_X} {Q : cv_O → Prop} {h0 h : cv_H}
section WK
variable {ng n : Nat} {Ts γs : Nat → Nat → Int} {f : Nat → Int} {LL : Nat → Option (List Int)} {dk dv : List Int}
/-- one gate's weeks, from the heap's facts -/
theorem rl_goesOnD (hT : cw_T G h) (P : zPD ng n Ts f dk dv) (D : zRD h ng n Ts f LL dk dv) {g : Int32} {gn : Nat} (hg : g.toInt = gn) (hgn : gn < ng) {W : Int} (hW : ri_at h 111 43 = W) {N : Int32} {m : Nat} (hN : N.toInt = m) (hb : 0 ≤ W ∧ W + m ≤ 1000000) {γ : Nat → Int} (nV : zNV h γ) (rG : gGR γ) (cA : zCA dk dv n γ) (hQ : ∀ h', cw_T G h' → zW6 h h' → zNV h' (gPs (Ts gn) f LL m W γ) → Q (none, h')) : cw_X X 215 Q 0 (cv_ent 0 [cv_r 111, cv_i g, cv_i N]) [] h := by
  obtain ⟨p1, p2, p3, p4, p5, p6⟩ := P
  obtain ⟨d1, d2, d3, d4, d5, d6, d7⟩ := D
  have rG' := rG
  obtain ⟨rG1, rG2, rG3, rG4, rG5, rG6, rG7, rG8, rG9, rG10, rG11, rG12, rG13, rG14, rG15, rG16⟩ := rG'
  exact rl_goesOn hT hg (by omega) (d3 gn hgn) (p3 gn hgn) d4 p4 (fun l q => d5 l (by omega)) d2 p2 d6 d7 p5 p6 (S := (γ 11).toNat) (by omega) hW hN hb nV rG (by omega) cA hQ
theorem zW6_130 {h h' : cv_H} {i : Nat} (a : zW6 h h') : ri_at h' 130 i = ri_at h 130 i := zW6_ri a (by decide) (by decide) (by decide) (by decide) (by decide)
set_option maxHeartbeats 4000000 in
theorem rl_wk (P : zPD ng n Ts f dk dv) (hD : zRD h0 ng n Ts f LL dk dv) (gP : zGP ng n dk dv γs) {W : Int} {N : Int32} {m : Nat} (hN : N.toInt = m) (hm : 0 ≤ W ∧ m ≤ 520 ∧ W + m ≤ 2000) (hQ : ∀ (x : Int32) h', cw_T G h' → zW7 h0 h' → x.toInt = W + m → ri_at h' 111 43 = W + m → zSS h' ng (fun i => gPs (Ts i) f LL m W (γs i)) → Q (some (cv_i x), h')) : ∀ (fu gi : Nat) (I : Int32) (h : cv_H) (L : cv_L), ng - gi = fu → gi ≤ ng → I.toInt = gi → cw_T G h → zW7 h0 h → ri_at h 111 43 = W → (∀ g, g < ng → ∀ j, j < 11 → ri_at h 130 (16 * g + j) = (if g < gi then gPs (Ts g) f LL m W (γs g) else γs g) (zni j)) → cv_get L 0 = some (cv_r 111) → cv_get L 1 = some (cv_i N) → cv_get L 2 = some (cv_i I) → cw_X X 221 Q 32 L [] h := by
  have hng := P.1
  intro fu
  induction fu with
  | zero =>
    intro gi I h L hf hgi hI hT hF hW hs g0 g1 g2
    refine ex_il oq_X12_weeks_32 g2 ?_
    refine ex_al oq_X12_weeks_33 g0 ?_
    obtain ⟨x101, ax101, rx101, lx101, ux101⟩ := fi_gates hT
    refine ex_gf oq_X12_weeks_34 hT (k := 111) (d := 12) rfl rfl ax101 ?_
    have rx101 := (rx101.symm.trans (zRD_7 hF hD).1 : x101.toInt = (ng : Int))
    refine ex_if oq_X12_weeks_37 (t := 73) rfl rfl (fun (c102 : x101.toInt ≤ I.toInt) => ?_) (fun (c102 : ¬ (x101.toInt ≤ I.toInt)) => ?_)
    · refine ex_al oq_X12_weeks_73 g0 ?_
      refine ex_dup oq_X12_weeks_74 rfl ?_
      obtain ⟨x103, ax103, rx103, lx103, ux103⟩ := fi_week hT
      refine ex_gf oq_X12_weeks_75 hT (k := 111) (d := 12) rfl rfl ax103 ?_
      have rx103 := (rx103.symm.trans hW : x103.toInt = W)
      refine ex_il oq_X12_weeks_78 g1 ?_
      refine ex_add oq_X12_weeks_79 (by omega) (fun x104 hx104 => ?_)
      refine ex_pfi oq_X12_weeks_80 hT (k := 111) (d := 12) rfl rfl rfl (by omega) (by omega) (fun h105 Th105 wh105 => ?_)
      have eh105_111_12 : ri_at h105 111 12 = (ng : Int) := (ri_ne wh105 (.inr (by decide))).trans (zRD_7 hF hD).1
      have eh105_111_43 : ri_at h105 111 43 = x104.toInt := ri_self wh105
      refine ex_al oq_X12_weeks_83 g0 ?_
      obtain ⟨x106, ax106, rx106, lx106, ux106⟩ := fi_week Th105
      refine ex_gf oq_X12_weeks_84 Th105 (k := 111) (d := 12) rfl rfl ax106 ?_
      have rx106 := (rx106.symm.trans eh105_111_43 : x106.toInt = x104.toInt)
      exact ex_reti oq_X12_weeks_87 rfl (hQ x106 h105 Th105 (zW7_tr hF (zW7_w (.inr rfl) wh105)) (by omega) (by omega) (fun g q j r => (ri_ne wh105 (.inl (by decide))).trans ((hs g q j r).trans (by rw [if_pos (by omega)]))))
    · exfalso; omega
  | succ fu ih =>
    intro gi I h L hf hgi hI hT hF hW hs g0 g1 g2
    refine ex_il oq_X12_weeks_32 g2 ?_
    refine ex_al oq_X12_weeks_33 g0 ?_
    obtain ⟨x101, ax101, rx101, lx101, ux101⟩ := fi_gates hT
    refine ex_gf oq_X12_weeks_34 hT (k := 111) (d := 12) rfl rfl ax101 ?_
    have rx101 := (rx101.symm.trans (zRD_7 hF hD).1 : x101.toInt = (ng : Int))
    refine ex_if oq_X12_weeks_37 (t := 73) rfl rfl (fun (c102 : x101.toInt ≤ I.toInt) => ?_) (fun (c102 : ¬ (x101.toInt ≤ I.toInt)) => ?_)
    · exfalso; omega
    · refine ex_al oq_X12_weeks_40 g0 ?_
      refine ex_il oq_X12_weeks_41 g2 ?_
      refine ex_cv oq_X12_weeks_42 (by decide) hT (k := 111) (d := 12) (as := [cv_i I]) (stk := []) rfl rfl rfl rfl rfl rfl ⟨rfl, rfl⟩ (R := fun o => ∃ hb : cv_H, o = (none, hb) ∧ cw_T G hb ∧ cp_F 131 h hb ∧ zNV hb (γs gi)) (rl_loads hT hI (by omega) (fun j q => (hs gi (by omega) j q).trans (by rw [if_neg (by omega)])) (fun hb b1 b2 b3 => ⟨hb, rfl, b1, b2, b3⟩)) (fun o ho => ?_)
      obtain ⟨h103, rfl, Th103, ch103, Nh103⟩ := ho
      show cw_X _ _ _ _ _ [] h103
      have Fh103 := zW7_tr hF (zW7_c ch103 (.inr rfl))
      have Wh103 : ri_at h103 111 43 = W := (ri_eq (cp_at ch103 (by decide))).trans hW
      refine ex_al oq_X12_weeks_45 g0 ?_
      refine ex_il oq_X12_weeks_46 g2 ?_
      refine ex_il oq_X12_weeks_47 g1 ?_
      refine ex_cv oq_X12_weeks_48 (by decide) Th103 (k := 111) (d := 12) (as := [cv_i I, cv_i N]) (stk := []) rfl rfl rfl rfl rfl rfl ⟨rfl, rfl⟩ (R := fun o => ∃ hb : cv_H, o = (none, hb) ∧ cw_T G hb ∧ zW6 h103 hb ∧ zNV hb (gPs (Ts gi) f LL m W (γs gi))) (rl_goesOnD Th103 P (zRD_7 Fh103 hD) hI (by omega) Wh103 hN (by omega) Nh103 (gP gi (by omega)).1 (gP gi (by omega)).2 (fun hb b1 b2 b3 => ⟨hb, rfl, b1, b2, b3⟩)) (fun o ho => ?_)
      obtain ⟨h104, rfl, Th104, zh104, Nh104⟩ := ho
      show cw_X _ _ _ _ _ [] h104
      have Fh104 := zW7_tr Fh103 (zW7_6 zh104)
      have Wh104 : ri_at h104 111 43 = W := (ri_eq (zh104.2 43 (by decide))).trans Wh103
      refine ex_al oq_X12_weeks_51 g0 ?_
      refine ex_gf oq_X12_weeks_52 Th104 (k := 111) (d := 12) rfl rfl (fr_state Th104) ?_
      refine ex_bi oq_X12_weeks_55 (m := 16) (by decide) (fun x105 hx105 => ?_)
      refine ex_il oq_X12_weeks_57 g2 ?_
      refine ex_mul oq_X12_weeks_58 (m := 16 * I.toInt) (by rw [hx105]) (by omega) (fun x106 hx106 => ?_)
      refine ex_al oq_X12_weeks_59 g0 ?_
      refine ex_gf oq_X12_weeks_60 Th104 (k := 111) (d := 12) rfl rfl (fr_now Th104) ?_
      refine ex_ic oq_X12_weeks_63 (m := 0) (by decide) (fun x107 hx107 => ?_)
      refine ex_cs oq_X12_weeks_64 (by decide) (as := [cv_r 130, cv_i x106, cv_r 131, cv_i x107]) (stk := []) rfl rfl rfl ⟨rfl, rfl⟩ (R := fun o => ∃ hb : cv_H, o = (none, hb) ∧ cw_T G hb ∧ cp_F 130 h104 hb ∧ (∀ i, i < 16 → ri_at hb 130 (16 * gi + i) = ri_at h104 131 (0 + i)) ∧ (∀ i, (i < 16 * gi ∨ 16 * gi + 16 ≤ i) → ri_at hb 130 i = ri_at h104 130 i)) (rt_lays Th104 (R1 := 130) (d1 := 69) (R2 := 131) (d2 := 70) (a := 16 * gi) (b := 0) rfl rfl rfl rfl (by decide) (by omega) (by omega) (by omega) (by omega) (by decide) (by decide) (fun j _ _ r hr => free1 hr) (fun hb b1 b2 b3 b4 => ⟨hb, rfl, b1, b2, b3, b4⟩)) (fun o ho => ?_)
      obtain ⟨h108, rfl, Th108, ch108, yh108, nh108⟩ := ho
      show cw_X _ _ _ _ _ [] h108
      refine ex_incA oq_X12_weeks_67 (v := I) (m := 1) g2 (by decide) (by omega) (fun L110 x109 hx109 gL110_2 kL110 => ?_)
      have gL110_0 : cv_get L110 0 = some (cv_r 111) := kL110 0 _ (by decide) (fun q => absurd q (by decide)) g0
      have gL110_1 : cv_get L110 1 = some (cv_i N) := kL110 1 _ (by decide) (fun _ => rfl) g1
      refine ex_go oq_X12_weeks_70 (t := 32) rfl rfl ?_
      refine ih (gi + 1) x109 h108 L110 (by omega) (by omega) (by omega) Th108 (zW7_tr Fh104 (zW7_c ch108 (.inl rfl))) ((ri_eq (cp_at ch108 (by decide))).trans Wh104) (fun g q j r => ?_) gL110_0 gL110_1 gL110_2
      by_cases cg : g = gi
      · subst cg
        rw [if_pos (by omega), yh108 j (by omega), Nat.zero_add]
        exact Nh104 j r
      · rw [nh108 _ (by omega), zW6_130 zh104, cp_ri ch103 (by decide), hs g q j r]
        by_cases c2 : g < gi
        · rw [if_pos c2, if_pos (by omega)]
        · rw [if_neg c2, if_neg (by omega)]
theorem rl_weeks (hT : cw_T G h0) (P : zPD ng n Ts f dk dv) (hD : zRD h0 ng n Ts f LL dk dv) (gP : zGP ng n dk dv γs) (sS : zSS h0 ng γs) {W : Int} (hW : ri_at h0 111 43 = W) (hW0 : 0 ≤ W ∧ W ≤ 2000) {N : Int32} (hQ1 : ∀ (x : Int32) {z : Int32} h', cw_T G h' → cw_Wr h0 h' 111 2 (cv_i z) → x.toInt = -1 → ¬ (0 ≤ N.toInt ∧ N.toInt ≤ 520 ∧ W + N.toInt ≤ 2000) → Q (some (cv_i x), h')) (hQ2 : ∀ m : Nat, N.toInt = m → m ≤ 520 ∧ W + m ≤ 2000 → ∀ (x : Int32) h', cw_T G h' → zW7 h0 h' → x.toInt = W + m → ri_at h' 111 43 = W + m → zSS h' ng (fun i => gPs (Ts i) f LL m W (γs i)) → Q (some (cv_i x), h')) : cw_X X 221 Q 0 (cv_ent 0 [cv_r 111, cv_i N]) [] h0 := by
  refine ex_al oq_X12_weeks_0 rfl ?_
  refine ex_ic oq_X12_weeks_1 (m := 0) (by decide) (fun x201 hx201 => ?_)
  refine ex_pfi oq_X12_weeks_2 hT (k := 111) (d := 12) rfl rfl rfl (cw_i32 _).1 (cw_i32 _).2 (fun h202 Th202 wh202 => ?_)
  have eh202_111_43 : ri_at h202 111 43 = W := (ri_ne wh202 (.inr (by decide))).trans hW
  have eh202_111_2 : ri_at h202 111 2 = x201.toInt := ri_self wh202
  have Fh202 : zW7 h0 h202 := zW7_w (.inl rfl) wh202
  refine ex_il oq_X12_weeks_5 rfl ?_
  refine ex_ic oq_X12_weeks_6 (m := 0) (by decide) (fun x203 hx203 => ?_)
  refine ex_si oq_X12_weeks_7 (m := 520) (by decide) (fun x204 hx204 => ?_)
  refine ex_cs oq_X12_weeks_10 (by decide) (as := [cv_i N, cv_i x203, cv_i x204]) (stk := []) rfl rfl rfl ⟨rfl, rfl⟩ (R := fun o => ∃ x : Int32, o = (some (cv_i x), h202) ∧ (x.toInt = 1 ∧ x203.toInt ≤ N.toInt ∧ N.toInt ≤ x204.toInt ∨ x.toInt = 0 ∧ (N.toInt < x203.toInt ∨ x204.toInt < N.toInt))) (rt_isIn N x203 x204 (fun x q => ⟨x, rfl, q⟩)) (fun o ho => ?_)
  obtain ⟨x205, rfl, dx205⟩ := ho
  show cw_X _ _ _ _ _ [cv_i x205] h202
  refine ex_if0 oq_X12_weeks_13 (t := 28) rfl rfl (fun (c206 : x205.toInt = 0) => ?_) (fun (c206 : ¬ (x205.toInt = 0)) => ?_)
  · refine ex_ic oq_X12_weeks_28 (m := (-1)) (by decide) (fun x207 hx207 => ?_)
    exact ex_reti oq_X12_weeks_29 rfl (hQ1 x207 h202 Th202 wh202 (by omega) (by omega))
  · refine ex_al oq_X12_weeks_16 rfl ?_
    obtain ⟨x208, ax208, rx208, lx208, ux208⟩ := fi_week Th202
    refine ex_gf oq_X12_weeks_17 Th202 (k := 111) (d := 12) rfl rfl ax208 ?_
    have rx208 := (rx208.symm.trans eh202_111_43 : x208.toInt = W)
    refine ex_il oq_X12_weeks_20 rfl ?_
    refine ex_add oq_X12_weeks_21 (by omega) (fun x209 hx209 => ?_)
    refine ex_si oq_X12_weeks_22 (m := 2000) (by decide) (fun x210 hx210 => ?_)
    refine ex_if oq_X12_weeks_25 (t := 30) rfl rfl (fun (c211 : x209.toInt ≤ x210.toInt) => ?_) (fun (c211 : ¬ (x209.toInt ≤ x210.toInt)) => ?_)
    · refine ex_ic oq_X12_weeks_30 (m := 0) (by decide) (fun x212 hx212 => ?_)
      refine ex_isA oq_X12_weeks_31 (fun L213 gL213_2 kL213 => ?_)
      have gL213_0 : cv_get L213 0 = some (cv_r 111) := kL213 0 _ (by decide) (fun q => absurd q (by decide)) rfl
      have gL213_1 : cv_get L213 1 = some (cv_i N) := kL213 1 _ (by decide) (fun _ => rfl) rfl
      obtain ⟨m, hm⟩ : ∃ m : Nat, N.toInt = m := ⟨N.toInt.toNat, by omega⟩
      exact rl_wk P hD gP (N := N) (m := m) hm ⟨by omega, by omega, by omega⟩ (fun x h' b1 b2 b3 b4 b5 => hQ2 m hm (by omega) x h' b1 b2 b3 b4 b5) ng 0 x212 h202 L213 (by omega) (by omega) (by omega) Th202 Fh202 eh202_111_43 (fun g q j r => (ri_ne wh202 (.inl (by decide))).trans ((sS g q j r).trans (by rw [if_neg (by omega)]))) gL213_0 gL213_1 gL213_2
    · refine ex_ic oq_X12_weeks_28 (m := (-1)) (by decide) (fun x214 hx214 => ?_)
      exact ex_reti oq_X12_weeks_29 rfl (hQ1 x214 h202 Th202 wh202 (by omega) (by omega))
end WK
end GN
end
section
/-! ===== weeks of all gates: the class ===== -/
/-- kinds of a plan's cells -/
theorem zKi {b : Nat} (hb : b = 2 ∨ b = 26) : cw_sh[b]? = some 4 ∧ cw_sh[b + 1]? = some 28 ∧ cw_sh[b + 2]? = some 29 ∧ cw_sh[b + 3]? = some 30 ∧ cw_sh[b + 4]? = some 31 ∧ cw_sh[b + 5]? = some 32 ∧ cw_sh[b + 14]? = some 41 ∧ cw_sh[b + 15]? = some 42 := by
  rcases hb with rfl | rfl <;> exact ⟨rfl, rfl, rfl, rfl, rfl, rfl, rfl, rfl⟩
theorem zKi_7 {b g : Nat} (hb : b = 2 ∨ b = 26) (hg : g < 4) : cw_sh[b + 16 + 2 * g]? = some 7 := by
  have : g = 0 ∨ g = 1 ∨ g = 2 ∨ g = 3 := by omega
  rcases hb with rfl | rfl <;> rcases this with rfl | rfl | rfl | rfl <;> rfl
/-- a plan's pointers -/
def zKP (h : cv_H) (b : Nat) : Prop := cw_at h b 0 = some (cv_r (b + 1)) ∧ cw_at h b 1 = some (cv_r (b + 2)) ∧ cw_at h b 4 = some (cv_r (b + 3)) ∧ cw_at h b 5 = some (cv_r (b + 4)) ∧ cw_at h b 6 = some (cv_r (b + 5)) ∧ cw_at h b 17 = some (cv_r (b + 14)) ∧ cw_at h b 18 = some (cv_r (b + 15))
/-- the class holds a plan -/
def zKH (h : cv_H) (b ng n : Nat) (Ts : Nat → Nat → Int) (f : Nat → Int) (LL : Nat → Option (List Int)) (dk dv : List Int) : Prop := ri_at h b 9 = ng ∧ ri_at h b 19 = n ∧ (∀ g, g < ng → zTV h (b + 16 + 2 * g) (Ts g)) ∧ (∀ j, j < 12 → ri_at h (b + 1) j = f j) ∧ (∀ l, l < 4 → zLw h (b + 2) (b + 3) (b + 4) (b + 5) l (LL l)) ∧ (∀ c, c < n → ri_at h (b + 14) c = dk.getD c 0) ∧ ∀ c, c < n → ri_at h (b + 15) c = dv.getD c 0
/-- the class holds the gates -/
def zKG (h : cv_H) (b ng : Nat) (Kg : Nat → Nat) (γs : Nat → Nat → Int) : Prop := ∀ g, g < ng → zGV h (Kg g) (γs g) ∧ cw_at h (Kg g) 0 = some (cv_r (b + 16 + 2 * g))
theorem rk_inj {a b : Nat} (h : (some (cv_r a) : Option cv_V) = some (cv_r b)) : a = b := by cases h; rfl
section GN
variable {G : Int} {X : cv_X} {Q : cv_O → Prop} {h0 h : cv_H}
section WK
variable {b ng n : Nat} {Kg : Nat → Nat} {Ts γs : Nat → Nat → Int} {f : Nat → Int} {LL : Nat → Option (List Int)} {dk dv : List Int}
end WK
end GN
end
