/-! ===== a gate's parts: the class ===== -/
theorem bt_an {x k o : Int32} {m j : Nat} (hx : x.toInt = m) (hm : m < 256) (hk : k.toInt = j) (hj : j < 8) (ho : o.toInt = 1) : (x &&& (o <<< (k &&& 31))).toInt = if m.testBit j then ((2 ^ j : Nat) : Int) else 0 := by
  rw [i32_of hx hm, i32_of (m := j) hk (by omega), i32_of (m := 1) ho (by omega)]
  have : ∀ m : Fin 256, ∀ j : Fin 8, (Int32.ofNat m.1 &&& (Int32.ofNat 1 <<< (Int32.ofNat j.1 &&& 31))).toInt = if m.1.testBit j.1 then ((2 ^ j.1 : Nat) : Int) else 0 := by decide +kernel
  exact this ⟨m, hm⟩ ⟨j, hj⟩
theorem bt_z {x : Int} {m j : Nat} (h : x = if m.testBit j then ((2 ^ j : Nat) : Int) else 0) : (x = 0 → ¬ m.testBit j = true) ∧ (¬ x = 0 → m.testBit j = true) := by
  by_cases q : m.testBit j = true
  · rw [if_pos q] at h
    have := Nat.two_pow_pos j
    exact ⟨fun e => by omega, fun _ => q⟩
  · rw [if_neg q] at h
    exact ⟨fun _ => q, fun e => absurd h e⟩
/-- the class's number of a part's word, and its row of parts as bits of them -/
def zcv (j : Nat) : Nat := [9, 10, 11, 12, 14, 15, 16, 13].getD j 0
def zpm (m : Nat) : Nat := (List.range 8).foldl (fun s j => s ||| (if m.testBit j then 2 ^ zcv j else 0)) 0
theorem zpm_i {x : Int32} {m : Nat} (h : x.toInt = zpm m) (hm : m < 256) : x = Int32.ofNat (zpm m) := by
  apply Int32.toInt_inj.mp
  rw [h]
  have : ∀ m : Fin 256, ((zpm m.1 : Nat) : Int) = (Int32.ofNat (zpm m.1)).toInt := by decide +kernel
  exact this ⟨m, hm⟩
theorem pm_an {x k o : Int32} {m j : Nat} (hx : x.toInt = zpm m) (hm : m < 256) (hk : k.toInt = zcv j) (hj : j < 8) (ho : o.toInt = 1) : ((x &&& (o <<< (k &&& 31))).toInt = 0 → ¬ m.testBit j = true) ∧ (¬ (x &&& (o <<< (k &&& 31))).toInt = 0 → m.testBit j = true) := by
  rw [zpm_i hx hm, i32_of (m := zcv j) hk (by have : ∀ j : Fin 8, zcv j.1 < 256 := by decide
                                              exact this ⟨j, hj⟩), i32_of (m := 1) ho (by omega)]
  have : ∀ m : Fin 256, ∀ j : Fin 8, ((Int32.ofNat (zpm m.1) &&& (Int32.ofNat 1 <<< (Int32.ofNat (zcv j.1) &&& 31))).toInt = 0) = ¬ (m.1.testBit j.1 = true) := by
    intro m j
    have : ∀ m : Fin 256, ∀ j : Fin 8, ((Int32.ofNat (zpm m.1) &&& (Int32.ofNat 1 <<< (Int32.ofNat (zcv j.1) &&& 31))).toInt = 0) ↔ ¬ (m.1.testBit j.1 = true) := by decide +kernel
    exact propext (this m j)
  rw [this ⟨m, hm⟩ ⟨j, hj⟩]
  exact ⟨id, fun q => Classical.not_not.mp q⟩
theorem pm_or {x k o : Int32} {m j : Nat} (hx : x.toInt = zpm m) (hm : m < 256) (hk : k.toInt = zcv j) (hj : j < 8) (ho : o.toInt = 1) : (x ||| (o <<< (k &&& 31))).toInt = zpm (m ||| 2 ^ j) := by
  rw [zpm_i hx hm, i32_of (m := zcv j) hk (by have : ∀ j : Fin 8, zcv j.1 < 256 := by decide
                                              exact this ⟨j, hj⟩), i32_of (m := 1) ho (by omega)]
  have : ∀ m : Fin 256, ∀ j : Fin 8, (Int32.ofNat (zpm m.1) ||| (Int32.ofNat 1 <<< (Int32.ofNat (zcv j.1) &&& 31))).toInt = ((zpm (m.1 ||| 2 ^ j.1) : Nat) : Int) := by decide +kernel
  exact this ⟨m, hm⟩ ⟨j, hj⟩
/-- one part of a gate -/
def zpt (t : Nat → Int) (n : Nat) (hh : Int) (cn : List Int) (m cm p : Nat) : (Int × Nat) ⊕ (Nat × Nat) := if zhw (zk t n p) (zw t n p) ≠ 6 ∧ m.testBit (zhw (zk t n p) (zw t n p)).toNat = true then .inl (3, za t n p) else zhs t n hh cn (zhw (zk t n p) (zw t n p)) cm (zx t n p)
theorem zgp_p {t : Nat → Int} {n : Nat} {hh : Int} {cn : List Int} {u m cm p : Nat} (h : ¬ zhw (zk t n p) (zw t n p) < 0) : zgp t n hh cn (u + 1) m cm p = zb2 (zpt t n hh cn m cm p) fun c' q => zgp t n hh cn u (m ||| 2 ^ (zhw (zk t n p) (zw t n p)).toNat) c' q := by
  rw [zgp_s, if_neg h]
  unfold zpt
  by_cases c : zhw (zk t n p) (zw t n p) ≠ 6 ∧ m.testBit (zhw (zk t n p) (zw t n p)).toNat = true
  · rw [if_pos c, if_pos c]; rfl
  · rw [if_neg c, if_neg c]
theorem zhw_c {k w kc vc : Int} (h : tz_rel k w kc vc) : (0 ≤ zhw k w ↔ kc = 2 ∧ 9 ≤ vc ∧ vc ≤ 16) ∧ (kc = 2 → 9 ≤ vc → vc ≤ 16 → (vc ≤ 12 → zhw k w = vc - 9) ∧ (vc = 13 → zhw k w = 7) ∧ (14 ≤ vc → zhw k w = vc - 10)) := by
  obtain ⟨r1, r2⟩ := rl_pw h
  unfold zhw
  by_cases q : kc = 2
  · have hr := r2 q
    rw [if_pos (r1.mpr q)]
    by_cases c1 : 9 ≤ w ∧ w ≤ 15
    · rw [if_pos c1]
      exact ⟨by omega, fun _ _ _ => ⟨by omega, by omega, by omega⟩⟩
    · rw [if_neg c1]
      by_cases c2 : w = 32
      · rw [if_pos c2]
        exact ⟨by omega, fun _ _ _ => ⟨by omega, by omega, by omega⟩⟩
      · rw [if_neg c2]
        exact ⟨by omega, fun _ _ _ => ⟨by omega, by omega, by omega⟩⟩
  · rw [if_neg (fun e => q (r1.mp e))]
    exact ⟨⟨fun e => absurd e (by decide), fun e => absurd e.1 q⟩, fun e => absurd e q⟩
theorem zst_b {α β : Type} {z : (Int × Nat) ⊕ (α × Nat)} {c : β} : zst (zb2 z fun _ q => .inr (c, q)) = zst z := by
  rcases z with e | ⟨v, q⟩ <;> rfl
theorem zv_b {α β : Type} {z : (Int × Nat) ⊕ (α × Nat)} {c v : β} {q : Nat} (h : (zb2 z fun _ q => .inr (c, q)) = .inr (v, q)) : v = c := by
  rcases z with e | ⟨w, q⟩
  · cases h
  · cases h; rfl
theorem zns_b {t : Nat → Int} {n k p : Nat} {lo hi : Int} {β : Type} {g : Nat → (Int × Nat) ⊕ β} : zb2 (zns t n lo hi (k + 1) p) (fun _ q => g q) = zb2 (zn t n lo hi p) (fun _ p1 => zb2 (zns t n lo hi k p1) (fun _ q => g q)) := by
  rw [zns]
  rcases zn t n lo hi p with e | ⟨v, q'⟩
  · rfl
  · show zb2 (match zns t n lo hi k q' with | .inl e => .inl e | .inr (vs, q'') => .inr (v :: vs, q'')) _ = zb2 (zns t n lo hi k q') _
    rcases zns t n lo hi k q' with e | ⟨vs, q''⟩ <;> rfl
theorem zns_b0 {t : Nat → Int} {n p : Nat} {lo hi : Int} {β : Type} {g : Nat → (Int × Nat) ⊕ β} : zb2 (zns t n lo hi 0 p) (fun _ q => g q) = g p := rfl
section TZ
variable {G : Int} {X : cv_X} {Q : cv_O → Prop} {t : Nat → Int}
theorem oq_X7_setHeight_0 : cw_ho 87 0 (.aload_n 0) 1 0 0 0 := rfl
theorem oq_X7_setHeight_1 : cw_ho 87 1 (.iload_n 1) 1 0 0 0 := rfl
theorem oq_X7_setHeight_2 : cw_ho 87 2 (.putfield 62) 3 7 1 0 := rfl
theorem oq_X7_setHeight_5 : cw_ho 87 5 (.aload_n 0) 1 0 0 0 := rfl
theorem oq_X7_setHeight_6 : cw_ho 87 6 (.bipush 6) 2 0 0 0 := rfl
theorem oq_X7_setHeight_8 : cw_ho 87 8 (.putfield 65) 3 7 3 0 := rfl
theorem oq_X7_setHeight_11 : cw_ho 87 11 (.aload_n 0) 1 0 0 0 := rfl
theorem oq_X7_setHeight_12 : cw_ho 87 12 (.iload_n 1) 1 0 0 0 := rfl
theorem oq_X7_setHeight_13 : cw_ho 87 13 (.bipush 6) 2 0 0 0 := rfl
theorem oq_X7_setHeight_15 : cw_ho 87 15 (.isub) 1 0 0 0 := rfl
theorem oq_X7_setHeight_16 : cw_ho 87 16 (.putfield 68) 3 7 4 0 := rfl
theorem oq_X7_setHeight_19 : cw_ho 87 19 (.return_) 1 0 0 0 := rfl
theorem ct_setHeight {h0 : cv_H} (hT : cw_T G h0) {K : Nat} (hK7 : cw_sh[K]? = some 7) {x : Int32} (x0 : 0 ≤ x.toInt) (x1 : x.toInt ≤ 72) (hQ : ∀ h', cw_T G h' → cw_Fr cw_Ds cw_sh kk_X7_setHeight.2.2.2.2.2.1 h0 h' → ri_at h' K 1 = x.toInt → Q (none, h')) : cw_X X 87 Q 0 (cv_ent 0 [cv_r K, cv_i x]) [] h0 := by
  have Fh0 : cw_Fr cw_Ds cw_sh kk_X7_setHeight.2.2.2.2.2.1 h0 h0 := cw_Fr_refl
  refine ex_al oq_X7_setHeight_0 rfl ?_
  refine ex_il oq_X7_setHeight_1 rfl ?_
  refine ex_pfi oq_X7_setHeight_2 hT (k := K) (d := 7) hK7 rfl rfl (by omega) (by omega) (fun h11 Th11 wh11 => ?_)
  have Fh11 : cw_Fr cw_Ds cw_sh kk_X7_setHeight.2.2.2.2.2.1 h0 h11 := cw_Fr_tr Fh0 (cw_Fr_wrf wh11 (k := K) (d := 7) hK7 rfl (by decide +kernel))
  have eh11_K_1 : ri_at h11 K 1 = x.toInt := ri_self wh11
  refine ex_al oq_X7_setHeight_5 rfl ?_
  refine ex_bi oq_X7_setHeight_6 (m := 6) (by decide) (fun x12 hx12 => ?_)
  refine ex_pfi oq_X7_setHeight_8 Th11 (k := K) (d := 7) hK7 rfl rfl (by omega) (by omega) (fun h13 Th13 wh13 => ?_)
  have Fh13 : cw_Fr cw_Ds cw_sh kk_X7_setHeight.2.2.2.2.2.1 h0 h13 := cw_Fr_tr Fh11 (cw_Fr_wrf wh13 (k := K) (d := 7) hK7 rfl (by decide +kernel))
  have eh13_K_1 : ri_at h13 K 1 = x.toInt := (ri_ne wh13 (.inr (by decide))).trans eh11_K_1
  clear eh11_K_1
  refine ex_al oq_X7_setHeight_11 rfl ?_
  refine ex_il oq_X7_setHeight_12 rfl ?_
  refine ex_bi oq_X7_setHeight_13 (m := 6) (by decide) (fun x14 hx14 => ?_)
  refine ex_sub oq_X7_setHeight_15 (by omega) (fun x15 hx15 => ?_)
  refine ex_pfi oq_X7_setHeight_16 Th13 (k := K) (d := 7) hK7 rfl rfl (by omega) (by omega) (fun h16 Th16 wh16 => ?_)
  have Fh16 : cw_Fr cw_Ds cw_sh kk_X7_setHeight.2.2.2.2.2.1 h0 h16 := cw_Fr_tr Fh13 (cw_Fr_wrf wh16 (k := K) (d := 7) hK7 rfl (by decide +kernel))
  have eh16_K_1 : ri_at h16 K 1 = x.toInt := (ri_ne wh16 (.inr (by decide))).trans eh13_K_1
  clear eh13_K_1
  exact ex_retv oq_X7_setHeight_19 rfl (hQ h16 Th16 Fh16 eh16_K_1)
theorem oq_X5_readBrace_0 : cw_ho 69 0 (.aload_n 0) 1 0 0 0 := rfl
theorem oq_X5_readBrace_1 : cw_ho 69 1 (.getfield 20) 3 5 0 4 := rfl
theorem oq_X5_readBrace_4 : cw_ho 69 4 (.bipush 17) 2 0 0 0 := rfl
theorem oq_X5_readBrace_6 : cw_ho 69 6 (.bipush 18) 2 0 0 0 := rfl
theorem oq_X5_readBrace_8 : cw_ho 69 8 (.invokevirtual 97) 3 84 2 6 := rfl
theorem oq_X5_readBrace_11 : cw_ho 69 11 (.ifCond .ne 10) 3 0 0 0 := rfl
theorem oq_X5_readBrace_14 : cw_ho 69 14 (.aload_n 0) 1 0 0 0 := rfl
theorem oq_X5_readBrace_15 : cw_ho 69 15 (.iconst 1) 1 0 0 0 := rfl
theorem oq_X5_readBrace_16 : cw_ho 69 16 (.invokevirtual 74) 3 61 1 5 := rfl
theorem oq_X5_readBrace_19 : cw_ho 69 19 (.pop) 1 0 0 0 := rfl
theorem oq_X5_readBrace_20 : cw_ho 69 20 (.return_) 1 0 0 0 := rfl
theorem oq_X5_readBrace_21 : cw_ho 69 21 (.aload_n 1) 1 0 0 0 := rfl
theorem oq_X5_readBrace_22 : cw_ho 69 22 (.aload_n 0) 1 0 0 0 := rfl
theorem oq_X5_readBrace_23 : cw_ho 69 23 (.getfield 20) 3 5 0 4 := rfl
theorem oq_X5_readBrace_26 : cw_ho 69 26 (.getfield 56) 3 6 6 0 := rfl
theorem oq_X5_readBrace_29 : cw_ho 69 29 (.bipush 17) 2 0 0 0 := rfl
theorem oq_X5_readBrace_31 : cw_ho 69 31 (.if_icmp .ne 7) 3 0 0 0 := rfl
theorem oq_X5_readBrace_34 : cw_ho 69 34 (.iconst 1) 1 0 0 0 := rfl
theorem oq_X5_readBrace_35 : cw_ho 69 35 (.goto 4) 3 0 0 0 := rfl
theorem oq_X5_readBrace_38 : cw_ho 69 38 (.iconst 2) 1 0 0 0 := rfl
theorem oq_X5_readBrace_39 : cw_ho 69 39 (.putfield 198) 3 7 9 0 := rfl
theorem oq_X5_readBrace_42 : cw_ho 69 42 (.aload_n 0) 1 0 0 0 := rfl
theorem oq_X5_readBrace_43 : cw_ho 69 43 (.getfield 20) 3 5 0 4 := rfl
theorem oq_X5_readBrace_46 : cw_ho 69 46 (.invokevirtual 82) 3 78 0 6 := rfl
theorem oq_X5_readBrace_49 : cw_ho 69 49 (.return_) 1 0 0 0 := rfl
theorem ct_readBrace {h0 : cv_H} {n p : Nat} (ht : ∀ i, t i = ri_at h0 1 i % 256) (hwd : ∀ i, i < 34 → ri_at h0 52 i = tz_wc.getD i 0) (hn9 : n ≤ 900) (hT : cw_T G h0) {K : Nat} (hK7 : cw_sh[K]? = some 7) (hS : zCs t n (.inr p) h0) (hQ : ∀ h', cw_T G h' → cw_Fr cw_Ds cw_sh kk_X5_readBrace.2.2.2.2.2.1 h0 h' → zCs t n (if zk t n p = 1 ∧ (zw t n p = 28 ∨ zw t n p = 29) then .inr (zx t n p) else .inl (1, za t n p)) h' → Q (none, h')) : cw_X X 69 Q 0 (cv_ent 0 [cv_r 50, cv_r K]) [] h0 := by
  have Fh0 : cw_Fr cw_Ds cw_sh kk_X5_readBrace.2.2.2.2.2.1 h0 h0 := cw_Fr_refl
  have hA : ∀ h, cw_Fr cw_Ds cw_sh kk_X5_readBrace.2.2.2.2.2.1 h0 h → ∀ i, ri_at h 1 i = ri_at h0 1 i := fun h F i => ri_frr F (k := 1) (d := 13) rfl rfl (by decide +kernel)
  have hB : ∀ h, cw_Fr cw_Ds cw_sh kk_X5_readBrace.2.2.2.2.2.1 h0 h → ∀ i, ri_at h 52 i = ri_at h0 52 i := fun h F i => ri_frr F (k := 52) (d := 43) rfl rfl (by decide +kernel)
  refine ex_al oq_X5_readBrace_0 rfl ?_
  refine ex_gf oq_X5_readBrace_1 hT (k := 50) (d := 5) rfl rfl (ri_ref (k := 50) (k' := 51) (d := 5) (f := 0) hT rfl rfl rfl (by decide) (ri_uniq (by decide +kernel))) ?_
  refine ex_bi oq_X5_readBrace_4 (m := 17) (by decide) (fun x101 hx101 => ?_)
  refine ex_bi oq_X5_readBrace_6 (m := 18) (by decide) (fun x102 hx102 => ?_)
  obtain ⟨pnh0, yah0, ybh0, ych0, ydh0, yfh0⟩ := zCs_at hS
  obtain ⟨kch0, ykh0⟩ : ∃ k, ri_at h0 51 4 = k := ⟨_, rfl⟩
  obtain ⟨vch0, yvh0⟩ : ∃ k, ri_at h0 51 6 = k := ⟨_, rfl⟩
  rw [ykh0, yvh0] at ydh0
  replace ydh0 := zhd_i ydh0
  have zlh0 := zx_le (t := t) (n := n) (p := p) (by omega)
  refine ex_cv oq_X5_readBrace_8 (by decide) hT (k := 51) (d := 6) (as := [cv_i x101, cv_i x102]) (stk := []) rfl rfl rfl rfl rfl rfl ⟨rfl, rfl⟩ (R := fun o => ∃ x : Int32, o = (some (cv_i x), h0) ∧ (x.toInt = 1 ∧ (kch0 = 2 ∧ x101.toInt ≤ vch0 ∧ vch0 ≤ x102.toInt) ∨ x.toInt = 0 ∧ ¬ (kch0 = 2 ∧ x101.toInt ≤ vch0 ∧ vch0 ≤ x102.toInt))) (ct_isWordFrom hT x101 x102 ykh0 yvh0 (fun x q => ⟨x, rfl, q⟩)) (fun o ho => ?_)
  obtain ⟨x103, rfl, dx103⟩ := ho
  show cw_X _ _ _ _ _ [cv_i x103] h0
  rw [hx101] at dx103
  rw [hx102] at dx103
  refine ex_if0 oq_X5_readBrace_11 (t := 21) rfl rfl (fun (c104 : ¬ x103.toInt = 0) => ?_) (fun (c104 : ¬ (¬ x103.toInt = 0)) => ?_)
  · replace dx103 := bit_y dx103 c104
    refine ex_al oq_X5_readBrace_21 rfl ?_
    refine ex_al oq_X5_readBrace_22 rfl ?_
    refine ex_gf oq_X5_readBrace_23 hT (k := 50) (d := 5) rfl rfl (ri_ref (k := 50) (k' := 51) (d := 5) (f := 0) hT rfl rfl rfl (by decide) (ri_uniq (by decide +kernel))) ?_
    obtain ⟨x105, ax105, rx105, lx105, ux105⟩ := ri_fld (k := 51) (d := 6) (f := 6) hT rfl rfl rfl
    try dsimp only at lx105 ux105
    refine ex_gf oq_X5_readBrace_26 hT (k := 51) (d := 6) rfl rfl ax105 ?_
    clear lx105 ux105
    have rx105 := (rx105.symm.trans yvh0 : x105.toInt = vch0)
    refine ex_bi oq_X5_readBrace_29 (m := 17) (by decide) (fun x106 hx106 => ?_)
    refine ex_if oq_X5_readBrace_31 (t := 38) rfl rfl (fun (c107 : ¬ x105.toInt = x106.toInt) => ?_) (fun (c107 : ¬ (¬ x105.toInt = x106.toInt)) => ?_)
    · refine ex_ic oq_X5_readBrace_38 (m := 2) (by decide) (fun x108 hx108 => ?_)
      refine ex_pfi oq_X5_readBrace_39 hT (k := K) (d := 7) hK7 rfl rfl (cw_i32 _).1 (cw_i32 _).2 (fun h109 Th109 wh109 => ?_)
      have Fh109 : cw_Fr cw_Ds cw_sh kk_X5_readBrace.2.2.2.2.2.1 h0 h109 := cw_Fr_tr Fh0 (cw_Fr_wrf wh109 (k := K) (d := 7) hK7 rfl (by decide +kernel))
      have Sh109 := zCs_wr (d := 7) (k := K) wh109 hK7 hS (.inl ⟨by decide, by decide⟩)
      refine ex_al oq_X5_readBrace_42 rfl ?_
      refine ex_gf oq_X5_readBrace_43 Th109 (k := 50) (d := 5) rfl rfl (ri_ref (k := 50) (k' := 51) (d := 5) (f := 0) Th109 rfl rfl rfl (by decide) (ri_uniq (by decide +kernel))) ?_
      refine ex_cv oq_X5_readBrace_46 (by decide) Th109 (k := 51) (d := 6) (as := []) (stk := []) rfl rfl rfl rfl rfl rfl ⟨rfl, rfl⟩ (R := fun o => ∃ hb : cv_H, o = (none, hb) ∧ cw_T G hb ∧ cw_Fr cw_Ds cw_sh kk_X6_step.2.2.2.2.2.1 h109 hb ∧ zCs t n (.inr (zx t n p)) hb) (ct_stepC (t := t) (n := n) (p := p) (fun i => by rw [ht, ← hA _ Fh109]) (fun i hi => by rw [hB _ Fh109]; exact hwd i hi) hn9 Th109 Sh109 (fun hb b1 b2 b3 => ⟨hb, rfl, b1, b2, b3⟩)) (fun o ho => ?_)
      obtain ⟨h110, rfl, Th110, Ch110, Sh110⟩ := ho
      show cw_X _ _ _ _ _ [] h110
      have Fh110 : cw_Fr cw_Ds cw_sh kk_X5_readBrace.2.2.2.2.2.1 h0 h110 := cw_Fr_tr Fh109 (cw_Fr_mono (by decide +kernel) Ch110)
      clear yah0 ybh0 ych0 ykh0 yvh0 yfh0
      obtain ⟨pnh110, yah110, ybh110, ych110, ydh110, yfh110⟩ := zCs_at Sh110
      obtain ⟨kch110, ykh110⟩ : ∃ k, ri_at h110 51 4 = k := ⟨_, rfl⟩
      obtain ⟨vch110, yvh110⟩ : ∃ k, ri_at h110 51 6 = k := ⟨_, rfl⟩
      rw [ykh110, yvh110] at ydh110
      replace ydh110 := zhd_i ydh110
      have zlh110 := zx_le (t := t) (n := n) (p := (zx t n p)) (by omega)
      have rl := rl_pw (show tz_rel _ _ _ _ from ydh0)
      exact ex_retv oq_X5_readBrace_49 rfl (hQ h110 Th110 Fh110 (by rw [if_pos (by omega)]; exact Sh110))
    · refine ex_ic oq_X5_readBrace_34 (m := 1) (by decide) (fun x111 hx111 => ?_)
      refine ex_go oq_X5_readBrace_35 (t := 39) rfl rfl ?_
      refine ex_pfi oq_X5_readBrace_39 hT (k := K) (d := 7) hK7 rfl rfl (cw_i32 _).1 (cw_i32 _).2 (fun h112 Th112 wh112 => ?_)
      have Fh112 : cw_Fr cw_Ds cw_sh kk_X5_readBrace.2.2.2.2.2.1 h0 h112 := cw_Fr_tr Fh0 (cw_Fr_wrf wh112 (k := K) (d := 7) hK7 rfl (by decide +kernel))
      have Sh112 := zCs_wr (d := 7) (k := K) wh112 hK7 hS (.inl ⟨by decide, by decide⟩)
      refine ex_al oq_X5_readBrace_42 rfl ?_
      refine ex_gf oq_X5_readBrace_43 Th112 (k := 50) (d := 5) rfl rfl (ri_ref (k := 50) (k' := 51) (d := 5) (f := 0) Th112 rfl rfl rfl (by decide) (ri_uniq (by decide +kernel))) ?_
      refine ex_cv oq_X5_readBrace_46 (by decide) Th112 (k := 51) (d := 6) (as := []) (stk := []) rfl rfl rfl rfl rfl rfl ⟨rfl, rfl⟩ (R := fun o => ∃ hb : cv_H, o = (none, hb) ∧ cw_T G hb ∧ cw_Fr cw_Ds cw_sh kk_X6_step.2.2.2.2.2.1 h112 hb ∧ zCs t n (.inr (zx t n p)) hb) (ct_stepC (t := t) (n := n) (p := p) (fun i => by rw [ht, ← hA _ Fh112]) (fun i hi => by rw [hB _ Fh112]; exact hwd i hi) hn9 Th112 Sh112 (fun hb b1 b2 b3 => ⟨hb, rfl, b1, b2, b3⟩)) (fun o ho => ?_)
      obtain ⟨h113, rfl, Th113, Ch113, Sh113⟩ := ho
      show cw_X _ _ _ _ _ [] h113
      have Fh113 : cw_Fr cw_Ds cw_sh kk_X5_readBrace.2.2.2.2.2.1 h0 h113 := cw_Fr_tr Fh112 (cw_Fr_mono (by decide +kernel) Ch113)
      clear yah0 ybh0 ych0 ykh0 yvh0 yfh0
      obtain ⟨pnh113, yah113, ybh113, ych113, ydh113, yfh113⟩ := zCs_at Sh113
      obtain ⟨kch113, ykh113⟩ : ∃ k, ri_at h113 51 4 = k := ⟨_, rfl⟩
      obtain ⟨vch113, yvh113⟩ : ∃ k, ri_at h113 51 6 = k := ⟨_, rfl⟩
      rw [ykh113, yvh113] at ydh113
      replace ydh113 := zhd_i ydh113
      have zlh113 := zx_le (t := t) (n := n) (p := (zx t n p)) (by omega)
      have rl := rl_pw (show tz_rel _ _ _ _ from ydh0)
      exact ex_retv oq_X5_readBrace_49 rfl (hQ h113 Th113 Fh113 (by rw [if_pos (by omega)]; exact Sh113))
  · replace c104 : x103.toInt = 0 := by omega
    replace dx103 := bit_n dx103 c104
    refine ex_al oq_X5_readBrace_14 rfl ?_
    refine ex_ic oq_X5_readBrace_15 (m := 1) (by decide) (fun x114 hx114 => ?_)
    refine ex_cv oq_X5_readBrace_16 (by decide) hT (k := 50) (d := 5) (as := [cv_i x114]) (stk := []) rfl rfl rfl rfl rfl rfl ⟨rfl, rfl⟩ (R := fun o => ∃ (x : Int32) (hb : cv_H), o = (some (cv_i x), hb) ∧ cw_T G hb ∧ cw_Fr cw_Ds cw_sh kk_X5_fail.2.2.2.2.2.1 h0 hb ∧ x.toInt = 0 ∧ zCs t n (.inl (1, za t n p)) hb) (ct_failP (t := t) (n := n) (p := p) hT hS x114 hx114 (by decide) (fun x hb b1 b2 b3 b4 => ⟨x, hb, rfl, b1, b2, b3, b4⟩)) (fun o ho => ?_)
    obtain ⟨x115, h116, rfl, Th116, Ch116, zh116, Sh116⟩ := ho
    show cw_X _ _ _ _ _ [cv_i x115] h116
    have Fh116 : cw_Fr cw_Ds cw_sh kk_X5_readBrace.2.2.2.2.2.1 h0 h116 := cw_Fr_tr Fh0 (cw_Fr_mono (by decide +kernel) Ch116)
    refine ex_pop oq_X5_readBrace_19 rfl ?_
    have rl := rl_pw (show tz_rel _ _ _ _ from ydh0)
    exact ex_retv oq_X5_readBrace_20 rfl (hQ h116 Th116 Fh116 (by rw [if_neg (by omega)]; exact Sh116))
theorem ct_placeSC {h : cv_H} {b : Nat} (hb : b = 2 ∨ b = 26) (hT : cw_T G h) {M N : Int32} {l : List Int} (hM : M.toInt = l.length) (hf : l.length ≤ 6) (hl : zNm h (b + 12) 0 l) (hQ : ∀ x : Int32, x.toInt = tz_find l N.toInt 0 → Q (some (cv_i x), h)) : cw_X X 113 Q 0 (cv_ent 0 [cv_i N, cv_r (b + 12), cv_i M]) [] h := by
  rcases hb with rfl | rfl
  · exact ct_placeC2 hT hM hf (fun k hk => by have := hl k hk; rw [Nat.zero_add] at this; exact this) hQ
  · exact ct_placeC26 hT hM hf (fun k hk => by have := hl k hk; rw [Nat.zero_add] at this; exact this) hQ
theorem oq_X5_readHas_0 : cw_ho 70 0 (.aload_n 0) 1 0 0 0 := rfl
theorem oq_X5_readHas_1 : cw_ho 70 1 (.getfield 20) 3 5 0 4 := rfl
theorem oq_X5_readHas_4 : cw_ho 70 4 (.getfield 53) 3 6 4 0 := rfl
theorem oq_X5_readHas_7 : cw_ho 70 7 (.iconst 3) 1 0 0 0 := rfl
theorem oq_X5_readHas_8 : cw_ho 70 8 (.if_icmp .eq 10) 3 0 0 0 := rfl
theorem oq_X5_readHas_11 : cw_ho 70 11 (.aload_n 0) 1 0 0 0 := rfl
theorem oq_X5_readHas_12 : cw_ho 70 12 (.iconst 1) 1 0 0 0 := rfl
theorem oq_X5_readHas_13 : cw_ho 70 13 (.invokevirtual 74) 3 61 1 5 := rfl
theorem oq_X5_readHas_16 : cw_ho 70 16 (.pop) 1 0 0 0 := rfl
theorem oq_X5_readHas_17 : cw_ho 70 17 (.return_) 1 0 0 0 := rfl
theorem oq_X5_readHas_18 : cw_ho 70 18 (.aload_n 0) 1 0 0 0 := rfl
theorem oq_X5_readHas_19 : cw_ho 70 19 (.getfield 20) 3 5 0 4 := rfl
theorem oq_X5_readHas_22 : cw_ho 70 22 (.getfield 56) 3 6 6 0 := rfl
theorem oq_X5_readHas_25 : cw_ho 70 25 (.aload_n 0) 1 0 0 0 := rfl
theorem oq_X5_readHas_26 : cw_ho 70 26 (.getfield 33) 3 5 2 4 := rfl
theorem oq_X5_readHas_29 : cw_ho 70 29 (.getfield 201) 3 4 15 4 := rfl
theorem oq_X5_readHas_32 : cw_ho 70 32 (.aload_n 0) 1 0 0 0 := rfl
theorem oq_X5_readHas_33 : cw_ho 70 33 (.getfield 33) 3 5 2 4 := rfl
theorem oq_X5_readHas_36 : cw_ho 70 36 (.getfield 204) 3 4 19 0 := rfl
theorem oq_X5_readHas_39 : cw_ho 70 39 (.invokestatic 85) 3 113 3 0 := rfl
theorem oq_X5_readHas_42 : cw_ho 70 42 (.istore_n 2) 1 0 0 0 := rfl
theorem oq_X5_readHas_43 : cw_ho 70 43 (.iload_n 2) 1 0 0 0 := rfl
theorem oq_X5_readHas_44 : cw_ho 70 44 (.iconst (-1)) 1 0 0 0 := rfl
theorem oq_X5_readHas_45 : cw_ho 70 45 (.if_icmp .ne 10) 3 0 0 0 := rfl
theorem oq_X5_readHas_48 : cw_ho 70 48 (.aload_n 0) 1 0 0 0 := rfl
theorem oq_X5_readHas_49 : cw_ho 70 49 (.iconst 4) 1 0 0 0 := rfl
theorem oq_X5_readHas_50 : cw_ho 70 50 (.invokevirtual 74) 3 61 1 5 := rfl
theorem oq_X5_readHas_53 : cw_ho 70 53 (.pop) 1 0 0 0 := rfl
theorem oq_X5_readHas_54 : cw_ho 70 54 (.return_) 1 0 0 0 := rfl
theorem oq_X5_readHas_55 : cw_ho 70 55 (.aload_n 1) 1 0 0 0 := rfl
theorem oq_X5_readHas_56 : cw_ho 70 56 (.getfield 207) 3 7 14 0 := rfl
theorem oq_X5_readHas_59 : cw_ho 70 59 (.iconst 1) 1 0 0 0 := rfl
theorem oq_X5_readHas_60 : cw_ho 70 60 (.iload_n 2) 1 0 0 0 := rfl
theorem oq_X5_readHas_61 : cw_ho 70 61 (.ishl) 1 0 0 0 := rfl
theorem oq_X5_readHas_62 : cw_ho 70 62 (.iand) 1 0 0 0 := rfl
theorem oq_X5_readHas_63 : cw_ho 70 63 (.ifCond .eq 10) 3 0 0 0 := rfl
theorem oq_X5_readHas_66 : cw_ho 70 66 (.aload_n 0) 1 0 0 0 := rfl
theorem oq_X5_readHas_67 : cw_ho 70 67 (.iconst 3) 1 0 0 0 := rfl
theorem oq_X5_readHas_68 : cw_ho 70 68 (.invokevirtual 74) 3 61 1 5 := rfl
theorem oq_X5_readHas_71 : cw_ho 70 71 (.pop) 1 0 0 0 := rfl
theorem oq_X5_readHas_72 : cw_ho 70 72 (.return_) 1 0 0 0 := rfl
theorem oq_X5_readHas_73 : cw_ho 70 73 (.aload_n 1) 1 0 0 0 := rfl
theorem oq_X5_readHas_74 : cw_ho 70 74 (.dup) 1 0 0 0 := rfl
theorem oq_X5_readHas_75 : cw_ho 70 75 (.getfield 207) 3 7 14 0 := rfl
theorem oq_X5_readHas_78 : cw_ho 70 78 (.iconst 1) 1 0 0 0 := rfl
theorem oq_X5_readHas_79 : cw_ho 70 79 (.iload_n 2) 1 0 0 0 := rfl
theorem oq_X5_readHas_80 : cw_ho 70 80 (.ishl) 1 0 0 0 := rfl
theorem oq_X5_readHas_81 : cw_ho 70 81 (.ior) 1 0 0 0 := rfl
theorem oq_X5_readHas_82 : cw_ho 70 82 (.putfield 207) 3 7 14 0 := rfl
theorem oq_X5_readHas_85 : cw_ho 70 85 (.aload_n 0) 1 0 0 0 := rfl
theorem oq_X5_readHas_86 : cw_ho 70 86 (.getfield 20) 3 5 0 4 := rfl
theorem oq_X5_readHas_89 : cw_ho 70 89 (.invokevirtual 82) 3 78 0 6 := rfl
theorem oq_X5_readHas_92 : cw_ho 70 92 (.return_) 1 0 0 0 := rfl
theorem ct_readHas {h0 : cv_H} {n p : Nat} (ht : ∀ i, t i = ri_at h0 1 i % 256) (hwd : ∀ i, i < 34 → ri_at h0 52 i = tz_wc.getD i 0) (hn9 : n ≤ 900) (hT : cw_T G h0) {b : Nat} (hb : b = 2 ∨ b = 26) (hpl : zPL b h0) {K : Nat} (hK7 : cw_sh[K]? = some 7) (hS : zCs t n (.inr p) h0) {cn : List Int} (hcc : ri_at h0 b 19 = cn.length) (hc6 : cn.length ≤ 6) (hcl : zNm h0 (b + 12) 0 cn) {cm : Nat} (hg14 : ri_at h0 K 14 = cm) (hcm : cm < 64) (hQ : ∀ h', cw_T G h' → cw_Fr cw_Ds cw_sh kk_X5_readHas.2.2.2.2.2.1 h0 h' → zOT K h0 h' → zCs t n (zst (zcr t n cn cm p)) h' ∧ (∀ v q, zcr t n cn cm p = .inr (v, q) → v < 64 ∧ ri_at h' K 14 = v) → Q (none, h')) : cw_X X 70 Q 0 (cv_ent 0 [cv_r 50, cv_r K]) [] h0 := by
  have hOT : zOT K h0 h0 := zOT_0
  have Fh0 : cw_Fr cw_Ds cw_sh kk_X5_readHas.2.2.2.2.2.1 h0 h0 := cw_Fr_refl
  have hA : ∀ h, cw_Fr cw_Ds cw_sh kk_X5_readHas.2.2.2.2.2.1 h0 h → ∀ i, ri_at h 1 i = ri_at h0 1 i := fun h F i => ri_frr F (k := 1) (d := 13) rfl rfl (by decide +kernel)
  have hB : ∀ h, cw_Fr cw_Ds cw_sh kk_X5_readHas.2.2.2.2.2.1 h0 h → ∀ i, ri_at h 52 i = ri_at h0 52 i := fun h F i => ri_frr F (k := 52) (d := 43) rfl rfl (by decide +kernel)
  have hPL : ∀ h, cw_Fr cw_Ds cw_sh kk_X5_readHas.2.2.2.2.2.1 h0 h → zPL b h := fun h F => zPL_fr hb F (by decide +kernel) hpl
  have hb4 : cw_sh[b]? = some 4 := by rcases hb with rfl | rfl <;> rfl
  have hkb1 : cw_sh[b + 1]? = some 28 := by rcases hb with rfl | rfl <;> rfl
  have hkb2 : cw_sh[b + 2]? = some 29 := by rcases hb with rfl | rfl <;> rfl
  have hkb3 : cw_sh[b + 3]? = some 30 := by rcases hb with rfl | rfl <;> rfl
  have hkb4 : cw_sh[b + 4]? = some 31 := by rcases hb with rfl | rfl <;> rfl
  have hkb5 : cw_sh[b + 5]? = some 32 := by rcases hb with rfl | rfl <;> rfl
  have hkb6 : cw_sh[b + 6]? = some 33 := by rcases hb with rfl | rfl <;> rfl
  have hkb7 : cw_sh[b + 7]? = some 34 := by rcases hb with rfl | rfl <;> rfl
  have hkb8 : cw_sh[b + 8]? = some 35 := by rcases hb with rfl | rfl <;> rfl
  have hkb9 : cw_sh[b + 9]? = some 36 := by rcases hb with rfl | rfl <;> rfl
  have hkb10 : cw_sh[b + 10]? = some 37 := by rcases hb with rfl | rfl <;> rfl
  have hkb11 : cw_sh[b + 11]? = some 38 := by rcases hb with rfl | rfl <;> rfl
  have hkb12 : cw_sh[b + 12]? = some 39 := by rcases hb with rfl | rfl <;> rfl
  have hkb13 : cw_sh[b + 13]? = some 40 := by rcases hb with rfl | rfl <;> rfl
  have hkb14 : cw_sh[b + 14]? = some 41 := by rcases hb with rfl | rfl <;> rfl
  have hkb15 : cw_sh[b + 15]? = some 42 := by rcases hb with rfl | rfl <;> rfl
  refine ex_al oq_X5_readHas_0 rfl ?_
  refine ex_gf oq_X5_readHas_1 hT (k := 50) (d := 5) rfl rfl (ri_ref (k := 50) (k' := 51) (d := 5) (f := 0) hT rfl rfl rfl (by decide) (ri_uniq (by decide +kernel))) ?_
  obtain ⟨pnh0, yah0, ybh0, ych0, ydh0, yfh0⟩ := zCs_at hS
  obtain ⟨kch0, ykh0⟩ : ∃ k, ri_at h0 51 4 = k := ⟨_, rfl⟩
  obtain ⟨vch0, yvh0⟩ : ∃ k, ri_at h0 51 6 = k := ⟨_, rfl⟩
  rw [ykh0, yvh0] at ydh0
  replace ydh0 := zhd_i ydh0
  have zlh0 := zx_le (t := t) (n := n) (p := p) (by omega)
  obtain ⟨x101, ax101, rx101, lx101, ux101⟩ := ri_fld (k := 51) (d := 6) (f := 4) hT rfl rfl rfl
  try dsimp only at lx101 ux101
  refine ex_gf oq_X5_readHas_4 hT (k := 51) (d := 6) rfl rfl ax101 ?_
  clear lx101 ux101
  have rx101 := (rx101.symm.trans ykh0 : x101.toInt = kch0)
  refine ex_ic oq_X5_readHas_7 (m := 3) (by decide) (fun x102 hx102 => ?_)
  refine ex_if oq_X5_readHas_8 (t := 18) rfl rfl (fun (c103 : x101.toInt = x102.toInt) => ?_) (fun (c103 : ¬ (x101.toInt = x102.toInt)) => ?_)
  · refine ex_al oq_X5_readHas_18 rfl ?_
    refine ex_gf oq_X5_readHas_19 hT (k := 50) (d := 5) rfl rfl (ri_ref (k := 50) (k' := 51) (d := 5) (f := 0) hT rfl rfl rfl (by decide) (ri_uniq (by decide +kernel))) ?_
    obtain ⟨x104, ax104, rx104, lx104, ux104⟩ := ri_fld (k := 51) (d := 6) (f := 6) hT rfl rfl rfl
    try dsimp only at lx104 ux104
    refine ex_gf oq_X5_readHas_22 hT (k := 51) (d := 6) rfl rfl ax104 ?_
    clear lx104 ux104
    have rx104 := (rx104.symm.trans yvh0 : x104.toInt = vch0)
    refine ex_al oq_X5_readHas_25 rfl ?_
    refine ex_gf oq_X5_readHas_26 hT (k := 50) (d := 5) rfl rfl ((hPL _ Fh0).1) ?_
    refine ex_gf oq_X5_readHas_29 hT (k := b) (d := 4) hb4 rfl ((show cw_at h0 b 15 = some (cv_r (b + 12)) from (hPL _ Fh0).2.1 15 (by decide))) ?_
    refine ex_al oq_X5_readHas_32 rfl ?_
    refine ex_gf oq_X5_readHas_33 hT (k := 50) (d := 5) rfl rfl ((hPL _ Fh0).1) ?_
    obtain ⟨x105, ax105, rx105, lx105, ux105⟩ := ri_fld (k := b) (d := 4) (f := 19) hT hb4 rfl rfl
    try dsimp only at lx105 ux105
    refine ex_gf oq_X5_readHas_36 hT (k := b) (d := 4) hb4 rfl ax105 ?_
    have rx105 := (rx105.symm.trans hcc : x105.toInt = (cn.length : Int))
    refine ex_cs oq_X5_readHas_39 (by decide) (as := [cv_i x104, cv_r (b + 12), cv_i x105]) (stk := []) rfl rfl rfl ⟨rfl, rfl⟩ (R := fun o => ∃ x : Int32, o = (some (cv_i x), h0) ∧ x.toInt = tz_find cn x104.toInt 0) (ct_placeSC hb hT (l := cn) (by omega) (by omega) hcl (fun x q => ⟨x, rfl, q⟩)) (fun o ho => ?_)
    obtain ⟨x106, rfl, qx106⟩ := ho
    show cw_X _ _ _ _ _ [cv_i x106] h0
    have rn := rl_nam (show tz_rel _ _ _ _ from ydh0)
    rw [show x104.toInt = zw t n p from by omega] at qx106
    have qb := zfd_b (x := zw t n p) cn 0
    refine ex_isA oq_X5_readHas_42 (fun L107 gL107_2 kL107 => ?_)
    have gL107_0 : cv_get L107 0 = some (cv_r 50) := kL107 0 _ (by decide) (fun q => absurd q (by decide)) rfl
    have gL107_1 : cv_get L107 1 = some (cv_r K) := kL107 1 _ (by decide) (fun _ => rfl) rfl
    refine ex_il oq_X5_readHas_43 gL107_2 ?_
    refine ex_ic oq_X5_readHas_44 (m := (-1)) (by decide) (fun x108 hx108 => ?_)
    refine ex_if oq_X5_readHas_45 (t := 55) rfl rfl (fun (c109 : ¬ x106.toInt = x108.toInt) => ?_) (fun (c109 : ¬ (¬ x106.toInt = x108.toInt)) => ?_)
    · refine ex_al oq_X5_readHas_55 gL107_1 ?_
      obtain ⟨x110, ax110, rx110, lx110, ux110⟩ := ri_fld (k := K) (d := 7) (f := 14) hT hK7 rfl rfl
      try dsimp only at lx110 ux110
      refine ex_gf oq_X5_readHas_56 hT (k := K) (d := 7) hK7 rfl ax110 ?_
      clear lx110 ux110
      have rx110 := (rx110.symm.trans hg14 : x110.toInt = (cm : Int))
      refine ex_ic oq_X5_readHas_59 (m := 1) (by decide) (fun x111 hx111 => ?_)
      refine ex_il oq_X5_readHas_60 gL107_2 ?_
      refine ex_shlE oq_X5_readHas_61 (fun x112 hx112 => ?_)
      refine ex_andE oq_X5_readHas_62 (fun x113 hx113 => ?_)
      refine ex_if0 oq_X5_readHas_63 (t := 73) rfl rfl (fun (c114 : x113.toInt = 0) => ?_) (fun (c114 : ¬ (x113.toInt = 0)) => ?_)
      · have hbz := bt_z (bt_an (k := x106) (m := cm) (j := (tz_find cn (zw t n p) 0).toNat) rx110 (by omega) (by omega) (by omega) hx111)
        rw [← hx112, ← hx113] at hbz
        replace hbz := hbz.1 (by omega)
        refine ex_al oq_X5_readHas_73 gL107_1 ?_
        refine ex_dup oq_X5_readHas_74 rfl ?_
        obtain ⟨x115, ax115, rx115, lx115, ux115⟩ := ri_fld (k := K) (d := 7) (f := 14) hT hK7 rfl rfl
        try dsimp only at lx115 ux115
        refine ex_gf oq_X5_readHas_75 hT (k := K) (d := 7) hK7 rfl ax115 ?_
        clear lx115 ux115
        have rx115 := (rx115.symm.trans hg14 : x115.toInt = (cm : Int))
        refine ex_ic oq_X5_readHas_78 (m := 1) (by decide) (fun x116 hx116 => ?_)
        refine ex_il oq_X5_readHas_79 gL107_2 ?_
        refine ex_shlE oq_X5_readHas_80 (fun x117 hx117 => ?_)
        refine ex_orE oq_X5_readHas_81 (fun x118 hx118 => ?_)
        have hor : x118.toInt = ((cm ||| 2 ^ (tz_find cn (zw t n p) 0).toNat : Nat) : Int) := by rw [hx118, hx117]; exact bt_or rx115 (by omega) (by omega) (by omega) hx116
        refine ex_pfi oq_X5_readHas_82 hT (k := K) (d := 7) hK7 rfl rfl (cw_i32 _).1 (cw_i32 _).2 (fun h119 Th119 wh119 => ?_)
        have Fh119 : cw_Fr cw_Ds cw_sh kk_X5_readHas.2.2.2.2.2.1 h0 h119 := cw_Fr_tr Fh0 (cw_Fr_wrf wh119 (k := K) (d := 7) hK7 rfl (by decide +kernel))
        have eh119_b_19 : ri_at h119 b 19 = (cn.length : Int) := (ri_ne wh119 (.inl (cw_kne (k := b) (d := 4) (k' := K) (d' := 7) hb4 hK7 (by decide)))).trans hcc
        have eh119_K_14 : ri_at h119 K 14 = x118.toInt := ri_self wh119
        have Sh119 := zCs_wr (d := 7) (k := K) wh119 hK7 hS (.inl ⟨by decide, by decide⟩)
        have Oh119 := zOT_K wh119 hOT
        refine ex_al oq_X5_readHas_85 gL107_0 ?_
        refine ex_gf oq_X5_readHas_86 Th119 (k := 50) (d := 5) rfl rfl (ri_ref (k := 50) (k' := 51) (d := 5) (f := 0) Th119 rfl rfl rfl (by decide) (ri_uniq (by decide +kernel))) ?_
        refine ex_cv oq_X5_readHas_89 (by decide) Th119 (k := 51) (d := 6) (as := []) (stk := []) rfl rfl rfl rfl rfl rfl ⟨rfl, rfl⟩ (R := fun o => ∃ hb : cv_H, o = (none, hb) ∧ cw_T G hb ∧ cw_Fr cw_Ds cw_sh kk_X6_step.2.2.2.2.2.1 h119 hb ∧ zCs t n (.inr (zx t n p)) hb) (ct_stepC (t := t) (n := n) (p := p) (fun i => by rw [ht, ← hA _ Fh119]) (fun i hi => by rw [hB _ Fh119]; exact hwd i hi) hn9 Th119 Sh119 (fun hb b1 b2 b3 => ⟨hb, rfl, b1, b2, b3⟩)) (fun o ho => ?_)
        obtain ⟨h120, rfl, Th120, Ch120, Sh120⟩ := ho
        show cw_X _ _ _ _ _ [] h120
        have Fh120 : cw_Fr cw_Ds cw_sh kk_X5_readHas.2.2.2.2.2.1 h0 h120 := cw_Fr_tr Fh119 (cw_Fr_mono (by decide +kernel) Ch120)
        have eh120_b_19 : ri_at h120 b 19 = (cn.length : Int) := (ri_frf Ch120 (k := b) (d := 4) hb4 rfl (by decide +kernel)).trans eh119_b_19
        clear eh119_b_19
        have eh120_K_14 : ri_at h120 K 14 = x118.toInt := (ri_frf Ch120 (k := K) (d := 7) hK7 rfl (by decide +kernel)).trans eh119_K_14
        clear eh119_K_14
        have Oh120 := zOT_fr Ch120 (by decide +kernel) Oh119
        clear Oh119
        clear yah0 ybh0 ych0 ykh0 yvh0 yfh0
        obtain ⟨pnh120, yah120, ybh120, ych120, ydh120, yfh120⟩ := zCs_at Sh120
        obtain ⟨kch120, ykh120⟩ : ∃ k, ri_at h120 51 4 = k := ⟨_, rfl⟩
        obtain ⟨vch120, yvh120⟩ : ∃ k, ri_at h120 51 6 = k := ⟨_, rfl⟩
        rw [ykh120, yvh120] at ydh120
        replace ydh120 := zhd_i ydh120
        have zlh120 := zx_le (t := t) (n := n) (p := (zx t n p)) (by omega)
        have fin : zst (zcr t n cn cm p) = (.inr (zx t n p)) ∧ ∀ v q, zcr t n cn cm p = .inr (v, q) → v = cm ||| 2 ^ (tz_find cn (zw t n p) 0).toNat := by
          unfold zcr
          rw [if_pos (by omega), if_neg (by omega), if_neg hbz]
          exact ⟨rfl, fun v q h => by first | (cases h; done) | (cases h; rfl) | trivial⟩
        exact ex_retv oq_X5_readHas_92 rfl (hQ h120 Th120 Fh120 Oh120 ⟨by rw [fin.1]; exact Sh120, fun v q h => by rw [fin.2 v q h]; exact ⟨bt_64 hcm (by omega), by rw [eh120_K_14, hor]⟩⟩)
      · replace c114 : ¬ x113.toInt = 0 := by omega
        have hbz := bt_z (bt_an (k := x106) (m := cm) (j := (tz_find cn (zw t n p) 0).toNat) rx110 (by omega) (by omega) (by omega) hx111)
        rw [← hx112, ← hx113] at hbz
        replace hbz := hbz.2 (by omega)
        refine ex_al oq_X5_readHas_66 gL107_0 ?_
        refine ex_ic oq_X5_readHas_67 (m := 3) (by decide) (fun x121 hx121 => ?_)
        refine ex_cv oq_X5_readHas_68 (by decide) hT (k := 50) (d := 5) (as := [cv_i x121]) (stk := []) rfl rfl rfl rfl rfl rfl ⟨rfl, rfl⟩ (R := fun o => ∃ (x : Int32) (hb : cv_H), o = (some (cv_i x), hb) ∧ cw_T G hb ∧ cw_Fr cw_Ds cw_sh kk_X5_fail.2.2.2.2.2.1 h0 hb ∧ x.toInt = 0 ∧ zCs t n (.inl (3, za t n p)) hb) (ct_failP (t := t) (n := n) (p := p) hT hS x121 hx121 (by decide) (fun x hb b1 b2 b3 b4 => ⟨x, hb, rfl, b1, b2, b3, b4⟩)) (fun o ho => ?_)
        obtain ⟨x122, h123, rfl, Th123, Ch123, zh123, Sh123⟩ := ho
        show cw_X _ _ _ _ _ [cv_i x122] h123
        have Fh123 : cw_Fr cw_Ds cw_sh kk_X5_readHas.2.2.2.2.2.1 h0 h123 := cw_Fr_tr Fh0 (cw_Fr_mono (by decide +kernel) Ch123)
        have eh123_b_19 : ri_at h123 b 19 = (cn.length : Int) := (ri_frf Ch123 (k := b) (d := 4) hb4 rfl (by decide +kernel)).trans hcc
        have eh123_K_14 : ri_at h123 K 14 = (cm : Int) := (ri_frf Ch123 (k := K) (d := 7) hK7 rfl (by decide +kernel)).trans hg14
        have Oh123 := zOT_fr Ch123 (by decide +kernel) hOT
        refine ex_pop oq_X5_readHas_71 rfl ?_
        have fin : zst (zcr t n cn cm p) = (.inl (3, za t n p)) ∧ ∀ v q, zcr t n cn cm p = .inr (v, q) → True := by
          unfold zcr
          rw [if_pos (by omega), if_neg (by omega), if_pos hbz]
          exact ⟨rfl, fun v q h => by first | (cases h; done) | (cases h; rfl) | trivial⟩
        exact ex_retv oq_X5_readHas_72 rfl (hQ h123 Th123 Fh123 Oh123 ⟨by rw [fin.1]; exact Sh123, fun v q h => (zst_no fin.1 h).elim⟩)
    · refine ex_al oq_X5_readHas_48 gL107_0 ?_
      refine ex_ic oq_X5_readHas_49 (m := 4) (by decide) (fun x124 hx124 => ?_)
      refine ex_cv oq_X5_readHas_50 (by decide) hT (k := 50) (d := 5) (as := [cv_i x124]) (stk := []) rfl rfl rfl rfl rfl rfl ⟨rfl, rfl⟩ (R := fun o => ∃ (x : Int32) (hb : cv_H), o = (some (cv_i x), hb) ∧ cw_T G hb ∧ cw_Fr cw_Ds cw_sh kk_X5_fail.2.2.2.2.2.1 h0 hb ∧ x.toInt = 0 ∧ zCs t n (.inl (4, za t n p)) hb) (ct_failP (t := t) (n := n) (p := p) hT hS x124 hx124 (by decide) (fun x hb b1 b2 b3 b4 => ⟨x, hb, rfl, b1, b2, b3, b4⟩)) (fun o ho => ?_)
      obtain ⟨x125, h126, rfl, Th126, Ch126, zh126, Sh126⟩ := ho
      show cw_X _ _ _ _ _ [cv_i x125] h126
      have Fh126 : cw_Fr cw_Ds cw_sh kk_X5_readHas.2.2.2.2.2.1 h0 h126 := cw_Fr_tr Fh0 (cw_Fr_mono (by decide +kernel) Ch126)
      have eh126_b_19 : ri_at h126 b 19 = (cn.length : Int) := (ri_frf Ch126 (k := b) (d := 4) hb4 rfl (by decide +kernel)).trans hcc
      have eh126_K_14 : ri_at h126 K 14 = (cm : Int) := (ri_frf Ch126 (k := K) (d := 7) hK7 rfl (by decide +kernel)).trans hg14
      have Oh126 := zOT_fr Ch126 (by decide +kernel) hOT
      refine ex_pop oq_X5_readHas_53 rfl ?_
      have fin : zst (zcr t n cn cm p) = (.inl (4, za t n p)) ∧ ∀ v q, zcr t n cn cm p = .inr (v, q) → True := by
        unfold zcr
        rw [if_pos (by omega), if_pos (by omega)]
        exact ⟨rfl, fun v q h => by first | (cases h; done) | (cases h; rfl) | trivial⟩
      exact ex_retv oq_X5_readHas_54 rfl (hQ h126 Th126 Fh126 Oh126 ⟨by rw [fin.1]; exact Sh126, fun v q h => (zst_no fin.1 h).elim⟩)
  · refine ex_al oq_X5_readHas_11 rfl ?_
    refine ex_ic oq_X5_readHas_12 (m := 1) (by decide) (fun x127 hx127 => ?_)
    refine ex_cv oq_X5_readHas_13 (by decide) hT (k := 50) (d := 5) (as := [cv_i x127]) (stk := []) rfl rfl rfl rfl rfl rfl ⟨rfl, rfl⟩ (R := fun o => ∃ (x : Int32) (hb : cv_H), o = (some (cv_i x), hb) ∧ cw_T G hb ∧ cw_Fr cw_Ds cw_sh kk_X5_fail.2.2.2.2.2.1 h0 hb ∧ x.toInt = 0 ∧ zCs t n (.inl (1, za t n p)) hb) (ct_failP (t := t) (n := n) (p := p) hT hS x127 hx127 (by decide) (fun x hb b1 b2 b3 b4 => ⟨x, hb, rfl, b1, b2, b3, b4⟩)) (fun o ho => ?_)
    obtain ⟨x128, h129, rfl, Th129, Ch129, zh129, Sh129⟩ := ho
    show cw_X _ _ _ _ _ [cv_i x128] h129
    have Fh129 : cw_Fr cw_Ds cw_sh kk_X5_readHas.2.2.2.2.2.1 h0 h129 := cw_Fr_tr Fh0 (cw_Fr_mono (by decide +kernel) Ch129)
    have eh129_b_19 : ri_at h129 b 19 = (cn.length : Int) := (ri_frf Ch129 (k := b) (d := 4) hb4 rfl (by decide +kernel)).trans hcc
    have eh129_K_14 : ri_at h129 K 14 = (cm : Int) := (ri_frf Ch129 (k := K) (d := 7) hK7 rfl (by decide +kernel)).trans hg14
    have Oh129 := zOT_fr Ch129 (by decide +kernel) hOT
    refine ex_pop oq_X5_readHas_16 rfl ?_
    have rn := rl_nam (show tz_rel _ _ _ _ from ydh0)
    have fin : zst (zcr t n cn cm p) = (.inl (1, za t n p)) ∧ ∀ v q, zcr t n cn cm p = .inr (v, q) → True := by
      unfold zcr
      rw [if_neg (by omega)]
      exact ⟨rfl, fun v q h => by first | (cases h; done) | (cases h; rfl) | trivial⟩
    exact ex_retv oq_X5_readHas_17 rfl (hQ h129 Th129 Fh129 Oh129 ⟨by rw [fin.1]; exact Sh129, fun v q h => (zst_no fin.1 h).elim⟩)
theorem oq_X5_readPart_0 : cw_ho 68 0 (.aload_n 0) 1 0 0 0 := rfl
theorem oq_X5_readPart_1 : cw_ho 68 1 (.getfield 20) 3 5 0 4 := rfl
theorem oq_X5_readPart_4 : cw_ho 68 4 (.getfield 56) 3 6 6 0 := rfl
theorem oq_X5_readPart_7 : cw_ho 68 7 (.istore_n 2) 1 0 0 0 := rfl
theorem oq_X5_readPart_8 : cw_ho 68 8 (.iload_n 2) 1 0 0 0 := rfl
theorem oq_X5_readPart_9 : cw_ho 68 9 (.bipush 16) 2 0 0 0 := rfl
theorem oq_X5_readPart_11 : cw_ho 68 11 (.if_icmp .eq 21) 3 0 0 0 := rfl
theorem oq_X5_readPart_14 : cw_ho 68 14 (.aload_n 1) 1 0 0 0 := rfl
theorem oq_X5_readPart_15 : cw_ho 68 15 (.getfield 153) 3 7 15 0 := rfl
theorem oq_X5_readPart_18 : cw_ho 68 18 (.iconst 1) 1 0 0 0 := rfl
theorem oq_X5_readPart_19 : cw_ho 68 19 (.iload_n 2) 1 0 0 0 := rfl
theorem oq_X5_readPart_20 : cw_ho 68 20 (.ishl) 1 0 0 0 := rfl
theorem oq_X5_readPart_21 : cw_ho 68 21 (.iand) 1 0 0 0 := rfl
theorem oq_X5_readPart_22 : cw_ho 68 22 (.ifCond .eq 10) 3 0 0 0 := rfl
theorem oq_X5_readPart_25 : cw_ho 68 25 (.aload_n 0) 1 0 0 0 := rfl
theorem oq_X5_readPart_26 : cw_ho 68 26 (.iconst 3) 1 0 0 0 := rfl
theorem oq_X5_readPart_27 : cw_ho 68 27 (.invokevirtual 74) 3 61 1 5 := rfl
theorem oq_X5_readPart_30 : cw_ho 68 30 (.pop) 1 0 0 0 := rfl
theorem oq_X5_readPart_31 : cw_ho 68 31 (.return_) 1 0 0 0 := rfl
theorem oq_X5_readPart_32 : cw_ho 68 32 (.aload_n 1) 1 0 0 0 := rfl
theorem oq_X5_readPart_33 : cw_ho 68 33 (.dup) 1 0 0 0 := rfl
theorem oq_X5_readPart_34 : cw_ho 68 34 (.getfield 153) 3 7 15 0 := rfl
theorem oq_X5_readPart_37 : cw_ho 68 37 (.iconst 1) 1 0 0 0 := rfl
theorem oq_X5_readPart_38 : cw_ho 68 38 (.iload_n 2) 1 0 0 0 := rfl
theorem oq_X5_readPart_39 : cw_ho 68 39 (.ishl) 1 0 0 0 := rfl
theorem oq_X5_readPart_40 : cw_ho 68 40 (.ior) 1 0 0 0 := rfl
theorem oq_X5_readPart_41 : cw_ho 68 41 (.putfield 153) 3 7 15 0 := rfl
theorem oq_X5_readPart_44 : cw_ho 68 44 (.aload_n 0) 1 0 0 0 := rfl
theorem oq_X5_readPart_45 : cw_ho 68 45 (.getfield 20) 3 5 0 4 := rfl
theorem oq_X5_readPart_48 : cw_ho 68 48 (.invokevirtual 82) 3 78 0 6 := rfl
theorem oq_X5_readPart_51 : cw_ho 68 51 (.iload_n 2) 1 0 0 0 := rfl
theorem oq_X5_readPart_52 : cw_ho 68 52 (.tableswitch 227 9 15 #[44, 102, 128, 136, 163, 178, 193]) 44 0 0 0 := rfl
theorem oq_X5_readPart_96 : cw_ho 68 96 (.aload_n 1) 1 0 0 0 := rfl
theorem oq_X5_readPart_97 : cw_ho 68 97 (.aload_n 0) 1 0 0 0 := rfl
theorem oq_X5_readPart_98 : cw_ho 68 98 (.iconst 0) 1 0 0 0 := rfl
theorem oq_X5_readPart_99 : cw_ho 68 99 (.aload_n 1) 1 0 0 0 := rfl
theorem oq_X5_readPart_100 : cw_ho 68 100 (.getfield 156) 3 7 1 0 := rfl
theorem oq_X5_readPart_103 : cw_ho 68 103 (.invokevirtual 93) 3 63 2 5 := rfl
theorem oq_X5_readPart_106 : cw_ho 68 106 (.putfield 159) 3 7 3 0 := rfl
theorem oq_X5_readPart_109 : cw_ho 68 109 (.aload_n 1) 1 0 0 0 := rfl
theorem oq_X5_readPart_110 : cw_ho 68 110 (.aload_n 0) 1 0 0 0 := rfl
theorem oq_X5_readPart_111 : cw_ho 68 111 (.aload_n 1) 1 0 0 0 := rfl
theorem oq_X5_readPart_112 : cw_ho 68 112 (.getfield 159) 3 7 3 0 := rfl
theorem oq_X5_readPart_115 : cw_ho 68 115 (.iconst 1) 1 0 0 0 := rfl
theorem oq_X5_readPart_116 : cw_ho 68 116 (.iadd) 1 0 0 0 := rfl
theorem oq_X5_readPart_117 : cw_ho 68 117 (.aload_n 1) 1 0 0 0 := rfl
theorem oq_X5_readPart_118 : cw_ho 68 118 (.getfield 156) 3 7 1 0 := rfl
theorem oq_X5_readPart_121 : cw_ho 68 121 (.invokevirtual 93) 3 63 2 5 := rfl
theorem oq_X5_readPart_124 : cw_ho 68 124 (.putfield 162) 3 7 4 0 := rfl
theorem oq_X5_readPart_127 : cw_ho 68 127 (.aload_n 1) 1 0 0 0 := rfl
theorem oq_X5_readPart_128 : cw_ho 68 128 (.aload_n 0) 1 0 0 0 := rfl
theorem oq_X5_readPart_129 : cw_ho 68 129 (.bipush (-30)) 2 0 0 0 := rfl
theorem oq_X5_readPart_131 : cw_ho 68 131 (.bipush 30) 2 0 0 0 := rfl
theorem oq_X5_readPart_133 : cw_ho 68 133 (.invokevirtual 93) 3 63 2 5 := rfl
theorem oq_X5_readPart_136 : cw_ho 68 136 (.putfield 165) 3 7 5 0 := rfl
theorem oq_X5_readPart_139 : cw_ho 68 139 (.aload_n 1) 1 0 0 0 := rfl
theorem oq_X5_readPart_140 : cw_ho 68 140 (.aload_n 0) 1 0 0 0 := rfl
theorem oq_X5_readPart_141 : cw_ho 68 141 (.bipush (-30)) 2 0 0 0 := rfl
theorem oq_X5_readPart_143 : cw_ho 68 143 (.bipush 30) 2 0 0 0 := rfl
theorem oq_X5_readPart_145 : cw_ho 68 145 (.invokevirtual 93) 3 63 2 5 := rfl
theorem oq_X5_readPart_148 : cw_ho 68 148 (.putfield 168) 3 7 6 0 := rfl
theorem oq_X5_readPart_151 : cw_ho 68 151 (.goto 133) 3 0 0 0 := rfl
theorem oq_X5_readPart_154 : cw_ho 68 154 (.aload_n 1) 1 0 0 0 := rfl
theorem oq_X5_readPart_155 : cw_ho 68 155 (.aload_n 0) 1 0 0 0 := rfl
theorem oq_X5_readPart_156 : cw_ho 68 156 (.bipush 12) 2 0 0 0 := rfl
theorem oq_X5_readPart_158 : cw_ho 68 158 (.bipush 60) 2 0 0 0 := rfl
theorem oq_X5_readPart_160 : cw_ho 68 160 (.invokevirtual 93) 3 63 2 5 := rfl
theorem oq_X5_readPart_163 : cw_ho 68 163 (.putfield 171) 3 7 7 0 := rfl
theorem oq_X5_readPart_166 : cw_ho 68 166 (.aload_n 1) 1 0 0 0 := rfl
theorem oq_X5_readPart_167 : cw_ho 68 167 (.aload_n 0) 1 0 0 0 := rfl
theorem oq_X5_readPart_168 : cw_ho 68 168 (.iconst 3) 1 0 0 0 := rfl
theorem oq_X5_readPart_169 : cw_ho 68 169 (.bipush 14) 2 0 0 0 := rfl
theorem oq_X5_readPart_171 : cw_ho 68 171 (.invokevirtual 93) 3 63 2 5 := rfl
theorem oq_X5_readPart_174 : cw_ho 68 174 (.putfield 174) 3 7 8 0 := rfl
theorem oq_X5_readPart_177 : cw_ho 68 177 (.goto 107) 3 0 0 0 := rfl
theorem oq_X5_readPart_180 : cw_ho 68 180 (.aload_n 0) 1 0 0 0 := rfl
theorem oq_X5_readPart_181 : cw_ho 68 181 (.aload_n 1) 1 0 0 0 := rfl
theorem oq_X5_readPart_182 : cw_ho 68 182 (.invokevirtual 177) 3 69 1 5 := rfl
theorem oq_X5_readPart_185 : cw_ho 68 185 (.goto 99) 3 0 0 0 := rfl
theorem oq_X5_readPart_188 : cw_ho 68 188 (.aload_n 1) 1 0 0 0 := rfl
theorem oq_X5_readPart_189 : cw_ho 68 189 (.aload_n 0) 1 0 0 0 := rfl
theorem oq_X5_readPart_190 : cw_ho 68 190 (.iconst 0) 1 0 0 0 := rfl
theorem oq_X5_readPart_191 : cw_ho 68 191 (.sipush 9999) 3 0 0 0 := rfl
theorem oq_X5_readPart_194 : cw_ho 68 194 (.invokevirtual 93) 3 63 2 5 := rfl
theorem oq_X5_readPart_197 : cw_ho 68 197 (.putfield 180) 3 7 10 0 := rfl
theorem oq_X5_readPart_200 : cw_ho 68 200 (.aload_n 1) 1 0 0 0 := rfl
theorem oq_X5_readPart_201 : cw_ho 68 201 (.aload_n 0) 1 0 0 0 := rfl
theorem oq_X5_readPart_202 : cw_ho 68 202 (.iconst 0) 1 0 0 0 := rfl
theorem oq_X5_readPart_203 : cw_ho 68 203 (.sipush 9999) 3 0 0 0 := rfl
theorem oq_X5_readPart_206 : cw_ho 68 206 (.invokevirtual 93) 3 63 2 5 := rfl
theorem oq_X5_readPart_209 : cw_ho 68 209 (.putfield 183) 3 7 11 0 := rfl
theorem oq_X5_readPart_212 : cw_ho 68 212 (.goto 72) 3 0 0 0 := rfl
theorem oq_X5_readPart_215 : cw_ho 68 215 (.aload_n 1) 1 0 0 0 := rfl
theorem oq_X5_readPart_216 : cw_ho 68 216 (.aload_n 0) 1 0 0 0 := rfl
theorem oq_X5_readPart_217 : cw_ho 68 217 (.iconst 0) 1 0 0 0 := rfl
theorem oq_X5_readPart_218 : cw_ho 68 218 (.sipush 200) 3 0 0 0 := rfl
theorem oq_X5_readPart_221 : cw_ho 68 221 (.invokevirtual 93) 3 63 2 5 := rfl
theorem oq_X5_readPart_224 : cw_ho 68 224 (.putfield 186) 3 7 12 0 := rfl
theorem oq_X5_readPart_227 : cw_ho 68 227 (.goto 57) 3 0 0 0 := rfl
theorem oq_X5_readPart_230 : cw_ho 68 230 (.aload_n 1) 1 0 0 0 := rfl
theorem oq_X5_readPart_231 : cw_ho 68 231 (.aload_n 0) 1 0 0 0 := rfl
theorem oq_X5_readPart_232 : cw_ho 68 232 (.iconst 0) 1 0 0 0 := rfl
theorem oq_X5_readPart_233 : cw_ho 68 233 (.sipush 9999) 3 0 0 0 := rfl
theorem oq_X5_readPart_236 : cw_ho 68 236 (.invokevirtual 93) 3 63 2 5 := rfl
theorem oq_X5_readPart_239 : cw_ho 68 239 (.putfield 189) 3 7 13 0 := rfl
theorem oq_X5_readPart_242 : cw_ho 68 242 (.goto 42) 3 0 0 0 := rfl
theorem oq_X5_readPart_245 : cw_ho 68 245 (.iconst 0) 1 0 0 0 := rfl
theorem oq_X5_readPart_246 : cw_ho 68 246 (.istore_n 3) 1 0 0 0 := rfl
theorem oq_X5_readPart_247 : cw_ho 68 247 (.iload_n 3) 1 0 0 0 := rfl
theorem oq_X5_readPart_248 : cw_ho 68 248 (.aload_n 1) 1 0 0 0 := rfl
theorem oq_X5_readPart_249 : cw_ho 68 249 (.getfield 192) 3 7 16 4 := rfl
theorem oq_X5_readPart_252 : cw_ho 68 252 (.arraylength) 1 0 0 0 := rfl
theorem oq_X5_readPart_253 : cw_ho 68 253 (.if_icmp .ge 23) 3 0 0 0 := rfl
theorem oq_X5_readPart_256 : cw_ho 68 256 (.aload_n 1) 1 0 0 0 := rfl
theorem oq_X5_readPart_257 : cw_ho 68 257 (.getfield 192) 3 7 16 4 := rfl
theorem oq_X5_readPart_260 : cw_ho 68 260 (.iload_n 3) 1 0 0 0 := rfl
theorem oq_X5_readPart_261 : cw_ho 68 261 (.aload_n 0) 1 0 0 0 := rfl
theorem oq_X5_readPart_262 : cw_ho 68 262 (.iconst 0) 1 0 0 0 := rfl
theorem oq_X5_readPart_263 : cw_ho 68 263 (.sipush 200) 3 0 0 0 := rfl
theorem oq_X5_readPart_266 : cw_ho 68 266 (.invokevirtual 93) 3 63 2 5 := rfl
theorem oq_X5_readPart_269 : cw_ho 68 269 (.iastore) 1 0 0 0 := rfl
theorem oq_X5_readPart_270 : cw_ho 68 270 (.iinc 3 1) 3 0 0 0 := rfl
theorem oq_X5_readPart_273 : cw_ho 68 273 (.goto (-26)) 3 0 0 0 := rfl
theorem oq_X5_readPart_276 : cw_ho 68 276 (.goto 8) 3 0 0 0 := rfl
theorem oq_X5_readPart_279 : cw_ho 68 279 (.aload_n 0) 1 0 0 0 := rfl
theorem oq_X5_readPart_280 : cw_ho 68 280 (.aload_n 1) 1 0 0 0 := rfl
theorem oq_X5_readPart_281 : cw_ho 68 281 (.invokevirtual 195) 3 70 1 5 := rfl
theorem oq_X5_readPart_284 : cw_ho 68 284 (.return_) 1 0 0 0 := rfl
theorem zcv_e {vc W : Int} (h1 : 9 ≤ vc) (h2 : vc ≤ 16) (a : vc ≤ 12 → W = vc - 9) (b : vc = 13 → W = 7) (c : 14 ≤ vc → W = vc - 10) : vc = zcv W.toNat := by
  have : (vc = 9 ∧ W = 0) ∨ (vc = 10 ∧ W = 1) ∨ (vc = 11 ∧ W = 2) ∨ (vc = 12 ∧ W = 3) ∨ (vc = 13 ∧ W = 7) ∨ (vc = 14 ∧ W = 4) ∨ (vc = 15 ∧ W = 5) ∨ (vc = 16 ∧ W = 6) := by omega
  rcases this with ⟨rfl, rfl⟩ | ⟨rfl, rfl⟩ | ⟨rfl, rfl⟩ | ⟨rfl, rfl⟩ | ⟨rfl, rfl⟩ | ⟨rfl, rfl⟩ | ⟨rfl, rfl⟩ | ⟨rfl, rfl⟩ <;> decide
set_option maxHeartbeats 8000000 in
theorem ct_riseL {h0 : cv_H} {n : Nat} (ht : ∀ i, t i = ri_at h0 1 i % 256) (hwd : ∀ i, i < 34 → ri_at h0 52 i = tz_wc.getD i 0) (hn9 : n ≤ 900)  {b : Nat} (hb : b = 2 ∨ b = 26) (hpl : zPL b h0) {K : Nat} (hK7 : cw_sh[K]? = some 7) {hh P : Int} {cm : Nat} {E : (Int × Nat) ⊕ Nat} (hQ : ∀ h', cw_T G h' → cw_Fr cw_Ds cw_sh kk_X5_readPart.2.2.2.2.2.1 h0 h' → zOT K h0 h' → zCs t n E h' → ri_at h' K 1 = hh → ri_at h' K 14 = cm → ri_at h' K 15 = P → Q (none, h')) :
    ∀ (u i : Nat) (L : cv_L) (I : Int32) (S : (Int × Nat) ⊕ Nat) (h : cv_H), i + u = 9 → cw_T G h → cw_Fr cw_Ds cw_sh kk_X5_readPart.2.2.2.2.2.1 h0 h → zCs t n S h → zst (zbd S (zns t n 0 200 u)) = E → zOT K h0 h → I.toInt = i → ri_at h K 1 = hh → ri_at h K 14 = cm → ri_at h K 15 = P → cv_get L 0 = some (cv_r 50) → cv_get L 1 = some (cv_r K) → cv_get L 3 = some (cv_i I) → cw_X X 68 Q 247 L [] h := by
  have Fh0 : cw_Fr cw_Ds cw_sh kk_X5_readPart.2.2.2.2.2.1 h0 h0 := cw_Fr_refl
  have hA : ∀ h, cw_Fr cw_Ds cw_sh kk_X5_readPart.2.2.2.2.2.1 h0 h → ∀ i, ri_at h 1 i = ri_at h0 1 i := fun h F i => ri_frr F (k := 1) (d := 13) rfl rfl (by decide +kernel)
  have hB : ∀ h, cw_Fr cw_Ds cw_sh kk_X5_readPart.2.2.2.2.2.1 h0 h → ∀ i, ri_at h 52 i = ri_at h0 52 i := fun h F i => ri_frr F (k := 52) (d := 43) rfl rfl (by decide +kernel)
  have hPL : ∀ h, cw_Fr cw_Ds cw_sh kk_X5_readPart.2.2.2.2.2.1 h0 h → zPL b h := fun h F => zPL_fr hb F (by decide +kernel) hpl
  have hb4 : cw_sh[b]? = some 4 := by rcases hb with rfl | rfl <;> rfl
  have hkb1 : cw_sh[b + 1]? = some 28 := by rcases hb with rfl | rfl <;> rfl
  have hkb2 : cw_sh[b + 2]? = some 29 := by rcases hb with rfl | rfl <;> rfl
  have hkb3 : cw_sh[b + 3]? = some 30 := by rcases hb with rfl | rfl <;> rfl
  have hkb4 : cw_sh[b + 4]? = some 31 := by rcases hb with rfl | rfl <;> rfl
  have hkb5 : cw_sh[b + 5]? = some 32 := by rcases hb with rfl | rfl <;> rfl
  have hkb6 : cw_sh[b + 6]? = some 33 := by rcases hb with rfl | rfl <;> rfl
  have hkb7 : cw_sh[b + 7]? = some 34 := by rcases hb with rfl | rfl <;> rfl
  have hkb8 : cw_sh[b + 8]? = some 35 := by rcases hb with rfl | rfl <;> rfl
  have hkb9 : cw_sh[b + 9]? = some 36 := by rcases hb with rfl | rfl <;> rfl
  have hkb10 : cw_sh[b + 10]? = some 37 := by rcases hb with rfl | rfl <;> rfl
  have hkb11 : cw_sh[b + 11]? = some 38 := by rcases hb with rfl | rfl <;> rfl
  have hkb12 : cw_sh[b + 12]? = some 39 := by rcases hb with rfl | rfl <;> rfl
  have hkb13 : cw_sh[b + 13]? = some 40 := by rcases hb with rfl | rfl <;> rfl
  have hkb14 : cw_sh[b + 14]? = some 41 := by rcases hb with rfl | rfl <;> rfl
  have hkb15 : cw_sh[b + 15]? = some 42 := by rcases hb with rfl | rfl <;> rfl
  intro u
  induction u with
  | zero =>
    intro i L I S h hiu hT Fh hS hE hOT hI hg1 hg14 hg15 g0 g1 g3
    refine ex_il oq_X5_readPart_247 g3 ?_
    refine ex_al oq_X5_readPart_248 g1 ?_
    obtain ⟨k101, ak101, sk101⟩ := ri_refs (k := K) (d := 7) (f := 16) hT hK7 rfl rfl (by decide)
    refine ex_gf oq_X5_readPart_249 hT (k := K) (d := 7) hK7 rfl ak101 ?_
    refine ex_len oq_X5_readPart_252 hT (k := k101) (d := 44) sk101 rfl (by decide) (fun x102 hx102 => ?_)
    refine ex_if oq_X5_readPart_253 (t := 276) rfl rfl (fun (c103 : x102.toInt ≤ I.toInt) => ?_) (fun (c103 : ¬ (x102.toInt ≤ I.toInt)) => ?_)
    · refine ex_go oq_X5_readPart_276 (t := 284) rfl rfl ?_
      exact ex_retv oq_X5_readPart_284 rfl (hQ h hT Fh hOT (by rw [← hE, znS_0]; exact hS) hg1 hg14 hg15)
    · exfalso; omega
  | succ u ih =>
    intro i L I S h hiu hT Fh hS hE hOT hI hg1 hg14 hg15 g0 g1 g3
    refine ex_il oq_X5_readPart_247 g3 ?_
    refine ex_al oq_X5_readPart_248 g1 ?_
    obtain ⟨k101, ak101, sk101⟩ := ri_refs (k := K) (d := 7) (f := 16) hT hK7 rfl rfl (by decide)
    refine ex_gf oq_X5_readPart_249 hT (k := K) (d := 7) hK7 rfl ak101 ?_
    refine ex_len oq_X5_readPart_252 hT (k := k101) (d := 44) sk101 rfl (by decide) (fun x102 hx102 => ?_)
    refine ex_if oq_X5_readPart_253 (t := 276) rfl rfl (fun (c103 : x102.toInt ≤ I.toInt) => ?_) (fun (c103 : ¬ (x102.toInt ≤ I.toInt)) => ?_)
    · exfalso; omega
    · refine ex_al oq_X5_readPart_256 g1 ?_
      obtain ⟨k104, ak104, sk104⟩ := ri_refs (k := K) (d := 7) (f := 16) hT hK7 rfl rfl (by decide)
      refine ex_gf oq_X5_readPart_257 hT (k := K) (d := 7) hK7 rfl ak104 ?_
      refine ex_il oq_X5_readPart_260 g3 ?_
      refine ex_al oq_X5_readPart_261 g0 ?_
      refine ex_ic oq_X5_readPart_262 (m := 0) (by decide) (fun x105 hx105 => ?_)
      refine ex_si oq_X5_readPart_263 (m := 200) (by decide) (fun x106 hx106 => ?_)
      refine ex_cv oq_X5_readPart_266 (by decide) hT (k := 50) (d := 5) (as := [cv_i x105, cv_i x106]) (stk := [cv_i I, cv_r k104]) rfl rfl rfl rfl rfl rfl ⟨rfl, rfl⟩ (R := fun o => ∃ (x : Int32) (hb : cv_H), o = (some (cv_i x), hb) ∧ cw_T G hb ∧ cw_Fr cw_Ds cw_sh kk_X5_readNumber_1.2.2.2.2.2.1 h hb ∧ zCr t n hb x (zbd S (zn t n x105.toInt x106.toInt))) (ct_readNumber (t := t) (n := n) (fun i => by rw [ht, ← hA _ Fh]) (fun i hi => by rw [hB _ Fh]; exact hwd i hi) hn9 hT hS x105 x106 (by omega) (by omega) (fun x hb b1 b2 b3 => ⟨x, hb, rfl, b1, b2, b3⟩)) (fun o ho => ?_)
      obtain ⟨x107, h108, rfl, Th108, Ch108, dx107⟩ := ho
      show cw_X _ _ _ _ _ [cv_i x107, cv_i I, cv_r k104] h108
      obtain ⟨z1, y1, wx107, Sh108⟩ : ∃ z, zbd S (zn t n x105.toInt x106.toInt) = z ∧ x107.toInt = zvl z ∧ zCs t n (zst z) h108 := ⟨_, rfl, zCr_i dx107⟩
      clear dx107
      have Fh108 : cw_Fr cw_Ds cw_sh kk_X5_readPart.2.2.2.2.2.1 h0 h108 := cw_Fr_tr Fh (cw_Fr_mono (by decide +kernel) Ch108)
      have eh108_K_1 : ri_at h108 K 1 = hh := (ri_frf Ch108 (k := K) (d := 7) hK7 rfl (by decide +kernel)).trans hg1
      have eh108_K_3 : ri_at h108 K 3 = ri_at h K 3 := ri_frf Ch108 (k := K) (d := 7) hK7 rfl (by decide +kernel)
      have eh108_K_14 : ri_at h108 K 14 = (cm : Int) := (ri_frf Ch108 (k := K) (d := 7) hK7 rfl (by decide +kernel)).trans hg14
      have eh108_K_15 : ri_at h108 K 15 = P := (ri_frf Ch108 (k := K) (d := 7) hK7 rfl (by decide +kernel)).trans hg15
      have Oh108 := zOT_fr Ch108 (by decide +kernel) hOT
      have n1 := zvl_n y1
      rw [hx105] at y1 n1
      rw [hx106] at y1 n1
      refine ex_iw1 oq_X5_readPart_269 Th108 (k := k104) (d := 44) (j := i) sk104 rfl (by omega) (by omega) ⟨(cw_i32 _).1, (cw_i32 _).2⟩ (fun h109 Th109 wh109 => ?_)
      have Fh109 : cw_Fr cw_Ds cw_sh kk_X5_readPart.2.2.2.2.2.1 h0 h109 := cw_Fr_tr Fh108 (cw_Fr_wrr wh109 (k := k104) (d := 44) sk104 rfl (by decide +kernel))
      have eh109_K_1 : ri_at h109 K 1 = hh := (ri_ne wh109 (.inl (cw_kne (k := K) (d := 7) (k' := k104) (d' := 44) hK7 sk104 (by decide)))).trans eh108_K_1
      clear eh108_K_1
      have eh109_K_3 : ri_at h109 K 3 = ri_at h K 3 := (ri_ne wh109 (.inl (cw_kne (k := K) (d := 7) (k' := k104) (d' := 44) hK7 sk104 (by decide)))).trans eh108_K_3
      clear eh108_K_3
      have eh109_K_14 : ri_at h109 K 14 = (cm : Int) := (ri_ne wh109 (.inl (cw_kne (k := K) (d := 7) (k' := k104) (d' := 44) hK7 sk104 (by decide)))).trans eh108_K_14
      clear eh108_K_14
      have eh109_K_15 : ri_at h109 K 15 = P := (ri_ne wh109 (.inl (cw_kne (k := K) (d := 7) (k' := k104) (d' := 44) hK7 sk104 (by decide)))).trans eh108_K_15
      clear eh108_K_15
      have Sh109 := zCs_wr (d := 44) (k := k104) wh109 sk104 Sh108 (.inl ⟨by decide, by decide⟩)
      have Oh109 := zOT_d (d := 44) (k := k104) wh109 sk104 (by decide) Oh108
      clear Oh108
      refine ex_incA oq_X5_readPart_270 (v := I) (m := 1) g3 (by decide) (by omega) (fun L111 x110 hx110 gL111_3 kL111 => ?_)
      have gL111_0 : cv_get L111 0 = some (cv_r 50) := kL111 0 _ (by decide) (fun q => absurd q (by decide)) g0
      have gL111_1 : cv_get L111 1 = some (cv_r K) := kL111 1 _ (by decide) (fun q => absurd q (by decide)) g1
      refine ex_go oq_X5_readPart_273 (t := 247) rfl rfl ?_
      exact ih (i + 1) L111 x110 (zst z1) h109 (by omega) Th109 Fh109 Sh109 (by rw [← hE, zns_S, y1]) Oh109 (by omega) eh109_K_1 eh109_K_14 eh109_K_15 gL111_0 gL111_1 gL111_3
set_option maxHeartbeats 16000000 in
theorem ct_readPart {h0 : cv_H} {n p : Nat} (ht : ∀ i, t i = ri_at h0 1 i % 256) (hwd : ∀ i, i < 34 → ri_at h0 52 i = tz_wc.getD i 0) (hn9 : n ≤ 900) (hT : cw_T G h0) {b : Nat} (hb : b = 2 ∨ b = 26) (hpl : zPL b h0) {K : Nat} (hK7 : cw_sh[K]? = some 7) (hS : zCs t n (.inr p) h0) (hkw : ∀ kc vc : Int, ri_at h0 51 4 = kc → ri_at h0 51 6 = vc → kc = 2 ∧ 9 ≤ vc ∧ vc ≤ 16) {cn : List Int} (hcc : ri_at h0 b 19 = cn.length) (hc6 : cn.length ≤ 6) (hcl : zNm h0 (b + 12) 0 cn) {cm : Nat} (hg14 : ri_at h0 K 14 = cm) (hcm : cm < 64) {hh : Int} (hg1 : ri_at h0 K 1 = hh) (hh2 : 24 ≤ hh ∧ hh ≤ 72) {m : Nat} (hg15 : ri_at h0 K 15 = zpm m) (hm : m < 256) (hQ : ∀ h', cw_T G h' → cw_Fr cw_Ds cw_sh kk_X5_readPart.2.2.2.2.2.1 h0 h' → zOT K h0 h' → zCs t n (zst (zpt t n hh cn m cm p)) h' ∧ (∀ v q, zpt t n hh cn m cm p = .inr (v, q) → v < 64 ∧ ri_at h' K 14 = v ∧ ri_at h' K 15 = zpm (m ||| 2 ^ (zhw (zk t n p) (zw t n p)).toNat) ∧ ri_at h' K 1 = hh) → Q (none, h')) : cw_X X 68 Q 0 (cv_ent 0 [cv_r 50, cv_r K]) [] h0 := by
  have hOT : zOT K h0 h0 := zOT_0
  have Fh0 : cw_Fr cw_Ds cw_sh kk_X5_readPart.2.2.2.2.2.1 h0 h0 := cw_Fr_refl
  have hA : ∀ h, cw_Fr cw_Ds cw_sh kk_X5_readPart.2.2.2.2.2.1 h0 h → ∀ i, ri_at h 1 i = ri_at h0 1 i := fun h F i => ri_frr F (k := 1) (d := 13) rfl rfl (by decide +kernel)
  have hB : ∀ h, cw_Fr cw_Ds cw_sh kk_X5_readPart.2.2.2.2.2.1 h0 h → ∀ i, ri_at h 52 i = ri_at h0 52 i := fun h F i => ri_frr F (k := 52) (d := 43) rfl rfl (by decide +kernel)
  have hPL : ∀ h, cw_Fr cw_Ds cw_sh kk_X5_readPart.2.2.2.2.2.1 h0 h → zPL b h := fun h F => zPL_fr hb F (by decide +kernel) hpl
  have hb4 : cw_sh[b]? = some 4 := by rcases hb with rfl | rfl <;> rfl
  have hkb1 : cw_sh[b + 1]? = some 28 := by rcases hb with rfl | rfl <;> rfl
  have hkb2 : cw_sh[b + 2]? = some 29 := by rcases hb with rfl | rfl <;> rfl
  have hkb3 : cw_sh[b + 3]? = some 30 := by rcases hb with rfl | rfl <;> rfl
  have hkb4 : cw_sh[b + 4]? = some 31 := by rcases hb with rfl | rfl <;> rfl
  have hkb5 : cw_sh[b + 5]? = some 32 := by rcases hb with rfl | rfl <;> rfl
  have hkb6 : cw_sh[b + 6]? = some 33 := by rcases hb with rfl | rfl <;> rfl
  have hkb7 : cw_sh[b + 7]? = some 34 := by rcases hb with rfl | rfl <;> rfl
  have hkb8 : cw_sh[b + 8]? = some 35 := by rcases hb with rfl | rfl <;> rfl
  have hkb9 : cw_sh[b + 9]? = some 36 := by rcases hb with rfl | rfl <;> rfl
  have hkb10 : cw_sh[b + 10]? = some 37 := by rcases hb with rfl | rfl <;> rfl
  have hkb11 : cw_sh[b + 11]? = some 38 := by rcases hb with rfl | rfl <;> rfl
  have hkb12 : cw_sh[b + 12]? = some 39 := by rcases hb with rfl | rfl <;> rfl
  have hkb13 : cw_sh[b + 13]? = some 40 := by rcases hb with rfl | rfl <;> rfl
  have hkb14 : cw_sh[b + 14]? = some 41 := by rcases hb with rfl | rfl <;> rfl
  have hkb15 : cw_sh[b + 15]? = some 42 := by rcases hb with rfl | rfl <;> rfl
  have hC19 : ∀ h, cw_Fr cw_Ds cw_sh kk_X5_readPart.2.2.2.2.2.1 h0 h → ri_at h b 19 = ri_at h0 b 19 := fun h F => ri_frf F (k := b) (d := 4) hb4 rfl (by decide +kernel)
  have hC12 : ∀ h, cw_Fr cw_Ds cw_sh kk_X5_readPart.2.2.2.2.2.1 h0 h → ∀ i, ri_at h (b + 12) i = ri_at h0 (b + 12) i := fun h F i => ri_frr F (k := b + 12) (d := 39) hkb12 rfl (by decide +kernel)
  refine ex_al oq_X5_readPart_0 rfl ?_
  refine ex_gf oq_X5_readPart_1 hT (k := 50) (d := 5) rfl rfl (ri_ref (k := 50) (k' := 51) (d := 5) (f := 0) hT rfl rfl rfl (by decide) (ri_uniq (by decide +kernel))) ?_
  obtain ⟨pnh0, yah0, ybh0, ych0, ydh0, yfh0⟩ := zCs_at hS
  obtain ⟨kch0, ykh0⟩ : ∃ k, ri_at h0 51 4 = k := ⟨_, rfl⟩
  obtain ⟨vch0, yvh0⟩ : ∃ k, ri_at h0 51 6 = k := ⟨_, rfl⟩
  rw [ykh0, yvh0] at ydh0
  replace ydh0 := zhd_i ydh0
  have zlh0 := zx_le (t := t) (n := n) (p := p) (by omega)
  obtain ⟨x301, ax301, rx301, lx301, ux301⟩ := ri_fld (k := 51) (d := 6) (f := 6) hT rfl rfl rfl
  try dsimp only at lx301 ux301
  refine ex_gf oq_X5_readPart_4 hT (k := 51) (d := 6) rfl rfl ax301 ?_
  clear lx301 ux301
  have rx301 := (rx301.symm.trans yvh0 : x301.toInt = vch0)
  have hkv : kch0 = 2 ∧ 9 ≤ vch0 ∧ vch0 ≤ 16 := hkw _ _ ykh0 yvh0
  have hzc := (zhw_c (show tz_rel _ _ _ _ from ydh0)).2 hkv.1 hkv.2.1 hkv.2.2
  have hcv : x301.toInt = zcv (zhw (zk t n p) (zw t n p)).toNat := by
    rw [show x301.toInt = vch0 from by omega]
    exact zcv_e hkv.2.1 hkv.2.2 hzc.1 hzc.2.1 hzc.2.2
  refine ex_isA oq_X5_readPart_7 (fun L302 gL302_2 kL302 => ?_)
  have gL302_0 : cv_get L302 0 = some (cv_r 50) := kL302 0 _ (by decide) (fun q => absurd q (by decide)) rfl
  have gL302_1 : cv_get L302 1 = some (cv_r K) := kL302 1 _ (by decide) (fun _ => rfl) rfl
  refine ex_il oq_X5_readPart_8 gL302_2 ?_
  refine ex_bi oq_X5_readPart_9 (m := 16) (by decide) (fun x303 hx303 => ?_)
  refine ex_if oq_X5_readPart_11 (t := 32) rfl rfl (fun (c304 : x301.toInt = x303.toInt) => ?_) (fun (c304 : ¬ (x301.toInt = x303.toInt)) => ?_)
  · refine ex_al oq_X5_readPart_32 gL302_1 ?_
    refine ex_dup oq_X5_readPart_33 rfl ?_
    obtain ⟨x305, ax305, rx305, lx305, ux305⟩ := ri_fld (k := K) (d := 7) (f := 15) hT hK7 rfl rfl
    try dsimp only at lx305 ux305
    refine ex_gf oq_X5_readPart_34 hT (k := K) (d := 7) hK7 rfl ax305 ?_
    clear lx305 ux305
    have rx305 := (rx305.symm.trans hg15 : x305.toInt = ((zpm m : Nat) : Int))
    refine ex_ic oq_X5_readPart_37 (m := 1) (by decide) (fun x306 hx306 => ?_)
    refine ex_il oq_X5_readPart_38 gL302_2 ?_
    refine ex_shlE oq_X5_readPart_39 (fun x307 hx307 => ?_)
    refine ex_orE oq_X5_readPart_40 (fun x308 hx308 => ?_)
    have hor : x308.toInt = ((zpm (m ||| 2 ^ (zhw (zk t n p) (zw t n p)).toNat) : Nat) : Int) := by rw [hx308, hx307]; exact pm_or rx305 hm hcv (by omega) hx306
    refine ex_pfi oq_X5_readPart_41 hT (k := K) (d := 7) hK7 rfl rfl (cw_i32 _).1 (cw_i32 _).2 (fun h309 Th309 wh309 => ?_)
    have Fh309 : cw_Fr cw_Ds cw_sh kk_X5_readPart.2.2.2.2.2.1 h0 h309 := cw_Fr_tr Fh0 (cw_Fr_wrf wh309 (k := K) (d := 7) hK7 rfl (by decide +kernel))
    have eh309_K_1 : ri_at h309 K 1 = hh := (ri_ne wh309 (.inr (by decide))).trans hg1
    have eh309_K_3 : ri_at h309 K 3 = ri_at h0 K 3 := ri_ne wh309 (.inr (by decide))
    have eh309_K_14 : ri_at h309 K 14 = (cm : Int) := (ri_ne wh309 (.inr (by decide))).trans hg14
    have eh309_K_15 : ri_at h309 K 15 = x308.toInt := ri_self wh309
    have Sh309 := zCs_wr (d := 7) (k := K) wh309 hK7 hS (.inl ⟨by decide, by decide⟩)
    have Oh309 := zOT_K wh309 hOT
    refine ex_al oq_X5_readPart_44 gL302_0 ?_
    refine ex_gf oq_X5_readPart_45 Th309 (k := 50) (d := 5) rfl rfl (ri_ref (k := 50) (k' := 51) (d := 5) (f := 0) Th309 rfl rfl rfl (by decide) (ri_uniq (by decide +kernel))) ?_
    refine ex_cv oq_X5_readPart_48 (by decide) Th309 (k := 51) (d := 6) (as := []) (stk := []) rfl rfl rfl rfl rfl rfl ⟨rfl, rfl⟩ (R := fun o => ∃ hb : cv_H, o = (none, hb) ∧ cw_T G hb ∧ cw_Fr cw_Ds cw_sh kk_X6_step.2.2.2.2.2.1 h309 hb ∧ zCs t n (.inr (zx t n p)) hb) (ct_stepC (t := t) (n := n) (p := p) (fun i => by rw [ht, ← hA _ Fh309]) (fun i hi => by rw [hB _ Fh309]; exact hwd i hi) hn9 Th309 Sh309 (fun hb b1 b2 b3 => ⟨hb, rfl, b1, b2, b3⟩)) (fun o ho => ?_)
    obtain ⟨h310, rfl, Th310, Ch310, Sh310⟩ := ho
    show cw_X _ _ _ _ _ [] h310
    have Fh310 : cw_Fr cw_Ds cw_sh kk_X5_readPart.2.2.2.2.2.1 h0 h310 := cw_Fr_tr Fh309 (cw_Fr_mono (by decide +kernel) Ch310)
    have eh310_K_1 : ri_at h310 K 1 = hh := (ri_frf Ch310 (k := K) (d := 7) hK7 rfl (by decide +kernel)).trans eh309_K_1
    clear eh309_K_1
    have eh310_K_3 : ri_at h310 K 3 = ri_at h0 K 3 := (ri_frf Ch310 (k := K) (d := 7) hK7 rfl (by decide +kernel)).trans eh309_K_3
    clear eh309_K_3
    have eh310_K_14 : ri_at h310 K 14 = (cm : Int) := (ri_frf Ch310 (k := K) (d := 7) hK7 rfl (by decide +kernel)).trans eh309_K_14
    clear eh309_K_14
    have eh310_K_15 : ri_at h310 K 15 = x308.toInt := (ri_frf Ch310 (k := K) (d := 7) hK7 rfl (by decide +kernel)).trans eh309_K_15
    clear eh309_K_15
    have Oh310 := zOT_fr Ch310 (by decide +kernel) Oh309
    clear Oh309
    clear yah0 ybh0 ych0 ykh0 yvh0 yfh0
    obtain ⟨pnh310, yah310, ybh310, ych310, ydh310, yfh310⟩ := zCs_at Sh310
    obtain ⟨kch310, ykh310⟩ : ∃ k, ri_at h310 51 4 = k := ⟨_, rfl⟩
    obtain ⟨vch310, yvh310⟩ : ∃ k, ri_at h310 51 6 = k := ⟨_, rfl⟩
    rw [ykh310, yvh310] at ydh310
    replace ydh310 := zhd_i ydh310
    have zlh310 := zx_le (t := t) (n := n) (p := (zx t n p)) (by omega)
    refine ex_il oq_X5_readPart_51 gL302_2 ?_
    refine ex_tsw oq_X5_readPart_52 rfl (fun c311 => ⟨rfl, ?_⟩) (fun i hi c311 => ?_)
    · show cw_X _ _ _ 279 _ _ _
      have hWd : (zhw (zk t n p) (zw t n p)) = 6 := by omega
      refine ex_al oq_X5_readPart_279 gL302_0 ?_
      refine ex_al oq_X5_readPart_280 gL302_1 ?_
      refine ex_cv oq_X5_readPart_281 (by decide) Th310 (k := 50) (d := 5) (as := [cv_r K]) (stk := []) rfl rfl rfl rfl rfl rfl ⟨rfl, rfl⟩ (R := fun o => ∃ hb : cv_H, o = (none, hb) ∧ cw_T G hb ∧ cw_Fr cw_Ds cw_sh kk_X5_readHas.2.2.2.2.2.1 h310 hb ∧ zOT K h310 hb ∧ zCs t n (zst (zcr t n cn cm (zx t n p))) hb ∧ (∀ v q, zcr t n cn cm (zx t n p) = .inr (v, q) → v < 64 ∧ ri_at hb K 14 = v)) (ct_readHas (t := t) (n := n) (p := (zx t n p)) (fun i => by rw [ht, ← hA _ Fh310]) (fun i hi => by rw [hB _ Fh310]; exact hwd i hi) hn9 Th310 hb (hPL _ Fh310) hK7 Sh310 (cn := cn) ((hC19 _ Fh310).trans hcc) hc6 (zNm_eq hcl (hC12 _ Fh310)) eh310_K_14 hcm (fun hb b1 b2 b3 b4 => ⟨hb, rfl, b1, b2, b3, b4⟩)) (fun o ho => ?_)
      obtain ⟨h312, rfl, Th312, Ch312, oh312, Sh312, Dh312⟩ := ho
      show cw_X _ _ _ _ _ [] h312
      have Fh312 : cw_Fr cw_Ds cw_sh kk_X5_readPart.2.2.2.2.2.1 h0 h312 := cw_Fr_tr Fh310 (cw_Fr_mono (by decide +kernel) Ch312)
      have eh312_K_1 : ri_at h312 K 1 = hh := (ri_frf Ch312 (k := K) (d := 7) hK7 rfl (by decide +kernel)).trans eh310_K_1
      clear eh310_K_1
      have eh312_K_3 : ri_at h312 K 3 = ri_at h0 K 3 := (ri_frf Ch312 (k := K) (d := 7) hK7 rfl (by decide +kernel)).trans eh310_K_3
      clear eh310_K_3
      have eh312_K_15 : ri_at h312 K 15 = x308.toInt := (ri_frf Ch312 (k := K) (d := 7) hK7 rfl (by decide +kernel)).trans eh310_K_15
      clear eh310_K_15
      have Oh312 := zOT_tr Oh310 oh312
      have fin : zst (zpt t n hh cn m cm p) = (zst (zcr t n cn cm (zx t n p))) ∧ ∀ v q, zpt t n hh cn m cm p = .inr (v, q) → zcr t n cn cm (zx t n p) = .inr (v, q) := by
        unfold zpt zhs
        rw [if_neg (fun e => e.1 (by omega)), if_neg (by omega), if_neg (by omega), if_neg (by omega), if_neg (by omega), if_neg (by omega), if_neg (by omega), if_pos (by omega)]
        exact ⟨rfl, fun v q h => h⟩
      exact ex_retv oq_X5_readPart_284 rfl (hQ h312 Th312 Fh312 Oh312 ⟨by rw [fin.1]; exact Sh312, fun v q h => ⟨(Dh312 v q (fin.2 v q h)).1, (Dh312 v q (fin.2 v q h)).2, eh312_K_15.trans hor, eh312_K_1⟩⟩)
    · match i, hi, c311 with
      | 0, _, c311 =>
        refine ⟨rfl, ?_⟩
        show cw_X _ _ _ 96 _ _ _
        exfalso; omega
      | 1, _, c311 =>
        refine ⟨rfl, ?_⟩
        show cw_X _ _ _ 154 _ _ _
        exfalso; omega
      | 2, _, c311 =>
        refine ⟨rfl, ?_⟩
        show cw_X _ _ _ 180 _ _ _
        exfalso; omega
      | 3, _, c311 =>
        refine ⟨rfl, ?_⟩
        show cw_X _ _ _ 188 _ _ _
        exfalso; omega
      | 4, _, c311 =>
        refine ⟨rfl, ?_⟩
        show cw_X _ _ _ 215 _ _ _
        exfalso; omega
      | 5, _, c311 =>
        refine ⟨rfl, ?_⟩
        show cw_X _ _ _ 230 _ _ _
        exfalso; omega
      | 6, _, c311 =>
        refine ⟨rfl, ?_⟩
        show cw_X _ _ _ 245 _ _ _
        exfalso; omega
      | i + 7, hi, _ => exact absurd hi (by show ¬ i + 7 < 7; omega)
  · refine ex_al oq_X5_readPart_14 gL302_1 ?_
    obtain ⟨x313, ax313, rx313, lx313, ux313⟩ := ri_fld (k := K) (d := 7) (f := 15) hT hK7 rfl rfl
    try dsimp only at lx313 ux313
    refine ex_gf oq_X5_readPart_15 hT (k := K) (d := 7) hK7 rfl ax313 ?_
    clear lx313 ux313
    have rx313 := (rx313.symm.trans hg15 : x313.toInt = ((zpm m : Nat) : Int))
    refine ex_ic oq_X5_readPart_18 (m := 1) (by decide) (fun x314 hx314 => ?_)
    refine ex_il oq_X5_readPart_19 gL302_2 ?_
    refine ex_shlE oq_X5_readPart_20 (fun x315 hx315 => ?_)
    refine ex_andE oq_X5_readPart_21 (fun x316 hx316 => ?_)
    refine ex_if0 oq_X5_readPart_22 (t := 32) rfl rfl (fun (c317 : x316.toInt = 0) => ?_) (fun (c317 : ¬ (x316.toInt = 0)) => ?_)
    · have hbz := pm_an (m := m) (j := (zhw (zk t n p) (zw t n p)).toNat) rx313 hm hcv (by omega) hx314
      rw [← hx315, ← hx316] at hbz
      replace hbz := hbz.1 (by omega)
      refine ex_al oq_X5_readPart_32 gL302_1 ?_
      refine ex_dup oq_X5_readPart_33 rfl ?_
      obtain ⟨x318, ax318, rx318, lx318, ux318⟩ := ri_fld (k := K) (d := 7) (f := 15) hT hK7 rfl rfl
      try dsimp only at lx318 ux318
      refine ex_gf oq_X5_readPart_34 hT (k := K) (d := 7) hK7 rfl ax318 ?_
      clear lx318 ux318
      have rx318 := (rx318.symm.trans hg15 : x318.toInt = ((zpm m : Nat) : Int))
      refine ex_ic oq_X5_readPart_37 (m := 1) (by decide) (fun x319 hx319 => ?_)
      refine ex_il oq_X5_readPart_38 gL302_2 ?_
      refine ex_shlE oq_X5_readPart_39 (fun x320 hx320 => ?_)
      refine ex_orE oq_X5_readPart_40 (fun x321 hx321 => ?_)
      have hor : x321.toInt = ((zpm (m ||| 2 ^ (zhw (zk t n p) (zw t n p)).toNat) : Nat) : Int) := by rw [hx321, hx320]; exact pm_or rx318 hm hcv (by omega) hx319
      refine ex_pfi oq_X5_readPart_41 hT (k := K) (d := 7) hK7 rfl rfl (cw_i32 _).1 (cw_i32 _).2 (fun h322 Th322 wh322 => ?_)
      have Fh322 : cw_Fr cw_Ds cw_sh kk_X5_readPart.2.2.2.2.2.1 h0 h322 := cw_Fr_tr Fh0 (cw_Fr_wrf wh322 (k := K) (d := 7) hK7 rfl (by decide +kernel))
      have eh322_K_1 : ri_at h322 K 1 = hh := (ri_ne wh322 (.inr (by decide))).trans hg1
      have eh322_K_3 : ri_at h322 K 3 = ri_at h0 K 3 := ri_ne wh322 (.inr (by decide))
      have eh322_K_14 : ri_at h322 K 14 = (cm : Int) := (ri_ne wh322 (.inr (by decide))).trans hg14
      have eh322_K_15 : ri_at h322 K 15 = x321.toInt := ri_self wh322
      have Sh322 := zCs_wr (d := 7) (k := K) wh322 hK7 hS (.inl ⟨by decide, by decide⟩)
      have Oh322 := zOT_K wh322 hOT
      refine ex_al oq_X5_readPart_44 gL302_0 ?_
      refine ex_gf oq_X5_readPart_45 Th322 (k := 50) (d := 5) rfl rfl (ri_ref (k := 50) (k' := 51) (d := 5) (f := 0) Th322 rfl rfl rfl (by decide) (ri_uniq (by decide +kernel))) ?_
      refine ex_cv oq_X5_readPart_48 (by decide) Th322 (k := 51) (d := 6) (as := []) (stk := []) rfl rfl rfl rfl rfl rfl ⟨rfl, rfl⟩ (R := fun o => ∃ hb : cv_H, o = (none, hb) ∧ cw_T G hb ∧ cw_Fr cw_Ds cw_sh kk_X6_step.2.2.2.2.2.1 h322 hb ∧ zCs t n (.inr (zx t n p)) hb) (ct_stepC (t := t) (n := n) (p := p) (fun i => by rw [ht, ← hA _ Fh322]) (fun i hi => by rw [hB _ Fh322]; exact hwd i hi) hn9 Th322 Sh322 (fun hb b1 b2 b3 => ⟨hb, rfl, b1, b2, b3⟩)) (fun o ho => ?_)
      obtain ⟨h323, rfl, Th323, Ch323, Sh323⟩ := ho
      show cw_X _ _ _ _ _ [] h323
      have Fh323 : cw_Fr cw_Ds cw_sh kk_X5_readPart.2.2.2.2.2.1 h0 h323 := cw_Fr_tr Fh322 (cw_Fr_mono (by decide +kernel) Ch323)
      have eh323_K_1 : ri_at h323 K 1 = hh := (ri_frf Ch323 (k := K) (d := 7) hK7 rfl (by decide +kernel)).trans eh322_K_1
      clear eh322_K_1
      have eh323_K_3 : ri_at h323 K 3 = ri_at h0 K 3 := (ri_frf Ch323 (k := K) (d := 7) hK7 rfl (by decide +kernel)).trans eh322_K_3
      clear eh322_K_3
      have eh323_K_14 : ri_at h323 K 14 = (cm : Int) := (ri_frf Ch323 (k := K) (d := 7) hK7 rfl (by decide +kernel)).trans eh322_K_14
      clear eh322_K_14
      have eh323_K_15 : ri_at h323 K 15 = x321.toInt := (ri_frf Ch323 (k := K) (d := 7) hK7 rfl (by decide +kernel)).trans eh322_K_15
      clear eh322_K_15
      have Oh323 := zOT_fr Ch323 (by decide +kernel) Oh322
      clear Oh322
      clear yah0 ybh0 ych0 ykh0 yvh0 yfh0
      obtain ⟨pnh323, yah323, ybh323, ych323, ydh323, yfh323⟩ := zCs_at Sh323
      obtain ⟨kch323, ykh323⟩ : ∃ k, ri_at h323 51 4 = k := ⟨_, rfl⟩
      obtain ⟨vch323, yvh323⟩ : ∃ k, ri_at h323 51 6 = k := ⟨_, rfl⟩
      rw [ykh323, yvh323] at ydh323
      replace ydh323 := zhd_i ydh323
      have zlh323 := zx_le (t := t) (n := n) (p := (zx t n p)) (by omega)
      refine ex_il oq_X5_readPart_51 gL302_2 ?_
      refine ex_tsw oq_X5_readPart_52 rfl (fun c324 => ⟨rfl, ?_⟩) (fun i hi c324 => ?_)
      · show cw_X _ _ _ 279 _ _ _
        exfalso; omega
      · match i, hi, c324 with
        | 0, _, c324 =>
          refine ⟨rfl, ?_⟩
          show cw_X _ _ _ 96 _ _ _
          have hW0 : (zhw (zk t n p) (zw t n p)) = 0 := by omega
          refine ex_al oq_X5_readPart_96 gL302_1 ?_
          refine ex_al oq_X5_readPart_97 gL302_0 ?_
          refine ex_ic oq_X5_readPart_98 (m := 0) (by decide) (fun x325 hx325 => ?_)
          refine ex_al oq_X5_readPart_99 gL302_1 ?_
          obtain ⟨x326, ax326, rx326, lx326, ux326⟩ := ri_fld (k := K) (d := 7) (f := 1) Th323 hK7 rfl rfl
          try dsimp only at lx326 ux326
          refine ex_gf oq_X5_readPart_100 Th323 (k := K) (d := 7) hK7 rfl ax326 ?_
          have rx326 := (rx326.symm.trans eh323_K_1 : x326.toInt = hh)
          refine ex_cv oq_X5_readPart_103 (by decide) Th323 (k := 50) (d := 5) (as := [cv_i x325, cv_i x326]) (stk := [cv_r K]) rfl rfl rfl rfl rfl rfl ⟨rfl, rfl⟩ (R := fun o => ∃ (x : Int32) (hb : cv_H), o = (some (cv_i x), hb) ∧ cw_T G hb ∧ cw_Fr cw_Ds cw_sh kk_X5_readNumber_1.2.2.2.2.2.1 h323 hb ∧ zCr t n hb x (zbd (.inr (zx t n p)) (zn t n x325.toInt x326.toInt))) (ct_readNumber (t := t) (n := n) (fun i => by rw [ht, ← hA _ Fh323]) (fun i hi => by rw [hB _ Fh323]; exact hwd i hi) hn9 Th323 Sh323 x325 x326 (by omega) (by omega) (fun x hb b1 b2 b3 => ⟨x, hb, rfl, b1, b2, b3⟩)) (fun o ho => ?_)
          obtain ⟨x327, h328, rfl, Th328, Ch328, dx327⟩ := ho
          show cw_X _ _ _ _ _ [cv_i x327, cv_r K] h328
          obtain ⟨z1, y1, wx327, Sh328⟩ : ∃ z, (zn t n x325.toInt x326.toInt) (zx t n p) = z ∧ x327.toInt = zvl z ∧ zCs t n (zst z) h328 := ⟨_, rfl, zCr_i dx327⟩
          clear dx327
          have Fh328 : cw_Fr cw_Ds cw_sh kk_X5_readPart.2.2.2.2.2.1 h0 h328 := cw_Fr_tr Fh323 (cw_Fr_mono (by decide +kernel) Ch328)
          have eh328_K_1 : ri_at h328 K 1 = hh := (ri_frf Ch328 (k := K) (d := 7) hK7 rfl (by decide +kernel)).trans eh323_K_1
          clear eh323_K_1
          have eh328_K_3 : ri_at h328 K 3 = ri_at h0 K 3 := (ri_frf Ch328 (k := K) (d := 7) hK7 rfl (by decide +kernel)).trans eh323_K_3
          clear eh323_K_3
          have eh328_K_14 : ri_at h328 K 14 = (cm : Int) := (ri_frf Ch328 (k := K) (d := 7) hK7 rfl (by decide +kernel)).trans eh323_K_14
          clear eh323_K_14
          have eh328_K_15 : ri_at h328 K 15 = x321.toInt := (ri_frf Ch328 (k := K) (d := 7) hK7 rfl (by decide +kernel)).trans eh323_K_15
          clear eh323_K_15
          have Oh328 := zOT_fr Ch328 (by decide +kernel) Oh323
          clear Oh323
          have n1 := zvl_m y1
          rw [hx325] at y1 n1
          refine ex_pfi oq_X5_readPart_106 Th328 (k := K) (d := 7) hK7 rfl rfl (by omega) (by omega) (fun h329 Th329 wh329 => ?_)
          have Fh329 : cw_Fr cw_Ds cw_sh kk_X5_readPart.2.2.2.2.2.1 h0 h329 := cw_Fr_tr Fh328 (cw_Fr_wrf wh329 (k := K) (d := 7) hK7 rfl (by decide +kernel))
          have eh329_K_1 : ri_at h329 K 1 = hh := (ri_ne wh329 (.inr (by decide))).trans eh328_K_1
          clear eh328_K_1
          have eh329_K_3 : ri_at h329 K 3 = x327.toInt := ri_self wh329
          have eh329_K_14 : ri_at h329 K 14 = (cm : Int) := (ri_ne wh329 (.inr (by decide))).trans eh328_K_14
          clear eh328_K_14
          have eh329_K_15 : ri_at h329 K 15 = x321.toInt := (ri_ne wh329 (.inr (by decide))).trans eh328_K_15
          clear eh328_K_15
          have Sh329 := zCs_wr (d := 7) (k := K) wh329 hK7 Sh328 (.inl ⟨by decide, by decide⟩)
          have Oh329 := zOT_K wh329 Oh328
          clear Oh328
          refine ex_al oq_X5_readPart_109 gL302_1 ?_
          refine ex_al oq_X5_readPart_110 gL302_0 ?_
          refine ex_al oq_X5_readPart_111 gL302_1 ?_
          obtain ⟨x330, ax330, rx330, lx330, ux330⟩ := ri_fld (k := K) (d := 7) (f := 3) Th329 hK7 rfl rfl
          try dsimp only at lx330 ux330
          refine ex_gf oq_X5_readPart_112 Th329 (k := K) (d := 7) hK7 rfl ax330 ?_
          have rx330 := (rx330.symm.trans eh329_K_3 : x330.toInt = x327.toInt)
          refine ex_ic oq_X5_readPart_115 (m := 1) (by decide) (fun x331 hx331 => ?_)
          refine ex_add oq_X5_readPart_116 (by omega) (fun x332 hx332 => ?_)
          refine ex_al oq_X5_readPart_117 gL302_1 ?_
          obtain ⟨x333, ax333, rx333, lx333, ux333⟩ := ri_fld (k := K) (d := 7) (f := 1) Th329 hK7 rfl rfl
          try dsimp only at lx333 ux333
          refine ex_gf oq_X5_readPart_118 Th329 (k := K) (d := 7) hK7 rfl ax333 ?_
          have rx333 := (rx333.symm.trans eh329_K_1 : x333.toInt = hh)
          refine ex_cv oq_X5_readPart_121 (by decide) Th329 (k := 50) (d := 5) (as := [cv_i x332, cv_i x333]) (stk := [cv_r K]) rfl rfl rfl rfl rfl rfl ⟨rfl, rfl⟩ (R := fun o => ∃ (x : Int32) (hb : cv_H), o = (some (cv_i x), hb) ∧ cw_T G hb ∧ cw_Fr cw_Ds cw_sh kk_X5_readNumber_1.2.2.2.2.2.1 h329 hb ∧ zCr t n hb x (zbd (zst z1) (zn t n x332.toInt x333.toInt))) (ct_readNumber (t := t) (n := n) (fun i => by rw [ht, ← hA _ Fh329]) (fun i hi => by rw [hB _ Fh329]; exact hwd i hi) hn9 Th329 Sh329 x332 x333 (by omega) (by omega) (fun x hb b1 b2 b3 => ⟨x, hb, rfl, b1, b2, b3⟩)) (fun o ho => ?_)
          obtain ⟨x334, h335, rfl, Th335, Ch335, dx334⟩ := ho
          show cw_X _ _ _ _ _ [cv_i x334, cv_r K] h335
          obtain ⟨z2, y2, wx334, Sh335⟩ : ∃ z, zbd (zst z1) (zn t n x332.toInt x333.toInt) = z ∧ x334.toInt = zvl z ∧ zCs t n (zst z) h335 := ⟨_, rfl, zCr_i dx334⟩
          clear dx334
          have Fh335 : cw_Fr cw_Ds cw_sh kk_X5_readPart.2.2.2.2.2.1 h0 h335 := cw_Fr_tr Fh329 (cw_Fr_mono (by decide +kernel) Ch335)
          have eh335_K_1 : ri_at h335 K 1 = hh := (ri_frf Ch335 (k := K) (d := 7) hK7 rfl (by decide +kernel)).trans eh329_K_1
          clear eh329_K_1
          have eh335_K_3 : ri_at h335 K 3 = x327.toInt := (ri_frf Ch335 (k := K) (d := 7) hK7 rfl (by decide +kernel)).trans eh329_K_3
          clear eh329_K_3
          have eh335_K_14 : ri_at h335 K 14 = (cm : Int) := (ri_frf Ch335 (k := K) (d := 7) hK7 rfl (by decide +kernel)).trans eh329_K_14
          clear eh329_K_14
          have eh335_K_15 : ri_at h335 K 15 = x321.toInt := (ri_frf Ch335 (k := K) (d := 7) hK7 rfl (by decide +kernel)).trans eh329_K_15
          clear eh329_K_15
          have Oh335 := zOT_fr Ch335 (by decide +kernel) Oh329
          clear Oh329
          have n2 := zvl_n y2
          refine ex_pfi oq_X5_readPart_124 Th335 (k := K) (d := 7) hK7 rfl rfl (by omega) (by omega) (fun h336 Th336 wh336 => ?_)
          have Fh336 : cw_Fr cw_Ds cw_sh kk_X5_readPart.2.2.2.2.2.1 h0 h336 := cw_Fr_tr Fh335 (cw_Fr_wrf wh336 (k := K) (d := 7) hK7 rfl (by decide +kernel))
          have eh336_K_1 : ri_at h336 K 1 = hh := (ri_ne wh336 (.inr (by decide))).trans eh335_K_1
          clear eh335_K_1
          have eh336_K_3 : ri_at h336 K 3 = x327.toInt := (ri_ne wh336 (.inr (by decide))).trans eh335_K_3
          clear eh335_K_3
          have eh336_K_14 : ri_at h336 K 14 = (cm : Int) := (ri_ne wh336 (.inr (by decide))).trans eh335_K_14
          clear eh335_K_14
          have eh336_K_15 : ri_at h336 K 15 = x321.toInt := (ri_ne wh336 (.inr (by decide))).trans eh335_K_15
          clear eh335_K_15
          have Sh336 := zCs_wr (d := 7) (k := K) wh336 hK7 Sh335 (.inl ⟨by decide, by decide⟩)
          have Oh336 := zOT_K wh336 Oh335
          clear Oh335
          refine ex_al oq_X5_readPart_127 gL302_1 ?_
          refine ex_al oq_X5_readPart_128 gL302_0 ?_
          refine ex_bi oq_X5_readPart_129 (m := (-30)) (by decide) (fun x337 hx337 => ?_)
          refine ex_bi oq_X5_readPart_131 (m := 30) (by decide) (fun x338 hx338 => ?_)
          refine ex_cv oq_X5_readPart_133 (by decide) Th336 (k := 50) (d := 5) (as := [cv_i x337, cv_i x338]) (stk := [cv_r K]) rfl rfl rfl rfl rfl rfl ⟨rfl, rfl⟩ (R := fun o => ∃ (x : Int32) (hb : cv_H), o = (some (cv_i x), hb) ∧ cw_T G hb ∧ cw_Fr cw_Ds cw_sh kk_X5_readNumber_1.2.2.2.2.2.1 h336 hb ∧ zCr t n hb x (zbd (zst z2) (zg t n 30))) (ct_readSigned (t := t) (n := n) (fun i => by rw [ht, ← hA _ Fh336]) (fun i hi => by rw [hB _ Fh336]; exact hwd i hi) hn9 Th336 Sh336 x337 x338 hx337 hx338 (fun x hb b1 b2 b3 => ⟨x, hb, rfl, b1, b2, b3⟩)) (fun o ho => ?_)
          obtain ⟨x339, h340, rfl, Th340, Ch340, dx339⟩ := ho
          show cw_X _ _ _ _ _ [cv_i x339, cv_r K] h340
          obtain ⟨z3, y3, wx339, Sh340⟩ : ∃ z, zbd (zst z2) (zg t n 30) = z ∧ x339.toInt = zvl z ∧ zCs t n (zst z) h340 := ⟨_, rfl, zCr_i dx339⟩
          clear dx339
          have Fh340 : cw_Fr cw_Ds cw_sh kk_X5_readPart.2.2.2.2.2.1 h0 h340 := cw_Fr_tr Fh336 (cw_Fr_mono (by decide +kernel) Ch340)
          have eh340_K_1 : ri_at h340 K 1 = hh := (ri_frf Ch340 (k := K) (d := 7) hK7 rfl (by decide +kernel)).trans eh336_K_1
          clear eh336_K_1
          have eh340_K_3 : ri_at h340 K 3 = x327.toInt := (ri_frf Ch340 (k := K) (d := 7) hK7 rfl (by decide +kernel)).trans eh336_K_3
          clear eh336_K_3
          have eh340_K_14 : ri_at h340 K 14 = (cm : Int) := (ri_frf Ch340 (k := K) (d := 7) hK7 rfl (by decide +kernel)).trans eh336_K_14
          clear eh336_K_14
          have eh340_K_15 : ri_at h340 K 15 = x321.toInt := (ri_frf Ch340 (k := K) (d := 7) hK7 rfl (by decide +kernel)).trans eh336_K_15
          clear eh336_K_15
          have Oh340 := zOT_fr Ch340 (by decide +kernel) Oh336
          clear Oh336
          refine ex_pfi oq_X5_readPart_136 Th340 (k := K) (d := 7) hK7 rfl rfl (cw_i32 _).1 (cw_i32 _).2 (fun h341 Th341 wh341 => ?_)
          have Fh341 : cw_Fr cw_Ds cw_sh kk_X5_readPart.2.2.2.2.2.1 h0 h341 := cw_Fr_tr Fh340 (cw_Fr_wrf wh341 (k := K) (d := 7) hK7 rfl (by decide +kernel))
          have eh341_K_1 : ri_at h341 K 1 = hh := (ri_ne wh341 (.inr (by decide))).trans eh340_K_1
          clear eh340_K_1
          have eh341_K_3 : ri_at h341 K 3 = x327.toInt := (ri_ne wh341 (.inr (by decide))).trans eh340_K_3
          clear eh340_K_3
          have eh341_K_14 : ri_at h341 K 14 = (cm : Int) := (ri_ne wh341 (.inr (by decide))).trans eh340_K_14
          clear eh340_K_14
          have eh341_K_15 : ri_at h341 K 15 = x321.toInt := (ri_ne wh341 (.inr (by decide))).trans eh340_K_15
          clear eh340_K_15
          have Sh341 := zCs_wr (d := 7) (k := K) wh341 hK7 Sh340 (.inl ⟨by decide, by decide⟩)
          have Oh341 := zOT_K wh341 Oh340
          clear Oh340
          refine ex_al oq_X5_readPart_139 gL302_1 ?_
          refine ex_al oq_X5_readPart_140 gL302_0 ?_
          refine ex_bi oq_X5_readPart_141 (m := (-30)) (by decide) (fun x342 hx342 => ?_)
          refine ex_bi oq_X5_readPart_143 (m := 30) (by decide) (fun x343 hx343 => ?_)
          refine ex_cv oq_X5_readPart_145 (by decide) Th341 (k := 50) (d := 5) (as := [cv_i x342, cv_i x343]) (stk := [cv_r K]) rfl rfl rfl rfl rfl rfl ⟨rfl, rfl⟩ (R := fun o => ∃ (x : Int32) (hb : cv_H), o = (some (cv_i x), hb) ∧ cw_T G hb ∧ cw_Fr cw_Ds cw_sh kk_X5_readNumber_1.2.2.2.2.2.1 h341 hb ∧ zCr t n hb x (zbd (zst z3) (zg t n 30))) (ct_readSigned (t := t) (n := n) (fun i => by rw [ht, ← hA _ Fh341]) (fun i hi => by rw [hB _ Fh341]; exact hwd i hi) hn9 Th341 Sh341 x342 x343 hx342 hx343 (fun x hb b1 b2 b3 => ⟨x, hb, rfl, b1, b2, b3⟩)) (fun o ho => ?_)
          obtain ⟨x344, h345, rfl, Th345, Ch345, dx344⟩ := ho
          show cw_X _ _ _ _ _ [cv_i x344, cv_r K] h345
          obtain ⟨z4, y4, wx344, Sh345⟩ : ∃ z, zbd (zst z3) (zg t n 30) = z ∧ x344.toInt = zvl z ∧ zCs t n (zst z) h345 := ⟨_, rfl, zCr_i dx344⟩
          clear dx344
          have Fh345 : cw_Fr cw_Ds cw_sh kk_X5_readPart.2.2.2.2.2.1 h0 h345 := cw_Fr_tr Fh341 (cw_Fr_mono (by decide +kernel) Ch345)
          have eh345_K_1 : ri_at h345 K 1 = hh := (ri_frf Ch345 (k := K) (d := 7) hK7 rfl (by decide +kernel)).trans eh341_K_1
          clear eh341_K_1
          have eh345_K_3 : ri_at h345 K 3 = x327.toInt := (ri_frf Ch345 (k := K) (d := 7) hK7 rfl (by decide +kernel)).trans eh341_K_3
          clear eh341_K_3
          have eh345_K_14 : ri_at h345 K 14 = (cm : Int) := (ri_frf Ch345 (k := K) (d := 7) hK7 rfl (by decide +kernel)).trans eh341_K_14
          clear eh341_K_14
          have eh345_K_15 : ri_at h345 K 15 = x321.toInt := (ri_frf Ch345 (k := K) (d := 7) hK7 rfl (by decide +kernel)).trans eh341_K_15
          clear eh341_K_15
          have Oh345 := zOT_fr Ch345 (by decide +kernel) Oh341
          clear Oh341
          refine ex_pfi oq_X5_readPart_148 Th345 (k := K) (d := 7) hK7 rfl rfl (cw_i32 _).1 (cw_i32 _).2 (fun h346 Th346 wh346 => ?_)
          have Fh346 : cw_Fr cw_Ds cw_sh kk_X5_readPart.2.2.2.2.2.1 h0 h346 := cw_Fr_tr Fh345 (cw_Fr_wrf wh346 (k := K) (d := 7) hK7 rfl (by decide +kernel))
          have eh346_K_1 : ri_at h346 K 1 = hh := (ri_ne wh346 (.inr (by decide))).trans eh345_K_1
          clear eh345_K_1
          have eh346_K_3 : ri_at h346 K 3 = x327.toInt := (ri_ne wh346 (.inr (by decide))).trans eh345_K_3
          clear eh345_K_3
          have eh346_K_14 : ri_at h346 K 14 = (cm : Int) := (ri_ne wh346 (.inr (by decide))).trans eh345_K_14
          clear eh345_K_14
          have eh346_K_15 : ri_at h346 K 15 = x321.toInt := (ri_ne wh346 (.inr (by decide))).trans eh345_K_15
          clear eh345_K_15
          have Sh346 := zCs_wr (d := 7) (k := K) wh346 hK7 Sh345 (.inl ⟨by decide, by decide⟩)
          have Oh346 := zOT_K wh346 Oh345
          clear Oh345
          refine ex_go oq_X5_readPart_151 (t := 284) rfl rfl ?_
          rw [rx326] at y1
          rw [show x332.toInt = zvl z1 + 1 from by omega, rx333] at y2
          have fin : zst (zpt t n hh cn m cm p) = (zst z4) ∧ ∀ v q, zpt t n hh cn m cm p = .inr (v, q) → v = cm := by
            unfold zpt zhs
            rw [if_neg (fun e => hbz e.2), if_pos (by omega)]
            unfold zhk
            rw [y1]
            rcases z1 with e1 | ⟨v1, q1⟩
            · subst y2; subst y3; subst y4; exact ⟨rfl, fun v q h => by first | (cases h; done) | trivial⟩
            · rw [zb2_r rfl]
              replace y2 := (show zn t n (v1 + 1) hh q1 = z2 from y2)
              rw [y2]
              rcases z2 with e2 | ⟨v2, q2⟩
              · subst y3; subst y4; exact ⟨rfl, fun v q h => by first | (cases h; done) | trivial⟩
              · rw [zb2_r rfl]
                replace y3 := zbd_s y3
                rw [y3]
                rcases z3 with e3 | ⟨v3, q3⟩
                · subst y4; exact ⟨rfl, fun v q h => by first | (cases h; done) | trivial⟩
                · rw [zb2_r rfl]
                  replace y4 := zbd_s y4
                  rw [y4]
                  rcases z4 with e4 | ⟨v4, q4⟩
                  · exact ⟨rfl, fun v q h => by first | (cases h; done) | trivial⟩
                  · rw [zb2_r rfl]
                    exact ⟨rfl, fun v q h => by first | (cases h; done) | (cases h; rfl) | trivial⟩
          exact ex_retv oq_X5_readPart_284 rfl (hQ h346 Th346 Fh346 Oh346 ⟨by rw [fin.1]; exact Sh346, fun v q h => ⟨by rw [fin.2 v q h]; exact hcm, by rw [fin.2 v q h]; exact eh346_K_14, eh346_K_15.trans hor, eh346_K_1⟩⟩)
        | 1, _, c324 =>
          refine ⟨rfl, ?_⟩
          show cw_X _ _ _ 154 _ _ _
          have hW1 : (zhw (zk t n p) (zw t n p)) = 1 := by omega
          refine ex_al oq_X5_readPart_154 gL302_1 ?_
          refine ex_al oq_X5_readPart_155 gL302_0 ?_
          refine ex_bi oq_X5_readPart_156 (m := 12) (by decide) (fun x347 hx347 => ?_)
          refine ex_bi oq_X5_readPart_158 (m := 60) (by decide) (fun x348 hx348 => ?_)
          refine ex_cv oq_X5_readPart_160 (by decide) Th323 (k := 50) (d := 5) (as := [cv_i x347, cv_i x348]) (stk := [cv_r K]) rfl rfl rfl rfl rfl rfl ⟨rfl, rfl⟩ (R := fun o => ∃ (x : Int32) (hb : cv_H), o = (some (cv_i x), hb) ∧ cw_T G hb ∧ cw_Fr cw_Ds cw_sh kk_X5_readNumber_1.2.2.2.2.2.1 h323 hb ∧ zCr t n hb x (zbd (.inr (zx t n p)) (zn t n x347.toInt x348.toInt))) (ct_readNumber (t := t) (n := n) (fun i => by rw [ht, ← hA _ Fh323]) (fun i hi => by rw [hB _ Fh323]; exact hwd i hi) hn9 Th323 Sh323 x347 x348 (by omega) (by omega) (fun x hb b1 b2 b3 => ⟨x, hb, rfl, b1, b2, b3⟩)) (fun o ho => ?_)
          obtain ⟨x349, h350, rfl, Th350, Ch350, dx349⟩ := ho
          show cw_X _ _ _ _ _ [cv_i x349, cv_r K] h350
          obtain ⟨z5, y5, wx349, Sh350⟩ : ∃ z, (zn t n x347.toInt x348.toInt) (zx t n p) = z ∧ x349.toInt = zvl z ∧ zCs t n (zst z) h350 := ⟨_, rfl, zCr_i dx349⟩
          clear dx349
          have Fh350 : cw_Fr cw_Ds cw_sh kk_X5_readPart.2.2.2.2.2.1 h0 h350 := cw_Fr_tr Fh323 (cw_Fr_mono (by decide +kernel) Ch350)
          have eh350_K_1 : ri_at h350 K 1 = hh := (ri_frf Ch350 (k := K) (d := 7) hK7 rfl (by decide +kernel)).trans eh323_K_1
          clear eh323_K_1
          have eh350_K_3 : ri_at h350 K 3 = ri_at h0 K 3 := (ri_frf Ch350 (k := K) (d := 7) hK7 rfl (by decide +kernel)).trans eh323_K_3
          clear eh323_K_3
          have eh350_K_14 : ri_at h350 K 14 = (cm : Int) := (ri_frf Ch350 (k := K) (d := 7) hK7 rfl (by decide +kernel)).trans eh323_K_14
          clear eh323_K_14
          have eh350_K_15 : ri_at h350 K 15 = x321.toInt := (ri_frf Ch350 (k := K) (d := 7) hK7 rfl (by decide +kernel)).trans eh323_K_15
          clear eh323_K_15
          have Oh350 := zOT_fr Ch350 (by decide +kernel) Oh323
          clear Oh323
          have n5 := zvl_m y5
          rw [hx347] at y5 n5
          rw [hx348] at y5 n5
          refine ex_pfi oq_X5_readPart_163 Th350 (k := K) (d := 7) hK7 rfl rfl (cw_i32 _).1 (cw_i32 _).2 (fun h351 Th351 wh351 => ?_)
          have Fh351 : cw_Fr cw_Ds cw_sh kk_X5_readPart.2.2.2.2.2.1 h0 h351 := cw_Fr_tr Fh350 (cw_Fr_wrf wh351 (k := K) (d := 7) hK7 rfl (by decide +kernel))
          have eh351_K_1 : ri_at h351 K 1 = hh := (ri_ne wh351 (.inr (by decide))).trans eh350_K_1
          clear eh350_K_1
          have eh351_K_3 : ri_at h351 K 3 = ri_at h0 K 3 := (ri_ne wh351 (.inr (by decide))).trans eh350_K_3
          clear eh350_K_3
          have eh351_K_14 : ri_at h351 K 14 = (cm : Int) := (ri_ne wh351 (.inr (by decide))).trans eh350_K_14
          clear eh350_K_14
          have eh351_K_15 : ri_at h351 K 15 = x321.toInt := (ri_ne wh351 (.inr (by decide))).trans eh350_K_15
          clear eh350_K_15
          have Sh351 := zCs_wr (d := 7) (k := K) wh351 hK7 Sh350 (.inl ⟨by decide, by decide⟩)
          have Oh351 := zOT_K wh351 Oh350
          clear Oh350
          refine ex_al oq_X5_readPart_166 gL302_1 ?_
          refine ex_al oq_X5_readPart_167 gL302_0 ?_
          refine ex_ic oq_X5_readPart_168 (m := 3) (by decide) (fun x352 hx352 => ?_)
          refine ex_bi oq_X5_readPart_169 (m := 14) (by decide) (fun x353 hx353 => ?_)
          refine ex_cv oq_X5_readPart_171 (by decide) Th351 (k := 50) (d := 5) (as := [cv_i x352, cv_i x353]) (stk := [cv_r K]) rfl rfl rfl rfl rfl rfl ⟨rfl, rfl⟩ (R := fun o => ∃ (x : Int32) (hb : cv_H), o = (some (cv_i x), hb) ∧ cw_T G hb ∧ cw_Fr cw_Ds cw_sh kk_X5_readNumber_1.2.2.2.2.2.1 h351 hb ∧ zCr t n hb x (zbd (zst z5) (zn t n x352.toInt x353.toInt))) (ct_readNumber (t := t) (n := n) (fun i => by rw [ht, ← hA _ Fh351]) (fun i hi => by rw [hB _ Fh351]; exact hwd i hi) hn9 Th351 Sh351 x352 x353 (by omega) (by omega) (fun x hb b1 b2 b3 => ⟨x, hb, rfl, b1, b2, b3⟩)) (fun o ho => ?_)
          obtain ⟨x354, h355, rfl, Th355, Ch355, dx354⟩ := ho
          show cw_X _ _ _ _ _ [cv_i x354, cv_r K] h355
          obtain ⟨z6, y6, wx354, Sh355⟩ : ∃ z, zbd (zst z5) (zn t n x352.toInt x353.toInt) = z ∧ x354.toInt = zvl z ∧ zCs t n (zst z) h355 := ⟨_, rfl, zCr_i dx354⟩
          clear dx354
          have Fh355 : cw_Fr cw_Ds cw_sh kk_X5_readPart.2.2.2.2.2.1 h0 h355 := cw_Fr_tr Fh351 (cw_Fr_mono (by decide +kernel) Ch355)
          have eh355_K_1 : ri_at h355 K 1 = hh := (ri_frf Ch355 (k := K) (d := 7) hK7 rfl (by decide +kernel)).trans eh351_K_1
          clear eh351_K_1
          have eh355_K_3 : ri_at h355 K 3 = ri_at h0 K 3 := (ri_frf Ch355 (k := K) (d := 7) hK7 rfl (by decide +kernel)).trans eh351_K_3
          clear eh351_K_3
          have eh355_K_14 : ri_at h355 K 14 = (cm : Int) := (ri_frf Ch355 (k := K) (d := 7) hK7 rfl (by decide +kernel)).trans eh351_K_14
          clear eh351_K_14
          have eh355_K_15 : ri_at h355 K 15 = x321.toInt := (ri_frf Ch355 (k := K) (d := 7) hK7 rfl (by decide +kernel)).trans eh351_K_15
          clear eh351_K_15
          have Oh355 := zOT_fr Ch355 (by decide +kernel) Oh351
          clear Oh351
          have n6 := zvl_n y6
          rw [hx352] at y6 n6
          rw [hx353] at y6 n6
          refine ex_pfi oq_X5_readPart_174 Th355 (k := K) (d := 7) hK7 rfl rfl (cw_i32 _).1 (cw_i32 _).2 (fun h356 Th356 wh356 => ?_)
          have Fh356 : cw_Fr cw_Ds cw_sh kk_X5_readPart.2.2.2.2.2.1 h0 h356 := cw_Fr_tr Fh355 (cw_Fr_wrf wh356 (k := K) (d := 7) hK7 rfl (by decide +kernel))
          have eh356_K_1 : ri_at h356 K 1 = hh := (ri_ne wh356 (.inr (by decide))).trans eh355_K_1
          clear eh355_K_1
          have eh356_K_3 : ri_at h356 K 3 = ri_at h0 K 3 := (ri_ne wh356 (.inr (by decide))).trans eh355_K_3
          clear eh355_K_3
          have eh356_K_14 : ri_at h356 K 14 = (cm : Int) := (ri_ne wh356 (.inr (by decide))).trans eh355_K_14
          clear eh355_K_14
          have eh356_K_15 : ri_at h356 K 15 = x321.toInt := (ri_ne wh356 (.inr (by decide))).trans eh355_K_15
          clear eh355_K_15
          have Sh356 := zCs_wr (d := 7) (k := K) wh356 hK7 Sh355 (.inl ⟨by decide, by decide⟩)
          have Oh356 := zOT_K wh356 Oh355
          clear Oh355
          refine ex_go oq_X5_readPart_177 (t := 284) rfl rfl ?_
          have fin : zst (zpt t n hh cn m cm p) = (zst z6) ∧ ∀ v q, zpt t n hh cn m cm p = .inr (v, q) → v = cm := by
            unfold zpt zhs
            rw [if_neg (fun e => hbz e.2), if_neg (by omega), if_pos (by omega)]
            simp only [zns_b, zns_b0]
            rw [y5]
            rcases z5 with e5 | ⟨v5, q5⟩
            · subst y6; exact ⟨rfl, fun v q h => by first | (cases h; done) | trivial⟩
            · rw [zb2_r rfl]
              replace y6 := zbd_s y6
              rw [y6]
              rcases z6 with e6 | ⟨v6, q6⟩
              · exact ⟨rfl, fun v q h => by first | (cases h; done) | trivial⟩
              · rw [zb2_r rfl]
                exact ⟨rfl, fun v q h => by first | (cases h; done) | (cases h; rfl) | trivial⟩
          exact ex_retv oq_X5_readPart_284 rfl (hQ h356 Th356 Fh356 Oh356 ⟨by rw [fin.1]; exact Sh356, fun v q h => ⟨by rw [fin.2 v q h]; exact hcm, by rw [fin.2 v q h]; exact eh356_K_14, eh356_K_15.trans hor, eh356_K_1⟩⟩)
        | 2, _, c324 =>
          refine ⟨rfl, ?_⟩
          show cw_X _ _ _ 180 _ _ _
          have hW2 : (zhw (zk t n p) (zw t n p)) = 2 := by omega
          refine ex_al oq_X5_readPart_180 gL302_0 ?_
          refine ex_al oq_X5_readPart_181 gL302_1 ?_
          refine ex_cv oq_X5_readPart_182 (by decide) Th323 (k := 50) (d := 5) (as := [cv_r K]) (stk := []) rfl rfl rfl rfl rfl rfl ⟨rfl, rfl⟩ (R := fun o => ∃ hb : cv_H, o = (none, hb) ∧ cw_T G hb ∧ cw_Fr cw_Ds cw_sh kk_X5_readBrace.2.2.2.2.2.1 h323 hb ∧ zCs t n (if zk t n (zx t n p) = 1 ∧ (zw t n (zx t n p) = 28 ∨ zw t n (zx t n p) = 29) then .inr (zx t n (zx t n p)) else .inl (1, za t n (zx t n p))) hb) (ct_readBrace (t := t) (n := n) (fun i => by rw [ht, ← hA _ Fh323]) (fun i hi => by rw [hB _ Fh323]; exact hwd i hi) hn9 Th323 hK7 Sh323 (fun hb b1 b2 b3 => ⟨hb, rfl, b1, b2, b3⟩)) (fun o ho => ?_)
          obtain ⟨h357, rfl, Th357, Ch357, Sh357⟩ := ho
          show cw_X _ _ _ _ _ [] h357
          have Fh357 : cw_Fr cw_Ds cw_sh kk_X5_readPart.2.2.2.2.2.1 h0 h357 := cw_Fr_tr Fh323 (cw_Fr_mono (by decide +kernel) Ch357)
          have eh357_K_1 : ri_at h357 K 1 = hh := (ri_frf Ch357 (k := K) (d := 7) hK7 rfl (by decide +kernel)).trans eh323_K_1
          clear eh323_K_1
          have eh357_K_3 : ri_at h357 K 3 = ri_at h0 K 3 := (ri_frf Ch357 (k := K) (d := 7) hK7 rfl (by decide +kernel)).trans eh323_K_3
          clear eh323_K_3
          have eh357_K_14 : ri_at h357 K 14 = (cm : Int) := (ri_frf Ch357 (k := K) (d := 7) hK7 rfl (by decide +kernel)).trans eh323_K_14
          clear eh323_K_14
          have eh357_K_15 : ri_at h357 K 15 = x321.toInt := (ri_frf Ch357 (k := K) (d := 7) hK7 rfl (by decide +kernel)).trans eh323_K_15
          clear eh323_K_15
          have Oh357 := zOT_fr Ch357 (by decide +kernel) Oh323
          clear Oh323
          refine ex_go oq_X5_readPart_185 (t := 284) rfl rfl ?_
          have fin : zst (zpt t n hh cn m cm p) = (if zk t n (zx t n p) = 1 ∧ (zw t n (zx t n p) = 28 ∨ zw t n (zx t n p) = 29) then .inr (zx t n (zx t n p)) else .inl (1, za t n (zx t n p))) ∧ ∀ v q, zpt t n hh cn m cm p = .inr (v, q) → v = cm := by
            unfold zpt zhs
            rw [if_neg (fun e => hbz e.2), if_neg (by omega), if_neg (by omega), if_pos (by omega)]
            split
            · exact ⟨rfl, fun v q h => by cases h; rfl⟩
            · exact ⟨rfl, fun v q h => by cases h⟩
          exact ex_retv oq_X5_readPart_284 rfl (hQ h357 Th357 Fh357 Oh357 ⟨by rw [fin.1]; exact Sh357, fun v q h => ⟨by rw [fin.2 v q h]; exact hcm, by rw [fin.2 v q h]; exact eh357_K_14, eh357_K_15.trans hor, eh357_K_1⟩⟩)
        | 3, _, c324 =>
          refine ⟨rfl, ?_⟩
          show cw_X _ _ _ 188 _ _ _
          have hW3 : (zhw (zk t n p) (zw t n p)) = 3 := by omega
          refine ex_al oq_X5_readPart_188 gL302_1 ?_
          refine ex_al oq_X5_readPart_189 gL302_0 ?_
          refine ex_ic oq_X5_readPart_190 (m := 0) (by decide) (fun x358 hx358 => ?_)
          refine ex_si oq_X5_readPart_191 (m := 9999) (by decide) (fun x359 hx359 => ?_)
          refine ex_cv oq_X5_readPart_194 (by decide) Th323 (k := 50) (d := 5) (as := [cv_i x358, cv_i x359]) (stk := [cv_r K]) rfl rfl rfl rfl rfl rfl ⟨rfl, rfl⟩ (R := fun o => ∃ (x : Int32) (hb : cv_H), o = (some (cv_i x), hb) ∧ cw_T G hb ∧ cw_Fr cw_Ds cw_sh kk_X5_readNumber_1.2.2.2.2.2.1 h323 hb ∧ zCr t n hb x (zbd (.inr (zx t n p)) (zn t n x358.toInt x359.toInt))) (ct_readNumber (t := t) (n := n) (fun i => by rw [ht, ← hA _ Fh323]) (fun i hi => by rw [hB _ Fh323]; exact hwd i hi) hn9 Th323 Sh323 x358 x359 (by omega) (by omega) (fun x hb b1 b2 b3 => ⟨x, hb, rfl, b1, b2, b3⟩)) (fun o ho => ?_)
          obtain ⟨x360, h361, rfl, Th361, Ch361, dx360⟩ := ho
          show cw_X _ _ _ _ _ [cv_i x360, cv_r K] h361
          obtain ⟨z7, y7, wx360, Sh361⟩ : ∃ z, (zn t n x358.toInt x359.toInt) (zx t n p) = z ∧ x360.toInt = zvl z ∧ zCs t n (zst z) h361 := ⟨_, rfl, zCr_i dx360⟩
          clear dx360
          have Fh361 : cw_Fr cw_Ds cw_sh kk_X5_readPart.2.2.2.2.2.1 h0 h361 := cw_Fr_tr Fh323 (cw_Fr_mono (by decide +kernel) Ch361)
          have eh361_K_1 : ri_at h361 K 1 = hh := (ri_frf Ch361 (k := K) (d := 7) hK7 rfl (by decide +kernel)).trans eh323_K_1
          clear eh323_K_1
          have eh361_K_3 : ri_at h361 K 3 = ri_at h0 K 3 := (ri_frf Ch361 (k := K) (d := 7) hK7 rfl (by decide +kernel)).trans eh323_K_3
          clear eh323_K_3
          have eh361_K_14 : ri_at h361 K 14 = (cm : Int) := (ri_frf Ch361 (k := K) (d := 7) hK7 rfl (by decide +kernel)).trans eh323_K_14
          clear eh323_K_14
          have eh361_K_15 : ri_at h361 K 15 = x321.toInt := (ri_frf Ch361 (k := K) (d := 7) hK7 rfl (by decide +kernel)).trans eh323_K_15
          clear eh323_K_15
          have Oh361 := zOT_fr Ch361 (by decide +kernel) Oh323
          clear Oh323
          have n7 := zvl_m y7
          rw [hx358] at y7 n7
          rw [hx359] at y7 n7
          refine ex_pfi oq_X5_readPart_197 Th361 (k := K) (d := 7) hK7 rfl rfl (cw_i32 _).1 (cw_i32 _).2 (fun h362 Th362 wh362 => ?_)
          have Fh362 : cw_Fr cw_Ds cw_sh kk_X5_readPart.2.2.2.2.2.1 h0 h362 := cw_Fr_tr Fh361 (cw_Fr_wrf wh362 (k := K) (d := 7) hK7 rfl (by decide +kernel))
          have eh362_K_1 : ri_at h362 K 1 = hh := (ri_ne wh362 (.inr (by decide))).trans eh361_K_1
          clear eh361_K_1
          have eh362_K_3 : ri_at h362 K 3 = ri_at h0 K 3 := (ri_ne wh362 (.inr (by decide))).trans eh361_K_3
          clear eh361_K_3
          have eh362_K_14 : ri_at h362 K 14 = (cm : Int) := (ri_ne wh362 (.inr (by decide))).trans eh361_K_14
          clear eh361_K_14
          have eh362_K_15 : ri_at h362 K 15 = x321.toInt := (ri_ne wh362 (.inr (by decide))).trans eh361_K_15
          clear eh361_K_15
          have Sh362 := zCs_wr (d := 7) (k := K) wh362 hK7 Sh361 (.inl ⟨by decide, by decide⟩)
          have Oh362 := zOT_K wh362 Oh361
          clear Oh361
          refine ex_al oq_X5_readPart_200 gL302_1 ?_
          refine ex_al oq_X5_readPart_201 gL302_0 ?_
          refine ex_ic oq_X5_readPart_202 (m := 0) (by decide) (fun x363 hx363 => ?_)
          refine ex_si oq_X5_readPart_203 (m := 9999) (by decide) (fun x364 hx364 => ?_)
          refine ex_cv oq_X5_readPart_206 (by decide) Th362 (k := 50) (d := 5) (as := [cv_i x363, cv_i x364]) (stk := [cv_r K]) rfl rfl rfl rfl rfl rfl ⟨rfl, rfl⟩ (R := fun o => ∃ (x : Int32) (hb : cv_H), o = (some (cv_i x), hb) ∧ cw_T G hb ∧ cw_Fr cw_Ds cw_sh kk_X5_readNumber_1.2.2.2.2.2.1 h362 hb ∧ zCr t n hb x (zbd (zst z7) (zn t n x363.toInt x364.toInt))) (ct_readNumber (t := t) (n := n) (fun i => by rw [ht, ← hA _ Fh362]) (fun i hi => by rw [hB _ Fh362]; exact hwd i hi) hn9 Th362 Sh362 x363 x364 (by omega) (by omega) (fun x hb b1 b2 b3 => ⟨x, hb, rfl, b1, b2, b3⟩)) (fun o ho => ?_)
          obtain ⟨x365, h366, rfl, Th366, Ch366, dx365⟩ := ho
          show cw_X _ _ _ _ _ [cv_i x365, cv_r K] h366
          obtain ⟨z8, y8, wx365, Sh366⟩ : ∃ z, zbd (zst z7) (zn t n x363.toInt x364.toInt) = z ∧ x365.toInt = zvl z ∧ zCs t n (zst z) h366 := ⟨_, rfl, zCr_i dx365⟩
          clear dx365
          have Fh366 : cw_Fr cw_Ds cw_sh kk_X5_readPart.2.2.2.2.2.1 h0 h366 := cw_Fr_tr Fh362 (cw_Fr_mono (by decide +kernel) Ch366)
          have eh366_K_1 : ri_at h366 K 1 = hh := (ri_frf Ch366 (k := K) (d := 7) hK7 rfl (by decide +kernel)).trans eh362_K_1
          clear eh362_K_1
          have eh366_K_3 : ri_at h366 K 3 = ri_at h0 K 3 := (ri_frf Ch366 (k := K) (d := 7) hK7 rfl (by decide +kernel)).trans eh362_K_3
          clear eh362_K_3
          have eh366_K_14 : ri_at h366 K 14 = (cm : Int) := (ri_frf Ch366 (k := K) (d := 7) hK7 rfl (by decide +kernel)).trans eh362_K_14
          clear eh362_K_14
          have eh366_K_15 : ri_at h366 K 15 = x321.toInt := (ri_frf Ch366 (k := K) (d := 7) hK7 rfl (by decide +kernel)).trans eh362_K_15
          clear eh362_K_15
          have Oh366 := zOT_fr Ch366 (by decide +kernel) Oh362
          clear Oh362
          have n8 := zvl_n y8
          rw [hx363] at y8 n8
          rw [hx364] at y8 n8
          refine ex_pfi oq_X5_readPart_209 Th366 (k := K) (d := 7) hK7 rfl rfl (cw_i32 _).1 (cw_i32 _).2 (fun h367 Th367 wh367 => ?_)
          have Fh367 : cw_Fr cw_Ds cw_sh kk_X5_readPart.2.2.2.2.2.1 h0 h367 := cw_Fr_tr Fh366 (cw_Fr_wrf wh367 (k := K) (d := 7) hK7 rfl (by decide +kernel))
          have eh367_K_1 : ri_at h367 K 1 = hh := (ri_ne wh367 (.inr (by decide))).trans eh366_K_1
          clear eh366_K_1
          have eh367_K_3 : ri_at h367 K 3 = ri_at h0 K 3 := (ri_ne wh367 (.inr (by decide))).trans eh366_K_3
          clear eh366_K_3
          have eh367_K_14 : ri_at h367 K 14 = (cm : Int) := (ri_ne wh367 (.inr (by decide))).trans eh366_K_14
          clear eh366_K_14
          have eh367_K_15 : ri_at h367 K 15 = x321.toInt := (ri_ne wh367 (.inr (by decide))).trans eh366_K_15
          clear eh366_K_15
          have Sh367 := zCs_wr (d := 7) (k := K) wh367 hK7 Sh366 (.inl ⟨by decide, by decide⟩)
          have Oh367 := zOT_K wh367 Oh366
          clear Oh366
          refine ex_go oq_X5_readPart_212 (t := 284) rfl rfl ?_
          have fin : zst (zpt t n hh cn m cm p) = (zst z8) ∧ ∀ v q, zpt t n hh cn m cm p = .inr (v, q) → v = cm := by
            unfold zpt zhs
            rw [if_neg (fun e => hbz e.2), if_neg (by omega), if_neg (by omega), if_neg (by omega), if_pos (by omega)]
            simp only [zns_b, zns_b0]
            rw [y7]
            rcases z7 with e7 | ⟨v7, q7⟩
            · subst y8; exact ⟨rfl, fun v q h => by first | (cases h; done) | trivial⟩
            · rw [zb2_r rfl]
              replace y8 := zbd_s y8
              rw [y8]
              rcases z8 with e8 | ⟨v8, q8⟩
              · exact ⟨rfl, fun v q h => by first | (cases h; done) | trivial⟩
              · rw [zb2_r rfl]
                exact ⟨rfl, fun v q h => by first | (cases h; done) | (cases h; rfl) | trivial⟩
          exact ex_retv oq_X5_readPart_284 rfl (hQ h367 Th367 Fh367 Oh367 ⟨by rw [fin.1]; exact Sh367, fun v q h => ⟨by rw [fin.2 v q h]; exact hcm, by rw [fin.2 v q h]; exact eh367_K_14, eh367_K_15.trans hor, eh367_K_1⟩⟩)
        | 4, _, c324 =>
          refine ⟨rfl, ?_⟩
          show cw_X _ _ _ 215 _ _ _
          have hW4 : (zhw (zk t n p) (zw t n p)) = 7 := by omega
          refine ex_al oq_X5_readPart_215 gL302_1 ?_
          refine ex_al oq_X5_readPart_216 gL302_0 ?_
          refine ex_ic oq_X5_readPart_217 (m := 0) (by decide) (fun x368 hx368 => ?_)
          refine ex_si oq_X5_readPart_218 (m := 200) (by decide) (fun x369 hx369 => ?_)
          refine ex_cv oq_X5_readPart_221 (by decide) Th323 (k := 50) (d := 5) (as := [cv_i x368, cv_i x369]) (stk := [cv_r K]) rfl rfl rfl rfl rfl rfl ⟨rfl, rfl⟩ (R := fun o => ∃ (x : Int32) (hb : cv_H), o = (some (cv_i x), hb) ∧ cw_T G hb ∧ cw_Fr cw_Ds cw_sh kk_X5_readNumber_1.2.2.2.2.2.1 h323 hb ∧ zCr t n hb x (zbd (.inr (zx t n p)) (zn t n x368.toInt x369.toInt))) (ct_readNumber (t := t) (n := n) (fun i => by rw [ht, ← hA _ Fh323]) (fun i hi => by rw [hB _ Fh323]; exact hwd i hi) hn9 Th323 Sh323 x368 x369 (by omega) (by omega) (fun x hb b1 b2 b3 => ⟨x, hb, rfl, b1, b2, b3⟩)) (fun o ho => ?_)
          obtain ⟨x370, h371, rfl, Th371, Ch371, dx370⟩ := ho
          show cw_X _ _ _ _ _ [cv_i x370, cv_r K] h371
          obtain ⟨z9, y9, wx370, Sh371⟩ : ∃ z, (zn t n x368.toInt x369.toInt) (zx t n p) = z ∧ x370.toInt = zvl z ∧ zCs t n (zst z) h371 := ⟨_, rfl, zCr_i dx370⟩
          clear dx370
          have Fh371 : cw_Fr cw_Ds cw_sh kk_X5_readPart.2.2.2.2.2.1 h0 h371 := cw_Fr_tr Fh323 (cw_Fr_mono (by decide +kernel) Ch371)
          have eh371_K_1 : ri_at h371 K 1 = hh := (ri_frf Ch371 (k := K) (d := 7) hK7 rfl (by decide +kernel)).trans eh323_K_1
          clear eh323_K_1
          have eh371_K_3 : ri_at h371 K 3 = ri_at h0 K 3 := (ri_frf Ch371 (k := K) (d := 7) hK7 rfl (by decide +kernel)).trans eh323_K_3
          clear eh323_K_3
          have eh371_K_14 : ri_at h371 K 14 = (cm : Int) := (ri_frf Ch371 (k := K) (d := 7) hK7 rfl (by decide +kernel)).trans eh323_K_14
          clear eh323_K_14
          have eh371_K_15 : ri_at h371 K 15 = x321.toInt := (ri_frf Ch371 (k := K) (d := 7) hK7 rfl (by decide +kernel)).trans eh323_K_15
          clear eh323_K_15
          have Oh371 := zOT_fr Ch371 (by decide +kernel) Oh323
          clear Oh323
          have n9 := zvl_m y9
          rw [hx368] at y9 n9
          rw [hx369] at y9 n9
          refine ex_pfi oq_X5_readPart_224 Th371 (k := K) (d := 7) hK7 rfl rfl (cw_i32 _).1 (cw_i32 _).2 (fun h372 Th372 wh372 => ?_)
          have Fh372 : cw_Fr cw_Ds cw_sh kk_X5_readPart.2.2.2.2.2.1 h0 h372 := cw_Fr_tr Fh371 (cw_Fr_wrf wh372 (k := K) (d := 7) hK7 rfl (by decide +kernel))
          have eh372_K_1 : ri_at h372 K 1 = hh := (ri_ne wh372 (.inr (by decide))).trans eh371_K_1
          clear eh371_K_1
          have eh372_K_3 : ri_at h372 K 3 = ri_at h0 K 3 := (ri_ne wh372 (.inr (by decide))).trans eh371_K_3
          clear eh371_K_3
          have eh372_K_14 : ri_at h372 K 14 = (cm : Int) := (ri_ne wh372 (.inr (by decide))).trans eh371_K_14
          clear eh371_K_14
          have eh372_K_15 : ri_at h372 K 15 = x321.toInt := (ri_ne wh372 (.inr (by decide))).trans eh371_K_15
          clear eh371_K_15
          have Sh372 := zCs_wr (d := 7) (k := K) wh372 hK7 Sh371 (.inl ⟨by decide, by decide⟩)
          have Oh372 := zOT_K wh372 Oh371
          clear Oh371
          refine ex_go oq_X5_readPart_227 (t := 284) rfl rfl ?_
          have fin : zst (zpt t n hh cn m cm p) = (zst z9) ∧ ∀ v q, zpt t n hh cn m cm p = .inr (v, q) → v = cm := by
            unfold zpt zhs
            rw [if_neg (fun e => hbz e.2), if_neg (by omega), if_neg (by omega), if_neg (by omega), if_neg (by omega), if_neg (by omega), if_neg (by omega), if_neg (by omega)]
            simp only [zns_b, zns_b0]
            rw [y9]
            rcases z9 with e9 | ⟨v9, q9⟩
            · exact ⟨rfl, fun v q h => by first | (cases h; done) | trivial⟩
            · rw [zb2_r rfl]
              exact ⟨rfl, fun v q h => by first | (cases h; done) | (cases h; rfl) | trivial⟩
          exact ex_retv oq_X5_readPart_284 rfl (hQ h372 Th372 Fh372 Oh372 ⟨by rw [fin.1]; exact Sh372, fun v q h => ⟨by rw [fin.2 v q h]; exact hcm, by rw [fin.2 v q h]; exact eh372_K_14, eh372_K_15.trans hor, eh372_K_1⟩⟩)
        | 5, _, c324 =>
          refine ⟨rfl, ?_⟩
          show cw_X _ _ _ 230 _ _ _
          have hW5 : (zhw (zk t n p) (zw t n p)) = 4 := by omega
          refine ex_al oq_X5_readPart_230 gL302_1 ?_
          refine ex_al oq_X5_readPart_231 gL302_0 ?_
          refine ex_ic oq_X5_readPart_232 (m := 0) (by decide) (fun x373 hx373 => ?_)
          refine ex_si oq_X5_readPart_233 (m := 9999) (by decide) (fun x374 hx374 => ?_)
          refine ex_cv oq_X5_readPart_236 (by decide) Th323 (k := 50) (d := 5) (as := [cv_i x373, cv_i x374]) (stk := [cv_r K]) rfl rfl rfl rfl rfl rfl ⟨rfl, rfl⟩ (R := fun o => ∃ (x : Int32) (hb : cv_H), o = (some (cv_i x), hb) ∧ cw_T G hb ∧ cw_Fr cw_Ds cw_sh kk_X5_readNumber_1.2.2.2.2.2.1 h323 hb ∧ zCr t n hb x (zbd (.inr (zx t n p)) (zn t n x373.toInt x374.toInt))) (ct_readNumber (t := t) (n := n) (fun i => by rw [ht, ← hA _ Fh323]) (fun i hi => by rw [hB _ Fh323]; exact hwd i hi) hn9 Th323 Sh323 x373 x374 (by omega) (by omega) (fun x hb b1 b2 b3 => ⟨x, hb, rfl, b1, b2, b3⟩)) (fun o ho => ?_)
          obtain ⟨x375, h376, rfl, Th376, Ch376, dx375⟩ := ho
          show cw_X _ _ _ _ _ [cv_i x375, cv_r K] h376
          obtain ⟨z10, y10, wx375, Sh376⟩ : ∃ z, (zn t n x373.toInt x374.toInt) (zx t n p) = z ∧ x375.toInt = zvl z ∧ zCs t n (zst z) h376 := ⟨_, rfl, zCr_i dx375⟩
          clear dx375
          have Fh376 : cw_Fr cw_Ds cw_sh kk_X5_readPart.2.2.2.2.2.1 h0 h376 := cw_Fr_tr Fh323 (cw_Fr_mono (by decide +kernel) Ch376)
          have eh376_K_1 : ri_at h376 K 1 = hh := (ri_frf Ch376 (k := K) (d := 7) hK7 rfl (by decide +kernel)).trans eh323_K_1
          clear eh323_K_1
          have eh376_K_3 : ri_at h376 K 3 = ri_at h0 K 3 := (ri_frf Ch376 (k := K) (d := 7) hK7 rfl (by decide +kernel)).trans eh323_K_3
          clear eh323_K_3
          have eh376_K_14 : ri_at h376 K 14 = (cm : Int) := (ri_frf Ch376 (k := K) (d := 7) hK7 rfl (by decide +kernel)).trans eh323_K_14
          clear eh323_K_14
          have eh376_K_15 : ri_at h376 K 15 = x321.toInt := (ri_frf Ch376 (k := K) (d := 7) hK7 rfl (by decide +kernel)).trans eh323_K_15
          clear eh323_K_15
          have Oh376 := zOT_fr Ch376 (by decide +kernel) Oh323
          clear Oh323
          have n10 := zvl_m y10
          rw [hx373] at y10 n10
          rw [hx374] at y10 n10
          refine ex_pfi oq_X5_readPart_239 Th376 (k := K) (d := 7) hK7 rfl rfl (cw_i32 _).1 (cw_i32 _).2 (fun h377 Th377 wh377 => ?_)
          have Fh377 : cw_Fr cw_Ds cw_sh kk_X5_readPart.2.2.2.2.2.1 h0 h377 := cw_Fr_tr Fh376 (cw_Fr_wrf wh377 (k := K) (d := 7) hK7 rfl (by decide +kernel))
          have eh377_K_1 : ri_at h377 K 1 = hh := (ri_ne wh377 (.inr (by decide))).trans eh376_K_1
          clear eh376_K_1
          have eh377_K_3 : ri_at h377 K 3 = ri_at h0 K 3 := (ri_ne wh377 (.inr (by decide))).trans eh376_K_3
          clear eh376_K_3
          have eh377_K_14 : ri_at h377 K 14 = (cm : Int) := (ri_ne wh377 (.inr (by decide))).trans eh376_K_14
          clear eh376_K_14
          have eh377_K_15 : ri_at h377 K 15 = x321.toInt := (ri_ne wh377 (.inr (by decide))).trans eh376_K_15
          clear eh376_K_15
          have Sh377 := zCs_wr (d := 7) (k := K) wh377 hK7 Sh376 (.inl ⟨by decide, by decide⟩)
          have Oh377 := zOT_K wh377 Oh376
          clear Oh376
          refine ex_go oq_X5_readPart_242 (t := 284) rfl rfl ?_
          have fin : zst (zpt t n hh cn m cm p) = (zst z10) ∧ ∀ v q, zpt t n hh cn m cm p = .inr (v, q) → v = cm := by
            unfold zpt zhs
            rw [if_neg (fun e => hbz e.2), if_neg (by omega), if_neg (by omega), if_neg (by omega), if_neg (by omega), if_pos (by omega)]
            simp only [zns_b, zns_b0]
            rw [y10]
            rcases z10 with e10 | ⟨v10, q10⟩
            · exact ⟨rfl, fun v q h => by first | (cases h; done) | trivial⟩
            · rw [zb2_r rfl]
              exact ⟨rfl, fun v q h => by first | (cases h; done) | (cases h; rfl) | trivial⟩
          exact ex_retv oq_X5_readPart_284 rfl (hQ h377 Th377 Fh377 Oh377 ⟨by rw [fin.1]; exact Sh377, fun v q h => ⟨by rw [fin.2 v q h]; exact hcm, by rw [fin.2 v q h]; exact eh377_K_14, eh377_K_15.trans hor, eh377_K_1⟩⟩)
        | 6, _, c324 =>
          refine ⟨rfl, ?_⟩
          show cw_X _ _ _ 245 _ _ _
          have hW6 : (zhw (zk t n p) (zw t n p)) = 5 := by omega
          refine ex_ic oq_X5_readPart_245 (m := 0) (by decide) (fun x378 hx378 => ?_)
          refine ex_isA oq_X5_readPart_246 (fun L379 gL379_3 kL379 => ?_)
          have gL379_2 : cv_get L379 2 = some (cv_i x301) := kL379 2 _ (by decide) (fun _ => rfl) gL302_2
          have gL379_0 : cv_get L379 0 = some (cv_r 50) := kL379 0 _ (by decide) (fun q => absurd q (by decide)) gL302_0
          have gL379_1 : cv_get L379 1 = some (cv_r K) := kL379 1 _ (by decide) (fun q => absurd q (by decide)) gL302_1
          have fin : zpt t n hh cn m cm p = zb2 (zns t n 0 200 9 (zx t n p)) fun _ q => .inr (cm, q) := by
            unfold zpt zhs
            rw [if_neg (fun e => hbz e.2), if_neg (by omega), if_neg (by omega), if_neg (by omega), if_neg (by omega), if_neg (by omega), if_pos (by omega)]
          exact ct_riseL (P := ((zpm (m ||| 2 ^ (zhw (zk t n p) (zw t n p)).toNat) : Nat) : Int)) ht hwd hn9 hb hpl hK7 (E := zst (zns t n 0 200 9 (zx t n p))) (fun h' c1 c2 c3 c4 c5 c6 c7 => hQ h' c1 c2 c3 ⟨by rw [fin, zst_b]; exact c4, fun v q h => by rw [fin] at h; have := zv_b h; subst this; exact ⟨hcm, c6, c7, c5⟩⟩) 9 0 L379 x378 (.inr (zx t n p)) h323 (by omega) Th323 Fh323 Sh323 rfl Oh323 (by omega) eh323_K_1 eh323_K_14 (eh323_K_15.trans hor) gL379_0 gL379_1 gL379_3
        | i + 7, hi, _ => exact absurd hi (by show ¬ i + 7 < 7; omega)
    · replace c317 : ¬ x316.toInt = 0 := by omega
      have hbz := pm_an (m := m) (j := (zhw (zk t n p) (zw t n p)).toNat) rx313 hm hcv (by omega) hx314
      rw [← hx315, ← hx316] at hbz
      replace hbz := hbz.2 (by omega)
      refine ex_al oq_X5_readPart_25 gL302_0 ?_
      refine ex_ic oq_X5_readPart_26 (m := 3) (by decide) (fun x380 hx380 => ?_)
      refine ex_cv oq_X5_readPart_27 (by decide) hT (k := 50) (d := 5) (as := [cv_i x380]) (stk := []) rfl rfl rfl rfl rfl rfl ⟨rfl, rfl⟩ (R := fun o => ∃ (x : Int32) (hb : cv_H), o = (some (cv_i x), hb) ∧ cw_T G hb ∧ cw_Fr cw_Ds cw_sh kk_X5_fail.2.2.2.2.2.1 h0 hb ∧ x.toInt = 0 ∧ zCs t n (.inl (3, za t n p)) hb) (ct_failP (t := t) (n := n) (p := p) hT hS x380 hx380 (by decide) (fun x hb b1 b2 b3 b4 => ⟨x, hb, rfl, b1, b2, b3, b4⟩)) (fun o ho => ?_)
      obtain ⟨x381, h382, rfl, Th382, Ch382, zh382, Sh382⟩ := ho
      show cw_X _ _ _ _ _ [cv_i x381] h382
      have Fh382 : cw_Fr cw_Ds cw_sh kk_X5_readPart.2.2.2.2.2.1 h0 h382 := cw_Fr_tr Fh0 (cw_Fr_mono (by decide +kernel) Ch382)
      have eh382_K_1 : ri_at h382 K 1 = hh := (ri_frf Ch382 (k := K) (d := 7) hK7 rfl (by decide +kernel)).trans hg1
      have eh382_K_3 : ri_at h382 K 3 = ri_at h0 K 3 := ri_frf Ch382 (k := K) (d := 7) hK7 rfl (by decide +kernel)
      have eh382_K_14 : ri_at h382 K 14 = (cm : Int) := (ri_frf Ch382 (k := K) (d := 7) hK7 rfl (by decide +kernel)).trans hg14
      have eh382_K_15 : ri_at h382 K 15 = ((zpm m : Nat) : Int) := (ri_frf Ch382 (k := K) (d := 7) hK7 rfl (by decide +kernel)).trans hg15
      have Oh382 := zOT_fr Ch382 (by decide +kernel) hOT
      refine ex_pop oq_X5_readPart_30 rfl ?_
      have fin : zst (zpt t n hh cn m cm p) = (.inl (3, za t n p)) ∧ ∀ v q, zpt t n hh cn m cm p = .inr (v, q) → True := by
        unfold zpt
        rw [if_pos ⟨by omega, hbz⟩]
        exact ⟨rfl, fun v q h => by first | (cases h; done) | (cases h; rfl) | trivial⟩
      exact ex_retv oq_X5_readPart_31 rfl (hQ h382 Th382 Fh382 Oh382 ⟨by rw [fin.1]; exact Sh382, fun v q h => (zst_no fin.1 h).elim⟩)
end TZ
