/-! ===== numbers: the class ===== -/
theorem rl_num {k w kc vc : Int} (h : tz_rel k w kc vc) : (kc = 4 → k = 3 ∧ 0 ≤ w ∧ 0 ≤ vc ∧ vc ≤ 1000000 ∧ (w ≤ 9999 → vc = w) ∧ (9999 < w → 9999 < vc)) ∧ (k = 3 → kc = 4) := by
  unfold tz_rel at h
  rcases h with h | h | h | h | h | h | h
  · omega
  · refine ⟨fun q => ?_, fun q => ?_⟩ <;> omega
  · omega
  · omega
  · refine ⟨fun q => ?_, fun q => ?_⟩ <;> omega
  · omega
  · omega
theorem rl_min {k w kc vc : Int} (h : tz_rel k w kc vc) : (kc = 5 → vc = 20010 → k = 4 ∧ w = 45) ∧ (k = 4 → w = 45 → kc = 5 ∧ vc = 20010) := by
  unfold tz_rel at h
  rcases h with h | h | h | h | h | h | h
  · omega
  · refine ⟨fun q => ?_, fun q => ?_⟩ <;> omega
  · omega
  · refine ⟨fun q => ?_, fun q => ?_⟩ <;> omega
  · refine ⟨fun q => ?_, fun q => ?_⟩ <;> omega
  · omega
  · omega
theorem rl_nam {k w kc vc : Int} (h : tz_rel k w kc vc) : (kc = 3 → k = 2 ∧ vc = w) ∧ (k = 2 → kc = 3) := by
  unfold tz_rel at h
  rcases h with h | h | h | h | h | h | h
  · omega
  · refine ⟨fun q => ?_, fun q => ?_⟩ <;> omega
  · omega
  · refine ⟨fun q => ?_, fun q => ?_⟩ <;> omega
  · refine ⟨fun q => ?_, fun q => ?_⟩ <;> omega
  · omega
  · omega
theorem rl_sem {k w kc vc : Int} (h : tz_rel k w kc vc) : (kc = 8 → k = 4 ∧ w = 59) ∧ (k = 4 → w = 59 → kc = 8) := by
  unfold tz_rel at h
  rcases h with h | h | h | h | h | h | h
  · omega
  · refine ⟨fun q => ?_, fun q => ?_⟩ <;> omega
  · omega
  · refine ⟨fun q => ?_, fun q => ?_⟩ <;> omega
  · refine ⟨fun q => ?_, fun q => ?_⟩ <;> omega
  · omega
  · omega
theorem rl_end {k w kc vc : Int} (h : tz_rel k w kc vc) : kc = 0 ↔ k = 0 := by
  unfold tz_rel at h
  rcases h with h | h | h | h | h | h | h
  · omega
  · omega
  · omega
  · refine ⟨fun q => ?_, fun q => ?_⟩ <;> omega
  · refine ⟨fun q => ?_, fun q => ?_⟩ <;> omega
  · omega
  · omega
/-- where the class stands: it has failed, or it stands at the word behind p -/
def zCs (t : Nat → Int) (n : Nat) (S : (Int × Nat) ⊕ Nat) (h : cv_H) : Prop := match S with
  | .inl (f, a) => ri_at h 50 4 = f ∧ ri_at h 50 5 = a ∧ 1 ≤ f
  | .inr p => p ≤ n ∧ zC t n p h ∧ ri_at h 50 4 = 0 ∧ ri_at h 50 5 = -1
def zbd {α β : Type} (S : (Int × Nat) ⊕ β) (f : β → (Int × Nat) ⊕ α) : (Int × Nat) ⊕ α := match S with
  | .inl e => .inl e
  | .inr p => f p
/-- the ends of a call that answers a number, on the class's side -/
def zCr (t : Nat → Int) (n : Nat) (h' : cv_H) (x : Int32) (z : (Int × Nat) ⊕ (Int × Nat)) : Prop :=
  (∃ v q, z = .inr (v, q) ∧ x.toInt = v ∧ zCs t n (.inr q) h') ∨ (∃ e, z = .inl e ∧ x.toInt = 0 ∧ zCs t n (.inl e) h')
section TZ
variable {G : Int} {X : cv_X} {Q : cv_O → Prop} {t : Nat → Int}
theorem oq_X5_fail_0 : cw_ho 61 0 (.aload_n 0) 1 0 0 0 := rfl
theorem oq_X5_fail_1 : cw_ho 61 1 (.getfield 46) 3 5 4 0 := rfl
theorem oq_X5_fail_4 : cw_ho 61 4 (.ifCond .ne 19) 3 0 0 0 := rfl
theorem oq_X5_fail_7 : cw_ho 61 7 (.aload_n 0) 1 0 0 0 := rfl
theorem oq_X5_fail_8 : cw_ho 61 8 (.iload_n 1) 1 0 0 0 := rfl
theorem oq_X5_fail_9 : cw_ho 61 9 (.putfield 46) 3 5 4 0 := rfl
theorem oq_X5_fail_12 : cw_ho 61 12 (.aload_n 0) 1 0 0 0 := rfl
theorem oq_X5_fail_13 : cw_ho 61 13 (.aload_n 0) 1 0 0 0 := rfl
theorem oq_X5_fail_14 : cw_ho 61 14 (.getfield 20) 3 5 0 4 := rfl
theorem oq_X5_fail_17 : cw_ho 61 17 (.getfield 81) 3 6 5 0 := rfl
theorem oq_X5_fail_20 : cw_ho 61 20 (.putfield 9) 3 5 5 0 := rfl
theorem oq_X5_fail_23 : cw_ho 61 23 (.iconst 0) 1 0 0 0 := rfl
theorem oq_X5_fail_24 : cw_ho 61 24 (.ireturn) 1 0 0 0 := rfl
theorem ct_fail {h0 : cv_H} (hT : cw_T G h0) (f : Int32) (hQ : ∀ (x : Int32) h', cw_T G h' → cw_Fr cw_Ds cw_sh kk_X5_fail.2.2.2.2.2.1 h0 h' → x.toInt = 0 → (ri_at h0 50 4 = 0 ∧ ri_at h' 50 4 = f.toInt ∧ ri_at h' 50 5 = ri_at h0 51 5 ∨ ¬ ri_at h0 50 4 = 0 ∧ ri_at h' 50 4 = ri_at h0 50 4 ∧ ri_at h' 50 5 = ri_at h0 50 5) → Q (some (cv_i x), h')) : cw_X X 61 Q 0 (cv_ent 0 [cv_r 50, cv_i f]) [] h0 := by
  have Fh0 : cw_Fr cw_Ds cw_sh kk_X5_fail.2.2.2.2.2.1 h0 h0 := cw_Fr_refl
  refine ex_al oq_X5_fail_0 rfl ?_
  obtain ⟨x11, ax11, rx11, lx11, ux11⟩ := ri_fld (k := 50) (d := 5) (f := 4) hT rfl rfl rfl
  try dsimp only at lx11 ux11
  refine ex_gf oq_X5_fail_1 hT (k := 50) (d := 5) rfl rfl ax11 ?_
  refine ex_if0 oq_X5_fail_4 (t := 23) rfl rfl (fun (c12 : ¬ x11.toInt = 0) => ?_) (fun (c12 : ¬ (¬ x11.toInt = 0)) => ?_)
  · refine ex_ic oq_X5_fail_23 (m := 0) (by decide) (fun x13 hx13 => ?_)
    exact ex_reti oq_X5_fail_24 rfl (hQ x13 h0 hT Fh0 (by omega) (by omega))
  · refine ex_al oq_X5_fail_7 rfl ?_
    refine ex_il oq_X5_fail_8 rfl ?_
    refine ex_pfi oq_X5_fail_9 hT (k := 50) (d := 5) rfl rfl rfl (cw_i32 _).1 (cw_i32 _).2 (fun h14 Th14 wh14 => ?_)
    have Fh14 : cw_Fr cw_Ds cw_sh kk_X5_fail.2.2.2.2.2.1 h0 h14 := cw_Fr_tr Fh0 (cw_Fr_wrf wh14 (k := 50) (d := 5) rfl rfl (by decide +kernel))
    have eh14_51_2 : ri_at h14 51 2 = ri_at h0 51 2 := ri_ne wh14 (.inl (by decide))
    have eh14_51_3 : ri_at h14 51 3 = ri_at h0 51 3 := ri_ne wh14 (.inl (by decide))
    have eh14_51_4 : ri_at h14 51 4 = ri_at h0 51 4 := ri_ne wh14 (.inl (by decide))
    have eh14_51_5 : ri_at h14 51 5 = ri_at h0 51 5 := ri_ne wh14 (.inl (by decide))
    have eh14_51_6 : ri_at h14 51 6 = ri_at h0 51 6 := ri_ne wh14 (.inl (by decide))
    have eh14_50_4 : ri_at h14 50 4 = f.toInt := ri_self wh14
    have eh14_50_5 : ri_at h14 50 5 = ri_at h0 50 5 := ri_ne wh14 (by decide)
    refine ex_al oq_X5_fail_12 rfl ?_
    refine ex_al oq_X5_fail_13 rfl ?_
    refine ex_gf oq_X5_fail_14 Th14 (k := 50) (d := 5) rfl rfl (ri_ref (k := 50) (k' := 51) (d := 5) (f := 0) Th14 rfl rfl rfl (by decide) (ri_uniq (by decide +kernel))) ?_
    obtain ⟨x15, ax15, rx15, lx15, ux15⟩ := ri_fld (k := 51) (d := 6) (f := 5) Th14 rfl rfl rfl
    try dsimp only at lx15 ux15
    refine ex_gf oq_X5_fail_17 Th14 (k := 51) (d := 6) rfl rfl ax15 ?_
    refine ex_pfi oq_X5_fail_20 Th14 (k := 50) (d := 5) rfl rfl rfl (cw_i32 _).1 (cw_i32 _).2 (fun h16 Th16 wh16 => ?_)
    have Fh16 : cw_Fr cw_Ds cw_sh kk_X5_fail.2.2.2.2.2.1 h0 h16 := cw_Fr_tr Fh14 (cw_Fr_wrf wh16 (k := 50) (d := 5) rfl rfl (by decide +kernel))
    have eh16_51_2 : ri_at h16 51 2 = ri_at h14 51 2 := ri_ne wh16 (.inl (by decide))
    have eh16_51_3 : ri_at h16 51 3 = ri_at h14 51 3 := ri_ne wh16 (.inl (by decide))
    have eh16_51_4 : ri_at h16 51 4 = ri_at h14 51 4 := ri_ne wh16 (.inl (by decide))
    have eh16_51_5 : ri_at h16 51 5 = ri_at h14 51 5 := ri_ne wh16 (.inl (by decide))
    have eh16_51_6 : ri_at h16 51 6 = ri_at h14 51 6 := ri_ne wh16 (.inl (by decide))
    have eh16_50_4 : ri_at h16 50 4 = ri_at h14 50 4 := ri_ne wh16 (by decide)
    have eh16_50_5 : ri_at h16 50 5 = x15.toInt := ri_self wh16
    refine ex_ic oq_X5_fail_23 (m := 0) (by decide) (fun x17 hx17 => ?_)
    exact ex_reti oq_X5_fail_24 rfl (hQ x17 h16 Th16 Fh16 (by omega) (by omega))
theorem oq_X5_readNumber_0 : cw_ho 63 0 (.iload_n 1) 1 0 0 0 := rfl
theorem oq_X5_readNumber_1 : cw_ho 63 1 (.ifCond .ge 38) 3 0 0 0 := rfl
theorem oq_X5_readNumber_4 : cw_ho 63 4 (.aload_n 0) 1 0 0 0 := rfl
theorem oq_X5_readNumber_5 : cw_ho 63 5 (.getfield 46) 3 5 4 0 := rfl
theorem oq_X5_readNumber_8 : cw_ho 63 8 (.ifCond .ne 31) 3 0 0 0 := rfl
theorem oq_X5_readNumber_11 : cw_ho 63 11 (.aload_n 0) 1 0 0 0 := rfl
theorem oq_X5_readNumber_12 : cw_ho 63 12 (.getfield 20) 3 5 0 4 := rfl
theorem oq_X5_readNumber_15 : cw_ho 63 15 (.getfield 53) 3 6 4 0 := rfl
theorem oq_X5_readNumber_18 : cw_ho 63 18 (.iconst 5) 1 0 0 0 := rfl
theorem oq_X5_readNumber_19 : cw_ho 63 19 (.if_icmp .ne 20) 3 0 0 0 := rfl
theorem oq_X5_readNumber_22 : cw_ho 63 22 (.aload_n 0) 1 0 0 0 := rfl
theorem oq_X5_readNumber_23 : cw_ho 63 23 (.getfield 20) 3 5 0 4 := rfl
theorem oq_X5_readNumber_26 : cw_ho 63 26 (.getfield 56) 3 6 6 0 := rfl
theorem oq_X5_readNumber_29 : cw_ho 63 29 (.sipush 20010) 3 0 0 0 := rfl
theorem oq_X5_readNumber_32 : cw_ho 63 32 (.if_icmp .ne 7) 3 0 0 0 := rfl
theorem oq_X5_readNumber_35 : cw_ho 63 35 (.iconst 1) 1 0 0 0 := rfl
theorem oq_X5_readNumber_36 : cw_ho 63 36 (.goto 4) 3 0 0 0 := rfl
theorem oq_X5_readNumber_39 : cw_ho 63 39 (.iconst 0) 1 0 0 0 := rfl
theorem oq_X5_readNumber_40 : cw_ho 63 40 (.istore_n 3) 1 0 0 0 := rfl
theorem oq_X5_readNumber_41 : cw_ho 63 41 (.iload_n 3) 1 0 0 0 := rfl
theorem oq_X5_readNumber_42 : cw_ho 63 42 (.ifCond .eq 10) 3 0 0 0 := rfl
theorem oq_X5_readNumber_45 : cw_ho 63 45 (.aload_n 0) 1 0 0 0 := rfl
theorem oq_X5_readNumber_46 : cw_ho 63 46 (.getfield 20) 3 5 0 4 := rfl
theorem oq_X5_readNumber_49 : cw_ho 63 49 (.invokevirtual 82) 3 78 0 6 := rfl
theorem oq_X5_readNumber_52 : cw_ho 63 52 (.aload_n 0) 1 0 0 0 := rfl
theorem oq_X5_readNumber_53 : cw_ho 63 53 (.getfield 46) 3 5 4 0 := rfl
theorem oq_X5_readNumber_56 : cw_ho 63 56 (.ifCond .ne 14) 3 0 0 0 := rfl
theorem oq_X5_readNumber_59 : cw_ho 63 59 (.aload_n 0) 1 0 0 0 := rfl
theorem oq_X5_readNumber_60 : cw_ho 63 60 (.getfield 20) 3 5 0 4 := rfl
theorem oq_X5_readNumber_63 : cw_ho 63 63 (.getfield 53) 3 6 4 0 := rfl
theorem oq_X5_readNumber_66 : cw_ho 63 66 (.iconst 4) 1 0 0 0 := rfl
theorem oq_X5_readNumber_67 : cw_ho 63 67 (.if_icmp .eq 9) 3 0 0 0 := rfl
theorem oq_X5_readNumber_70 : cw_ho 63 70 (.aload_n 0) 1 0 0 0 := rfl
theorem oq_X5_readNumber_71 : cw_ho 63 71 (.iconst 1) 1 0 0 0 := rfl
theorem oq_X5_readNumber_72 : cw_ho 63 72 (.invokevirtual 74) 3 61 1 5 := rfl
theorem oq_X5_readNumber_75 : cw_ho 63 75 (.ireturn) 1 0 0 0 := rfl
theorem oq_X5_readNumber_76 : cw_ho 63 76 (.iload_n 3) 1 0 0 0 := rfl
theorem oq_X5_readNumber_77 : cw_ho 63 77 (.ifCond .eq 14) 3 0 0 0 := rfl
theorem oq_X5_readNumber_80 : cw_ho 63 80 (.aload_n 0) 1 0 0 0 := rfl
theorem oq_X5_readNumber_81 : cw_ho 63 81 (.getfield 20) 3 5 0 4 := rfl
theorem oq_X5_readNumber_84 : cw_ho 63 84 (.getfield 56) 3 6 6 0 := rfl
theorem oq_X5_readNumber_87 : cw_ho 63 87 (.ineg) 1 0 0 0 := rfl
theorem oq_X5_readNumber_88 : cw_ho 63 88 (.goto 10) 3 0 0 0 := rfl
theorem oq_X5_readNumber_91 : cw_ho 63 91 (.aload_n 0) 1 0 0 0 := rfl
theorem oq_X5_readNumber_92 : cw_ho 63 92 (.getfield 20) 3 5 0 4 := rfl
theorem oq_X5_readNumber_95 : cw_ho 63 95 (.getfield 56) 3 6 6 0 := rfl
theorem oq_X5_readNumber_98 : cw_ho 63 98 (.istore 4) 2 0 0 0 := rfl
theorem oq_X5_readNumber_100 : cw_ho 63 100 (.iload 4) 2 0 0 0 := rfl
theorem oq_X5_readNumber_102 : cw_ho 63 102 (.iload_n 1) 1 0 0 0 := rfl
theorem oq_X5_readNumber_103 : cw_ho 63 103 (.if_icmp .lt 9) 3 0 0 0 := rfl
theorem oq_X5_readNumber_106 : cw_ho 63 106 (.iload 4) 2 0 0 0 := rfl
theorem oq_X5_readNumber_108 : cw_ho 63 108 (.iload_n 2) 1 0 0 0 := rfl
theorem oq_X5_readNumber_109 : cw_ho 63 109 (.if_icmp .le 9) 3 0 0 0 := rfl
theorem oq_X5_readNumber_112 : cw_ho 63 112 (.aload_n 0) 1 0 0 0 := rfl
theorem oq_X5_readNumber_113 : cw_ho 63 113 (.iconst 2) 1 0 0 0 := rfl
theorem oq_X5_readNumber_114 : cw_ho 63 114 (.invokevirtual 74) 3 61 1 5 := rfl
theorem oq_X5_readNumber_117 : cw_ho 63 117 (.ireturn) 1 0 0 0 := rfl
theorem oq_X5_readNumber_118 : cw_ho 63 118 (.aload_n 0) 1 0 0 0 := rfl
theorem oq_X5_readNumber_119 : cw_ho 63 119 (.getfield 20) 3 5 0 4 := rfl
theorem oq_X5_readNumber_122 : cw_ho 63 122 (.invokevirtual 82) 3 78 0 6 := rfl
theorem oq_X5_readNumber_125 : cw_ho 63 125 (.iload 4) 2 0 0 0 := rfl
theorem oq_X5_readNumber_127 : cw_ho 63 127 (.ireturn) 1 0 0 0 := rfl
theorem ct_numF {h0 : cv_H} {n : Nat} (ht : ∀ i, t i = ri_at h0 1 i % 256) (hwd : ∀ i, i < 34 → ri_at h0 52 i = tz_wc.getD i 0) (hn9 : n ≤ 900) (hT : cw_T G h0) {f : Int} {a : Nat} (h4 : ri_at h0 50 4 = f) (h5 : ri_at h0 50 5 = a) (hf : 1 ≤ f) (lo hi : Int32) (hQ : ∀ (x : Int32) h', cw_T G h' → cw_Fr cw_Ds cw_sh kk_X5_readNumber_1.2.2.2.2.2.1 h0 h' → zCr t n h' x (.inl (f, a)) → Q (some (cv_i x), h')) : cw_X X 63 Q 0 (cv_ent 0 [cv_r 50, cv_i lo, cv_i hi]) [] h0 := by
  have Fh0 : cw_Fr cw_Ds cw_sh kk_X5_readNumber_1.2.2.2.2.2.1 h0 h0 := cw_Fr_refl
  refine ex_il oq_X5_readNumber_0 rfl ?_
  refine ex_if0 oq_X5_readNumber_1 (t := 39) rfl rfl (fun (c101 : 0 ≤ lo.toInt) => ?_) (fun (c101 : ¬ (0 ≤ lo.toInt)) => ?_)
  · refine ex_ic oq_X5_readNumber_39 (m := 0) (by decide) (fun x102 hx102 => ?_)
    refine ex_isA oq_X5_readNumber_40 (fun L103 gL103_3 kL103 => ?_)
    have gL103_0 : cv_get L103 0 = some (cv_r 50) := kL103 0 _ (by decide) (fun q => absurd q (by decide)) rfl
    have gL103_1 : cv_get L103 1 = some (cv_i lo) := kL103 1 _ (by decide) (fun q => absurd q (by decide)) rfl
    have gL103_2 : cv_get L103 2 = some (cv_i hi) := kL103 2 _ (by decide) (fun _ => rfl) rfl
    refine ex_il oq_X5_readNumber_41 gL103_3 ?_
    refine ex_if0 oq_X5_readNumber_42 (t := 52) rfl rfl (fun (c104 : x102.toInt = 0) => ?_) (fun (c104 : ¬ (x102.toInt = 0)) => ?_)
    · refine ex_al oq_X5_readNumber_52 gL103_0 ?_
      obtain ⟨x105, ax105, rx105, lx105, ux105⟩ := ri_fld (k := 50) (d := 5) (f := 4) hT rfl rfl rfl
      try dsimp only at lx105 ux105
      refine ex_gf oq_X5_readNumber_53 hT (k := 50) (d := 5) rfl rfl ax105 ?_
      refine ex_if0 oq_X5_readNumber_56 (t := 70) rfl rfl (fun (c106 : ¬ x105.toInt = 0) => ?_) (fun (c106 : ¬ (¬ x105.toInt = 0)) => ?_)
      · refine ex_al oq_X5_readNumber_70 gL103_0 ?_
        refine ex_ic oq_X5_readNumber_71 (m := 1) (by decide) (fun x107 hx107 => ?_)
        refine ex_cv oq_X5_readNumber_72 (by decide) hT (k := 50) (d := 5) (as := [cv_i x107]) (stk := []) rfl rfl rfl rfl rfl rfl ⟨rfl, rfl⟩ (R := fun o => ∃ (x : Int32) (hb : cv_H), o = (some (cv_i x), hb) ∧ cw_T G hb ∧ cw_Fr cw_Ds cw_sh kk_X5_fail.2.2.2.2.2.1 h0 hb ∧ x.toInt = 0 ∧ (ri_at h0 50 4 = 0 ∧ ri_at hb 50 4 = x107.toInt ∧ ri_at hb 50 5 = ri_at h0 51 5 ∨ ¬ ri_at h0 50 4 = 0 ∧ ri_at hb 50 4 = ri_at h0 50 4 ∧ ri_at hb 50 5 = ri_at h0 50 5)) (ct_fail hT x107 (fun x hb b1 b2 b3 b4 => ⟨x, hb, rfl, b1, b2, b3, b4⟩)) (fun o ho => ?_)
        obtain ⟨x108, h109, rfl, Th109, Ch109, zh109, fh109⟩ := ho
        show cw_X _ _ _ _ _ [cv_i x108] h109
        have Fh109 : cw_Fr cw_Ds cw_sh kk_X5_readNumber_1.2.2.2.2.2.1 h0 h109 := cw_Fr_tr Fh0 (cw_Fr_mono (by decide +kernel) Ch109)
        have eh109_51_2 : ri_at h109 51 2 = ri_at h0 51 2 := ri_frf Ch109 (d := 6) rfl rfl (by decide +kernel)
        have eh109_51_3 : ri_at h109 51 3 = ri_at h0 51 3 := ri_frf Ch109 (d := 6) rfl rfl (by decide +kernel)
        have eh109_51_4 : ri_at h109 51 4 = ri_at h0 51 4 := ri_frf Ch109 (d := 6) rfl rfl (by decide +kernel)
        have eh109_51_5 : ri_at h109 51 5 = ri_at h0 51 5 := ri_frf Ch109 (d := 6) rfl rfl (by decide +kernel)
        have eh109_51_6 : ri_at h109 51 6 = ri_at h0 51 6 := ri_frf Ch109 (d := 6) rfl rfl (by decide +kernel)
        exact ex_reti oq_X5_readNumber_75 rfl (hQ x108 h109 Th109 Fh109 (.inr ⟨_, rfl, by omega, by omega, by omega, by omega⟩))
      · exfalso; omega
    · exfalso; omega
  · refine ex_al oq_X5_readNumber_4 rfl ?_
    obtain ⟨x110, ax110, rx110, lx110, ux110⟩ := ri_fld (k := 50) (d := 5) (f := 4) hT rfl rfl rfl
    try dsimp only at lx110 ux110
    refine ex_gf oq_X5_readNumber_5 hT (k := 50) (d := 5) rfl rfl ax110 ?_
    refine ex_if0 oq_X5_readNumber_8 (t := 39) rfl rfl (fun (c111 : ¬ x110.toInt = 0) => ?_) (fun (c111 : ¬ (¬ x110.toInt = 0)) => ?_)
    · refine ex_ic oq_X5_readNumber_39 (m := 0) (by decide) (fun x112 hx112 => ?_)
      refine ex_isA oq_X5_readNumber_40 (fun L113 gL113_3 kL113 => ?_)
      have gL113_0 : cv_get L113 0 = some (cv_r 50) := kL113 0 _ (by decide) (fun q => absurd q (by decide)) rfl
      have gL113_1 : cv_get L113 1 = some (cv_i lo) := kL113 1 _ (by decide) (fun q => absurd q (by decide)) rfl
      have gL113_2 : cv_get L113 2 = some (cv_i hi) := kL113 2 _ (by decide) (fun _ => rfl) rfl
      refine ex_il oq_X5_readNumber_41 gL113_3 ?_
      refine ex_if0 oq_X5_readNumber_42 (t := 52) rfl rfl (fun (c114 : x112.toInt = 0) => ?_) (fun (c114 : ¬ (x112.toInt = 0)) => ?_)
      · refine ex_al oq_X5_readNumber_52 gL113_0 ?_
        obtain ⟨x115, ax115, rx115, lx115, ux115⟩ := ri_fld (k := 50) (d := 5) (f := 4) hT rfl rfl rfl
        try dsimp only at lx115 ux115
        refine ex_gf oq_X5_readNumber_53 hT (k := 50) (d := 5) rfl rfl ax115 ?_
        refine ex_if0 oq_X5_readNumber_56 (t := 70) rfl rfl (fun (c116 : ¬ x115.toInt = 0) => ?_) (fun (c116 : ¬ (¬ x115.toInt = 0)) => ?_)
        · refine ex_al oq_X5_readNumber_70 gL113_0 ?_
          refine ex_ic oq_X5_readNumber_71 (m := 1) (by decide) (fun x117 hx117 => ?_)
          refine ex_cv oq_X5_readNumber_72 (by decide) hT (k := 50) (d := 5) (as := [cv_i x117]) (stk := []) rfl rfl rfl rfl rfl rfl ⟨rfl, rfl⟩ (R := fun o => ∃ (x : Int32) (hb : cv_H), o = (some (cv_i x), hb) ∧ cw_T G hb ∧ cw_Fr cw_Ds cw_sh kk_X5_fail.2.2.2.2.2.1 h0 hb ∧ x.toInt = 0 ∧ (ri_at h0 50 4 = 0 ∧ ri_at hb 50 4 = x117.toInt ∧ ri_at hb 50 5 = ri_at h0 51 5 ∨ ¬ ri_at h0 50 4 = 0 ∧ ri_at hb 50 4 = ri_at h0 50 4 ∧ ri_at hb 50 5 = ri_at h0 50 5)) (ct_fail hT x117 (fun x hb b1 b2 b3 b4 => ⟨x, hb, rfl, b1, b2, b3, b4⟩)) (fun o ho => ?_)
          obtain ⟨x118, h119, rfl, Th119, Ch119, zh119, fh119⟩ := ho
          show cw_X _ _ _ _ _ [cv_i x118] h119
          have Fh119 : cw_Fr cw_Ds cw_sh kk_X5_readNumber_1.2.2.2.2.2.1 h0 h119 := cw_Fr_tr Fh0 (cw_Fr_mono (by decide +kernel) Ch119)
          have eh119_51_2 : ri_at h119 51 2 = ri_at h0 51 2 := ri_frf Ch119 (d := 6) rfl rfl (by decide +kernel)
          have eh119_51_3 : ri_at h119 51 3 = ri_at h0 51 3 := ri_frf Ch119 (d := 6) rfl rfl (by decide +kernel)
          have eh119_51_4 : ri_at h119 51 4 = ri_at h0 51 4 := ri_frf Ch119 (d := 6) rfl rfl (by decide +kernel)
          have eh119_51_5 : ri_at h119 51 5 = ri_at h0 51 5 := ri_frf Ch119 (d := 6) rfl rfl (by decide +kernel)
          have eh119_51_6 : ri_at h119 51 6 = ri_at h0 51 6 := ri_frf Ch119 (d := 6) rfl rfl (by decide +kernel)
          exact ex_reti oq_X5_readNumber_75 rfl (hQ x118 h119 Th119 Fh119 (.inr ⟨_, rfl, by omega, by omega, by omega, by omega⟩))
        · exfalso; omega
      · exfalso; omega
    · exfalso; omega
theorem ct_numP {h0 : cv_H} {n : Nat} (ht : ∀ i, t i = ri_at h0 1 i % 256) (hwd : ∀ i, i < 34 → ri_at h0 52 i = tz_wc.getD i 0) (hn9 : n ≤ 900) (hT : cw_T G h0) {p : Nat} (hpn : p ≤ n) (hz : zC t n p h0) (h4 : ri_at h0 50 4 = 0) (h5 : ri_at h0 50 5 = -1) (lo hi : Int32) (hlo : 0 ≤ lo.toInt) (hhi : hi.toInt ≤ 9999) (hQ : ∀ (x : Int32) h', cw_T G h' → cw_Fr cw_Ds cw_sh kk_X5_readNumber_1.2.2.2.2.2.1 h0 h' → zCr t n h' x (zn t n lo.toInt hi.toInt p) → Q (some (cv_i x), h')) : cw_X X 63 Q 0 (cv_ent 0 [cv_r 50, cv_i lo, cv_i hi]) [] h0 := by
  have Fh0 : cw_Fr cw_Ds cw_sh kk_X5_readNumber_1.2.2.2.2.2.1 h0 h0 := cw_Fr_refl
  obtain ⟨z1, z2, z3, z4⟩ := id hz
  have zl := zx_le (t := t) hpn
  have rn := rl_num z4
  have rm := rl_min z4
  have hA : ∀ h, cw_Fr cw_Ds cw_sh kk_X5_readNumber_1.2.2.2.2.2.1 h0 h → ∀ i, ri_at h 1 i = ri_at h0 1 i := fun h F i => ri_frr F (k := 1) (d := 13) rfl rfl (by decide +kernel)
  have hB : ∀ h, cw_Fr cw_Ds cw_sh kk_X5_readNumber_1.2.2.2.2.2.1 h0 h → ∀ i, ri_at h 52 i = ri_at h0 52 i := fun h F i => ri_frr F (k := 52) (d := 43) rfl rfl (by decide +kernel)
  refine ex_il oq_X5_readNumber_0 rfl ?_
  refine ex_if0 oq_X5_readNumber_1 (t := 39) rfl rfl (fun (c301 : 0 ≤ lo.toInt) => ?_) (fun (c301 : ¬ (0 ≤ lo.toInt)) => ?_)
  · refine ex_ic oq_X5_readNumber_39 (m := 0) (by decide) (fun x302 hx302 => ?_)
    refine ex_isA oq_X5_readNumber_40 (fun L303 gL303_3 kL303 => ?_)
    have gL303_0 : cv_get L303 0 = some (cv_r 50) := kL303 0 _ (by decide) (fun q => absurd q (by decide)) rfl
    have gL303_1 : cv_get L303 1 = some (cv_i lo) := kL303 1 _ (by decide) (fun q => absurd q (by decide)) rfl
    have gL303_2 : cv_get L303 2 = some (cv_i hi) := kL303 2 _ (by decide) (fun _ => rfl) rfl
    refine ex_il oq_X5_readNumber_41 gL303_3 ?_
    refine ex_if0 oq_X5_readNumber_42 (t := 52) rfl rfl (fun (c304 : x302.toInt = 0) => ?_) (fun (c304 : ¬ (x302.toInt = 0)) => ?_)
    · refine ex_al oq_X5_readNumber_52 gL303_0 ?_
      obtain ⟨x305, ax305, rx305, lx305, ux305⟩ := ri_fld (k := 50) (d := 5) (f := 4) hT rfl rfl rfl
      try dsimp only at lx305 ux305
      refine ex_gf oq_X5_readNumber_53 hT (k := 50) (d := 5) rfl rfl ax305 ?_
      refine ex_if0 oq_X5_readNumber_56 (t := 70) rfl rfl (fun (c306 : ¬ x305.toInt = 0) => ?_) (fun (c306 : ¬ (¬ x305.toInt = 0)) => ?_)
      · exfalso; omega
      · refine ex_al oq_X5_readNumber_59 gL303_0 ?_
        refine ex_gf oq_X5_readNumber_60 hT (k := 50) (d := 5) rfl rfl (ri_ref (k := 50) (k' := 51) (d := 5) (f := 0) hT rfl rfl rfl (by decide) (ri_uniq (by decide +kernel))) ?_
        obtain ⟨x307, ax307, rx307, lx307, ux307⟩ := ri_fld (k := 51) (d := 6) (f := 4) hT rfl rfl rfl
        try dsimp only at lx307 ux307
        refine ex_gf oq_X5_readNumber_63 hT (k := 51) (d := 6) rfl rfl ax307 ?_
        refine ex_ic oq_X5_readNumber_66 (m := 4) (by decide) (fun x308 hx308 => ?_)
        refine ex_if oq_X5_readNumber_67 (t := 76) rfl rfl (fun (c309 : x307.toInt = x308.toInt) => ?_) (fun (c309 : ¬ (x307.toInt = x308.toInt)) => ?_)
        · refine ex_il oq_X5_readNumber_76 gL303_3 ?_
          refine ex_if0 oq_X5_readNumber_77 (t := 91) rfl rfl (fun (c310 : x302.toInt = 0) => ?_) (fun (c310 : ¬ (x302.toInt = 0)) => ?_)
          · refine ex_al oq_X5_readNumber_91 gL303_0 ?_
            refine ex_gf oq_X5_readNumber_92 hT (k := 50) (d := 5) rfl rfl (ri_ref (k := 50) (k' := 51) (d := 5) (f := 0) hT rfl rfl rfl (by decide) (ri_uniq (by decide +kernel))) ?_
            obtain ⟨x311, ax311, rx311, lx311, ux311⟩ := ri_fld (k := 51) (d := 6) (f := 6) hT rfl rfl rfl
            try dsimp only at lx311 ux311
            refine ex_gf oq_X5_readNumber_95 hT (k := 51) (d := 6) rfl rfl ax311 ?_
            refine ex_iswA oq_X5_readNumber_98 (fun L312 gL312_4 kL312 => ?_)
            have gL312_3 : cv_get L312 3 = some (cv_i x302) := kL312 3 _ (by decide) (fun _ => rfl) gL303_3
            have gL312_0 : cv_get L312 0 = some (cv_r 50) := kL312 0 _ (by decide) (fun q => absurd q (by decide)) gL303_0
            have gL312_1 : cv_get L312 1 = some (cv_i lo) := kL312 1 _ (by decide) (fun q => absurd q (by decide)) gL303_1
            have gL312_2 : cv_get L312 2 = some (cv_i hi) := kL312 2 _ (by decide) (fun q => absurd q (by decide)) gL303_2
            refine ex_ilw oq_X5_readNumber_100 gL312_4 ?_
            refine ex_il oq_X5_readNumber_102 gL312_1 ?_
            refine ex_if oq_X5_readNumber_103 (t := 112) rfl rfl (fun (c313 : x311.toInt < lo.toInt) => ?_) (fun (c313 : ¬ (x311.toInt < lo.toInt)) => ?_)
            · refine ex_al oq_X5_readNumber_112 gL312_0 ?_
              refine ex_ic oq_X5_readNumber_113 (m := 2) (by decide) (fun x314 hx314 => ?_)
              refine ex_cv oq_X5_readNumber_114 (by decide) hT (k := 50) (d := 5) (as := [cv_i x314]) (stk := []) rfl rfl rfl rfl rfl rfl ⟨rfl, rfl⟩ (R := fun o => ∃ (x : Int32) (hb : cv_H), o = (some (cv_i x), hb) ∧ cw_T G hb ∧ cw_Fr cw_Ds cw_sh kk_X5_fail.2.2.2.2.2.1 h0 hb ∧ x.toInt = 0 ∧ (ri_at h0 50 4 = 0 ∧ ri_at hb 50 4 = x314.toInt ∧ ri_at hb 50 5 = ri_at h0 51 5 ∨ ¬ ri_at h0 50 4 = 0 ∧ ri_at hb 50 4 = ri_at h0 50 4 ∧ ri_at hb 50 5 = ri_at h0 50 5)) (ct_fail hT x314 (fun x hb b1 b2 b3 b4 => ⟨x, hb, rfl, b1, b2, b3, b4⟩)) (fun o ho => ?_)
              obtain ⟨x315, h316, rfl, Th316, Ch316, zh316, fh316⟩ := ho
              show cw_X _ _ _ _ _ [cv_i x315] h316
              have Fh316 : cw_Fr cw_Ds cw_sh kk_X5_readNumber_1.2.2.2.2.2.1 h0 h316 := cw_Fr_tr Fh0 (cw_Fr_mono (by decide +kernel) Ch316)
              have eh316_51_2 : ri_at h316 51 2 = ri_at h0 51 2 := ri_frf Ch316 (d := 6) rfl rfl (by decide +kernel)
              have eh316_51_3 : ri_at h316 51 3 = ri_at h0 51 3 := ri_frf Ch316 (d := 6) rfl rfl (by decide +kernel)
              have eh316_51_4 : ri_at h316 51 4 = ri_at h0 51 4 := ri_frf Ch316 (d := 6) rfl rfl (by decide +kernel)
              have eh316_51_5 : ri_at h316 51 5 = ri_at h0 51 5 := ri_frf Ch316 (d := 6) rfl rfl (by decide +kernel)
              have eh316_51_6 : ri_at h316 51 6 = ri_at h0 51 6 := ri_frf Ch316 (d := 6) rfl rfl (by decide +kernel)
              exact ex_reti oq_X5_readNumber_117 rfl (hQ x315 h316 Th316 Fh316 (.inr ⟨_, zn_2 (by omega) (by omega), by omega, by omega, by omega, by decide⟩))
            · refine ex_ilw oq_X5_readNumber_106 gL312_4 ?_
              refine ex_il oq_X5_readNumber_108 gL312_2 ?_
              refine ex_if oq_X5_readNumber_109 (t := 118) rfl rfl (fun (c317 : x311.toInt ≤ hi.toInt) => ?_) (fun (c317 : ¬ (x311.toInt ≤ hi.toInt)) => ?_)
              · refine ex_al oq_X5_readNumber_118 gL312_0 ?_
                refine ex_gf oq_X5_readNumber_119 hT (k := 50) (d := 5) rfl rfl (ri_ref (k := 50) (k' := 51) (d := 5) (f := 0) hT rfl rfl rfl (by decide) (ri_uniq (by decide +kernel))) ?_
                refine ex_cv oq_X5_readNumber_122 (by decide) hT (k := 51) (d := 6) (as := []) (stk := []) rfl rfl rfl rfl rfl rfl ⟨rfl, rfl⟩ (R := fun o => ∃ hb : cv_H, o = (none, hb) ∧ cw_T G hb ∧ cw_Fr cw_Ds cw_sh kk_X6_step.2.2.2.2.2.1 h0 hb ∧ zC t n (zx t n p) hb) (ct_step (t := t) (n := n) (p := zx t n p) (fun i => by rw [ht, ← hA _ Fh0]) (fun i hi => by rw [hB _ Fh0]; exact hwd i hi) hT hn9 (by omega) (by omega) (fun hb b1 b2 b3 b4 b5 b6 => ⟨hb, rfl, b1, b2, b3, b4, b5, b6⟩)) (fun o ho => ?_)
                obtain ⟨h318, rfl, Th318, Ch318, Zh318⟩ := ho
                show cw_X _ _ _ _ _ [] h318
                have Fh318 : cw_Fr cw_Ds cw_sh kk_X5_readNumber_1.2.2.2.2.2.1 h0 h318 := cw_Fr_tr Fh0 (cw_Fr_mono (by decide +kernel) Ch318)
                have eh318_50_4 : ri_at h318 50 4 = ri_at h0 50 4 := ri_frf Ch318 (d := 5) rfl rfl (by decide +kernel)
                have eh318_50_5 : ri_at h318 50 5 = ri_at h0 50 5 := ri_frf Ch318 (d := 5) rfl rfl (by decide +kernel)
                obtain ⟨zah318, zbh318, zch318, zdh318⟩ := id Zh318
                have zlh318 := zx_le (t := t) (n := n) (p := (zx t n p)) (by omega)
                refine ex_ilw oq_X5_readNumber_125 gL312_4 ?_
                exact ex_reti oq_X5_readNumber_127 rfl (hQ x311 h318 Th318 Fh318 (.inl ⟨_, _, zn_ok (by omega) (by omega) (by omega), by omega, zx_le hpn, Zh318, by omega, by omega⟩))
              · refine ex_al oq_X5_readNumber_112 gL312_0 ?_
                refine ex_ic oq_X5_readNumber_113 (m := 2) (by decide) (fun x319 hx319 => ?_)
                refine ex_cv oq_X5_readNumber_114 (by decide) hT (k := 50) (d := 5) (as := [cv_i x319]) (stk := []) rfl rfl rfl rfl rfl rfl ⟨rfl, rfl⟩ (R := fun o => ∃ (x : Int32) (hb : cv_H), o = (some (cv_i x), hb) ∧ cw_T G hb ∧ cw_Fr cw_Ds cw_sh kk_X5_fail.2.2.2.2.2.1 h0 hb ∧ x.toInt = 0 ∧ (ri_at h0 50 4 = 0 ∧ ri_at hb 50 4 = x319.toInt ∧ ri_at hb 50 5 = ri_at h0 51 5 ∨ ¬ ri_at h0 50 4 = 0 ∧ ri_at hb 50 4 = ri_at h0 50 4 ∧ ri_at hb 50 5 = ri_at h0 50 5)) (ct_fail hT x319 (fun x hb b1 b2 b3 b4 => ⟨x, hb, rfl, b1, b2, b3, b4⟩)) (fun o ho => ?_)
                obtain ⟨x320, h321, rfl, Th321, Ch321, zh321, fh321⟩ := ho
                show cw_X _ _ _ _ _ [cv_i x320] h321
                have Fh321 : cw_Fr cw_Ds cw_sh kk_X5_readNumber_1.2.2.2.2.2.1 h0 h321 := cw_Fr_tr Fh0 (cw_Fr_mono (by decide +kernel) Ch321)
                have eh321_51_2 : ri_at h321 51 2 = ri_at h0 51 2 := ri_frf Ch321 (d := 6) rfl rfl (by decide +kernel)
                have eh321_51_3 : ri_at h321 51 3 = ri_at h0 51 3 := ri_frf Ch321 (d := 6) rfl rfl (by decide +kernel)
                have eh321_51_4 : ri_at h321 51 4 = ri_at h0 51 4 := ri_frf Ch321 (d := 6) rfl rfl (by decide +kernel)
                have eh321_51_5 : ri_at h321 51 5 = ri_at h0 51 5 := ri_frf Ch321 (d := 6) rfl rfl (by decide +kernel)
                have eh321_51_6 : ri_at h321 51 6 = ri_at h0 51 6 := ri_frf Ch321 (d := 6) rfl rfl (by decide +kernel)
                exact ex_reti oq_X5_readNumber_117 rfl (hQ x320 h321 Th321 Fh321 (.inr ⟨_, zn_2 (by omega) (by omega), by omega, by omega, by omega, by decide⟩))
          · exfalso; omega
        · refine ex_al oq_X5_readNumber_70 gL303_0 ?_
          refine ex_ic oq_X5_readNumber_71 (m := 1) (by decide) (fun x322 hx322 => ?_)
          refine ex_cv oq_X5_readNumber_72 (by decide) hT (k := 50) (d := 5) (as := [cv_i x322]) (stk := []) rfl rfl rfl rfl rfl rfl ⟨rfl, rfl⟩ (R := fun o => ∃ (x : Int32) (hb : cv_H), o = (some (cv_i x), hb) ∧ cw_T G hb ∧ cw_Fr cw_Ds cw_sh kk_X5_fail.2.2.2.2.2.1 h0 hb ∧ x.toInt = 0 ∧ (ri_at h0 50 4 = 0 ∧ ri_at hb 50 4 = x322.toInt ∧ ri_at hb 50 5 = ri_at h0 51 5 ∨ ¬ ri_at h0 50 4 = 0 ∧ ri_at hb 50 4 = ri_at h0 50 4 ∧ ri_at hb 50 5 = ri_at h0 50 5)) (ct_fail hT x322 (fun x hb b1 b2 b3 b4 => ⟨x, hb, rfl, b1, b2, b3, b4⟩)) (fun o ho => ?_)
          obtain ⟨x323, h324, rfl, Th324, Ch324, zh324, fh324⟩ := ho
          show cw_X _ _ _ _ _ [cv_i x323] h324
          have Fh324 : cw_Fr cw_Ds cw_sh kk_X5_readNumber_1.2.2.2.2.2.1 h0 h324 := cw_Fr_tr Fh0 (cw_Fr_mono (by decide +kernel) Ch324)
          have eh324_51_2 : ri_at h324 51 2 = ri_at h0 51 2 := ri_frf Ch324 (d := 6) rfl rfl (by decide +kernel)
          have eh324_51_3 : ri_at h324 51 3 = ri_at h0 51 3 := ri_frf Ch324 (d := 6) rfl rfl (by decide +kernel)
          have eh324_51_4 : ri_at h324 51 4 = ri_at h0 51 4 := ri_frf Ch324 (d := 6) rfl rfl (by decide +kernel)
          have eh324_51_5 : ri_at h324 51 5 = ri_at h0 51 5 := ri_frf Ch324 (d := 6) rfl rfl (by decide +kernel)
          have eh324_51_6 : ri_at h324 51 6 = ri_at h0 51 6 := ri_frf Ch324 (d := 6) rfl rfl (by decide +kernel)
          exact ex_reti oq_X5_readNumber_75 rfl (hQ x323 h324 Th324 Fh324 (.inr ⟨_, zn_1 (by omega), by omega, by omega, by omega, by decide⟩))
    · exfalso; omega
  · exfalso; omega
theorem ct_numS {h0 : cv_H} {n : Nat} (ht : ∀ i, t i = ri_at h0 1 i % 256) (hwd : ∀ i, i < 34 → ri_at h0 52 i = tz_wc.getD i 0) (hn9 : n ≤ 900) (hT : cw_T G h0) {p : Nat} (hpn : p ≤ n) (hz : zC t n p h0) (h4 : ri_at h0 50 4 = 0) (h5 : ri_at h0 50 5 = -1) (lo hi : Int32) (hlo : lo.toInt = -30) (hhi : hi.toInt = 30) (hQ : ∀ (x : Int32) h', cw_T G h' → cw_Fr cw_Ds cw_sh kk_X5_readNumber_1.2.2.2.2.2.1 h0 h' → zCr t n h' x (zg t n 30 p) → Q (some (cv_i x), h')) : cw_X X 63 Q 0 (cv_ent 0 [cv_r 50, cv_i lo, cv_i hi]) [] h0 := by
  have Fh0 : cw_Fr cw_Ds cw_sh kk_X5_readNumber_1.2.2.2.2.2.1 h0 h0 := cw_Fr_refl
  obtain ⟨z1, z2, z3, z4⟩ := id hz
  have zl := zx_le (t := t) hpn
  have rn := rl_num z4
  have rm := rl_min z4
  have hA : ∀ h, cw_Fr cw_Ds cw_sh kk_X5_readNumber_1.2.2.2.2.2.1 h0 h → ∀ i, ri_at h 1 i = ri_at h0 1 i := fun h F i => ri_frr F (k := 1) (d := 13) rfl rfl (by decide +kernel)
  have hB : ∀ h, cw_Fr cw_Ds cw_sh kk_X5_readNumber_1.2.2.2.2.2.1 h0 h → ∀ i, ri_at h 52 i = ri_at h0 52 i := fun h F i => ri_frr F (k := 52) (d := 43) rfl rfl (by decide +kernel)
  refine ex_il oq_X5_readNumber_0 rfl ?_
  refine ex_if0 oq_X5_readNumber_1 (t := 39) rfl rfl (fun (c501 : 0 ≤ lo.toInt) => ?_) (fun (c501 : ¬ (0 ≤ lo.toInt)) => ?_)
  · exfalso; omega
  · refine ex_al oq_X5_readNumber_4 rfl ?_
    obtain ⟨x502, ax502, rx502, lx502, ux502⟩ := ri_fld (k := 50) (d := 5) (f := 4) hT rfl rfl rfl
    try dsimp only at lx502 ux502
    refine ex_gf oq_X5_readNumber_5 hT (k := 50) (d := 5) rfl rfl ax502 ?_
    refine ex_if0 oq_X5_readNumber_8 (t := 39) rfl rfl (fun (c503 : ¬ x502.toInt = 0) => ?_) (fun (c503 : ¬ (¬ x502.toInt = 0)) => ?_)
    · exfalso; omega
    · refine ex_al oq_X5_readNumber_11 rfl ?_
      refine ex_gf oq_X5_readNumber_12 hT (k := 50) (d := 5) rfl rfl (ri_ref (k := 50) (k' := 51) (d := 5) (f := 0) hT rfl rfl rfl (by decide) (ri_uniq (by decide +kernel))) ?_
      obtain ⟨x504, ax504, rx504, lx504, ux504⟩ := ri_fld (k := 51) (d := 6) (f := 4) hT rfl rfl rfl
      try dsimp only at lx504 ux504
      refine ex_gf oq_X5_readNumber_15 hT (k := 51) (d := 6) rfl rfl ax504 ?_
      refine ex_ic oq_X5_readNumber_18 (m := 5) (by decide) (fun x505 hx505 => ?_)
      refine ex_if oq_X5_readNumber_19 (t := 39) rfl rfl (fun (c506 : ¬ x504.toInt = x505.toInt) => ?_) (fun (c506 : ¬ (¬ x504.toInt = x505.toInt)) => ?_)
      · refine ex_ic oq_X5_readNumber_39 (m := 0) (by decide) (fun x507 hx507 => ?_)
        refine ex_isA oq_X5_readNumber_40 (fun L508 gL508_3 kL508 => ?_)
        have gL508_0 : cv_get L508 0 = some (cv_r 50) := kL508 0 _ (by decide) (fun q => absurd q (by decide)) rfl
        have gL508_1 : cv_get L508 1 = some (cv_i lo) := kL508 1 _ (by decide) (fun q => absurd q (by decide)) rfl
        have gL508_2 : cv_get L508 2 = some (cv_i hi) := kL508 2 _ (by decide) (fun _ => rfl) rfl
        refine ex_il oq_X5_readNumber_41 gL508_3 ?_
        refine ex_if0 oq_X5_readNumber_42 (t := 52) rfl rfl (fun (c509 : x507.toInt = 0) => ?_) (fun (c509 : ¬ (x507.toInt = 0)) => ?_)
        · refine ex_al oq_X5_readNumber_52 gL508_0 ?_
          obtain ⟨x510, ax510, rx510, lx510, ux510⟩ := ri_fld (k := 50) (d := 5) (f := 4) hT rfl rfl rfl
          try dsimp only at lx510 ux510
          refine ex_gf oq_X5_readNumber_53 hT (k := 50) (d := 5) rfl rfl ax510 ?_
          refine ex_if0 oq_X5_readNumber_56 (t := 70) rfl rfl (fun (c511 : ¬ x510.toInt = 0) => ?_) (fun (c511 : ¬ (¬ x510.toInt = 0)) => ?_)
          · exfalso; omega
          · refine ex_al oq_X5_readNumber_59 gL508_0 ?_
            refine ex_gf oq_X5_readNumber_60 hT (k := 50) (d := 5) rfl rfl (ri_ref (k := 50) (k' := 51) (d := 5) (f := 0) hT rfl rfl rfl (by decide) (ri_uniq (by decide +kernel))) ?_
            obtain ⟨x512, ax512, rx512, lx512, ux512⟩ := ri_fld (k := 51) (d := 6) (f := 4) hT rfl rfl rfl
            try dsimp only at lx512 ux512
            refine ex_gf oq_X5_readNumber_63 hT (k := 51) (d := 6) rfl rfl ax512 ?_
            refine ex_ic oq_X5_readNumber_66 (m := 4) (by decide) (fun x513 hx513 => ?_)
            refine ex_if oq_X5_readNumber_67 (t := 76) rfl rfl (fun (c514 : x512.toInt = x513.toInt) => ?_) (fun (c514 : ¬ (x512.toInt = x513.toInt)) => ?_)
            · refine ex_il oq_X5_readNumber_76 gL508_3 ?_
              refine ex_if0 oq_X5_readNumber_77 (t := 91) rfl rfl (fun (c515 : x507.toInt = 0) => ?_) (fun (c515 : ¬ (x507.toInt = 0)) => ?_)
              · refine ex_al oq_X5_readNumber_91 gL508_0 ?_
                refine ex_gf oq_X5_readNumber_92 hT (k := 50) (d := 5) rfl rfl (ri_ref (k := 50) (k' := 51) (d := 5) (f := 0) hT rfl rfl rfl (by decide) (ri_uniq (by decide +kernel))) ?_
                obtain ⟨x516, ax516, rx516, lx516, ux516⟩ := ri_fld (k := 51) (d := 6) (f := 6) hT rfl rfl rfl
                try dsimp only at lx516 ux516
                refine ex_gf oq_X5_readNumber_95 hT (k := 51) (d := 6) rfl rfl ax516 ?_
                refine ex_iswA oq_X5_readNumber_98 (fun L517 gL517_4 kL517 => ?_)
                have gL517_3 : cv_get L517 3 = some (cv_i x507) := kL517 3 _ (by decide) (fun _ => rfl) gL508_3
                have gL517_0 : cv_get L517 0 = some (cv_r 50) := kL517 0 _ (by decide) (fun q => absurd q (by decide)) gL508_0
                have gL517_1 : cv_get L517 1 = some (cv_i lo) := kL517 1 _ (by decide) (fun q => absurd q (by decide)) gL508_1
                have gL517_2 : cv_get L517 2 = some (cv_i hi) := kL517 2 _ (by decide) (fun q => absurd q (by decide)) gL508_2
                refine ex_ilw oq_X5_readNumber_100 gL517_4 ?_
                refine ex_il oq_X5_readNumber_102 gL517_1 ?_
                refine ex_if oq_X5_readNumber_103 (t := 112) rfl rfl (fun (c518 : x516.toInt < lo.toInt) => ?_) (fun (c518 : ¬ (x516.toInt < lo.toInt)) => ?_)
                · refine ex_al oq_X5_readNumber_112 gL517_0 ?_
                  refine ex_ic oq_X5_readNumber_113 (m := 2) (by decide) (fun x519 hx519 => ?_)
                  refine ex_cv oq_X5_readNumber_114 (by decide) hT (k := 50) (d := 5) (as := [cv_i x519]) (stk := []) rfl rfl rfl rfl rfl rfl ⟨rfl, rfl⟩ (R := fun o => ∃ (x : Int32) (hb : cv_H), o = (some (cv_i x), hb) ∧ cw_T G hb ∧ cw_Fr cw_Ds cw_sh kk_X5_fail.2.2.2.2.2.1 h0 hb ∧ x.toInt = 0 ∧ (ri_at h0 50 4 = 0 ∧ ri_at hb 50 4 = x519.toInt ∧ ri_at hb 50 5 = ri_at h0 51 5 ∨ ¬ ri_at h0 50 4 = 0 ∧ ri_at hb 50 4 = ri_at h0 50 4 ∧ ri_at hb 50 5 = ri_at h0 50 5)) (ct_fail hT x519 (fun x hb b1 b2 b3 b4 => ⟨x, hb, rfl, b1, b2, b3, b4⟩)) (fun o ho => ?_)
                  obtain ⟨x520, h521, rfl, Th521, Ch521, zh521, fh521⟩ := ho
                  show cw_X _ _ _ _ _ [cv_i x520] h521
                  have Fh521 : cw_Fr cw_Ds cw_sh kk_X5_readNumber_1.2.2.2.2.2.1 h0 h521 := cw_Fr_tr Fh0 (cw_Fr_mono (by decide +kernel) Ch521)
                  have eh521_51_2 : ri_at h521 51 2 = ri_at h0 51 2 := ri_frf Ch521 (d := 6) rfl rfl (by decide +kernel)
                  have eh521_51_3 : ri_at h521 51 3 = ri_at h0 51 3 := ri_frf Ch521 (d := 6) rfl rfl (by decide +kernel)
                  have eh521_51_4 : ri_at h521 51 4 = ri_at h0 51 4 := ri_frf Ch521 (d := 6) rfl rfl (by decide +kernel)
                  have eh521_51_5 : ri_at h521 51 5 = ri_at h0 51 5 := ri_frf Ch521 (d := 6) rfl rfl (by decide +kernel)
                  have eh521_51_6 : ri_at h521 51 6 = ri_at h0 51 6 := ri_frf Ch521 (d := 6) rfl rfl (by decide +kernel)
                  first | (exfalso; omega) | exact ex_reti oq_X5_readNumber_117 rfl (hQ x520 h521 Th521 Fh521 (.inr ⟨_, (zg_p (by omega)).trans (zn_2 (by omega) (by omega)), by omega, by omega, by omega, by decide⟩))
                · refine ex_ilw oq_X5_readNumber_106 gL517_4 ?_
                  refine ex_il oq_X5_readNumber_108 gL517_2 ?_
                  refine ex_if oq_X5_readNumber_109 (t := 118) rfl rfl (fun (c522 : x516.toInt ≤ hi.toInt) => ?_) (fun (c522 : ¬ (x516.toInt ≤ hi.toInt)) => ?_)
                  · refine ex_al oq_X5_readNumber_118 gL517_0 ?_
                    refine ex_gf oq_X5_readNumber_119 hT (k := 50) (d := 5) rfl rfl (ri_ref (k := 50) (k' := 51) (d := 5) (f := 0) hT rfl rfl rfl (by decide) (ri_uniq (by decide +kernel))) ?_
                    refine ex_cv oq_X5_readNumber_122 (by decide) hT (k := 51) (d := 6) (as := []) (stk := []) rfl rfl rfl rfl rfl rfl ⟨rfl, rfl⟩ (R := fun o => ∃ hb : cv_H, o = (none, hb) ∧ cw_T G hb ∧ cw_Fr cw_Ds cw_sh kk_X6_step.2.2.2.2.2.1 h0 hb ∧ zC t n (zx t n p) hb) (ct_step (t := t) (n := n) (p := zx t n p) (fun i => by rw [ht, ← hA _ Fh0]) (fun i hi => by rw [hB _ Fh0]; exact hwd i hi) hT hn9 (by omega) (by omega) (fun hb b1 b2 b3 b4 b5 b6 => ⟨hb, rfl, b1, b2, b3, b4, b5, b6⟩)) (fun o ho => ?_)
                    obtain ⟨h523, rfl, Th523, Ch523, Zh523⟩ := ho
                    show cw_X _ _ _ _ _ [] h523
                    have Fh523 : cw_Fr cw_Ds cw_sh kk_X5_readNumber_1.2.2.2.2.2.1 h0 h523 := cw_Fr_tr Fh0 (cw_Fr_mono (by decide +kernel) Ch523)
                    have eh523_50_4 : ri_at h523 50 4 = ri_at h0 50 4 := ri_frf Ch523 (d := 5) rfl rfl (by decide +kernel)
                    have eh523_50_5 : ri_at h523 50 5 = ri_at h0 50 5 := ri_frf Ch523 (d := 5) rfl rfl (by decide +kernel)
                    obtain ⟨zah523, zbh523, zch523, zdh523⟩ := id Zh523
                    have zlh523 := zx_le (t := t) (n := n) (p := (zx t n p)) (by omega)
                    have rnh523 := rl_num zdh523
                    refine ex_ilw oq_X5_readNumber_125 gL517_4 ?_
                    first | (exfalso; omega) | exact ex_reti oq_X5_readNumber_127 rfl (hQ x516 h523 Th523 Fh523 (.inl ⟨_, _, (zg_p (by omega)).trans (zn_ok (by omega) (by omega) (by omega)), by omega, zx_le (by omega), Zh523, by omega, by omega⟩))
                  · refine ex_al oq_X5_readNumber_112 gL517_0 ?_
                    refine ex_ic oq_X5_readNumber_113 (m := 2) (by decide) (fun x524 hx524 => ?_)
                    refine ex_cv oq_X5_readNumber_114 (by decide) hT (k := 50) (d := 5) (as := [cv_i x524]) (stk := []) rfl rfl rfl rfl rfl rfl ⟨rfl, rfl⟩ (R := fun o => ∃ (x : Int32) (hb : cv_H), o = (some (cv_i x), hb) ∧ cw_T G hb ∧ cw_Fr cw_Ds cw_sh kk_X5_fail.2.2.2.2.2.1 h0 hb ∧ x.toInt = 0 ∧ (ri_at h0 50 4 = 0 ∧ ri_at hb 50 4 = x524.toInt ∧ ri_at hb 50 5 = ri_at h0 51 5 ∨ ¬ ri_at h0 50 4 = 0 ∧ ri_at hb 50 4 = ri_at h0 50 4 ∧ ri_at hb 50 5 = ri_at h0 50 5)) (ct_fail hT x524 (fun x hb b1 b2 b3 b4 => ⟨x, hb, rfl, b1, b2, b3, b4⟩)) (fun o ho => ?_)
                    obtain ⟨x525, h526, rfl, Th526, Ch526, zh526, fh526⟩ := ho
                    show cw_X _ _ _ _ _ [cv_i x525] h526
                    have Fh526 : cw_Fr cw_Ds cw_sh kk_X5_readNumber_1.2.2.2.2.2.1 h0 h526 := cw_Fr_tr Fh0 (cw_Fr_mono (by decide +kernel) Ch526)
                    have eh526_51_2 : ri_at h526 51 2 = ri_at h0 51 2 := ri_frf Ch526 (d := 6) rfl rfl (by decide +kernel)
                    have eh526_51_3 : ri_at h526 51 3 = ri_at h0 51 3 := ri_frf Ch526 (d := 6) rfl rfl (by decide +kernel)
                    have eh526_51_4 : ri_at h526 51 4 = ri_at h0 51 4 := ri_frf Ch526 (d := 6) rfl rfl (by decide +kernel)
                    have eh526_51_5 : ri_at h526 51 5 = ri_at h0 51 5 := ri_frf Ch526 (d := 6) rfl rfl (by decide +kernel)
                    have eh526_51_6 : ri_at h526 51 6 = ri_at h0 51 6 := ri_frf Ch526 (d := 6) rfl rfl (by decide +kernel)
                    first | (exfalso; omega) | exact ex_reti oq_X5_readNumber_117 rfl (hQ x525 h526 Th526 Fh526 (.inr ⟨_, (zg_p (by omega)).trans (zn_2 (by omega) (by omega)), by omega, by omega, by omega, by decide⟩))
              · refine ex_al oq_X5_readNumber_80 gL508_0 ?_
                refine ex_gf oq_X5_readNumber_81 hT (k := 50) (d := 5) rfl rfl (ri_ref (k := 50) (k' := 51) (d := 5) (f := 0) hT rfl rfl rfl (by decide) (ri_uniq (by decide +kernel))) ?_
                obtain ⟨x527, ax527, rx527, lx527, ux527⟩ := ri_fld (k := 51) (d := 6) (f := 6) hT rfl rfl rfl
                try dsimp only at lx527 ux527
                refine ex_gf oq_X5_readNumber_84 hT (k := 51) (d := 6) rfl rfl ax527 ?_
                refine ex_neg oq_X5_readNumber_87 (by omega) (fun x528 hx528 => ?_)
                refine ex_go oq_X5_readNumber_88 (t := 98) rfl rfl ?_
                refine ex_iswA oq_X5_readNumber_98 (fun L529 gL529_4 kL529 => ?_)
                have gL529_3 : cv_get L529 3 = some (cv_i x507) := kL529 3 _ (by decide) (fun _ => rfl) gL508_3
                have gL529_0 : cv_get L529 0 = some (cv_r 50) := kL529 0 _ (by decide) (fun q => absurd q (by decide)) gL508_0
                have gL529_1 : cv_get L529 1 = some (cv_i lo) := kL529 1 _ (by decide) (fun q => absurd q (by decide)) gL508_1
                have gL529_2 : cv_get L529 2 = some (cv_i hi) := kL529 2 _ (by decide) (fun q => absurd q (by decide)) gL508_2
                refine ex_ilw oq_X5_readNumber_100 gL529_4 ?_
                refine ex_il oq_X5_readNumber_102 gL529_1 ?_
                refine ex_if oq_X5_readNumber_103 (t := 112) rfl rfl (fun (c530 : x528.toInt < lo.toInt) => ?_) (fun (c530 : ¬ (x528.toInt < lo.toInt)) => ?_)
                · refine ex_al oq_X5_readNumber_112 gL529_0 ?_
                  refine ex_ic oq_X5_readNumber_113 (m := 2) (by decide) (fun x531 hx531 => ?_)
                  refine ex_cv oq_X5_readNumber_114 (by decide) hT (k := 50) (d := 5) (as := [cv_i x531]) (stk := []) rfl rfl rfl rfl rfl rfl ⟨rfl, rfl⟩ (R := fun o => ∃ (x : Int32) (hb : cv_H), o = (some (cv_i x), hb) ∧ cw_T G hb ∧ cw_Fr cw_Ds cw_sh kk_X5_fail.2.2.2.2.2.1 h0 hb ∧ x.toInt = 0 ∧ (ri_at h0 50 4 = 0 ∧ ri_at hb 50 4 = x531.toInt ∧ ri_at hb 50 5 = ri_at h0 51 5 ∨ ¬ ri_at h0 50 4 = 0 ∧ ri_at hb 50 4 = ri_at h0 50 4 ∧ ri_at hb 50 5 = ri_at h0 50 5)) (ct_fail hT x531 (fun x hb b1 b2 b3 b4 => ⟨x, hb, rfl, b1, b2, b3, b4⟩)) (fun o ho => ?_)
                  obtain ⟨x532, h533, rfl, Th533, Ch533, zh533, fh533⟩ := ho
                  show cw_X _ _ _ _ _ [cv_i x532] h533
                  have Fh533 : cw_Fr cw_Ds cw_sh kk_X5_readNumber_1.2.2.2.2.2.1 h0 h533 := cw_Fr_tr Fh0 (cw_Fr_mono (by decide +kernel) Ch533)
                  have eh533_51_2 : ri_at h533 51 2 = ri_at h0 51 2 := ri_frf Ch533 (d := 6) rfl rfl (by decide +kernel)
                  have eh533_51_3 : ri_at h533 51 3 = ri_at h0 51 3 := ri_frf Ch533 (d := 6) rfl rfl (by decide +kernel)
                  have eh533_51_4 : ri_at h533 51 4 = ri_at h0 51 4 := ri_frf Ch533 (d := 6) rfl rfl (by decide +kernel)
                  have eh533_51_5 : ri_at h533 51 5 = ri_at h0 51 5 := ri_frf Ch533 (d := 6) rfl rfl (by decide +kernel)
                  have eh533_51_6 : ri_at h533 51 6 = ri_at h0 51 6 := ri_frf Ch533 (d := 6) rfl rfl (by decide +kernel)
                  first | (exfalso; omega) | exact ex_reti oq_X5_readNumber_117 rfl (hQ x532 h533 Th533 Fh533 (.inr ⟨_, (zg_p (by omega)).trans (zn_2 (by omega) (by omega)), by omega, by omega, by omega, by decide⟩))
                · refine ex_ilw oq_X5_readNumber_106 gL529_4 ?_
                  refine ex_il oq_X5_readNumber_108 gL529_2 ?_
                  refine ex_if oq_X5_readNumber_109 (t := 118) rfl rfl (fun (c534 : x528.toInt ≤ hi.toInt) => ?_) (fun (c534 : ¬ (x528.toInt ≤ hi.toInt)) => ?_)
                  · refine ex_al oq_X5_readNumber_118 gL529_0 ?_
                    refine ex_gf oq_X5_readNumber_119 hT (k := 50) (d := 5) rfl rfl (ri_ref (k := 50) (k' := 51) (d := 5) (f := 0) hT rfl rfl rfl (by decide) (ri_uniq (by decide +kernel))) ?_
                    refine ex_cv oq_X5_readNumber_122 (by decide) hT (k := 51) (d := 6) (as := []) (stk := []) rfl rfl rfl rfl rfl rfl ⟨rfl, rfl⟩ (R := fun o => ∃ hb : cv_H, o = (none, hb) ∧ cw_T G hb ∧ cw_Fr cw_Ds cw_sh kk_X6_step.2.2.2.2.2.1 h0 hb ∧ zC t n (zx t n p) hb) (ct_step (t := t) (n := n) (p := zx t n p) (fun i => by rw [ht, ← hA _ Fh0]) (fun i hi => by rw [hB _ Fh0]; exact hwd i hi) hT hn9 (by omega) (by omega) (fun hb b1 b2 b3 b4 b5 b6 => ⟨hb, rfl, b1, b2, b3, b4, b5, b6⟩)) (fun o ho => ?_)
                    obtain ⟨h535, rfl, Th535, Ch535, Zh535⟩ := ho
                    show cw_X _ _ _ _ _ [] h535
                    have Fh535 : cw_Fr cw_Ds cw_sh kk_X5_readNumber_1.2.2.2.2.2.1 h0 h535 := cw_Fr_tr Fh0 (cw_Fr_mono (by decide +kernel) Ch535)
                    have eh535_50_4 : ri_at h535 50 4 = ri_at h0 50 4 := ri_frf Ch535 (d := 5) rfl rfl (by decide +kernel)
                    have eh535_50_5 : ri_at h535 50 5 = ri_at h0 50 5 := ri_frf Ch535 (d := 5) rfl rfl (by decide +kernel)
                    obtain ⟨zah535, zbh535, zch535, zdh535⟩ := id Zh535
                    have zlh535 := zx_le (t := t) (n := n) (p := (zx t n p)) (by omega)
                    have rnh535 := rl_num zdh535
                    refine ex_ilw oq_X5_readNumber_125 gL529_4 ?_
                    first | (exfalso; omega) | exact ex_reti oq_X5_readNumber_127 rfl (hQ x528 h535 Th535 Fh535 (.inl ⟨_, _, (zg_p (by omega)).trans (zn_ok (by omega) (by omega) (by omega)), by omega, zx_le (by omega), Zh535, by omega, by omega⟩))
                  · refine ex_al oq_X5_readNumber_112 gL529_0 ?_
                    refine ex_ic oq_X5_readNumber_113 (m := 2) (by decide) (fun x536 hx536 => ?_)
                    refine ex_cv oq_X5_readNumber_114 (by decide) hT (k := 50) (d := 5) (as := [cv_i x536]) (stk := []) rfl rfl rfl rfl rfl rfl ⟨rfl, rfl⟩ (R := fun o => ∃ (x : Int32) (hb : cv_H), o = (some (cv_i x), hb) ∧ cw_T G hb ∧ cw_Fr cw_Ds cw_sh kk_X5_fail.2.2.2.2.2.1 h0 hb ∧ x.toInt = 0 ∧ (ri_at h0 50 4 = 0 ∧ ri_at hb 50 4 = x536.toInt ∧ ri_at hb 50 5 = ri_at h0 51 5 ∨ ¬ ri_at h0 50 4 = 0 ∧ ri_at hb 50 4 = ri_at h0 50 4 ∧ ri_at hb 50 5 = ri_at h0 50 5)) (ct_fail hT x536 (fun x hb b1 b2 b3 b4 => ⟨x, hb, rfl, b1, b2, b3, b4⟩)) (fun o ho => ?_)
                    obtain ⟨x537, h538, rfl, Th538, Ch538, zh538, fh538⟩ := ho
                    show cw_X _ _ _ _ _ [cv_i x537] h538
                    have Fh538 : cw_Fr cw_Ds cw_sh kk_X5_readNumber_1.2.2.2.2.2.1 h0 h538 := cw_Fr_tr Fh0 (cw_Fr_mono (by decide +kernel) Ch538)
                    have eh538_51_2 : ri_at h538 51 2 = ri_at h0 51 2 := ri_frf Ch538 (d := 6) rfl rfl (by decide +kernel)
                    have eh538_51_3 : ri_at h538 51 3 = ri_at h0 51 3 := ri_frf Ch538 (d := 6) rfl rfl (by decide +kernel)
                    have eh538_51_4 : ri_at h538 51 4 = ri_at h0 51 4 := ri_frf Ch538 (d := 6) rfl rfl (by decide +kernel)
                    have eh538_51_5 : ri_at h538 51 5 = ri_at h0 51 5 := ri_frf Ch538 (d := 6) rfl rfl (by decide +kernel)
                    have eh538_51_6 : ri_at h538 51 6 = ri_at h0 51 6 := ri_frf Ch538 (d := 6) rfl rfl (by decide +kernel)
                    first | (exfalso; omega) | exact ex_reti oq_X5_readNumber_117 rfl (hQ x537 h538 Th538 Fh538 (.inr ⟨_, (zg_p (by omega)).trans (zn_2 (by omega) (by omega)), by omega, by omega, by omega, by decide⟩))
            · refine ex_al oq_X5_readNumber_70 gL508_0 ?_
              refine ex_ic oq_X5_readNumber_71 (m := 1) (by decide) (fun x539 hx539 => ?_)
              refine ex_cv oq_X5_readNumber_72 (by decide) hT (k := 50) (d := 5) (as := [cv_i x539]) (stk := []) rfl rfl rfl rfl rfl rfl ⟨rfl, rfl⟩ (R := fun o => ∃ (x : Int32) (hb : cv_H), o = (some (cv_i x), hb) ∧ cw_T G hb ∧ cw_Fr cw_Ds cw_sh kk_X5_fail.2.2.2.2.2.1 h0 hb ∧ x.toInt = 0 ∧ (ri_at h0 50 4 = 0 ∧ ri_at hb 50 4 = x539.toInt ∧ ri_at hb 50 5 = ri_at h0 51 5 ∨ ¬ ri_at h0 50 4 = 0 ∧ ri_at hb 50 4 = ri_at h0 50 4 ∧ ri_at hb 50 5 = ri_at h0 50 5)) (ct_fail hT x539 (fun x hb b1 b2 b3 b4 => ⟨x, hb, rfl, b1, b2, b3, b4⟩)) (fun o ho => ?_)
              obtain ⟨x540, h541, rfl, Th541, Ch541, zh541, fh541⟩ := ho
              show cw_X _ _ _ _ _ [cv_i x540] h541
              have Fh541 : cw_Fr cw_Ds cw_sh kk_X5_readNumber_1.2.2.2.2.2.1 h0 h541 := cw_Fr_tr Fh0 (cw_Fr_mono (by decide +kernel) Ch541)
              have eh541_51_2 : ri_at h541 51 2 = ri_at h0 51 2 := ri_frf Ch541 (d := 6) rfl rfl (by decide +kernel)
              have eh541_51_3 : ri_at h541 51 3 = ri_at h0 51 3 := ri_frf Ch541 (d := 6) rfl rfl (by decide +kernel)
              have eh541_51_4 : ri_at h541 51 4 = ri_at h0 51 4 := ri_frf Ch541 (d := 6) rfl rfl (by decide +kernel)
              have eh541_51_5 : ri_at h541 51 5 = ri_at h0 51 5 := ri_frf Ch541 (d := 6) rfl rfl (by decide +kernel)
              have eh541_51_6 : ri_at h541 51 6 = ri_at h0 51 6 := ri_frf Ch541 (d := 6) rfl rfl (by decide +kernel)
              first | (exfalso; omega) | exact ex_reti oq_X5_readNumber_75 rfl (hQ x540 h541 Th541 Fh541 (.inr ⟨_, (zg_p (by omega)).trans (zn_1 (by omega)), by omega, by omega, by omega, by decide⟩))
        · refine ex_al oq_X5_readNumber_45 gL508_0 ?_
          refine ex_gf oq_X5_readNumber_46 hT (k := 50) (d := 5) rfl rfl (ri_ref (k := 50) (k' := 51) (d := 5) (f := 0) hT rfl rfl rfl (by decide) (ri_uniq (by decide +kernel))) ?_
          refine ex_cv oq_X5_readNumber_49 (by decide) hT (k := 51) (d := 6) (as := []) (stk := []) rfl rfl rfl rfl rfl rfl ⟨rfl, rfl⟩ (R := fun o => ∃ hb : cv_H, o = (none, hb) ∧ cw_T G hb ∧ cw_Fr cw_Ds cw_sh kk_X6_step.2.2.2.2.2.1 h0 hb ∧ zC t n (zx t n p) hb) (ct_step (t := t) (n := n) (p := zx t n p) (fun i => by rw [ht, ← hA _ Fh0]) (fun i hi => by rw [hB _ Fh0]; exact hwd i hi) hT hn9 (by omega) (by omega) (fun hb b1 b2 b3 b4 b5 b6 => ⟨hb, rfl, b1, b2, b3, b4, b5, b6⟩)) (fun o ho => ?_)
          obtain ⟨h542, rfl, Th542, Ch542, Zh542⟩ := ho
          show cw_X _ _ _ _ _ [] h542
          have Fh542 : cw_Fr cw_Ds cw_sh kk_X5_readNumber_1.2.2.2.2.2.1 h0 h542 := cw_Fr_tr Fh0 (cw_Fr_mono (by decide +kernel) Ch542)
          have eh542_50_4 : ri_at h542 50 4 = ri_at h0 50 4 := ri_frf Ch542 (d := 5) rfl rfl (by decide +kernel)
          have eh542_50_5 : ri_at h542 50 5 = ri_at h0 50 5 := ri_frf Ch542 (d := 5) rfl rfl (by decide +kernel)
          obtain ⟨zah542, zbh542, zch542, zdh542⟩ := id Zh542
          have zlh542 := zx_le (t := t) (n := n) (p := (zx t n p)) (by omega)
          have rnh542 := rl_num zdh542
          refine ex_al oq_X5_readNumber_52 gL508_0 ?_
          obtain ⟨x543, ax543, rx543, lx543, ux543⟩ := ri_fld (k := 50) (d := 5) (f := 4) Th542 rfl rfl rfl
          try dsimp only at lx543 ux543
          refine ex_gf oq_X5_readNumber_53 Th542 (k := 50) (d := 5) rfl rfl ax543 ?_
          refine ex_if0 oq_X5_readNumber_56 (t := 70) rfl rfl (fun (c544 : ¬ x543.toInt = 0) => ?_) (fun (c544 : ¬ (¬ x543.toInt = 0)) => ?_)
          · exfalso; omega
          · refine ex_al oq_X5_readNumber_59 gL508_0 ?_
            refine ex_gf oq_X5_readNumber_60 Th542 (k := 50) (d := 5) rfl rfl (ri_ref (k := 50) (k' := 51) (d := 5) (f := 0) Th542 rfl rfl rfl (by decide) (ri_uniq (by decide +kernel))) ?_
            obtain ⟨x545, ax545, rx545, lx545, ux545⟩ := ri_fld (k := 51) (d := 6) (f := 4) Th542 rfl rfl rfl
            try dsimp only at lx545 ux545
            refine ex_gf oq_X5_readNumber_63 Th542 (k := 51) (d := 6) rfl rfl ax545 ?_
            refine ex_ic oq_X5_readNumber_66 (m := 4) (by decide) (fun x546 hx546 => ?_)
            refine ex_if oq_X5_readNumber_67 (t := 76) rfl rfl (fun (c547 : x545.toInt = x546.toInt) => ?_) (fun (c547 : ¬ (x545.toInt = x546.toInt)) => ?_)
            · refine ex_il oq_X5_readNumber_76 gL508_3 ?_
              refine ex_if0 oq_X5_readNumber_77 (t := 91) rfl rfl (fun (c548 : x507.toInt = 0) => ?_) (fun (c548 : ¬ (x507.toInt = 0)) => ?_)
              · refine ex_al oq_X5_readNumber_91 gL508_0 ?_
                refine ex_gf oq_X5_readNumber_92 Th542 (k := 50) (d := 5) rfl rfl (ri_ref (k := 50) (k' := 51) (d := 5) (f := 0) Th542 rfl rfl rfl (by decide) (ri_uniq (by decide +kernel))) ?_
                obtain ⟨x549, ax549, rx549, lx549, ux549⟩ := ri_fld (k := 51) (d := 6) (f := 6) Th542 rfl rfl rfl
                try dsimp only at lx549 ux549
                refine ex_gf oq_X5_readNumber_95 Th542 (k := 51) (d := 6) rfl rfl ax549 ?_
                refine ex_iswA oq_X5_readNumber_98 (fun L550 gL550_4 kL550 => ?_)
                have gL550_3 : cv_get L550 3 = some (cv_i x507) := kL550 3 _ (by decide) (fun _ => rfl) gL508_3
                have gL550_0 : cv_get L550 0 = some (cv_r 50) := kL550 0 _ (by decide) (fun q => absurd q (by decide)) gL508_0
                have gL550_1 : cv_get L550 1 = some (cv_i lo) := kL550 1 _ (by decide) (fun q => absurd q (by decide)) gL508_1
                have gL550_2 : cv_get L550 2 = some (cv_i hi) := kL550 2 _ (by decide) (fun q => absurd q (by decide)) gL508_2
                refine ex_ilw oq_X5_readNumber_100 gL550_4 ?_
                refine ex_il oq_X5_readNumber_102 gL550_1 ?_
                refine ex_if oq_X5_readNumber_103 (t := 112) rfl rfl (fun (c551 : x549.toInt < lo.toInt) => ?_) (fun (c551 : ¬ (x549.toInt < lo.toInt)) => ?_)
                · refine ex_al oq_X5_readNumber_112 gL550_0 ?_
                  refine ex_ic oq_X5_readNumber_113 (m := 2) (by decide) (fun x552 hx552 => ?_)
                  refine ex_cv oq_X5_readNumber_114 (by decide) Th542 (k := 50) (d := 5) (as := [cv_i x552]) (stk := []) rfl rfl rfl rfl rfl rfl ⟨rfl, rfl⟩ (R := fun o => ∃ (x : Int32) (hb : cv_H), o = (some (cv_i x), hb) ∧ cw_T G hb ∧ cw_Fr cw_Ds cw_sh kk_X5_fail.2.2.2.2.2.1 h542 hb ∧ x.toInt = 0 ∧ (ri_at h542 50 4 = 0 ∧ ri_at hb 50 4 = x552.toInt ∧ ri_at hb 50 5 = ri_at h542 51 5 ∨ ¬ ri_at h542 50 4 = 0 ∧ ri_at hb 50 4 = ri_at h542 50 4 ∧ ri_at hb 50 5 = ri_at h542 50 5)) (ct_fail Th542 x552 (fun x hb b1 b2 b3 b4 => ⟨x, hb, rfl, b1, b2, b3, b4⟩)) (fun o ho => ?_)
                  obtain ⟨x553, h554, rfl, Th554, Ch554, zh554, fh554⟩ := ho
                  show cw_X _ _ _ _ _ [cv_i x553] h554
                  have Fh554 : cw_Fr cw_Ds cw_sh kk_X5_readNumber_1.2.2.2.2.2.1 h0 h554 := cw_Fr_tr Fh542 (cw_Fr_mono (by decide +kernel) Ch554)
                  have eh554_51_2 : ri_at h554 51 2 = ri_at h542 51 2 := ri_frf Ch554 (d := 6) rfl rfl (by decide +kernel)
                  have eh554_51_3 : ri_at h554 51 3 = ri_at h542 51 3 := ri_frf Ch554 (d := 6) rfl rfl (by decide +kernel)
                  have eh554_51_4 : ri_at h554 51 4 = ri_at h542 51 4 := ri_frf Ch554 (d := 6) rfl rfl (by decide +kernel)
                  have eh554_51_5 : ri_at h554 51 5 = ri_at h542 51 5 := ri_frf Ch554 (d := 6) rfl rfl (by decide +kernel)
                  have eh554_51_6 : ri_at h554 51 6 = ri_at h542 51 6 := ri_frf Ch554 (d := 6) rfl rfl (by decide +kernel)
                  first | (exfalso; omega) | exact ex_reti oq_X5_readNumber_117 rfl (hQ x553 h554 Th554 Fh554 (.inr ⟨_, zg_me (by omega) (zn_2 (by omega) (by omega)), by omega, by omega, by omega, by decide⟩))
                · refine ex_ilw oq_X5_readNumber_106 gL550_4 ?_
                  refine ex_il oq_X5_readNumber_108 gL550_2 ?_
                  refine ex_if oq_X5_readNumber_109 (t := 118) rfl rfl (fun (c555 : x549.toInt ≤ hi.toInt) => ?_) (fun (c555 : ¬ (x549.toInt ≤ hi.toInt)) => ?_)
                  · refine ex_al oq_X5_readNumber_118 gL550_0 ?_
                    refine ex_gf oq_X5_readNumber_119 Th542 (k := 50) (d := 5) rfl rfl (ri_ref (k := 50) (k' := 51) (d := 5) (f := 0) Th542 rfl rfl rfl (by decide) (ri_uniq (by decide +kernel))) ?_
                    refine ex_cv oq_X5_readNumber_122 (by decide) Th542 (k := 51) (d := 6) (as := []) (stk := []) rfl rfl rfl rfl rfl rfl ⟨rfl, rfl⟩ (R := fun o => ∃ hb : cv_H, o = (none, hb) ∧ cw_T G hb ∧ cw_Fr cw_Ds cw_sh kk_X6_step.2.2.2.2.2.1 h542 hb ∧ zC t n (zx t n (zx t n p)) hb) (ct_step (t := t) (n := n) (p := zx t n (zx t n p)) (fun i => by rw [ht, ← hA _ Fh542]) (fun i hi => by rw [hB _ Fh542]; exact hwd i hi) Th542 hn9 (by omega) (by omega) (fun hb b1 b2 b3 b4 b5 b6 => ⟨hb, rfl, b1, b2, b3, b4, b5, b6⟩)) (fun o ho => ?_)
                    obtain ⟨h556, rfl, Th556, Ch556, Zh556⟩ := ho
                    show cw_X _ _ _ _ _ [] h556
                    have Fh556 : cw_Fr cw_Ds cw_sh kk_X5_readNumber_1.2.2.2.2.2.1 h0 h556 := cw_Fr_tr Fh542 (cw_Fr_mono (by decide +kernel) Ch556)
                    have eh556_50_4 : ri_at h556 50 4 = ri_at h542 50 4 := ri_frf Ch556 (d := 5) rfl rfl (by decide +kernel)
                    have eh556_50_5 : ri_at h556 50 5 = ri_at h542 50 5 := ri_frf Ch556 (d := 5) rfl rfl (by decide +kernel)
                    obtain ⟨zah556, zbh556, zch556, zdh556⟩ := id Zh556
                    have zlh556 := zx_le (t := t) (n := n) (p := (zx t n (zx t n p))) (by omega)
                    have rnh556 := rl_num zdh556
                    refine ex_ilw oq_X5_readNumber_125 gL550_4 ?_
                    first | (exfalso; omega) | exact ex_reti oq_X5_readNumber_127 rfl (hQ x549 h556 Th556 Fh556 (.inl ⟨_, _, zg_m (by omega) (zn_ok (by omega) (by omega) (by omega)), by omega, zx_le (by omega), Zh556, by omega, by omega⟩))
                  · refine ex_al oq_X5_readNumber_112 gL550_0 ?_
                    refine ex_ic oq_X5_readNumber_113 (m := 2) (by decide) (fun x557 hx557 => ?_)
                    refine ex_cv oq_X5_readNumber_114 (by decide) Th542 (k := 50) (d := 5) (as := [cv_i x557]) (stk := []) rfl rfl rfl rfl rfl rfl ⟨rfl, rfl⟩ (R := fun o => ∃ (x : Int32) (hb : cv_H), o = (some (cv_i x), hb) ∧ cw_T G hb ∧ cw_Fr cw_Ds cw_sh kk_X5_fail.2.2.2.2.2.1 h542 hb ∧ x.toInt = 0 ∧ (ri_at h542 50 4 = 0 ∧ ri_at hb 50 4 = x557.toInt ∧ ri_at hb 50 5 = ri_at h542 51 5 ∨ ¬ ri_at h542 50 4 = 0 ∧ ri_at hb 50 4 = ri_at h542 50 4 ∧ ri_at hb 50 5 = ri_at h542 50 5)) (ct_fail Th542 x557 (fun x hb b1 b2 b3 b4 => ⟨x, hb, rfl, b1, b2, b3, b4⟩)) (fun o ho => ?_)
                    obtain ⟨x558, h559, rfl, Th559, Ch559, zh559, fh559⟩ := ho
                    show cw_X _ _ _ _ _ [cv_i x558] h559
                    have Fh559 : cw_Fr cw_Ds cw_sh kk_X5_readNumber_1.2.2.2.2.2.1 h0 h559 := cw_Fr_tr Fh542 (cw_Fr_mono (by decide +kernel) Ch559)
                    have eh559_51_2 : ri_at h559 51 2 = ri_at h542 51 2 := ri_frf Ch559 (d := 6) rfl rfl (by decide +kernel)
                    have eh559_51_3 : ri_at h559 51 3 = ri_at h542 51 3 := ri_frf Ch559 (d := 6) rfl rfl (by decide +kernel)
                    have eh559_51_4 : ri_at h559 51 4 = ri_at h542 51 4 := ri_frf Ch559 (d := 6) rfl rfl (by decide +kernel)
                    have eh559_51_5 : ri_at h559 51 5 = ri_at h542 51 5 := ri_frf Ch559 (d := 6) rfl rfl (by decide +kernel)
                    have eh559_51_6 : ri_at h559 51 6 = ri_at h542 51 6 := ri_frf Ch559 (d := 6) rfl rfl (by decide +kernel)
                    first | (exfalso; omega) | exact ex_reti oq_X5_readNumber_117 rfl (hQ x558 h559 Th559 Fh559 (.inr ⟨_, zg_me (by omega) (zn_2 (by omega) (by omega)), by omega, by omega, by omega, by decide⟩))
              · refine ex_al oq_X5_readNumber_80 gL508_0 ?_
                refine ex_gf oq_X5_readNumber_81 Th542 (k := 50) (d := 5) rfl rfl (ri_ref (k := 50) (k' := 51) (d := 5) (f := 0) Th542 rfl rfl rfl (by decide) (ri_uniq (by decide +kernel))) ?_
                obtain ⟨x560, ax560, rx560, lx560, ux560⟩ := ri_fld (k := 51) (d := 6) (f := 6) Th542 rfl rfl rfl
                try dsimp only at lx560 ux560
                refine ex_gf oq_X5_readNumber_84 Th542 (k := 51) (d := 6) rfl rfl ax560 ?_
                refine ex_neg oq_X5_readNumber_87 (by omega) (fun x561 hx561 => ?_)
                refine ex_go oq_X5_readNumber_88 (t := 98) rfl rfl ?_
                refine ex_iswA oq_X5_readNumber_98 (fun L562 gL562_4 kL562 => ?_)
                have gL562_3 : cv_get L562 3 = some (cv_i x507) := kL562 3 _ (by decide) (fun _ => rfl) gL508_3
                have gL562_0 : cv_get L562 0 = some (cv_r 50) := kL562 0 _ (by decide) (fun q => absurd q (by decide)) gL508_0
                have gL562_1 : cv_get L562 1 = some (cv_i lo) := kL562 1 _ (by decide) (fun q => absurd q (by decide)) gL508_1
                have gL562_2 : cv_get L562 2 = some (cv_i hi) := kL562 2 _ (by decide) (fun q => absurd q (by decide)) gL508_2
                refine ex_ilw oq_X5_readNumber_100 gL562_4 ?_
                refine ex_il oq_X5_readNumber_102 gL562_1 ?_
                refine ex_if oq_X5_readNumber_103 (t := 112) rfl rfl (fun (c563 : x561.toInt < lo.toInt) => ?_) (fun (c563 : ¬ (x561.toInt < lo.toInt)) => ?_)
                · refine ex_al oq_X5_readNumber_112 gL562_0 ?_
                  refine ex_ic oq_X5_readNumber_113 (m := 2) (by decide) (fun x564 hx564 => ?_)
                  refine ex_cv oq_X5_readNumber_114 (by decide) Th542 (k := 50) (d := 5) (as := [cv_i x564]) (stk := []) rfl rfl rfl rfl rfl rfl ⟨rfl, rfl⟩ (R := fun o => ∃ (x : Int32) (hb : cv_H), o = (some (cv_i x), hb) ∧ cw_T G hb ∧ cw_Fr cw_Ds cw_sh kk_X5_fail.2.2.2.2.2.1 h542 hb ∧ x.toInt = 0 ∧ (ri_at h542 50 4 = 0 ∧ ri_at hb 50 4 = x564.toInt ∧ ri_at hb 50 5 = ri_at h542 51 5 ∨ ¬ ri_at h542 50 4 = 0 ∧ ri_at hb 50 4 = ri_at h542 50 4 ∧ ri_at hb 50 5 = ri_at h542 50 5)) (ct_fail Th542 x564 (fun x hb b1 b2 b3 b4 => ⟨x, hb, rfl, b1, b2, b3, b4⟩)) (fun o ho => ?_)
                  obtain ⟨x565, h566, rfl, Th566, Ch566, zh566, fh566⟩ := ho
                  show cw_X _ _ _ _ _ [cv_i x565] h566
                  have Fh566 : cw_Fr cw_Ds cw_sh kk_X5_readNumber_1.2.2.2.2.2.1 h0 h566 := cw_Fr_tr Fh542 (cw_Fr_mono (by decide +kernel) Ch566)
                  have eh566_51_2 : ri_at h566 51 2 = ri_at h542 51 2 := ri_frf Ch566 (d := 6) rfl rfl (by decide +kernel)
                  have eh566_51_3 : ri_at h566 51 3 = ri_at h542 51 3 := ri_frf Ch566 (d := 6) rfl rfl (by decide +kernel)
                  have eh566_51_4 : ri_at h566 51 4 = ri_at h542 51 4 := ri_frf Ch566 (d := 6) rfl rfl (by decide +kernel)
                  have eh566_51_5 : ri_at h566 51 5 = ri_at h542 51 5 := ri_frf Ch566 (d := 6) rfl rfl (by decide +kernel)
                  have eh566_51_6 : ri_at h566 51 6 = ri_at h542 51 6 := ri_frf Ch566 (d := 6) rfl rfl (by decide +kernel)
                  first | (exfalso; omega) | exact ex_reti oq_X5_readNumber_117 rfl (hQ x565 h566 Th566 Fh566 (.inr ⟨_, zg_me (by omega) (zn_2 (by omega) (by omega)), by omega, by omega, by omega, by decide⟩))
                · refine ex_ilw oq_X5_readNumber_106 gL562_4 ?_
                  refine ex_il oq_X5_readNumber_108 gL562_2 ?_
                  refine ex_if oq_X5_readNumber_109 (t := 118) rfl rfl (fun (c567 : x561.toInt ≤ hi.toInt) => ?_) (fun (c567 : ¬ (x561.toInt ≤ hi.toInt)) => ?_)
                  · refine ex_al oq_X5_readNumber_118 gL562_0 ?_
                    refine ex_gf oq_X5_readNumber_119 Th542 (k := 50) (d := 5) rfl rfl (ri_ref (k := 50) (k' := 51) (d := 5) (f := 0) Th542 rfl rfl rfl (by decide) (ri_uniq (by decide +kernel))) ?_
                    refine ex_cv oq_X5_readNumber_122 (by decide) Th542 (k := 51) (d := 6) (as := []) (stk := []) rfl rfl rfl rfl rfl rfl ⟨rfl, rfl⟩ (R := fun o => ∃ hb : cv_H, o = (none, hb) ∧ cw_T G hb ∧ cw_Fr cw_Ds cw_sh kk_X6_step.2.2.2.2.2.1 h542 hb ∧ zC t n (zx t n (zx t n p)) hb) (ct_step (t := t) (n := n) (p := zx t n (zx t n p)) (fun i => by rw [ht, ← hA _ Fh542]) (fun i hi => by rw [hB _ Fh542]; exact hwd i hi) Th542 hn9 (by omega) (by omega) (fun hb b1 b2 b3 b4 b5 b6 => ⟨hb, rfl, b1, b2, b3, b4, b5, b6⟩)) (fun o ho => ?_)
                    obtain ⟨h568, rfl, Th568, Ch568, Zh568⟩ := ho
                    show cw_X _ _ _ _ _ [] h568
                    have Fh568 : cw_Fr cw_Ds cw_sh kk_X5_readNumber_1.2.2.2.2.2.1 h0 h568 := cw_Fr_tr Fh542 (cw_Fr_mono (by decide +kernel) Ch568)
                    have eh568_50_4 : ri_at h568 50 4 = ri_at h542 50 4 := ri_frf Ch568 (d := 5) rfl rfl (by decide +kernel)
                    have eh568_50_5 : ri_at h568 50 5 = ri_at h542 50 5 := ri_frf Ch568 (d := 5) rfl rfl (by decide +kernel)
                    obtain ⟨zah568, zbh568, zch568, zdh568⟩ := id Zh568
                    have zlh568 := zx_le (t := t) (n := n) (p := (zx t n (zx t n p))) (by omega)
                    have rnh568 := rl_num zdh568
                    refine ex_ilw oq_X5_readNumber_125 gL562_4 ?_
                    first | (exfalso; omega) | exact ex_reti oq_X5_readNumber_127 rfl (hQ x561 h568 Th568 Fh568 (.inl ⟨_, _, zg_m (by omega) (zn_ok (by omega) (by omega) (by omega)), by omega, zx_le (by omega), Zh568, by omega, by omega⟩))
                  · refine ex_al oq_X5_readNumber_112 gL562_0 ?_
                    refine ex_ic oq_X5_readNumber_113 (m := 2) (by decide) (fun x569 hx569 => ?_)
                    refine ex_cv oq_X5_readNumber_114 (by decide) Th542 (k := 50) (d := 5) (as := [cv_i x569]) (stk := []) rfl rfl rfl rfl rfl rfl ⟨rfl, rfl⟩ (R := fun o => ∃ (x : Int32) (hb : cv_H), o = (some (cv_i x), hb) ∧ cw_T G hb ∧ cw_Fr cw_Ds cw_sh kk_X5_fail.2.2.2.2.2.1 h542 hb ∧ x.toInt = 0 ∧ (ri_at h542 50 4 = 0 ∧ ri_at hb 50 4 = x569.toInt ∧ ri_at hb 50 5 = ri_at h542 51 5 ∨ ¬ ri_at h542 50 4 = 0 ∧ ri_at hb 50 4 = ri_at h542 50 4 ∧ ri_at hb 50 5 = ri_at h542 50 5)) (ct_fail Th542 x569 (fun x hb b1 b2 b3 b4 => ⟨x, hb, rfl, b1, b2, b3, b4⟩)) (fun o ho => ?_)
                    obtain ⟨x570, h571, rfl, Th571, Ch571, zh571, fh571⟩ := ho
                    show cw_X _ _ _ _ _ [cv_i x570] h571
                    have Fh571 : cw_Fr cw_Ds cw_sh kk_X5_readNumber_1.2.2.2.2.2.1 h0 h571 := cw_Fr_tr Fh542 (cw_Fr_mono (by decide +kernel) Ch571)
                    have eh571_51_2 : ri_at h571 51 2 = ri_at h542 51 2 := ri_frf Ch571 (d := 6) rfl rfl (by decide +kernel)
                    have eh571_51_3 : ri_at h571 51 3 = ri_at h542 51 3 := ri_frf Ch571 (d := 6) rfl rfl (by decide +kernel)
                    have eh571_51_4 : ri_at h571 51 4 = ri_at h542 51 4 := ri_frf Ch571 (d := 6) rfl rfl (by decide +kernel)
                    have eh571_51_5 : ri_at h571 51 5 = ri_at h542 51 5 := ri_frf Ch571 (d := 6) rfl rfl (by decide +kernel)
                    have eh571_51_6 : ri_at h571 51 6 = ri_at h542 51 6 := ri_frf Ch571 (d := 6) rfl rfl (by decide +kernel)
                    first | (exfalso; omega) | exact ex_reti oq_X5_readNumber_117 rfl (hQ x570 h571 Th571 Fh571 (.inr ⟨_, zg_me (by omega) (zn_2 (by omega) (by omega)), by omega, by omega, by omega, by decide⟩))
            · refine ex_al oq_X5_readNumber_70 gL508_0 ?_
              refine ex_ic oq_X5_readNumber_71 (m := 1) (by decide) (fun x572 hx572 => ?_)
              refine ex_cv oq_X5_readNumber_72 (by decide) Th542 (k := 50) (d := 5) (as := [cv_i x572]) (stk := []) rfl rfl rfl rfl rfl rfl ⟨rfl, rfl⟩ (R := fun o => ∃ (x : Int32) (hb : cv_H), o = (some (cv_i x), hb) ∧ cw_T G hb ∧ cw_Fr cw_Ds cw_sh kk_X5_fail.2.2.2.2.2.1 h542 hb ∧ x.toInt = 0 ∧ (ri_at h542 50 4 = 0 ∧ ri_at hb 50 4 = x572.toInt ∧ ri_at hb 50 5 = ri_at h542 51 5 ∨ ¬ ri_at h542 50 4 = 0 ∧ ri_at hb 50 4 = ri_at h542 50 4 ∧ ri_at hb 50 5 = ri_at h542 50 5)) (ct_fail Th542 x572 (fun x hb b1 b2 b3 b4 => ⟨x, hb, rfl, b1, b2, b3, b4⟩)) (fun o ho => ?_)
              obtain ⟨x573, h574, rfl, Th574, Ch574, zh574, fh574⟩ := ho
              show cw_X _ _ _ _ _ [cv_i x573] h574
              have Fh574 : cw_Fr cw_Ds cw_sh kk_X5_readNumber_1.2.2.2.2.2.1 h0 h574 := cw_Fr_tr Fh542 (cw_Fr_mono (by decide +kernel) Ch574)
              have eh574_51_2 : ri_at h574 51 2 = ri_at h542 51 2 := ri_frf Ch574 (d := 6) rfl rfl (by decide +kernel)
              have eh574_51_3 : ri_at h574 51 3 = ri_at h542 51 3 := ri_frf Ch574 (d := 6) rfl rfl (by decide +kernel)
              have eh574_51_4 : ri_at h574 51 4 = ri_at h542 51 4 := ri_frf Ch574 (d := 6) rfl rfl (by decide +kernel)
              have eh574_51_5 : ri_at h574 51 5 = ri_at h542 51 5 := ri_frf Ch574 (d := 6) rfl rfl (by decide +kernel)
              have eh574_51_6 : ri_at h574 51 6 = ri_at h542 51 6 := ri_frf Ch574 (d := 6) rfl rfl (by decide +kernel)
              first | (exfalso; omega) | exact ex_reti oq_X5_readNumber_75 rfl (hQ x573 h574 Th574 Fh574 (.inr ⟨_, zg_me (by omega) (zn_1 (by omega)), by omega, by omega, by omega, by decide⟩))
      · refine ex_al oq_X5_readNumber_22 rfl ?_
        refine ex_gf oq_X5_readNumber_23 hT (k := 50) (d := 5) rfl rfl (ri_ref (k := 50) (k' := 51) (d := 5) (f := 0) hT rfl rfl rfl (by decide) (ri_uniq (by decide +kernel))) ?_
        obtain ⟨x575, ax575, rx575, lx575, ux575⟩ := ri_fld (k := 51) (d := 6) (f := 6) hT rfl rfl rfl
        try dsimp only at lx575 ux575
        refine ex_gf oq_X5_readNumber_26 hT (k := 51) (d := 6) rfl rfl ax575 ?_
        refine ex_si oq_X5_readNumber_29 (m := 20010) (by decide) (fun x576 hx576 => ?_)
        refine ex_if oq_X5_readNumber_32 (t := 39) rfl rfl (fun (c577 : ¬ x575.toInt = x576.toInt) => ?_) (fun (c577 : ¬ (¬ x575.toInt = x576.toInt)) => ?_)
        · refine ex_ic oq_X5_readNumber_39 (m := 0) (by decide) (fun x578 hx578 => ?_)
          refine ex_isA oq_X5_readNumber_40 (fun L579 gL579_3 kL579 => ?_)
          have gL579_0 : cv_get L579 0 = some (cv_r 50) := kL579 0 _ (by decide) (fun q => absurd q (by decide)) rfl
          have gL579_1 : cv_get L579 1 = some (cv_i lo) := kL579 1 _ (by decide) (fun q => absurd q (by decide)) rfl
          have gL579_2 : cv_get L579 2 = some (cv_i hi) := kL579 2 _ (by decide) (fun _ => rfl) rfl
          refine ex_il oq_X5_readNumber_41 gL579_3 ?_
          refine ex_if0 oq_X5_readNumber_42 (t := 52) rfl rfl (fun (c580 : x578.toInt = 0) => ?_) (fun (c580 : ¬ (x578.toInt = 0)) => ?_)
          · refine ex_al oq_X5_readNumber_52 gL579_0 ?_
            obtain ⟨x581, ax581, rx581, lx581, ux581⟩ := ri_fld (k := 50) (d := 5) (f := 4) hT rfl rfl rfl
            try dsimp only at lx581 ux581
            refine ex_gf oq_X5_readNumber_53 hT (k := 50) (d := 5) rfl rfl ax581 ?_
            refine ex_if0 oq_X5_readNumber_56 (t := 70) rfl rfl (fun (c582 : ¬ x581.toInt = 0) => ?_) (fun (c582 : ¬ (¬ x581.toInt = 0)) => ?_)
            · exfalso; omega
            · refine ex_al oq_X5_readNumber_59 gL579_0 ?_
              refine ex_gf oq_X5_readNumber_60 hT (k := 50) (d := 5) rfl rfl (ri_ref (k := 50) (k' := 51) (d := 5) (f := 0) hT rfl rfl rfl (by decide) (ri_uniq (by decide +kernel))) ?_
              obtain ⟨x583, ax583, rx583, lx583, ux583⟩ := ri_fld (k := 51) (d := 6) (f := 4) hT rfl rfl rfl
              try dsimp only at lx583 ux583
              refine ex_gf oq_X5_readNumber_63 hT (k := 51) (d := 6) rfl rfl ax583 ?_
              refine ex_ic oq_X5_readNumber_66 (m := 4) (by decide) (fun x584 hx584 => ?_)
              refine ex_if oq_X5_readNumber_67 (t := 76) rfl rfl (fun (c585 : x583.toInt = x584.toInt) => ?_) (fun (c585 : ¬ (x583.toInt = x584.toInt)) => ?_)
              · refine ex_il oq_X5_readNumber_76 gL579_3 ?_
                refine ex_if0 oq_X5_readNumber_77 (t := 91) rfl rfl (fun (c586 : x578.toInt = 0) => ?_) (fun (c586 : ¬ (x578.toInt = 0)) => ?_)
                · refine ex_al oq_X5_readNumber_91 gL579_0 ?_
                  refine ex_gf oq_X5_readNumber_92 hT (k := 50) (d := 5) rfl rfl (ri_ref (k := 50) (k' := 51) (d := 5) (f := 0) hT rfl rfl rfl (by decide) (ri_uniq (by decide +kernel))) ?_
                  obtain ⟨x587, ax587, rx587, lx587, ux587⟩ := ri_fld (k := 51) (d := 6) (f := 6) hT rfl rfl rfl
                  try dsimp only at lx587 ux587
                  refine ex_gf oq_X5_readNumber_95 hT (k := 51) (d := 6) rfl rfl ax587 ?_
                  refine ex_iswA oq_X5_readNumber_98 (fun L588 gL588_4 kL588 => ?_)
                  have gL588_3 : cv_get L588 3 = some (cv_i x578) := kL588 3 _ (by decide) (fun _ => rfl) gL579_3
                  have gL588_0 : cv_get L588 0 = some (cv_r 50) := kL588 0 _ (by decide) (fun q => absurd q (by decide)) gL579_0
                  have gL588_1 : cv_get L588 1 = some (cv_i lo) := kL588 1 _ (by decide) (fun q => absurd q (by decide)) gL579_1
                  have gL588_2 : cv_get L588 2 = some (cv_i hi) := kL588 2 _ (by decide) (fun q => absurd q (by decide)) gL579_2
                  refine ex_ilw oq_X5_readNumber_100 gL588_4 ?_
                  refine ex_il oq_X5_readNumber_102 gL588_1 ?_
                  refine ex_if oq_X5_readNumber_103 (t := 112) rfl rfl (fun (c589 : x587.toInt < lo.toInt) => ?_) (fun (c589 : ¬ (x587.toInt < lo.toInt)) => ?_)
                  · refine ex_al oq_X5_readNumber_112 gL588_0 ?_
                    refine ex_ic oq_X5_readNumber_113 (m := 2) (by decide) (fun x590 hx590 => ?_)
                    refine ex_cv oq_X5_readNumber_114 (by decide) hT (k := 50) (d := 5) (as := [cv_i x590]) (stk := []) rfl rfl rfl rfl rfl rfl ⟨rfl, rfl⟩ (R := fun o => ∃ (x : Int32) (hb : cv_H), o = (some (cv_i x), hb) ∧ cw_T G hb ∧ cw_Fr cw_Ds cw_sh kk_X5_fail.2.2.2.2.2.1 h0 hb ∧ x.toInt = 0 ∧ (ri_at h0 50 4 = 0 ∧ ri_at hb 50 4 = x590.toInt ∧ ri_at hb 50 5 = ri_at h0 51 5 ∨ ¬ ri_at h0 50 4 = 0 ∧ ri_at hb 50 4 = ri_at h0 50 4 ∧ ri_at hb 50 5 = ri_at h0 50 5)) (ct_fail hT x590 (fun x hb b1 b2 b3 b4 => ⟨x, hb, rfl, b1, b2, b3, b4⟩)) (fun o ho => ?_)
                    obtain ⟨x591, h592, rfl, Th592, Ch592, zh592, fh592⟩ := ho
                    show cw_X _ _ _ _ _ [cv_i x591] h592
                    have Fh592 : cw_Fr cw_Ds cw_sh kk_X5_readNumber_1.2.2.2.2.2.1 h0 h592 := cw_Fr_tr Fh0 (cw_Fr_mono (by decide +kernel) Ch592)
                    have eh592_51_2 : ri_at h592 51 2 = ri_at h0 51 2 := ri_frf Ch592 (d := 6) rfl rfl (by decide +kernel)
                    have eh592_51_3 : ri_at h592 51 3 = ri_at h0 51 3 := ri_frf Ch592 (d := 6) rfl rfl (by decide +kernel)
                    have eh592_51_4 : ri_at h592 51 4 = ri_at h0 51 4 := ri_frf Ch592 (d := 6) rfl rfl (by decide +kernel)
                    have eh592_51_5 : ri_at h592 51 5 = ri_at h0 51 5 := ri_frf Ch592 (d := 6) rfl rfl (by decide +kernel)
                    have eh592_51_6 : ri_at h592 51 6 = ri_at h0 51 6 := ri_frf Ch592 (d := 6) rfl rfl (by decide +kernel)
                    first | (exfalso; omega) | exact ex_reti oq_X5_readNumber_117 rfl (hQ x591 h592 Th592 Fh592 (.inr ⟨_, (zg_p (by omega)).trans (zn_2 (by omega) (by omega)), by omega, by omega, by omega, by decide⟩))
                  · refine ex_ilw oq_X5_readNumber_106 gL588_4 ?_
                    refine ex_il oq_X5_readNumber_108 gL588_2 ?_
                    refine ex_if oq_X5_readNumber_109 (t := 118) rfl rfl (fun (c593 : x587.toInt ≤ hi.toInt) => ?_) (fun (c593 : ¬ (x587.toInt ≤ hi.toInt)) => ?_)
                    · refine ex_al oq_X5_readNumber_118 gL588_0 ?_
                      refine ex_gf oq_X5_readNumber_119 hT (k := 50) (d := 5) rfl rfl (ri_ref (k := 50) (k' := 51) (d := 5) (f := 0) hT rfl rfl rfl (by decide) (ri_uniq (by decide +kernel))) ?_
                      refine ex_cv oq_X5_readNumber_122 (by decide) hT (k := 51) (d := 6) (as := []) (stk := []) rfl rfl rfl rfl rfl rfl ⟨rfl, rfl⟩ (R := fun o => ∃ hb : cv_H, o = (none, hb) ∧ cw_T G hb ∧ cw_Fr cw_Ds cw_sh kk_X6_step.2.2.2.2.2.1 h0 hb ∧ zC t n (zx t n p) hb) (ct_step (t := t) (n := n) (p := zx t n p) (fun i => by rw [ht, ← hA _ Fh0]) (fun i hi => by rw [hB _ Fh0]; exact hwd i hi) hT hn9 (by omega) (by omega) (fun hb b1 b2 b3 b4 b5 b6 => ⟨hb, rfl, b1, b2, b3, b4, b5, b6⟩)) (fun o ho => ?_)
                      obtain ⟨h594, rfl, Th594, Ch594, Zh594⟩ := ho
                      show cw_X _ _ _ _ _ [] h594
                      have Fh594 : cw_Fr cw_Ds cw_sh kk_X5_readNumber_1.2.2.2.2.2.1 h0 h594 := cw_Fr_tr Fh0 (cw_Fr_mono (by decide +kernel) Ch594)
                      have eh594_50_4 : ri_at h594 50 4 = ri_at h0 50 4 := ri_frf Ch594 (d := 5) rfl rfl (by decide +kernel)
                      have eh594_50_5 : ri_at h594 50 5 = ri_at h0 50 5 := ri_frf Ch594 (d := 5) rfl rfl (by decide +kernel)
                      obtain ⟨zah594, zbh594, zch594, zdh594⟩ := id Zh594
                      have zlh594 := zx_le (t := t) (n := n) (p := (zx t n p)) (by omega)
                      have rnh594 := rl_num zdh594
                      refine ex_ilw oq_X5_readNumber_125 gL588_4 ?_
                      first | (exfalso; omega) | exact ex_reti oq_X5_readNumber_127 rfl (hQ x587 h594 Th594 Fh594 (.inl ⟨_, _, (zg_p (by omega)).trans (zn_ok (by omega) (by omega) (by omega)), by omega, zx_le (by omega), Zh594, by omega, by omega⟩))
                    · refine ex_al oq_X5_readNumber_112 gL588_0 ?_
                      refine ex_ic oq_X5_readNumber_113 (m := 2) (by decide) (fun x595 hx595 => ?_)
                      refine ex_cv oq_X5_readNumber_114 (by decide) hT (k := 50) (d := 5) (as := [cv_i x595]) (stk := []) rfl rfl rfl rfl rfl rfl ⟨rfl, rfl⟩ (R := fun o => ∃ (x : Int32) (hb : cv_H), o = (some (cv_i x), hb) ∧ cw_T G hb ∧ cw_Fr cw_Ds cw_sh kk_X5_fail.2.2.2.2.2.1 h0 hb ∧ x.toInt = 0 ∧ (ri_at h0 50 4 = 0 ∧ ri_at hb 50 4 = x595.toInt ∧ ri_at hb 50 5 = ri_at h0 51 5 ∨ ¬ ri_at h0 50 4 = 0 ∧ ri_at hb 50 4 = ri_at h0 50 4 ∧ ri_at hb 50 5 = ri_at h0 50 5)) (ct_fail hT x595 (fun x hb b1 b2 b3 b4 => ⟨x, hb, rfl, b1, b2, b3, b4⟩)) (fun o ho => ?_)
                      obtain ⟨x596, h597, rfl, Th597, Ch597, zh597, fh597⟩ := ho
                      show cw_X _ _ _ _ _ [cv_i x596] h597
                      have Fh597 : cw_Fr cw_Ds cw_sh kk_X5_readNumber_1.2.2.2.2.2.1 h0 h597 := cw_Fr_tr Fh0 (cw_Fr_mono (by decide +kernel) Ch597)
                      have eh597_51_2 : ri_at h597 51 2 = ri_at h0 51 2 := ri_frf Ch597 (d := 6) rfl rfl (by decide +kernel)
                      have eh597_51_3 : ri_at h597 51 3 = ri_at h0 51 3 := ri_frf Ch597 (d := 6) rfl rfl (by decide +kernel)
                      have eh597_51_4 : ri_at h597 51 4 = ri_at h0 51 4 := ri_frf Ch597 (d := 6) rfl rfl (by decide +kernel)
                      have eh597_51_5 : ri_at h597 51 5 = ri_at h0 51 5 := ri_frf Ch597 (d := 6) rfl rfl (by decide +kernel)
                      have eh597_51_6 : ri_at h597 51 6 = ri_at h0 51 6 := ri_frf Ch597 (d := 6) rfl rfl (by decide +kernel)
                      first | (exfalso; omega) | exact ex_reti oq_X5_readNumber_117 rfl (hQ x596 h597 Th597 Fh597 (.inr ⟨_, (zg_p (by omega)).trans (zn_2 (by omega) (by omega)), by omega, by omega, by omega, by decide⟩))
                · refine ex_al oq_X5_readNumber_80 gL579_0 ?_
                  refine ex_gf oq_X5_readNumber_81 hT (k := 50) (d := 5) rfl rfl (ri_ref (k := 50) (k' := 51) (d := 5) (f := 0) hT rfl rfl rfl (by decide) (ri_uniq (by decide +kernel))) ?_
                  obtain ⟨x598, ax598, rx598, lx598, ux598⟩ := ri_fld (k := 51) (d := 6) (f := 6) hT rfl rfl rfl
                  try dsimp only at lx598 ux598
                  refine ex_gf oq_X5_readNumber_84 hT (k := 51) (d := 6) rfl rfl ax598 ?_
                  refine ex_neg oq_X5_readNumber_87 (by omega) (fun x599 hx599 => ?_)
                  refine ex_go oq_X5_readNumber_88 (t := 98) rfl rfl ?_
                  refine ex_iswA oq_X5_readNumber_98 (fun L600 gL600_4 kL600 => ?_)
                  have gL600_3 : cv_get L600 3 = some (cv_i x578) := kL600 3 _ (by decide) (fun _ => rfl) gL579_3
                  have gL600_0 : cv_get L600 0 = some (cv_r 50) := kL600 0 _ (by decide) (fun q => absurd q (by decide)) gL579_0
                  have gL600_1 : cv_get L600 1 = some (cv_i lo) := kL600 1 _ (by decide) (fun q => absurd q (by decide)) gL579_1
                  have gL600_2 : cv_get L600 2 = some (cv_i hi) := kL600 2 _ (by decide) (fun q => absurd q (by decide)) gL579_2
                  refine ex_ilw oq_X5_readNumber_100 gL600_4 ?_
                  refine ex_il oq_X5_readNumber_102 gL600_1 ?_
                  refine ex_if oq_X5_readNumber_103 (t := 112) rfl rfl (fun (c601 : x599.toInt < lo.toInt) => ?_) (fun (c601 : ¬ (x599.toInt < lo.toInt)) => ?_)
                  · refine ex_al oq_X5_readNumber_112 gL600_0 ?_
                    refine ex_ic oq_X5_readNumber_113 (m := 2) (by decide) (fun x602 hx602 => ?_)
                    refine ex_cv oq_X5_readNumber_114 (by decide) hT (k := 50) (d := 5) (as := [cv_i x602]) (stk := []) rfl rfl rfl rfl rfl rfl ⟨rfl, rfl⟩ (R := fun o => ∃ (x : Int32) (hb : cv_H), o = (some (cv_i x), hb) ∧ cw_T G hb ∧ cw_Fr cw_Ds cw_sh kk_X5_fail.2.2.2.2.2.1 h0 hb ∧ x.toInt = 0 ∧ (ri_at h0 50 4 = 0 ∧ ri_at hb 50 4 = x602.toInt ∧ ri_at hb 50 5 = ri_at h0 51 5 ∨ ¬ ri_at h0 50 4 = 0 ∧ ri_at hb 50 4 = ri_at h0 50 4 ∧ ri_at hb 50 5 = ri_at h0 50 5)) (ct_fail hT x602 (fun x hb b1 b2 b3 b4 => ⟨x, hb, rfl, b1, b2, b3, b4⟩)) (fun o ho => ?_)
                    obtain ⟨x603, h604, rfl, Th604, Ch604, zh604, fh604⟩ := ho
                    show cw_X _ _ _ _ _ [cv_i x603] h604
                    have Fh604 : cw_Fr cw_Ds cw_sh kk_X5_readNumber_1.2.2.2.2.2.1 h0 h604 := cw_Fr_tr Fh0 (cw_Fr_mono (by decide +kernel) Ch604)
                    have eh604_51_2 : ri_at h604 51 2 = ri_at h0 51 2 := ri_frf Ch604 (d := 6) rfl rfl (by decide +kernel)
                    have eh604_51_3 : ri_at h604 51 3 = ri_at h0 51 3 := ri_frf Ch604 (d := 6) rfl rfl (by decide +kernel)
                    have eh604_51_4 : ri_at h604 51 4 = ri_at h0 51 4 := ri_frf Ch604 (d := 6) rfl rfl (by decide +kernel)
                    have eh604_51_5 : ri_at h604 51 5 = ri_at h0 51 5 := ri_frf Ch604 (d := 6) rfl rfl (by decide +kernel)
                    have eh604_51_6 : ri_at h604 51 6 = ri_at h0 51 6 := ri_frf Ch604 (d := 6) rfl rfl (by decide +kernel)
                    first | (exfalso; omega) | exact ex_reti oq_X5_readNumber_117 rfl (hQ x603 h604 Th604 Fh604 (.inr ⟨_, (zg_p (by omega)).trans (zn_2 (by omega) (by omega)), by omega, by omega, by omega, by decide⟩))
                  · refine ex_ilw oq_X5_readNumber_106 gL600_4 ?_
                    refine ex_il oq_X5_readNumber_108 gL600_2 ?_
                    refine ex_if oq_X5_readNumber_109 (t := 118) rfl rfl (fun (c605 : x599.toInt ≤ hi.toInt) => ?_) (fun (c605 : ¬ (x599.toInt ≤ hi.toInt)) => ?_)
                    · refine ex_al oq_X5_readNumber_118 gL600_0 ?_
                      refine ex_gf oq_X5_readNumber_119 hT (k := 50) (d := 5) rfl rfl (ri_ref (k := 50) (k' := 51) (d := 5) (f := 0) hT rfl rfl rfl (by decide) (ri_uniq (by decide +kernel))) ?_
                      refine ex_cv oq_X5_readNumber_122 (by decide) hT (k := 51) (d := 6) (as := []) (stk := []) rfl rfl rfl rfl rfl rfl ⟨rfl, rfl⟩ (R := fun o => ∃ hb : cv_H, o = (none, hb) ∧ cw_T G hb ∧ cw_Fr cw_Ds cw_sh kk_X6_step.2.2.2.2.2.1 h0 hb ∧ zC t n (zx t n p) hb) (ct_step (t := t) (n := n) (p := zx t n p) (fun i => by rw [ht, ← hA _ Fh0]) (fun i hi => by rw [hB _ Fh0]; exact hwd i hi) hT hn9 (by omega) (by omega) (fun hb b1 b2 b3 b4 b5 b6 => ⟨hb, rfl, b1, b2, b3, b4, b5, b6⟩)) (fun o ho => ?_)
                      obtain ⟨h606, rfl, Th606, Ch606, Zh606⟩ := ho
                      show cw_X _ _ _ _ _ [] h606
                      have Fh606 : cw_Fr cw_Ds cw_sh kk_X5_readNumber_1.2.2.2.2.2.1 h0 h606 := cw_Fr_tr Fh0 (cw_Fr_mono (by decide +kernel) Ch606)
                      have eh606_50_4 : ri_at h606 50 4 = ri_at h0 50 4 := ri_frf Ch606 (d := 5) rfl rfl (by decide +kernel)
                      have eh606_50_5 : ri_at h606 50 5 = ri_at h0 50 5 := ri_frf Ch606 (d := 5) rfl rfl (by decide +kernel)
                      obtain ⟨zah606, zbh606, zch606, zdh606⟩ := id Zh606
                      have zlh606 := zx_le (t := t) (n := n) (p := (zx t n p)) (by omega)
                      have rnh606 := rl_num zdh606
                      refine ex_ilw oq_X5_readNumber_125 gL600_4 ?_
                      first | (exfalso; omega) | exact ex_reti oq_X5_readNumber_127 rfl (hQ x599 h606 Th606 Fh606 (.inl ⟨_, _, (zg_p (by omega)).trans (zn_ok (by omega) (by omega) (by omega)), by omega, zx_le (by omega), Zh606, by omega, by omega⟩))
                    · refine ex_al oq_X5_readNumber_112 gL600_0 ?_
                      refine ex_ic oq_X5_readNumber_113 (m := 2) (by decide) (fun x607 hx607 => ?_)
                      refine ex_cv oq_X5_readNumber_114 (by decide) hT (k := 50) (d := 5) (as := [cv_i x607]) (stk := []) rfl rfl rfl rfl rfl rfl ⟨rfl, rfl⟩ (R := fun o => ∃ (x : Int32) (hb : cv_H), o = (some (cv_i x), hb) ∧ cw_T G hb ∧ cw_Fr cw_Ds cw_sh kk_X5_fail.2.2.2.2.2.1 h0 hb ∧ x.toInt = 0 ∧ (ri_at h0 50 4 = 0 ∧ ri_at hb 50 4 = x607.toInt ∧ ri_at hb 50 5 = ri_at h0 51 5 ∨ ¬ ri_at h0 50 4 = 0 ∧ ri_at hb 50 4 = ri_at h0 50 4 ∧ ri_at hb 50 5 = ri_at h0 50 5)) (ct_fail hT x607 (fun x hb b1 b2 b3 b4 => ⟨x, hb, rfl, b1, b2, b3, b4⟩)) (fun o ho => ?_)
                      obtain ⟨x608, h609, rfl, Th609, Ch609, zh609, fh609⟩ := ho
                      show cw_X _ _ _ _ _ [cv_i x608] h609
                      have Fh609 : cw_Fr cw_Ds cw_sh kk_X5_readNumber_1.2.2.2.2.2.1 h0 h609 := cw_Fr_tr Fh0 (cw_Fr_mono (by decide +kernel) Ch609)
                      have eh609_51_2 : ri_at h609 51 2 = ri_at h0 51 2 := ri_frf Ch609 (d := 6) rfl rfl (by decide +kernel)
                      have eh609_51_3 : ri_at h609 51 3 = ri_at h0 51 3 := ri_frf Ch609 (d := 6) rfl rfl (by decide +kernel)
                      have eh609_51_4 : ri_at h609 51 4 = ri_at h0 51 4 := ri_frf Ch609 (d := 6) rfl rfl (by decide +kernel)
                      have eh609_51_5 : ri_at h609 51 5 = ri_at h0 51 5 := ri_frf Ch609 (d := 6) rfl rfl (by decide +kernel)
                      have eh609_51_6 : ri_at h609 51 6 = ri_at h0 51 6 := ri_frf Ch609 (d := 6) rfl rfl (by decide +kernel)
                      first | (exfalso; omega) | exact ex_reti oq_X5_readNumber_117 rfl (hQ x608 h609 Th609 Fh609 (.inr ⟨_, (zg_p (by omega)).trans (zn_2 (by omega) (by omega)), by omega, by omega, by omega, by decide⟩))
              · refine ex_al oq_X5_readNumber_70 gL579_0 ?_
                refine ex_ic oq_X5_readNumber_71 (m := 1) (by decide) (fun x610 hx610 => ?_)
                refine ex_cv oq_X5_readNumber_72 (by decide) hT (k := 50) (d := 5) (as := [cv_i x610]) (stk := []) rfl rfl rfl rfl rfl rfl ⟨rfl, rfl⟩ (R := fun o => ∃ (x : Int32) (hb : cv_H), o = (some (cv_i x), hb) ∧ cw_T G hb ∧ cw_Fr cw_Ds cw_sh kk_X5_fail.2.2.2.2.2.1 h0 hb ∧ x.toInt = 0 ∧ (ri_at h0 50 4 = 0 ∧ ri_at hb 50 4 = x610.toInt ∧ ri_at hb 50 5 = ri_at h0 51 5 ∨ ¬ ri_at h0 50 4 = 0 ∧ ri_at hb 50 4 = ri_at h0 50 4 ∧ ri_at hb 50 5 = ri_at h0 50 5)) (ct_fail hT x610 (fun x hb b1 b2 b3 b4 => ⟨x, hb, rfl, b1, b2, b3, b4⟩)) (fun o ho => ?_)
                obtain ⟨x611, h612, rfl, Th612, Ch612, zh612, fh612⟩ := ho
                show cw_X _ _ _ _ _ [cv_i x611] h612
                have Fh612 : cw_Fr cw_Ds cw_sh kk_X5_readNumber_1.2.2.2.2.2.1 h0 h612 := cw_Fr_tr Fh0 (cw_Fr_mono (by decide +kernel) Ch612)
                have eh612_51_2 : ri_at h612 51 2 = ri_at h0 51 2 := ri_frf Ch612 (d := 6) rfl rfl (by decide +kernel)
                have eh612_51_3 : ri_at h612 51 3 = ri_at h0 51 3 := ri_frf Ch612 (d := 6) rfl rfl (by decide +kernel)
                have eh612_51_4 : ri_at h612 51 4 = ri_at h0 51 4 := ri_frf Ch612 (d := 6) rfl rfl (by decide +kernel)
                have eh612_51_5 : ri_at h612 51 5 = ri_at h0 51 5 := ri_frf Ch612 (d := 6) rfl rfl (by decide +kernel)
                have eh612_51_6 : ri_at h612 51 6 = ri_at h0 51 6 := ri_frf Ch612 (d := 6) rfl rfl (by decide +kernel)
                first | (exfalso; omega) | exact ex_reti oq_X5_readNumber_75 rfl (hQ x611 h612 Th612 Fh612 (.inr ⟨_, (zg_p (by omega)).trans (zn_1 (by omega)), by omega, by omega, by omega, by decide⟩))
          · refine ex_al oq_X5_readNumber_45 gL579_0 ?_
            refine ex_gf oq_X5_readNumber_46 hT (k := 50) (d := 5) rfl rfl (ri_ref (k := 50) (k' := 51) (d := 5) (f := 0) hT rfl rfl rfl (by decide) (ri_uniq (by decide +kernel))) ?_
            refine ex_cv oq_X5_readNumber_49 (by decide) hT (k := 51) (d := 6) (as := []) (stk := []) rfl rfl rfl rfl rfl rfl ⟨rfl, rfl⟩ (R := fun o => ∃ hb : cv_H, o = (none, hb) ∧ cw_T G hb ∧ cw_Fr cw_Ds cw_sh kk_X6_step.2.2.2.2.2.1 h0 hb ∧ zC t n (zx t n p) hb) (ct_step (t := t) (n := n) (p := zx t n p) (fun i => by rw [ht, ← hA _ Fh0]) (fun i hi => by rw [hB _ Fh0]; exact hwd i hi) hT hn9 (by omega) (by omega) (fun hb b1 b2 b3 b4 b5 b6 => ⟨hb, rfl, b1, b2, b3, b4, b5, b6⟩)) (fun o ho => ?_)
            obtain ⟨h613, rfl, Th613, Ch613, Zh613⟩ := ho
            show cw_X _ _ _ _ _ [] h613
            have Fh613 : cw_Fr cw_Ds cw_sh kk_X5_readNumber_1.2.2.2.2.2.1 h0 h613 := cw_Fr_tr Fh0 (cw_Fr_mono (by decide +kernel) Ch613)
            have eh613_50_4 : ri_at h613 50 4 = ri_at h0 50 4 := ri_frf Ch613 (d := 5) rfl rfl (by decide +kernel)
            have eh613_50_5 : ri_at h613 50 5 = ri_at h0 50 5 := ri_frf Ch613 (d := 5) rfl rfl (by decide +kernel)
            obtain ⟨zah613, zbh613, zch613, zdh613⟩ := id Zh613
            have zlh613 := zx_le (t := t) (n := n) (p := (zx t n p)) (by omega)
            have rnh613 := rl_num zdh613
            refine ex_al oq_X5_readNumber_52 gL579_0 ?_
            obtain ⟨x614, ax614, rx614, lx614, ux614⟩ := ri_fld (k := 50) (d := 5) (f := 4) Th613 rfl rfl rfl
            try dsimp only at lx614 ux614
            refine ex_gf oq_X5_readNumber_53 Th613 (k := 50) (d := 5) rfl rfl ax614 ?_
            refine ex_if0 oq_X5_readNumber_56 (t := 70) rfl rfl (fun (c615 : ¬ x614.toInt = 0) => ?_) (fun (c615 : ¬ (¬ x614.toInt = 0)) => ?_)
            · exfalso; omega
            · refine ex_al oq_X5_readNumber_59 gL579_0 ?_
              refine ex_gf oq_X5_readNumber_60 Th613 (k := 50) (d := 5) rfl rfl (ri_ref (k := 50) (k' := 51) (d := 5) (f := 0) Th613 rfl rfl rfl (by decide) (ri_uniq (by decide +kernel))) ?_
              obtain ⟨x616, ax616, rx616, lx616, ux616⟩ := ri_fld (k := 51) (d := 6) (f := 4) Th613 rfl rfl rfl
              try dsimp only at lx616 ux616
              refine ex_gf oq_X5_readNumber_63 Th613 (k := 51) (d := 6) rfl rfl ax616 ?_
              refine ex_ic oq_X5_readNumber_66 (m := 4) (by decide) (fun x617 hx617 => ?_)
              refine ex_if oq_X5_readNumber_67 (t := 76) rfl rfl (fun (c618 : x616.toInt = x617.toInt) => ?_) (fun (c618 : ¬ (x616.toInt = x617.toInt)) => ?_)
              · refine ex_il oq_X5_readNumber_76 gL579_3 ?_
                refine ex_if0 oq_X5_readNumber_77 (t := 91) rfl rfl (fun (c619 : x578.toInt = 0) => ?_) (fun (c619 : ¬ (x578.toInt = 0)) => ?_)
                · refine ex_al oq_X5_readNumber_91 gL579_0 ?_
                  refine ex_gf oq_X5_readNumber_92 Th613 (k := 50) (d := 5) rfl rfl (ri_ref (k := 50) (k' := 51) (d := 5) (f := 0) Th613 rfl rfl rfl (by decide) (ri_uniq (by decide +kernel))) ?_
                  obtain ⟨x620, ax620, rx620, lx620, ux620⟩ := ri_fld (k := 51) (d := 6) (f := 6) Th613 rfl rfl rfl
                  try dsimp only at lx620 ux620
                  refine ex_gf oq_X5_readNumber_95 Th613 (k := 51) (d := 6) rfl rfl ax620 ?_
                  refine ex_iswA oq_X5_readNumber_98 (fun L621 gL621_4 kL621 => ?_)
                  have gL621_3 : cv_get L621 3 = some (cv_i x578) := kL621 3 _ (by decide) (fun _ => rfl) gL579_3
                  have gL621_0 : cv_get L621 0 = some (cv_r 50) := kL621 0 _ (by decide) (fun q => absurd q (by decide)) gL579_0
                  have gL621_1 : cv_get L621 1 = some (cv_i lo) := kL621 1 _ (by decide) (fun q => absurd q (by decide)) gL579_1
                  have gL621_2 : cv_get L621 2 = some (cv_i hi) := kL621 2 _ (by decide) (fun q => absurd q (by decide)) gL579_2
                  refine ex_ilw oq_X5_readNumber_100 gL621_4 ?_
                  refine ex_il oq_X5_readNumber_102 gL621_1 ?_
                  refine ex_if oq_X5_readNumber_103 (t := 112) rfl rfl (fun (c622 : x620.toInt < lo.toInt) => ?_) (fun (c622 : ¬ (x620.toInt < lo.toInt)) => ?_)
                  · refine ex_al oq_X5_readNumber_112 gL621_0 ?_
                    refine ex_ic oq_X5_readNumber_113 (m := 2) (by decide) (fun x623 hx623 => ?_)
                    refine ex_cv oq_X5_readNumber_114 (by decide) Th613 (k := 50) (d := 5) (as := [cv_i x623]) (stk := []) rfl rfl rfl rfl rfl rfl ⟨rfl, rfl⟩ (R := fun o => ∃ (x : Int32) (hb : cv_H), o = (some (cv_i x), hb) ∧ cw_T G hb ∧ cw_Fr cw_Ds cw_sh kk_X5_fail.2.2.2.2.2.1 h613 hb ∧ x.toInt = 0 ∧ (ri_at h613 50 4 = 0 ∧ ri_at hb 50 4 = x623.toInt ∧ ri_at hb 50 5 = ri_at h613 51 5 ∨ ¬ ri_at h613 50 4 = 0 ∧ ri_at hb 50 4 = ri_at h613 50 4 ∧ ri_at hb 50 5 = ri_at h613 50 5)) (ct_fail Th613 x623 (fun x hb b1 b2 b3 b4 => ⟨x, hb, rfl, b1, b2, b3, b4⟩)) (fun o ho => ?_)
                    obtain ⟨x624, h625, rfl, Th625, Ch625, zh625, fh625⟩ := ho
                    show cw_X _ _ _ _ _ [cv_i x624] h625
                    have Fh625 : cw_Fr cw_Ds cw_sh kk_X5_readNumber_1.2.2.2.2.2.1 h0 h625 := cw_Fr_tr Fh613 (cw_Fr_mono (by decide +kernel) Ch625)
                    have eh625_51_2 : ri_at h625 51 2 = ri_at h613 51 2 := ri_frf Ch625 (d := 6) rfl rfl (by decide +kernel)
                    have eh625_51_3 : ri_at h625 51 3 = ri_at h613 51 3 := ri_frf Ch625 (d := 6) rfl rfl (by decide +kernel)
                    have eh625_51_4 : ri_at h625 51 4 = ri_at h613 51 4 := ri_frf Ch625 (d := 6) rfl rfl (by decide +kernel)
                    have eh625_51_5 : ri_at h625 51 5 = ri_at h613 51 5 := ri_frf Ch625 (d := 6) rfl rfl (by decide +kernel)
                    have eh625_51_6 : ri_at h625 51 6 = ri_at h613 51 6 := ri_frf Ch625 (d := 6) rfl rfl (by decide +kernel)
                    first | (exfalso; omega) | exact ex_reti oq_X5_readNumber_117 rfl (hQ x624 h625 Th625 Fh625 (.inr ⟨_, zg_me (by omega) (zn_2 (by omega) (by omega)), by omega, by omega, by omega, by decide⟩))
                  · refine ex_ilw oq_X5_readNumber_106 gL621_4 ?_
                    refine ex_il oq_X5_readNumber_108 gL621_2 ?_
                    refine ex_if oq_X5_readNumber_109 (t := 118) rfl rfl (fun (c626 : x620.toInt ≤ hi.toInt) => ?_) (fun (c626 : ¬ (x620.toInt ≤ hi.toInt)) => ?_)
                    · refine ex_al oq_X5_readNumber_118 gL621_0 ?_
                      refine ex_gf oq_X5_readNumber_119 Th613 (k := 50) (d := 5) rfl rfl (ri_ref (k := 50) (k' := 51) (d := 5) (f := 0) Th613 rfl rfl rfl (by decide) (ri_uniq (by decide +kernel))) ?_
                      refine ex_cv oq_X5_readNumber_122 (by decide) Th613 (k := 51) (d := 6) (as := []) (stk := []) rfl rfl rfl rfl rfl rfl ⟨rfl, rfl⟩ (R := fun o => ∃ hb : cv_H, o = (none, hb) ∧ cw_T G hb ∧ cw_Fr cw_Ds cw_sh kk_X6_step.2.2.2.2.2.1 h613 hb ∧ zC t n (zx t n (zx t n p)) hb) (ct_step (t := t) (n := n) (p := zx t n (zx t n p)) (fun i => by rw [ht, ← hA _ Fh613]) (fun i hi => by rw [hB _ Fh613]; exact hwd i hi) Th613 hn9 (by omega) (by omega) (fun hb b1 b2 b3 b4 b5 b6 => ⟨hb, rfl, b1, b2, b3, b4, b5, b6⟩)) (fun o ho => ?_)
                      obtain ⟨h627, rfl, Th627, Ch627, Zh627⟩ := ho
                      show cw_X _ _ _ _ _ [] h627
                      have Fh627 : cw_Fr cw_Ds cw_sh kk_X5_readNumber_1.2.2.2.2.2.1 h0 h627 := cw_Fr_tr Fh613 (cw_Fr_mono (by decide +kernel) Ch627)
                      have eh627_50_4 : ri_at h627 50 4 = ri_at h613 50 4 := ri_frf Ch627 (d := 5) rfl rfl (by decide +kernel)
                      have eh627_50_5 : ri_at h627 50 5 = ri_at h613 50 5 := ri_frf Ch627 (d := 5) rfl rfl (by decide +kernel)
                      obtain ⟨zah627, zbh627, zch627, zdh627⟩ := id Zh627
                      have zlh627 := zx_le (t := t) (n := n) (p := (zx t n (zx t n p))) (by omega)
                      have rnh627 := rl_num zdh627
                      refine ex_ilw oq_X5_readNumber_125 gL621_4 ?_
                      first | (exfalso; omega) | exact ex_reti oq_X5_readNumber_127 rfl (hQ x620 h627 Th627 Fh627 (.inl ⟨_, _, zg_m (by omega) (zn_ok (by omega) (by omega) (by omega)), by omega, zx_le (by omega), Zh627, by omega, by omega⟩))
                    · refine ex_al oq_X5_readNumber_112 gL621_0 ?_
                      refine ex_ic oq_X5_readNumber_113 (m := 2) (by decide) (fun x628 hx628 => ?_)
                      refine ex_cv oq_X5_readNumber_114 (by decide) Th613 (k := 50) (d := 5) (as := [cv_i x628]) (stk := []) rfl rfl rfl rfl rfl rfl ⟨rfl, rfl⟩ (R := fun o => ∃ (x : Int32) (hb : cv_H), o = (some (cv_i x), hb) ∧ cw_T G hb ∧ cw_Fr cw_Ds cw_sh kk_X5_fail.2.2.2.2.2.1 h613 hb ∧ x.toInt = 0 ∧ (ri_at h613 50 4 = 0 ∧ ri_at hb 50 4 = x628.toInt ∧ ri_at hb 50 5 = ri_at h613 51 5 ∨ ¬ ri_at h613 50 4 = 0 ∧ ri_at hb 50 4 = ri_at h613 50 4 ∧ ri_at hb 50 5 = ri_at h613 50 5)) (ct_fail Th613 x628 (fun x hb b1 b2 b3 b4 => ⟨x, hb, rfl, b1, b2, b3, b4⟩)) (fun o ho => ?_)
                      obtain ⟨x629, h630, rfl, Th630, Ch630, zh630, fh630⟩ := ho
                      show cw_X _ _ _ _ _ [cv_i x629] h630
                      have Fh630 : cw_Fr cw_Ds cw_sh kk_X5_readNumber_1.2.2.2.2.2.1 h0 h630 := cw_Fr_tr Fh613 (cw_Fr_mono (by decide +kernel) Ch630)
                      have eh630_51_2 : ri_at h630 51 2 = ri_at h613 51 2 := ri_frf Ch630 (d := 6) rfl rfl (by decide +kernel)
                      have eh630_51_3 : ri_at h630 51 3 = ri_at h613 51 3 := ri_frf Ch630 (d := 6) rfl rfl (by decide +kernel)
                      have eh630_51_4 : ri_at h630 51 4 = ri_at h613 51 4 := ri_frf Ch630 (d := 6) rfl rfl (by decide +kernel)
                      have eh630_51_5 : ri_at h630 51 5 = ri_at h613 51 5 := ri_frf Ch630 (d := 6) rfl rfl (by decide +kernel)
                      have eh630_51_6 : ri_at h630 51 6 = ri_at h613 51 6 := ri_frf Ch630 (d := 6) rfl rfl (by decide +kernel)
                      first | (exfalso; omega) | exact ex_reti oq_X5_readNumber_117 rfl (hQ x629 h630 Th630 Fh630 (.inr ⟨_, zg_me (by omega) (zn_2 (by omega) (by omega)), by omega, by omega, by omega, by decide⟩))
                · refine ex_al oq_X5_readNumber_80 gL579_0 ?_
                  refine ex_gf oq_X5_readNumber_81 Th613 (k := 50) (d := 5) rfl rfl (ri_ref (k := 50) (k' := 51) (d := 5) (f := 0) Th613 rfl rfl rfl (by decide) (ri_uniq (by decide +kernel))) ?_
                  obtain ⟨x631, ax631, rx631, lx631, ux631⟩ := ri_fld (k := 51) (d := 6) (f := 6) Th613 rfl rfl rfl
                  try dsimp only at lx631 ux631
                  refine ex_gf oq_X5_readNumber_84 Th613 (k := 51) (d := 6) rfl rfl ax631 ?_
                  refine ex_neg oq_X5_readNumber_87 (by omega) (fun x632 hx632 => ?_)
                  refine ex_go oq_X5_readNumber_88 (t := 98) rfl rfl ?_
                  refine ex_iswA oq_X5_readNumber_98 (fun L633 gL633_4 kL633 => ?_)
                  have gL633_3 : cv_get L633 3 = some (cv_i x578) := kL633 3 _ (by decide) (fun _ => rfl) gL579_3
                  have gL633_0 : cv_get L633 0 = some (cv_r 50) := kL633 0 _ (by decide) (fun q => absurd q (by decide)) gL579_0
                  have gL633_1 : cv_get L633 1 = some (cv_i lo) := kL633 1 _ (by decide) (fun q => absurd q (by decide)) gL579_1
                  have gL633_2 : cv_get L633 2 = some (cv_i hi) := kL633 2 _ (by decide) (fun q => absurd q (by decide)) gL579_2
                  refine ex_ilw oq_X5_readNumber_100 gL633_4 ?_
                  refine ex_il oq_X5_readNumber_102 gL633_1 ?_
                  refine ex_if oq_X5_readNumber_103 (t := 112) rfl rfl (fun (c634 : x632.toInt < lo.toInt) => ?_) (fun (c634 : ¬ (x632.toInt < lo.toInt)) => ?_)
                  · refine ex_al oq_X5_readNumber_112 gL633_0 ?_
                    refine ex_ic oq_X5_readNumber_113 (m := 2) (by decide) (fun x635 hx635 => ?_)
                    refine ex_cv oq_X5_readNumber_114 (by decide) Th613 (k := 50) (d := 5) (as := [cv_i x635]) (stk := []) rfl rfl rfl rfl rfl rfl ⟨rfl, rfl⟩ (R := fun o => ∃ (x : Int32) (hb : cv_H), o = (some (cv_i x), hb) ∧ cw_T G hb ∧ cw_Fr cw_Ds cw_sh kk_X5_fail.2.2.2.2.2.1 h613 hb ∧ x.toInt = 0 ∧ (ri_at h613 50 4 = 0 ∧ ri_at hb 50 4 = x635.toInt ∧ ri_at hb 50 5 = ri_at h613 51 5 ∨ ¬ ri_at h613 50 4 = 0 ∧ ri_at hb 50 4 = ri_at h613 50 4 ∧ ri_at hb 50 5 = ri_at h613 50 5)) (ct_fail Th613 x635 (fun x hb b1 b2 b3 b4 => ⟨x, hb, rfl, b1, b2, b3, b4⟩)) (fun o ho => ?_)
                    obtain ⟨x636, h637, rfl, Th637, Ch637, zh637, fh637⟩ := ho
                    show cw_X _ _ _ _ _ [cv_i x636] h637
                    have Fh637 : cw_Fr cw_Ds cw_sh kk_X5_readNumber_1.2.2.2.2.2.1 h0 h637 := cw_Fr_tr Fh613 (cw_Fr_mono (by decide +kernel) Ch637)
                    have eh637_51_2 : ri_at h637 51 2 = ri_at h613 51 2 := ri_frf Ch637 (d := 6) rfl rfl (by decide +kernel)
                    have eh637_51_3 : ri_at h637 51 3 = ri_at h613 51 3 := ri_frf Ch637 (d := 6) rfl rfl (by decide +kernel)
                    have eh637_51_4 : ri_at h637 51 4 = ri_at h613 51 4 := ri_frf Ch637 (d := 6) rfl rfl (by decide +kernel)
                    have eh637_51_5 : ri_at h637 51 5 = ri_at h613 51 5 := ri_frf Ch637 (d := 6) rfl rfl (by decide +kernel)
                    have eh637_51_6 : ri_at h637 51 6 = ri_at h613 51 6 := ri_frf Ch637 (d := 6) rfl rfl (by decide +kernel)
                    first | (exfalso; omega) | exact ex_reti oq_X5_readNumber_117 rfl (hQ x636 h637 Th637 Fh637 (.inr ⟨_, zg_me (by omega) (zn_2 (by omega) (by omega)), by omega, by omega, by omega, by decide⟩))
                  · refine ex_ilw oq_X5_readNumber_106 gL633_4 ?_
                    refine ex_il oq_X5_readNumber_108 gL633_2 ?_
                    refine ex_if oq_X5_readNumber_109 (t := 118) rfl rfl (fun (c638 : x632.toInt ≤ hi.toInt) => ?_) (fun (c638 : ¬ (x632.toInt ≤ hi.toInt)) => ?_)
                    · refine ex_al oq_X5_readNumber_118 gL633_0 ?_
                      refine ex_gf oq_X5_readNumber_119 Th613 (k := 50) (d := 5) rfl rfl (ri_ref (k := 50) (k' := 51) (d := 5) (f := 0) Th613 rfl rfl rfl (by decide) (ri_uniq (by decide +kernel))) ?_
                      refine ex_cv oq_X5_readNumber_122 (by decide) Th613 (k := 51) (d := 6) (as := []) (stk := []) rfl rfl rfl rfl rfl rfl ⟨rfl, rfl⟩ (R := fun o => ∃ hb : cv_H, o = (none, hb) ∧ cw_T G hb ∧ cw_Fr cw_Ds cw_sh kk_X6_step.2.2.2.2.2.1 h613 hb ∧ zC t n (zx t n (zx t n p)) hb) (ct_step (t := t) (n := n) (p := zx t n (zx t n p)) (fun i => by rw [ht, ← hA _ Fh613]) (fun i hi => by rw [hB _ Fh613]; exact hwd i hi) Th613 hn9 (by omega) (by omega) (fun hb b1 b2 b3 b4 b5 b6 => ⟨hb, rfl, b1, b2, b3, b4, b5, b6⟩)) (fun o ho => ?_)
                      obtain ⟨h639, rfl, Th639, Ch639, Zh639⟩ := ho
                      show cw_X _ _ _ _ _ [] h639
                      have Fh639 : cw_Fr cw_Ds cw_sh kk_X5_readNumber_1.2.2.2.2.2.1 h0 h639 := cw_Fr_tr Fh613 (cw_Fr_mono (by decide +kernel) Ch639)
                      have eh639_50_4 : ri_at h639 50 4 = ri_at h613 50 4 := ri_frf Ch639 (d := 5) rfl rfl (by decide +kernel)
                      have eh639_50_5 : ri_at h639 50 5 = ri_at h613 50 5 := ri_frf Ch639 (d := 5) rfl rfl (by decide +kernel)
                      obtain ⟨zah639, zbh639, zch639, zdh639⟩ := id Zh639
                      have zlh639 := zx_le (t := t) (n := n) (p := (zx t n (zx t n p))) (by omega)
                      have rnh639 := rl_num zdh639
                      refine ex_ilw oq_X5_readNumber_125 gL633_4 ?_
                      first | (exfalso; omega) | exact ex_reti oq_X5_readNumber_127 rfl (hQ x632 h639 Th639 Fh639 (.inl ⟨_, _, zg_m (by omega) (zn_ok (by omega) (by omega) (by omega)), by omega, zx_le (by omega), Zh639, by omega, by omega⟩))
                    · refine ex_al oq_X5_readNumber_112 gL633_0 ?_
                      refine ex_ic oq_X5_readNumber_113 (m := 2) (by decide) (fun x640 hx640 => ?_)
                      refine ex_cv oq_X5_readNumber_114 (by decide) Th613 (k := 50) (d := 5) (as := [cv_i x640]) (stk := []) rfl rfl rfl rfl rfl rfl ⟨rfl, rfl⟩ (R := fun o => ∃ (x : Int32) (hb : cv_H), o = (some (cv_i x), hb) ∧ cw_T G hb ∧ cw_Fr cw_Ds cw_sh kk_X5_fail.2.2.2.2.2.1 h613 hb ∧ x.toInt = 0 ∧ (ri_at h613 50 4 = 0 ∧ ri_at hb 50 4 = x640.toInt ∧ ri_at hb 50 5 = ri_at h613 51 5 ∨ ¬ ri_at h613 50 4 = 0 ∧ ri_at hb 50 4 = ri_at h613 50 4 ∧ ri_at hb 50 5 = ri_at h613 50 5)) (ct_fail Th613 x640 (fun x hb b1 b2 b3 b4 => ⟨x, hb, rfl, b1, b2, b3, b4⟩)) (fun o ho => ?_)
                      obtain ⟨x641, h642, rfl, Th642, Ch642, zh642, fh642⟩ := ho
                      show cw_X _ _ _ _ _ [cv_i x641] h642
                      have Fh642 : cw_Fr cw_Ds cw_sh kk_X5_readNumber_1.2.2.2.2.2.1 h0 h642 := cw_Fr_tr Fh613 (cw_Fr_mono (by decide +kernel) Ch642)
                      have eh642_51_2 : ri_at h642 51 2 = ri_at h613 51 2 := ri_frf Ch642 (d := 6) rfl rfl (by decide +kernel)
                      have eh642_51_3 : ri_at h642 51 3 = ri_at h613 51 3 := ri_frf Ch642 (d := 6) rfl rfl (by decide +kernel)
                      have eh642_51_4 : ri_at h642 51 4 = ri_at h613 51 4 := ri_frf Ch642 (d := 6) rfl rfl (by decide +kernel)
                      have eh642_51_5 : ri_at h642 51 5 = ri_at h613 51 5 := ri_frf Ch642 (d := 6) rfl rfl (by decide +kernel)
                      have eh642_51_6 : ri_at h642 51 6 = ri_at h613 51 6 := ri_frf Ch642 (d := 6) rfl rfl (by decide +kernel)
                      first | (exfalso; omega) | exact ex_reti oq_X5_readNumber_117 rfl (hQ x641 h642 Th642 Fh642 (.inr ⟨_, zg_me (by omega) (zn_2 (by omega) (by omega)), by omega, by omega, by omega, by decide⟩))
              · refine ex_al oq_X5_readNumber_70 gL579_0 ?_
                refine ex_ic oq_X5_readNumber_71 (m := 1) (by decide) (fun x643 hx643 => ?_)
                refine ex_cv oq_X5_readNumber_72 (by decide) Th613 (k := 50) (d := 5) (as := [cv_i x643]) (stk := []) rfl rfl rfl rfl rfl rfl ⟨rfl, rfl⟩ (R := fun o => ∃ (x : Int32) (hb : cv_H), o = (some (cv_i x), hb) ∧ cw_T G hb ∧ cw_Fr cw_Ds cw_sh kk_X5_fail.2.2.2.2.2.1 h613 hb ∧ x.toInt = 0 ∧ (ri_at h613 50 4 = 0 ∧ ri_at hb 50 4 = x643.toInt ∧ ri_at hb 50 5 = ri_at h613 51 5 ∨ ¬ ri_at h613 50 4 = 0 ∧ ri_at hb 50 4 = ri_at h613 50 4 ∧ ri_at hb 50 5 = ri_at h613 50 5)) (ct_fail Th613 x643 (fun x hb b1 b2 b3 b4 => ⟨x, hb, rfl, b1, b2, b3, b4⟩)) (fun o ho => ?_)
                obtain ⟨x644, h645, rfl, Th645, Ch645, zh645, fh645⟩ := ho
                show cw_X _ _ _ _ _ [cv_i x644] h645
                have Fh645 : cw_Fr cw_Ds cw_sh kk_X5_readNumber_1.2.2.2.2.2.1 h0 h645 := cw_Fr_tr Fh613 (cw_Fr_mono (by decide +kernel) Ch645)
                have eh645_51_2 : ri_at h645 51 2 = ri_at h613 51 2 := ri_frf Ch645 (d := 6) rfl rfl (by decide +kernel)
                have eh645_51_3 : ri_at h645 51 3 = ri_at h613 51 3 := ri_frf Ch645 (d := 6) rfl rfl (by decide +kernel)
                have eh645_51_4 : ri_at h645 51 4 = ri_at h613 51 4 := ri_frf Ch645 (d := 6) rfl rfl (by decide +kernel)
                have eh645_51_5 : ri_at h645 51 5 = ri_at h613 51 5 := ri_frf Ch645 (d := 6) rfl rfl (by decide +kernel)
                have eh645_51_6 : ri_at h645 51 6 = ri_at h613 51 6 := ri_frf Ch645 (d := 6) rfl rfl (by decide +kernel)
                first | (exfalso; omega) | exact ex_reti oq_X5_readNumber_75 rfl (hQ x644 h645 Th645 Fh645 (.inr ⟨_, zg_me (by omega) (zn_1 (by omega)), by omega, by omega, by omega, by decide⟩))
        · refine ex_ic oq_X5_readNumber_35 (m := 1) (by decide) (fun x646 hx646 => ?_)
          refine ex_go oq_X5_readNumber_36 (t := 40) rfl rfl ?_
          refine ex_isA oq_X5_readNumber_40 (fun L647 gL647_3 kL647 => ?_)
          have gL647_0 : cv_get L647 0 = some (cv_r 50) := kL647 0 _ (by decide) (fun q => absurd q (by decide)) rfl
          have gL647_1 : cv_get L647 1 = some (cv_i lo) := kL647 1 _ (by decide) (fun q => absurd q (by decide)) rfl
          have gL647_2 : cv_get L647 2 = some (cv_i hi) := kL647 2 _ (by decide) (fun _ => rfl) rfl
          refine ex_il oq_X5_readNumber_41 gL647_3 ?_
          refine ex_if0 oq_X5_readNumber_42 (t := 52) rfl rfl (fun (c648 : x646.toInt = 0) => ?_) (fun (c648 : ¬ (x646.toInt = 0)) => ?_)
          · refine ex_al oq_X5_readNumber_52 gL647_0 ?_
            obtain ⟨x649, ax649, rx649, lx649, ux649⟩ := ri_fld (k := 50) (d := 5) (f := 4) hT rfl rfl rfl
            try dsimp only at lx649 ux649
            refine ex_gf oq_X5_readNumber_53 hT (k := 50) (d := 5) rfl rfl ax649 ?_
            refine ex_if0 oq_X5_readNumber_56 (t := 70) rfl rfl (fun (c650 : ¬ x649.toInt = 0) => ?_) (fun (c650 : ¬ (¬ x649.toInt = 0)) => ?_)
            · exfalso; omega
            · refine ex_al oq_X5_readNumber_59 gL647_0 ?_
              refine ex_gf oq_X5_readNumber_60 hT (k := 50) (d := 5) rfl rfl (ri_ref (k := 50) (k' := 51) (d := 5) (f := 0) hT rfl rfl rfl (by decide) (ri_uniq (by decide +kernel))) ?_
              obtain ⟨x651, ax651, rx651, lx651, ux651⟩ := ri_fld (k := 51) (d := 6) (f := 4) hT rfl rfl rfl
              try dsimp only at lx651 ux651
              refine ex_gf oq_X5_readNumber_63 hT (k := 51) (d := 6) rfl rfl ax651 ?_
              refine ex_ic oq_X5_readNumber_66 (m := 4) (by decide) (fun x652 hx652 => ?_)
              refine ex_if oq_X5_readNumber_67 (t := 76) rfl rfl (fun (c653 : x651.toInt = x652.toInt) => ?_) (fun (c653 : ¬ (x651.toInt = x652.toInt)) => ?_)
              · refine ex_il oq_X5_readNumber_76 gL647_3 ?_
                refine ex_if0 oq_X5_readNumber_77 (t := 91) rfl rfl (fun (c654 : x646.toInt = 0) => ?_) (fun (c654 : ¬ (x646.toInt = 0)) => ?_)
                · refine ex_al oq_X5_readNumber_91 gL647_0 ?_
                  refine ex_gf oq_X5_readNumber_92 hT (k := 50) (d := 5) rfl rfl (ri_ref (k := 50) (k' := 51) (d := 5) (f := 0) hT rfl rfl rfl (by decide) (ri_uniq (by decide +kernel))) ?_
                  obtain ⟨x655, ax655, rx655, lx655, ux655⟩ := ri_fld (k := 51) (d := 6) (f := 6) hT rfl rfl rfl
                  try dsimp only at lx655 ux655
                  refine ex_gf oq_X5_readNumber_95 hT (k := 51) (d := 6) rfl rfl ax655 ?_
                  refine ex_iswA oq_X5_readNumber_98 (fun L656 gL656_4 kL656 => ?_)
                  have gL656_3 : cv_get L656 3 = some (cv_i x646) := kL656 3 _ (by decide) (fun _ => rfl) gL647_3
                  have gL656_0 : cv_get L656 0 = some (cv_r 50) := kL656 0 _ (by decide) (fun q => absurd q (by decide)) gL647_0
                  have gL656_1 : cv_get L656 1 = some (cv_i lo) := kL656 1 _ (by decide) (fun q => absurd q (by decide)) gL647_1
                  have gL656_2 : cv_get L656 2 = some (cv_i hi) := kL656 2 _ (by decide) (fun q => absurd q (by decide)) gL647_2
                  refine ex_ilw oq_X5_readNumber_100 gL656_4 ?_
                  refine ex_il oq_X5_readNumber_102 gL656_1 ?_
                  refine ex_if oq_X5_readNumber_103 (t := 112) rfl rfl (fun (c657 : x655.toInt < lo.toInt) => ?_) (fun (c657 : ¬ (x655.toInt < lo.toInt)) => ?_)
                  · refine ex_al oq_X5_readNumber_112 gL656_0 ?_
                    refine ex_ic oq_X5_readNumber_113 (m := 2) (by decide) (fun x658 hx658 => ?_)
                    refine ex_cv oq_X5_readNumber_114 (by decide) hT (k := 50) (d := 5) (as := [cv_i x658]) (stk := []) rfl rfl rfl rfl rfl rfl ⟨rfl, rfl⟩ (R := fun o => ∃ (x : Int32) (hb : cv_H), o = (some (cv_i x), hb) ∧ cw_T G hb ∧ cw_Fr cw_Ds cw_sh kk_X5_fail.2.2.2.2.2.1 h0 hb ∧ x.toInt = 0 ∧ (ri_at h0 50 4 = 0 ∧ ri_at hb 50 4 = x658.toInt ∧ ri_at hb 50 5 = ri_at h0 51 5 ∨ ¬ ri_at h0 50 4 = 0 ∧ ri_at hb 50 4 = ri_at h0 50 4 ∧ ri_at hb 50 5 = ri_at h0 50 5)) (ct_fail hT x658 (fun x hb b1 b2 b3 b4 => ⟨x, hb, rfl, b1, b2, b3, b4⟩)) (fun o ho => ?_)
                    obtain ⟨x659, h660, rfl, Th660, Ch660, zh660, fh660⟩ := ho
                    show cw_X _ _ _ _ _ [cv_i x659] h660
                    have Fh660 : cw_Fr cw_Ds cw_sh kk_X5_readNumber_1.2.2.2.2.2.1 h0 h660 := cw_Fr_tr Fh0 (cw_Fr_mono (by decide +kernel) Ch660)
                    have eh660_51_2 : ri_at h660 51 2 = ri_at h0 51 2 := ri_frf Ch660 (d := 6) rfl rfl (by decide +kernel)
                    have eh660_51_3 : ri_at h660 51 3 = ri_at h0 51 3 := ri_frf Ch660 (d := 6) rfl rfl (by decide +kernel)
                    have eh660_51_4 : ri_at h660 51 4 = ri_at h0 51 4 := ri_frf Ch660 (d := 6) rfl rfl (by decide +kernel)
                    have eh660_51_5 : ri_at h660 51 5 = ri_at h0 51 5 := ri_frf Ch660 (d := 6) rfl rfl (by decide +kernel)
                    have eh660_51_6 : ri_at h660 51 6 = ri_at h0 51 6 := ri_frf Ch660 (d := 6) rfl rfl (by decide +kernel)
                    first | (exfalso; omega) | exact ex_reti oq_X5_readNumber_117 rfl (hQ x659 h660 Th660 Fh660 (.inr ⟨_, (zg_p (by omega)).trans (zn_2 (by omega) (by omega)), by omega, by omega, by omega, by decide⟩))
                  · refine ex_ilw oq_X5_readNumber_106 gL656_4 ?_
                    refine ex_il oq_X5_readNumber_108 gL656_2 ?_
                    refine ex_if oq_X5_readNumber_109 (t := 118) rfl rfl (fun (c661 : x655.toInt ≤ hi.toInt) => ?_) (fun (c661 : ¬ (x655.toInt ≤ hi.toInt)) => ?_)
                    · refine ex_al oq_X5_readNumber_118 gL656_0 ?_
                      refine ex_gf oq_X5_readNumber_119 hT (k := 50) (d := 5) rfl rfl (ri_ref (k := 50) (k' := 51) (d := 5) (f := 0) hT rfl rfl rfl (by decide) (ri_uniq (by decide +kernel))) ?_
                      refine ex_cv oq_X5_readNumber_122 (by decide) hT (k := 51) (d := 6) (as := []) (stk := []) rfl rfl rfl rfl rfl rfl ⟨rfl, rfl⟩ (R := fun o => ∃ hb : cv_H, o = (none, hb) ∧ cw_T G hb ∧ cw_Fr cw_Ds cw_sh kk_X6_step.2.2.2.2.2.1 h0 hb ∧ zC t n (zx t n p) hb) (ct_step (t := t) (n := n) (p := zx t n p) (fun i => by rw [ht, ← hA _ Fh0]) (fun i hi => by rw [hB _ Fh0]; exact hwd i hi) hT hn9 (by omega) (by omega) (fun hb b1 b2 b3 b4 b5 b6 => ⟨hb, rfl, b1, b2, b3, b4, b5, b6⟩)) (fun o ho => ?_)
                      obtain ⟨h662, rfl, Th662, Ch662, Zh662⟩ := ho
                      show cw_X _ _ _ _ _ [] h662
                      have Fh662 : cw_Fr cw_Ds cw_sh kk_X5_readNumber_1.2.2.2.2.2.1 h0 h662 := cw_Fr_tr Fh0 (cw_Fr_mono (by decide +kernel) Ch662)
                      have eh662_50_4 : ri_at h662 50 4 = ri_at h0 50 4 := ri_frf Ch662 (d := 5) rfl rfl (by decide +kernel)
                      have eh662_50_5 : ri_at h662 50 5 = ri_at h0 50 5 := ri_frf Ch662 (d := 5) rfl rfl (by decide +kernel)
                      obtain ⟨zah662, zbh662, zch662, zdh662⟩ := id Zh662
                      have zlh662 := zx_le (t := t) (n := n) (p := (zx t n p)) (by omega)
                      have rnh662 := rl_num zdh662
                      refine ex_ilw oq_X5_readNumber_125 gL656_4 ?_
                      first | (exfalso; omega) | exact ex_reti oq_X5_readNumber_127 rfl (hQ x655 h662 Th662 Fh662 (.inl ⟨_, _, (zg_p (by omega)).trans (zn_ok (by omega) (by omega) (by omega)), by omega, zx_le (by omega), Zh662, by omega, by omega⟩))
                    · refine ex_al oq_X5_readNumber_112 gL656_0 ?_
                      refine ex_ic oq_X5_readNumber_113 (m := 2) (by decide) (fun x663 hx663 => ?_)
                      refine ex_cv oq_X5_readNumber_114 (by decide) hT (k := 50) (d := 5) (as := [cv_i x663]) (stk := []) rfl rfl rfl rfl rfl rfl ⟨rfl, rfl⟩ (R := fun o => ∃ (x : Int32) (hb : cv_H), o = (some (cv_i x), hb) ∧ cw_T G hb ∧ cw_Fr cw_Ds cw_sh kk_X5_fail.2.2.2.2.2.1 h0 hb ∧ x.toInt = 0 ∧ (ri_at h0 50 4 = 0 ∧ ri_at hb 50 4 = x663.toInt ∧ ri_at hb 50 5 = ri_at h0 51 5 ∨ ¬ ri_at h0 50 4 = 0 ∧ ri_at hb 50 4 = ri_at h0 50 4 ∧ ri_at hb 50 5 = ri_at h0 50 5)) (ct_fail hT x663 (fun x hb b1 b2 b3 b4 => ⟨x, hb, rfl, b1, b2, b3, b4⟩)) (fun o ho => ?_)
                      obtain ⟨x664, h665, rfl, Th665, Ch665, zh665, fh665⟩ := ho
                      show cw_X _ _ _ _ _ [cv_i x664] h665
                      have Fh665 : cw_Fr cw_Ds cw_sh kk_X5_readNumber_1.2.2.2.2.2.1 h0 h665 := cw_Fr_tr Fh0 (cw_Fr_mono (by decide +kernel) Ch665)
                      have eh665_51_2 : ri_at h665 51 2 = ri_at h0 51 2 := ri_frf Ch665 (d := 6) rfl rfl (by decide +kernel)
                      have eh665_51_3 : ri_at h665 51 3 = ri_at h0 51 3 := ri_frf Ch665 (d := 6) rfl rfl (by decide +kernel)
                      have eh665_51_4 : ri_at h665 51 4 = ri_at h0 51 4 := ri_frf Ch665 (d := 6) rfl rfl (by decide +kernel)
                      have eh665_51_5 : ri_at h665 51 5 = ri_at h0 51 5 := ri_frf Ch665 (d := 6) rfl rfl (by decide +kernel)
                      have eh665_51_6 : ri_at h665 51 6 = ri_at h0 51 6 := ri_frf Ch665 (d := 6) rfl rfl (by decide +kernel)
                      first | (exfalso; omega) | exact ex_reti oq_X5_readNumber_117 rfl (hQ x664 h665 Th665 Fh665 (.inr ⟨_, (zg_p (by omega)).trans (zn_2 (by omega) (by omega)), by omega, by omega, by omega, by decide⟩))
                · refine ex_al oq_X5_readNumber_80 gL647_0 ?_
                  refine ex_gf oq_X5_readNumber_81 hT (k := 50) (d := 5) rfl rfl (ri_ref (k := 50) (k' := 51) (d := 5) (f := 0) hT rfl rfl rfl (by decide) (ri_uniq (by decide +kernel))) ?_
                  obtain ⟨x666, ax666, rx666, lx666, ux666⟩ := ri_fld (k := 51) (d := 6) (f := 6) hT rfl rfl rfl
                  try dsimp only at lx666 ux666
                  refine ex_gf oq_X5_readNumber_84 hT (k := 51) (d := 6) rfl rfl ax666 ?_
                  refine ex_neg oq_X5_readNumber_87 (by omega) (fun x667 hx667 => ?_)
                  refine ex_go oq_X5_readNumber_88 (t := 98) rfl rfl ?_
                  refine ex_iswA oq_X5_readNumber_98 (fun L668 gL668_4 kL668 => ?_)
                  have gL668_3 : cv_get L668 3 = some (cv_i x646) := kL668 3 _ (by decide) (fun _ => rfl) gL647_3
                  have gL668_0 : cv_get L668 0 = some (cv_r 50) := kL668 0 _ (by decide) (fun q => absurd q (by decide)) gL647_0
                  have gL668_1 : cv_get L668 1 = some (cv_i lo) := kL668 1 _ (by decide) (fun q => absurd q (by decide)) gL647_1
                  have gL668_2 : cv_get L668 2 = some (cv_i hi) := kL668 2 _ (by decide) (fun q => absurd q (by decide)) gL647_2
                  refine ex_ilw oq_X5_readNumber_100 gL668_4 ?_
                  refine ex_il oq_X5_readNumber_102 gL668_1 ?_
                  refine ex_if oq_X5_readNumber_103 (t := 112) rfl rfl (fun (c669 : x667.toInt < lo.toInt) => ?_) (fun (c669 : ¬ (x667.toInt < lo.toInt)) => ?_)
                  · refine ex_al oq_X5_readNumber_112 gL668_0 ?_
                    refine ex_ic oq_X5_readNumber_113 (m := 2) (by decide) (fun x670 hx670 => ?_)
                    refine ex_cv oq_X5_readNumber_114 (by decide) hT (k := 50) (d := 5) (as := [cv_i x670]) (stk := []) rfl rfl rfl rfl rfl rfl ⟨rfl, rfl⟩ (R := fun o => ∃ (x : Int32) (hb : cv_H), o = (some (cv_i x), hb) ∧ cw_T G hb ∧ cw_Fr cw_Ds cw_sh kk_X5_fail.2.2.2.2.2.1 h0 hb ∧ x.toInt = 0 ∧ (ri_at h0 50 4 = 0 ∧ ri_at hb 50 4 = x670.toInt ∧ ri_at hb 50 5 = ri_at h0 51 5 ∨ ¬ ri_at h0 50 4 = 0 ∧ ri_at hb 50 4 = ri_at h0 50 4 ∧ ri_at hb 50 5 = ri_at h0 50 5)) (ct_fail hT x670 (fun x hb b1 b2 b3 b4 => ⟨x, hb, rfl, b1, b2, b3, b4⟩)) (fun o ho => ?_)
                    obtain ⟨x671, h672, rfl, Th672, Ch672, zh672, fh672⟩ := ho
                    show cw_X _ _ _ _ _ [cv_i x671] h672
                    have Fh672 : cw_Fr cw_Ds cw_sh kk_X5_readNumber_1.2.2.2.2.2.1 h0 h672 := cw_Fr_tr Fh0 (cw_Fr_mono (by decide +kernel) Ch672)
                    have eh672_51_2 : ri_at h672 51 2 = ri_at h0 51 2 := ri_frf Ch672 (d := 6) rfl rfl (by decide +kernel)
                    have eh672_51_3 : ri_at h672 51 3 = ri_at h0 51 3 := ri_frf Ch672 (d := 6) rfl rfl (by decide +kernel)
                    have eh672_51_4 : ri_at h672 51 4 = ri_at h0 51 4 := ri_frf Ch672 (d := 6) rfl rfl (by decide +kernel)
                    have eh672_51_5 : ri_at h672 51 5 = ri_at h0 51 5 := ri_frf Ch672 (d := 6) rfl rfl (by decide +kernel)
                    have eh672_51_6 : ri_at h672 51 6 = ri_at h0 51 6 := ri_frf Ch672 (d := 6) rfl rfl (by decide +kernel)
                    first | (exfalso; omega) | exact ex_reti oq_X5_readNumber_117 rfl (hQ x671 h672 Th672 Fh672 (.inr ⟨_, (zg_p (by omega)).trans (zn_2 (by omega) (by omega)), by omega, by omega, by omega, by decide⟩))
                  · refine ex_ilw oq_X5_readNumber_106 gL668_4 ?_
                    refine ex_il oq_X5_readNumber_108 gL668_2 ?_
                    refine ex_if oq_X5_readNumber_109 (t := 118) rfl rfl (fun (c673 : x667.toInt ≤ hi.toInt) => ?_) (fun (c673 : ¬ (x667.toInt ≤ hi.toInt)) => ?_)
                    · refine ex_al oq_X5_readNumber_118 gL668_0 ?_
                      refine ex_gf oq_X5_readNumber_119 hT (k := 50) (d := 5) rfl rfl (ri_ref (k := 50) (k' := 51) (d := 5) (f := 0) hT rfl rfl rfl (by decide) (ri_uniq (by decide +kernel))) ?_
                      refine ex_cv oq_X5_readNumber_122 (by decide) hT (k := 51) (d := 6) (as := []) (stk := []) rfl rfl rfl rfl rfl rfl ⟨rfl, rfl⟩ (R := fun o => ∃ hb : cv_H, o = (none, hb) ∧ cw_T G hb ∧ cw_Fr cw_Ds cw_sh kk_X6_step.2.2.2.2.2.1 h0 hb ∧ zC t n (zx t n p) hb) (ct_step (t := t) (n := n) (p := zx t n p) (fun i => by rw [ht, ← hA _ Fh0]) (fun i hi => by rw [hB _ Fh0]; exact hwd i hi) hT hn9 (by omega) (by omega) (fun hb b1 b2 b3 b4 b5 b6 => ⟨hb, rfl, b1, b2, b3, b4, b5, b6⟩)) (fun o ho => ?_)
                      obtain ⟨h674, rfl, Th674, Ch674, Zh674⟩ := ho
                      show cw_X _ _ _ _ _ [] h674
                      have Fh674 : cw_Fr cw_Ds cw_sh kk_X5_readNumber_1.2.2.2.2.2.1 h0 h674 := cw_Fr_tr Fh0 (cw_Fr_mono (by decide +kernel) Ch674)
                      have eh674_50_4 : ri_at h674 50 4 = ri_at h0 50 4 := ri_frf Ch674 (d := 5) rfl rfl (by decide +kernel)
                      have eh674_50_5 : ri_at h674 50 5 = ri_at h0 50 5 := ri_frf Ch674 (d := 5) rfl rfl (by decide +kernel)
                      obtain ⟨zah674, zbh674, zch674, zdh674⟩ := id Zh674
                      have zlh674 := zx_le (t := t) (n := n) (p := (zx t n p)) (by omega)
                      have rnh674 := rl_num zdh674
                      refine ex_ilw oq_X5_readNumber_125 gL668_4 ?_
                      first | (exfalso; omega) | exact ex_reti oq_X5_readNumber_127 rfl (hQ x667 h674 Th674 Fh674 (.inl ⟨_, _, (zg_p (by omega)).trans (zn_ok (by omega) (by omega) (by omega)), by omega, zx_le (by omega), Zh674, by omega, by omega⟩))
                    · refine ex_al oq_X5_readNumber_112 gL668_0 ?_
                      refine ex_ic oq_X5_readNumber_113 (m := 2) (by decide) (fun x675 hx675 => ?_)
                      refine ex_cv oq_X5_readNumber_114 (by decide) hT (k := 50) (d := 5) (as := [cv_i x675]) (stk := []) rfl rfl rfl rfl rfl rfl ⟨rfl, rfl⟩ (R := fun o => ∃ (x : Int32) (hb : cv_H), o = (some (cv_i x), hb) ∧ cw_T G hb ∧ cw_Fr cw_Ds cw_sh kk_X5_fail.2.2.2.2.2.1 h0 hb ∧ x.toInt = 0 ∧ (ri_at h0 50 4 = 0 ∧ ri_at hb 50 4 = x675.toInt ∧ ri_at hb 50 5 = ri_at h0 51 5 ∨ ¬ ri_at h0 50 4 = 0 ∧ ri_at hb 50 4 = ri_at h0 50 4 ∧ ri_at hb 50 5 = ri_at h0 50 5)) (ct_fail hT x675 (fun x hb b1 b2 b3 b4 => ⟨x, hb, rfl, b1, b2, b3, b4⟩)) (fun o ho => ?_)
                      obtain ⟨x676, h677, rfl, Th677, Ch677, zh677, fh677⟩ := ho
                      show cw_X _ _ _ _ _ [cv_i x676] h677
                      have Fh677 : cw_Fr cw_Ds cw_sh kk_X5_readNumber_1.2.2.2.2.2.1 h0 h677 := cw_Fr_tr Fh0 (cw_Fr_mono (by decide +kernel) Ch677)
                      have eh677_51_2 : ri_at h677 51 2 = ri_at h0 51 2 := ri_frf Ch677 (d := 6) rfl rfl (by decide +kernel)
                      have eh677_51_3 : ri_at h677 51 3 = ri_at h0 51 3 := ri_frf Ch677 (d := 6) rfl rfl (by decide +kernel)
                      have eh677_51_4 : ri_at h677 51 4 = ri_at h0 51 4 := ri_frf Ch677 (d := 6) rfl rfl (by decide +kernel)
                      have eh677_51_5 : ri_at h677 51 5 = ri_at h0 51 5 := ri_frf Ch677 (d := 6) rfl rfl (by decide +kernel)
                      have eh677_51_6 : ri_at h677 51 6 = ri_at h0 51 6 := ri_frf Ch677 (d := 6) rfl rfl (by decide +kernel)
                      first | (exfalso; omega) | exact ex_reti oq_X5_readNumber_117 rfl (hQ x676 h677 Th677 Fh677 (.inr ⟨_, (zg_p (by omega)).trans (zn_2 (by omega) (by omega)), by omega, by omega, by omega, by decide⟩))
              · refine ex_al oq_X5_readNumber_70 gL647_0 ?_
                refine ex_ic oq_X5_readNumber_71 (m := 1) (by decide) (fun x678 hx678 => ?_)
                refine ex_cv oq_X5_readNumber_72 (by decide) hT (k := 50) (d := 5) (as := [cv_i x678]) (stk := []) rfl rfl rfl rfl rfl rfl ⟨rfl, rfl⟩ (R := fun o => ∃ (x : Int32) (hb : cv_H), o = (some (cv_i x), hb) ∧ cw_T G hb ∧ cw_Fr cw_Ds cw_sh kk_X5_fail.2.2.2.2.2.1 h0 hb ∧ x.toInt = 0 ∧ (ri_at h0 50 4 = 0 ∧ ri_at hb 50 4 = x678.toInt ∧ ri_at hb 50 5 = ri_at h0 51 5 ∨ ¬ ri_at h0 50 4 = 0 ∧ ri_at hb 50 4 = ri_at h0 50 4 ∧ ri_at hb 50 5 = ri_at h0 50 5)) (ct_fail hT x678 (fun x hb b1 b2 b3 b4 => ⟨x, hb, rfl, b1, b2, b3, b4⟩)) (fun o ho => ?_)
                obtain ⟨x679, h680, rfl, Th680, Ch680, zh680, fh680⟩ := ho
                show cw_X _ _ _ _ _ [cv_i x679] h680
                have Fh680 : cw_Fr cw_Ds cw_sh kk_X5_readNumber_1.2.2.2.2.2.1 h0 h680 := cw_Fr_tr Fh0 (cw_Fr_mono (by decide +kernel) Ch680)
                have eh680_51_2 : ri_at h680 51 2 = ri_at h0 51 2 := ri_frf Ch680 (d := 6) rfl rfl (by decide +kernel)
                have eh680_51_3 : ri_at h680 51 3 = ri_at h0 51 3 := ri_frf Ch680 (d := 6) rfl rfl (by decide +kernel)
                have eh680_51_4 : ri_at h680 51 4 = ri_at h0 51 4 := ri_frf Ch680 (d := 6) rfl rfl (by decide +kernel)
                have eh680_51_5 : ri_at h680 51 5 = ri_at h0 51 5 := ri_frf Ch680 (d := 6) rfl rfl (by decide +kernel)
                have eh680_51_6 : ri_at h680 51 6 = ri_at h0 51 6 := ri_frf Ch680 (d := 6) rfl rfl (by decide +kernel)
                first | (exfalso; omega) | exact ex_reti oq_X5_readNumber_75 rfl (hQ x679 h680 Th680 Fh680 (.inr ⟨_, (zg_p (by omega)).trans (zn_1 (by omega)), by omega, by omega, by omega, by decide⟩))
          · refine ex_al oq_X5_readNumber_45 gL647_0 ?_
            refine ex_gf oq_X5_readNumber_46 hT (k := 50) (d := 5) rfl rfl (ri_ref (k := 50) (k' := 51) (d := 5) (f := 0) hT rfl rfl rfl (by decide) (ri_uniq (by decide +kernel))) ?_
            refine ex_cv oq_X5_readNumber_49 (by decide) hT (k := 51) (d := 6) (as := []) (stk := []) rfl rfl rfl rfl rfl rfl ⟨rfl, rfl⟩ (R := fun o => ∃ hb : cv_H, o = (none, hb) ∧ cw_T G hb ∧ cw_Fr cw_Ds cw_sh kk_X6_step.2.2.2.2.2.1 h0 hb ∧ zC t n (zx t n p) hb) (ct_step (t := t) (n := n) (p := zx t n p) (fun i => by rw [ht, ← hA _ Fh0]) (fun i hi => by rw [hB _ Fh0]; exact hwd i hi) hT hn9 (by omega) (by omega) (fun hb b1 b2 b3 b4 b5 b6 => ⟨hb, rfl, b1, b2, b3, b4, b5, b6⟩)) (fun o ho => ?_)
            obtain ⟨h681, rfl, Th681, Ch681, Zh681⟩ := ho
            show cw_X _ _ _ _ _ [] h681
            have Fh681 : cw_Fr cw_Ds cw_sh kk_X5_readNumber_1.2.2.2.2.2.1 h0 h681 := cw_Fr_tr Fh0 (cw_Fr_mono (by decide +kernel) Ch681)
            have eh681_50_4 : ri_at h681 50 4 = ri_at h0 50 4 := ri_frf Ch681 (d := 5) rfl rfl (by decide +kernel)
            have eh681_50_5 : ri_at h681 50 5 = ri_at h0 50 5 := ri_frf Ch681 (d := 5) rfl rfl (by decide +kernel)
            obtain ⟨zah681, zbh681, zch681, zdh681⟩ := id Zh681
            have zlh681 := zx_le (t := t) (n := n) (p := (zx t n p)) (by omega)
            have rnh681 := rl_num zdh681
            refine ex_al oq_X5_readNumber_52 gL647_0 ?_
            obtain ⟨x682, ax682, rx682, lx682, ux682⟩ := ri_fld (k := 50) (d := 5) (f := 4) Th681 rfl rfl rfl
            try dsimp only at lx682 ux682
            refine ex_gf oq_X5_readNumber_53 Th681 (k := 50) (d := 5) rfl rfl ax682 ?_
            refine ex_if0 oq_X5_readNumber_56 (t := 70) rfl rfl (fun (c683 : ¬ x682.toInt = 0) => ?_) (fun (c683 : ¬ (¬ x682.toInt = 0)) => ?_)
            · exfalso; omega
            · refine ex_al oq_X5_readNumber_59 gL647_0 ?_
              refine ex_gf oq_X5_readNumber_60 Th681 (k := 50) (d := 5) rfl rfl (ri_ref (k := 50) (k' := 51) (d := 5) (f := 0) Th681 rfl rfl rfl (by decide) (ri_uniq (by decide +kernel))) ?_
              obtain ⟨x684, ax684, rx684, lx684, ux684⟩ := ri_fld (k := 51) (d := 6) (f := 4) Th681 rfl rfl rfl
              try dsimp only at lx684 ux684
              refine ex_gf oq_X5_readNumber_63 Th681 (k := 51) (d := 6) rfl rfl ax684 ?_
              refine ex_ic oq_X5_readNumber_66 (m := 4) (by decide) (fun x685 hx685 => ?_)
              refine ex_if oq_X5_readNumber_67 (t := 76) rfl rfl (fun (c686 : x684.toInt = x685.toInt) => ?_) (fun (c686 : ¬ (x684.toInt = x685.toInt)) => ?_)
              · refine ex_il oq_X5_readNumber_76 gL647_3 ?_
                refine ex_if0 oq_X5_readNumber_77 (t := 91) rfl rfl (fun (c687 : x646.toInt = 0) => ?_) (fun (c687 : ¬ (x646.toInt = 0)) => ?_)
                · refine ex_al oq_X5_readNumber_91 gL647_0 ?_
                  refine ex_gf oq_X5_readNumber_92 Th681 (k := 50) (d := 5) rfl rfl (ri_ref (k := 50) (k' := 51) (d := 5) (f := 0) Th681 rfl rfl rfl (by decide) (ri_uniq (by decide +kernel))) ?_
                  obtain ⟨x688, ax688, rx688, lx688, ux688⟩ := ri_fld (k := 51) (d := 6) (f := 6) Th681 rfl rfl rfl
                  try dsimp only at lx688 ux688
                  refine ex_gf oq_X5_readNumber_95 Th681 (k := 51) (d := 6) rfl rfl ax688 ?_
                  refine ex_iswA oq_X5_readNumber_98 (fun L689 gL689_4 kL689 => ?_)
                  have gL689_3 : cv_get L689 3 = some (cv_i x646) := kL689 3 _ (by decide) (fun _ => rfl) gL647_3
                  have gL689_0 : cv_get L689 0 = some (cv_r 50) := kL689 0 _ (by decide) (fun q => absurd q (by decide)) gL647_0
                  have gL689_1 : cv_get L689 1 = some (cv_i lo) := kL689 1 _ (by decide) (fun q => absurd q (by decide)) gL647_1
                  have gL689_2 : cv_get L689 2 = some (cv_i hi) := kL689 2 _ (by decide) (fun q => absurd q (by decide)) gL647_2
                  refine ex_ilw oq_X5_readNumber_100 gL689_4 ?_
                  refine ex_il oq_X5_readNumber_102 gL689_1 ?_
                  refine ex_if oq_X5_readNumber_103 (t := 112) rfl rfl (fun (c690 : x688.toInt < lo.toInt) => ?_) (fun (c690 : ¬ (x688.toInt < lo.toInt)) => ?_)
                  · refine ex_al oq_X5_readNumber_112 gL689_0 ?_
                    refine ex_ic oq_X5_readNumber_113 (m := 2) (by decide) (fun x691 hx691 => ?_)
                    refine ex_cv oq_X5_readNumber_114 (by decide) Th681 (k := 50) (d := 5) (as := [cv_i x691]) (stk := []) rfl rfl rfl rfl rfl rfl ⟨rfl, rfl⟩ (R := fun o => ∃ (x : Int32) (hb : cv_H), o = (some (cv_i x), hb) ∧ cw_T G hb ∧ cw_Fr cw_Ds cw_sh kk_X5_fail.2.2.2.2.2.1 h681 hb ∧ x.toInt = 0 ∧ (ri_at h681 50 4 = 0 ∧ ri_at hb 50 4 = x691.toInt ∧ ri_at hb 50 5 = ri_at h681 51 5 ∨ ¬ ri_at h681 50 4 = 0 ∧ ri_at hb 50 4 = ri_at h681 50 4 ∧ ri_at hb 50 5 = ri_at h681 50 5)) (ct_fail Th681 x691 (fun x hb b1 b2 b3 b4 => ⟨x, hb, rfl, b1, b2, b3, b4⟩)) (fun o ho => ?_)
                    obtain ⟨x692, h693, rfl, Th693, Ch693, zh693, fh693⟩ := ho
                    show cw_X _ _ _ _ _ [cv_i x692] h693
                    have Fh693 : cw_Fr cw_Ds cw_sh kk_X5_readNumber_1.2.2.2.2.2.1 h0 h693 := cw_Fr_tr Fh681 (cw_Fr_mono (by decide +kernel) Ch693)
                    have eh693_51_2 : ri_at h693 51 2 = ri_at h681 51 2 := ri_frf Ch693 (d := 6) rfl rfl (by decide +kernel)
                    have eh693_51_3 : ri_at h693 51 3 = ri_at h681 51 3 := ri_frf Ch693 (d := 6) rfl rfl (by decide +kernel)
                    have eh693_51_4 : ri_at h693 51 4 = ri_at h681 51 4 := ri_frf Ch693 (d := 6) rfl rfl (by decide +kernel)
                    have eh693_51_5 : ri_at h693 51 5 = ri_at h681 51 5 := ri_frf Ch693 (d := 6) rfl rfl (by decide +kernel)
                    have eh693_51_6 : ri_at h693 51 6 = ri_at h681 51 6 := ri_frf Ch693 (d := 6) rfl rfl (by decide +kernel)
                    first | (exfalso; omega) | exact ex_reti oq_X5_readNumber_117 rfl (hQ x692 h693 Th693 Fh693 (.inr ⟨_, zg_me (by omega) (zn_2 (by omega) (by omega)), by omega, by omega, by omega, by decide⟩))
                  · refine ex_ilw oq_X5_readNumber_106 gL689_4 ?_
                    refine ex_il oq_X5_readNumber_108 gL689_2 ?_
                    refine ex_if oq_X5_readNumber_109 (t := 118) rfl rfl (fun (c694 : x688.toInt ≤ hi.toInt) => ?_) (fun (c694 : ¬ (x688.toInt ≤ hi.toInt)) => ?_)
                    · refine ex_al oq_X5_readNumber_118 gL689_0 ?_
                      refine ex_gf oq_X5_readNumber_119 Th681 (k := 50) (d := 5) rfl rfl (ri_ref (k := 50) (k' := 51) (d := 5) (f := 0) Th681 rfl rfl rfl (by decide) (ri_uniq (by decide +kernel))) ?_
                      refine ex_cv oq_X5_readNumber_122 (by decide) Th681 (k := 51) (d := 6) (as := []) (stk := []) rfl rfl rfl rfl rfl rfl ⟨rfl, rfl⟩ (R := fun o => ∃ hb : cv_H, o = (none, hb) ∧ cw_T G hb ∧ cw_Fr cw_Ds cw_sh kk_X6_step.2.2.2.2.2.1 h681 hb ∧ zC t n (zx t n (zx t n p)) hb) (ct_step (t := t) (n := n) (p := zx t n (zx t n p)) (fun i => by rw [ht, ← hA _ Fh681]) (fun i hi => by rw [hB _ Fh681]; exact hwd i hi) Th681 hn9 (by omega) (by omega) (fun hb b1 b2 b3 b4 b5 b6 => ⟨hb, rfl, b1, b2, b3, b4, b5, b6⟩)) (fun o ho => ?_)
                      obtain ⟨h695, rfl, Th695, Ch695, Zh695⟩ := ho
                      show cw_X _ _ _ _ _ [] h695
                      have Fh695 : cw_Fr cw_Ds cw_sh kk_X5_readNumber_1.2.2.2.2.2.1 h0 h695 := cw_Fr_tr Fh681 (cw_Fr_mono (by decide +kernel) Ch695)
                      have eh695_50_4 : ri_at h695 50 4 = ri_at h681 50 4 := ri_frf Ch695 (d := 5) rfl rfl (by decide +kernel)
                      have eh695_50_5 : ri_at h695 50 5 = ri_at h681 50 5 := ri_frf Ch695 (d := 5) rfl rfl (by decide +kernel)
                      obtain ⟨zah695, zbh695, zch695, zdh695⟩ := id Zh695
                      have zlh695 := zx_le (t := t) (n := n) (p := (zx t n (zx t n p))) (by omega)
                      have rnh695 := rl_num zdh695
                      refine ex_ilw oq_X5_readNumber_125 gL689_4 ?_
                      first | (exfalso; omega) | exact ex_reti oq_X5_readNumber_127 rfl (hQ x688 h695 Th695 Fh695 (.inl ⟨_, _, zg_m (by omega) (zn_ok (by omega) (by omega) (by omega)), by omega, zx_le (by omega), Zh695, by omega, by omega⟩))
                    · refine ex_al oq_X5_readNumber_112 gL689_0 ?_
                      refine ex_ic oq_X5_readNumber_113 (m := 2) (by decide) (fun x696 hx696 => ?_)
                      refine ex_cv oq_X5_readNumber_114 (by decide) Th681 (k := 50) (d := 5) (as := [cv_i x696]) (stk := []) rfl rfl rfl rfl rfl rfl ⟨rfl, rfl⟩ (R := fun o => ∃ (x : Int32) (hb : cv_H), o = (some (cv_i x), hb) ∧ cw_T G hb ∧ cw_Fr cw_Ds cw_sh kk_X5_fail.2.2.2.2.2.1 h681 hb ∧ x.toInt = 0 ∧ (ri_at h681 50 4 = 0 ∧ ri_at hb 50 4 = x696.toInt ∧ ri_at hb 50 5 = ri_at h681 51 5 ∨ ¬ ri_at h681 50 4 = 0 ∧ ri_at hb 50 4 = ri_at h681 50 4 ∧ ri_at hb 50 5 = ri_at h681 50 5)) (ct_fail Th681 x696 (fun x hb b1 b2 b3 b4 => ⟨x, hb, rfl, b1, b2, b3, b4⟩)) (fun o ho => ?_)
                      obtain ⟨x697, h698, rfl, Th698, Ch698, zh698, fh698⟩ := ho
                      show cw_X _ _ _ _ _ [cv_i x697] h698
                      have Fh698 : cw_Fr cw_Ds cw_sh kk_X5_readNumber_1.2.2.2.2.2.1 h0 h698 := cw_Fr_tr Fh681 (cw_Fr_mono (by decide +kernel) Ch698)
                      have eh698_51_2 : ri_at h698 51 2 = ri_at h681 51 2 := ri_frf Ch698 (d := 6) rfl rfl (by decide +kernel)
                      have eh698_51_3 : ri_at h698 51 3 = ri_at h681 51 3 := ri_frf Ch698 (d := 6) rfl rfl (by decide +kernel)
                      have eh698_51_4 : ri_at h698 51 4 = ri_at h681 51 4 := ri_frf Ch698 (d := 6) rfl rfl (by decide +kernel)
                      have eh698_51_5 : ri_at h698 51 5 = ri_at h681 51 5 := ri_frf Ch698 (d := 6) rfl rfl (by decide +kernel)
                      have eh698_51_6 : ri_at h698 51 6 = ri_at h681 51 6 := ri_frf Ch698 (d := 6) rfl rfl (by decide +kernel)
                      first | (exfalso; omega) | exact ex_reti oq_X5_readNumber_117 rfl (hQ x697 h698 Th698 Fh698 (.inr ⟨_, zg_me (by omega) (zn_2 (by omega) (by omega)), by omega, by omega, by omega, by decide⟩))
                · refine ex_al oq_X5_readNumber_80 gL647_0 ?_
                  refine ex_gf oq_X5_readNumber_81 Th681 (k := 50) (d := 5) rfl rfl (ri_ref (k := 50) (k' := 51) (d := 5) (f := 0) Th681 rfl rfl rfl (by decide) (ri_uniq (by decide +kernel))) ?_
                  obtain ⟨x699, ax699, rx699, lx699, ux699⟩ := ri_fld (k := 51) (d := 6) (f := 6) Th681 rfl rfl rfl
                  try dsimp only at lx699 ux699
                  refine ex_gf oq_X5_readNumber_84 Th681 (k := 51) (d := 6) rfl rfl ax699 ?_
                  refine ex_neg oq_X5_readNumber_87 (by omega) (fun x700 hx700 => ?_)
                  refine ex_go oq_X5_readNumber_88 (t := 98) rfl rfl ?_
                  refine ex_iswA oq_X5_readNumber_98 (fun L701 gL701_4 kL701 => ?_)
                  have gL701_3 : cv_get L701 3 = some (cv_i x646) := kL701 3 _ (by decide) (fun _ => rfl) gL647_3
                  have gL701_0 : cv_get L701 0 = some (cv_r 50) := kL701 0 _ (by decide) (fun q => absurd q (by decide)) gL647_0
                  have gL701_1 : cv_get L701 1 = some (cv_i lo) := kL701 1 _ (by decide) (fun q => absurd q (by decide)) gL647_1
                  have gL701_2 : cv_get L701 2 = some (cv_i hi) := kL701 2 _ (by decide) (fun q => absurd q (by decide)) gL647_2
                  refine ex_ilw oq_X5_readNumber_100 gL701_4 ?_
                  refine ex_il oq_X5_readNumber_102 gL701_1 ?_
                  refine ex_if oq_X5_readNumber_103 (t := 112) rfl rfl (fun (c702 : x700.toInt < lo.toInt) => ?_) (fun (c702 : ¬ (x700.toInt < lo.toInt)) => ?_)
                  · refine ex_al oq_X5_readNumber_112 gL701_0 ?_
                    refine ex_ic oq_X5_readNumber_113 (m := 2) (by decide) (fun x703 hx703 => ?_)
                    refine ex_cv oq_X5_readNumber_114 (by decide) Th681 (k := 50) (d := 5) (as := [cv_i x703]) (stk := []) rfl rfl rfl rfl rfl rfl ⟨rfl, rfl⟩ (R := fun o => ∃ (x : Int32) (hb : cv_H), o = (some (cv_i x), hb) ∧ cw_T G hb ∧ cw_Fr cw_Ds cw_sh kk_X5_fail.2.2.2.2.2.1 h681 hb ∧ x.toInt = 0 ∧ (ri_at h681 50 4 = 0 ∧ ri_at hb 50 4 = x703.toInt ∧ ri_at hb 50 5 = ri_at h681 51 5 ∨ ¬ ri_at h681 50 4 = 0 ∧ ri_at hb 50 4 = ri_at h681 50 4 ∧ ri_at hb 50 5 = ri_at h681 50 5)) (ct_fail Th681 x703 (fun x hb b1 b2 b3 b4 => ⟨x, hb, rfl, b1, b2, b3, b4⟩)) (fun o ho => ?_)
                    obtain ⟨x704, h705, rfl, Th705, Ch705, zh705, fh705⟩ := ho
                    show cw_X _ _ _ _ _ [cv_i x704] h705
                    have Fh705 : cw_Fr cw_Ds cw_sh kk_X5_readNumber_1.2.2.2.2.2.1 h0 h705 := cw_Fr_tr Fh681 (cw_Fr_mono (by decide +kernel) Ch705)
                    have eh705_51_2 : ri_at h705 51 2 = ri_at h681 51 2 := ri_frf Ch705 (d := 6) rfl rfl (by decide +kernel)
                    have eh705_51_3 : ri_at h705 51 3 = ri_at h681 51 3 := ri_frf Ch705 (d := 6) rfl rfl (by decide +kernel)
                    have eh705_51_4 : ri_at h705 51 4 = ri_at h681 51 4 := ri_frf Ch705 (d := 6) rfl rfl (by decide +kernel)
                    have eh705_51_5 : ri_at h705 51 5 = ri_at h681 51 5 := ri_frf Ch705 (d := 6) rfl rfl (by decide +kernel)
                    have eh705_51_6 : ri_at h705 51 6 = ri_at h681 51 6 := ri_frf Ch705 (d := 6) rfl rfl (by decide +kernel)
                    first | (exfalso; omega) | exact ex_reti oq_X5_readNumber_117 rfl (hQ x704 h705 Th705 Fh705 (.inr ⟨_, zg_me (by omega) (zn_2 (by omega) (by omega)), by omega, by omega, by omega, by decide⟩))
                  · refine ex_ilw oq_X5_readNumber_106 gL701_4 ?_
                    refine ex_il oq_X5_readNumber_108 gL701_2 ?_
                    refine ex_if oq_X5_readNumber_109 (t := 118) rfl rfl (fun (c706 : x700.toInt ≤ hi.toInt) => ?_) (fun (c706 : ¬ (x700.toInt ≤ hi.toInt)) => ?_)
                    · refine ex_al oq_X5_readNumber_118 gL701_0 ?_
                      refine ex_gf oq_X5_readNumber_119 Th681 (k := 50) (d := 5) rfl rfl (ri_ref (k := 50) (k' := 51) (d := 5) (f := 0) Th681 rfl rfl rfl (by decide) (ri_uniq (by decide +kernel))) ?_
                      refine ex_cv oq_X5_readNumber_122 (by decide) Th681 (k := 51) (d := 6) (as := []) (stk := []) rfl rfl rfl rfl rfl rfl ⟨rfl, rfl⟩ (R := fun o => ∃ hb : cv_H, o = (none, hb) ∧ cw_T G hb ∧ cw_Fr cw_Ds cw_sh kk_X6_step.2.2.2.2.2.1 h681 hb ∧ zC t n (zx t n (zx t n p)) hb) (ct_step (t := t) (n := n) (p := zx t n (zx t n p)) (fun i => by rw [ht, ← hA _ Fh681]) (fun i hi => by rw [hB _ Fh681]; exact hwd i hi) Th681 hn9 (by omega) (by omega) (fun hb b1 b2 b3 b4 b5 b6 => ⟨hb, rfl, b1, b2, b3, b4, b5, b6⟩)) (fun o ho => ?_)
                      obtain ⟨h707, rfl, Th707, Ch707, Zh707⟩ := ho
                      show cw_X _ _ _ _ _ [] h707
                      have Fh707 : cw_Fr cw_Ds cw_sh kk_X5_readNumber_1.2.2.2.2.2.1 h0 h707 := cw_Fr_tr Fh681 (cw_Fr_mono (by decide +kernel) Ch707)
                      have eh707_50_4 : ri_at h707 50 4 = ri_at h681 50 4 := ri_frf Ch707 (d := 5) rfl rfl (by decide +kernel)
                      have eh707_50_5 : ri_at h707 50 5 = ri_at h681 50 5 := ri_frf Ch707 (d := 5) rfl rfl (by decide +kernel)
                      obtain ⟨zah707, zbh707, zch707, zdh707⟩ := id Zh707
                      have zlh707 := zx_le (t := t) (n := n) (p := (zx t n (zx t n p))) (by omega)
                      have rnh707 := rl_num zdh707
                      refine ex_ilw oq_X5_readNumber_125 gL701_4 ?_
                      first | (exfalso; omega) | exact ex_reti oq_X5_readNumber_127 rfl (hQ x700 h707 Th707 Fh707 (.inl ⟨_, _, zg_m (by omega) (zn_ok (by omega) (by omega) (by omega)), by omega, zx_le (by omega), Zh707, by omega, by omega⟩))
                    · refine ex_al oq_X5_readNumber_112 gL701_0 ?_
                      refine ex_ic oq_X5_readNumber_113 (m := 2) (by decide) (fun x708 hx708 => ?_)
                      refine ex_cv oq_X5_readNumber_114 (by decide) Th681 (k := 50) (d := 5) (as := [cv_i x708]) (stk := []) rfl rfl rfl rfl rfl rfl ⟨rfl, rfl⟩ (R := fun o => ∃ (x : Int32) (hb : cv_H), o = (some (cv_i x), hb) ∧ cw_T G hb ∧ cw_Fr cw_Ds cw_sh kk_X5_fail.2.2.2.2.2.1 h681 hb ∧ x.toInt = 0 ∧ (ri_at h681 50 4 = 0 ∧ ri_at hb 50 4 = x708.toInt ∧ ri_at hb 50 5 = ri_at h681 51 5 ∨ ¬ ri_at h681 50 4 = 0 ∧ ri_at hb 50 4 = ri_at h681 50 4 ∧ ri_at hb 50 5 = ri_at h681 50 5)) (ct_fail Th681 x708 (fun x hb b1 b2 b3 b4 => ⟨x, hb, rfl, b1, b2, b3, b4⟩)) (fun o ho => ?_)
                      obtain ⟨x709, h710, rfl, Th710, Ch710, zh710, fh710⟩ := ho
                      show cw_X _ _ _ _ _ [cv_i x709] h710
                      have Fh710 : cw_Fr cw_Ds cw_sh kk_X5_readNumber_1.2.2.2.2.2.1 h0 h710 := cw_Fr_tr Fh681 (cw_Fr_mono (by decide +kernel) Ch710)
                      have eh710_51_2 : ri_at h710 51 2 = ri_at h681 51 2 := ri_frf Ch710 (d := 6) rfl rfl (by decide +kernel)
                      have eh710_51_3 : ri_at h710 51 3 = ri_at h681 51 3 := ri_frf Ch710 (d := 6) rfl rfl (by decide +kernel)
                      have eh710_51_4 : ri_at h710 51 4 = ri_at h681 51 4 := ri_frf Ch710 (d := 6) rfl rfl (by decide +kernel)
                      have eh710_51_5 : ri_at h710 51 5 = ri_at h681 51 5 := ri_frf Ch710 (d := 6) rfl rfl (by decide +kernel)
                      have eh710_51_6 : ri_at h710 51 6 = ri_at h681 51 6 := ri_frf Ch710 (d := 6) rfl rfl (by decide +kernel)
                      first | (exfalso; omega) | exact ex_reti oq_X5_readNumber_117 rfl (hQ x709 h710 Th710 Fh710 (.inr ⟨_, zg_me (by omega) (zn_2 (by omega) (by omega)), by omega, by omega, by omega, by decide⟩))
              · refine ex_al oq_X5_readNumber_70 gL647_0 ?_
                refine ex_ic oq_X5_readNumber_71 (m := 1) (by decide) (fun x711 hx711 => ?_)
                refine ex_cv oq_X5_readNumber_72 (by decide) Th681 (k := 50) (d := 5) (as := [cv_i x711]) (stk := []) rfl rfl rfl rfl rfl rfl ⟨rfl, rfl⟩ (R := fun o => ∃ (x : Int32) (hb : cv_H), o = (some (cv_i x), hb) ∧ cw_T G hb ∧ cw_Fr cw_Ds cw_sh kk_X5_fail.2.2.2.2.2.1 h681 hb ∧ x.toInt = 0 ∧ (ri_at h681 50 4 = 0 ∧ ri_at hb 50 4 = x711.toInt ∧ ri_at hb 50 5 = ri_at h681 51 5 ∨ ¬ ri_at h681 50 4 = 0 ∧ ri_at hb 50 4 = ri_at h681 50 4 ∧ ri_at hb 50 5 = ri_at h681 50 5)) (ct_fail Th681 x711 (fun x hb b1 b2 b3 b4 => ⟨x, hb, rfl, b1, b2, b3, b4⟩)) (fun o ho => ?_)
                obtain ⟨x712, h713, rfl, Th713, Ch713, zh713, fh713⟩ := ho
                show cw_X _ _ _ _ _ [cv_i x712] h713
                have Fh713 : cw_Fr cw_Ds cw_sh kk_X5_readNumber_1.2.2.2.2.2.1 h0 h713 := cw_Fr_tr Fh681 (cw_Fr_mono (by decide +kernel) Ch713)
                have eh713_51_2 : ri_at h713 51 2 = ri_at h681 51 2 := ri_frf Ch713 (d := 6) rfl rfl (by decide +kernel)
                have eh713_51_3 : ri_at h713 51 3 = ri_at h681 51 3 := ri_frf Ch713 (d := 6) rfl rfl (by decide +kernel)
                have eh713_51_4 : ri_at h713 51 4 = ri_at h681 51 4 := ri_frf Ch713 (d := 6) rfl rfl (by decide +kernel)
                have eh713_51_5 : ri_at h713 51 5 = ri_at h681 51 5 := ri_frf Ch713 (d := 6) rfl rfl (by decide +kernel)
                have eh713_51_6 : ri_at h713 51 6 = ri_at h681 51 6 := ri_frf Ch713 (d := 6) rfl rfl (by decide +kernel)
                first | (exfalso; omega) | exact ex_reti oq_X5_readNumber_75 rfl (hQ x712 h713 Th713 Fh713 (.inr ⟨_, zg_me (by omega) (zn_1 (by omega)), by omega, by omega, by omega, by decide⟩))
theorem ct_readNumber {h0 : cv_H} {n : Nat} (ht : ∀ i, t i = ri_at h0 1 i % 256) (hwd : ∀ i, i < 34 → ri_at h0 52 i = tz_wc.getD i 0) (hn9 : n ≤ 900) (hT : cw_T G h0) {S : (Int × Nat) ⊕ Nat} (hS : zCs t n S h0) (lo hi : Int32) (hlo : 0 ≤ lo.toInt) (hhi : hi.toInt ≤ 9999) (hQ : ∀ (x : Int32) h', cw_T G h' → cw_Fr cw_Ds cw_sh kk_X5_readNumber_1.2.2.2.2.2.1 h0 h' → zCr t n h' x (zbd S (zn t n lo.toInt hi.toInt)) → Q (some (cv_i x), h')) : cw_X X 63 Q 0 (cv_ent 0 [cv_r 50, cv_i lo, cv_i hi]) [] h0 := by
  cases S with
  | inl e =>
    obtain ⟨f, a⟩ := e
    exact ct_numF ht hwd hn9 hT hS.1 hS.2.1 hS.2.2 lo hi hQ
  | inr p => exact ct_numP ht hwd hn9 hT hS.1 hS.2.1 hS.2.2.1 hS.2.2.2 lo hi hlo hhi hQ
theorem ct_readSigned {h0 : cv_H} {n : Nat} (ht : ∀ i, t i = ri_at h0 1 i % 256) (hwd : ∀ i, i < 34 → ri_at h0 52 i = tz_wc.getD i 0) (hn9 : n ≤ 900) (hT : cw_T G h0) {S : (Int × Nat) ⊕ Nat} (hS : zCs t n S h0) (lo hi : Int32) (hlo : lo.toInt = -30) (hhi : hi.toInt = 30) (hQ : ∀ (x : Int32) h', cw_T G h' → cw_Fr cw_Ds cw_sh kk_X5_readNumber_1.2.2.2.2.2.1 h0 h' → zCr t n h' x (zbd S (zg t n 30)) → Q (some (cv_i x), h')) : cw_X X 63 Q 0 (cv_ent 0 [cv_r 50, cv_i lo, cv_i hi]) [] h0 := by
  cases S with
  | inl e =>
    obtain ⟨f, a⟩ := e
    exact ct_numF ht hwd hn9 hT hS.1 hS.2.1 hS.2.2 lo hi hQ
  | inr p => exact ct_numS ht hwd hn9 hT hS.1 hS.2.1 hS.2.2.1 hS.2.2.2 lo hi hlo hhi hQ
end TZ
