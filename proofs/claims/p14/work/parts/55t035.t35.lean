/-! ===== what is fed, on both sides ===== -/
theorem i32_n (x : Int32) : x.toInt = if x.toBitVec.toNat < 2147483648 then (x.toBitVec.toNat : Int) else (x.toBitVec.toNat : Int) - 4294967296 := by
  show x.toBitVec.toInt = _
  rw [BitVec.toInt_eq_toNat_cond]
  split <;> split <;> omega
def lo8 (y : Int32) : Nat := y.toBitVec.toNat % 256
theorem lo8_8 (y : Int32) : y.toInt8.toInt32.toInt % 256 = (lo8 y : Int) := by
  have e : y.toInt8.toInt32.toInt = y.toInt8.toInt := Int8.toInt_toInt32 _
  rw [e]
  have e2 : y.toInt8.toInt = (y.toBitVec.setWidth 8).toInt := by
    show (y.toBitVec.signExtend 8).toInt = _
    rw [BitVec.signExtend_eq_setWidth_of_le _ (by decide)]
  rw [e2, BitVec.toInt_eq_toNat_cond, BitVec.toNat_setWidth]
  unfold lo8
  split <;> omega
theorem lo8_i (y : Int32) : y.toInt % 256 = (lo8 y : Int) := by
  unfold lo8
  rw [i32_n]
  have := y.toBitVec.isLt
  split <;> omega
theorem lo8_nar (y : Int32) : (cv_nar 1 y).toInt % 256 = (lo8 y : Int) := lo8_8 y
theorem lo8_and {y o : Int32} (h : o.toInt = 255) : (y &&& o).toInt = (lo8 y : Int) := by
  have e : o = 255 := Int32.toInt_inj.mp (h.trans (by decide))
  subst e
  have e2 : (y &&& 255).toBitVec = y.toBitVec &&& 255#32 := rfl
  rw [i32_n, e2, BitVec.toNat_and]
  have e3 : (255#32).toNat = 2 ^ 8 - 1 := rfl
  rw [e3, Nat.and_two_pow_sub_one_eq_mod]
  unfold lo8
  split <;> omega
theorem lo8_sh {a s : Int32} (h : s.toInt = 24 ∨ s.toInt = 16 ∨ s.toInt = 8 ∨ s.toInt = 0) : lo8 (a.toUInt32 >>> (s.toUInt32 &&& Int32.toUInt32 31)).toInt32 = lo8 (a >>> (s &&& 31)) := by
  have key : ∀ k : Nat, (k = 24 ∨ k = 16 ∨ k = 8 ∨ k = 0) → (a.toBitVec >>> k).toNat % 256 = (a.toBitVec.sshiftRight k).toNat % 256 := by
    intro k hk
    have h1 : ((a.toBitVec.sshiftRight k).toNat : Int) % 256 = a.toBitVec.toInt / 2 ^ k % 256 := by
      have := lo8_i ⟨⟨a.toBitVec.sshiftRight k⟩⟩
      have e : (⟨⟨a.toBitVec.sshiftRight k⟩⟩ : Int32).toInt = a.toBitVec.toInt / 2 ^ k := by
        show (a.toBitVec.sshiftRight k).toInt = _
        rw [BitVec.toInt_sshiftRight, Int.shiftRight_eq_div_pow]
        rfl
      rw [e] at this
      rw [this]
      have e2 : lo8 ⟨⟨a.toBitVec.sshiftRight k⟩⟩ = (a.toBitVec.sshiftRight k).toNat % 256 := rfl
      rw [e2]
      omega
    have h2 : (a.toBitVec >>> k).toNat = a.toBitVec.toNat / 2 ^ k := by rw [BitVec.toNat_ushiftRight, Nat.shiftRight_eq_div_pow]
    have h3 := i32_n a
    have h4 : a.toInt = a.toBitVec.toInt := rfl
    have := a.toBitVec.isLt
    rw [h2]
    rw [← h4] at h1
    rcases hk with rfl | rfl | rfl | rfl <;> (simp only [Nat.reducePow, Int.reducePow] at h1 ⊢; split at h3 <;> omega)
  unfold lo8
  rcases h with h | h | h | h
  · have e : s = 24 := Int32.toInt_inj.mp (h.trans (by decide))
    subst e
    exact key 24 (by omega)
  · have e : s = 16 := Int32.toInt_inj.mp (h.trans (by decide))
    subst e
    exact key 16 (by omega)
  · have e : s = 8 := Int32.toInt_inj.mp (h.trans (by decide))
    subst e
    exact key 8 (by omega)
  · have e : s = 0 := Int32.toInt_inj.mp (h.trans (by decide))
    subst e
    exact key 0 (by omega)
theorem ex_ushrE {X : cv_X} {mi : Nat} {Q : cv_O → Prop} {pc len a b : Nat} {z : Int} {L : cv_L} {st : List cv_V} {h : cv_H} {x y : Int32} (ho : cw_ho mi pc .iushr len a b z) (k : ∀ r : Int32, r = (x.toUInt32 >>> (y.toUInt32 &&& Int32.toUInt32 31)).toInt32 → cw_X X mi Q (pc + len) L (cv_i r :: st) h) : cw_X X mi Q pc L (cv_i y :: cv_i x :: st) h := ex_one ho rfl (k _ rfl)
/-- byte j of a number, the first the highest; byte k of five -/
def zbt (a : Int32) (j : Nat) : Int := (lo8 (a >>> (Int32.ofInt (24 - 8 * (j : Int)) &&& 31)) : Int)
def zfd (l : List Int32) (k : Nat) : Int := zbt (l.getD (k / 4) 0) (k % 4)
theorem zbt_s {a s : Int32} {j : Nat} (h : s.toInt = 24 - 8 * (j : Int)) : (lo8 (a >>> (s &&& 31)) : Int) = zbt a j := by
  have e : s = Int32.ofInt (24 - 8 * (j : Int)) := by rw [← h, Int32.ofInt_toInt]
  rw [e]
  rfl
theorem zfd_p {l : List Int32} {a : Int32} {i j : Nat} (h : l.getD i 0 = a) (hj : j < 4) : zbt a j = zfd l (4 * i + j) := by
  unfold zfd
  rw [show (4 * i + j) / 4 = i from by omega, show (4 * i + j) % 4 = j from by omega, h]
/-- from c on m places of the row R hold f, the others are as they were -/
def zTP (g : Int → Int) (R : Nat) (h0 h : cv_H) (c m : Nat) (f : Nat → Int) : Prop := (∀ k, k < m → g (ri_at h R (c + k)) = f k) ∧ ∀ i, (i < c ∨ c + m ≤ i) → ri_at h R i = ri_at h0 R i
theorem zTP_0 {g : Int → Int} {R : Nat} {h : cv_H} {c : Nat} {f : Nat → Int} : zTP g R h h c 0 f := ⟨fun k hk => absurd hk (Nat.not_lt_zero k), fun _ _ => rfl⟩
theorem zTP_eq {g : Int → Int} {R : Nat} {h0 h h' : cv_H} {c m : Nat} {f : Nat → Int} (a : zTP g R h0 h c m f) (e : ∀ i, ri_at h' R i = ri_at h R i) : zTP g R h0 h' c m f := ⟨fun k hk => by rw [e]; exact a.1 k hk, fun i hi => (e i).trans (a.2 i hi)⟩
theorem zTP_wr {g : Int → Int} {R : Nat} {h0 h h' : cv_H} {c m : Nat} {f : Nat → Int} {y : Int32} (a : zTP g R h0 h c m f) (w : cw_Wr h h' R (c + m) (cv_i y)) (e : g y.toInt = f m) : zTP g R h0 h' c (m + 1) f := by
  refine ⟨fun k hk => ?_, fun i hi => ?_⟩
  · by_cases q : k = m
    · subst q
      rw [ri_self w]
      exact e
    · rw [ri_ne w (.inr (by omega))]
      exact a.1 k (by omega)
  · rw [ri_ne w (.inr (by omega))]
    exact a.2 i (by omega)
theorem zTP_app {g : Int → Int} {R : Nat} {h0 h h' : cv_H} {c m m' : Nat} {f f' : Nat → Int} (a : zTP g R h0 h c m f) (b : zTP g R h h' (c + m) m' f') (e : ∀ j, j < m' → f' j = f (m + j)) : zTP g R h0 h' c (m + m') f := by
  refine ⟨fun k hk => ?_, fun i hi => ?_⟩
  · by_cases q : k < m
    · rw [b.2 _ (by omega)]
      exact a.1 k q
    · have := b.1 (k - m) (by omega)
      rw [show c + m + (k - m) = c + k from by omega, e _ (by omega), show m + (k - m) = k from by omega] at this
      exact this
  · rw [b.2 i (by omega)]
    exact a.2 i (by omega)
def zm8 (x : Int) : Int := x % 256
theorem rem4 {x y : Int32} {k : Nat} (hx : x.toInt = k) (hk : k < 20) (hy : y.toInt = 4) : (x - x / y * y).toInt = ((k % 4 : Nat) : Int) := by
  have e : y = 4 := Int32.toInt_inj.mp (hy.trans (by decide))
  have e2 : x = Int32.ofNat k := by
    apply Int32.toInt_inj.mp
    rw [hx]
    have : ∀ k : Fin 20, ((k.1 : Nat) : Int) = (Int32.ofNat k.1).toInt := by decide +kernel
    exact this ⟨k, hk⟩
  rw [e, e2]
  have : ∀ k : Fin 20, (Int32.ofNat k.1 - Int32.ofNat k.1 / 4 * 4).toInt = ((k.1 % 4 : Nat) : Int) := by decide +kernel
  exact this ⟨k, hk⟩
section TZ
variable {G : Int} {X : cv_X} {Q : cv_O → Prop}
theorem pt_lp {h0 : cv_H} {a : Int32} {c : Nat} (hc9 : c + 4 ≤ 900) (hQ : ∀ h', cw_T G h' → cw_Fr cw_Ds cw_sh kk_X11_putOnTape.2.2.2.2.2.1 h0 h' → ri_at h' 0 1 = c + 4 → zTP zm8 1 h0 h' c 4 (zbt a) → Q (none, h')) : ∀ (u j : Nat) (L : cv_L) (s : Int32) (h : cv_H), j + u = 4 → cw_T G h → cw_Fr cw_Ds cw_sh kk_X11_putOnTape.2.2.2.2.2.1 h0 h → ri_at h 0 1 = (c : Int) + j → s.toInt = 24 - 8 * (j : Int) → zTP zm8 1 h0 h c j (zbt a) → cv_get L 0 = some (cv_r 0) → cv_get L 1 = some (cv_i a) → cv_get L 2 = some (cv_i s) → cw_X X 108 Q 3 L [] h := by
  intro u
  induction u with
  | zero =>
    intro j L s h hju hT Fh hc hs hp g0 g1 g2
    have hj4 : j = 4 := by omega
    subst hj4
    replace hc : ri_at h 0 1 = (c : Int) + 4 := hc
    refine ex_il oq_X11_putOnTape_3 g2 ?_
    refine ex_if0 oq_X11_putOnTape_4 (t := 55) rfl rfl (fun (c101 : s.toInt < 0) => ?_) (fun (c101 : ¬ (s.toInt < 0)) => ?_)
    · exact ex_retv oq_X11_putOnTape_55 rfl (hQ h hT Fh (by omega) hp)
    · exfalso; omega
  | succ u ih =>
    intro j L s h hju hT Fh hc hs hp g0 g1 g2
    refine ex_il oq_X11_putOnTape_3 g2 ?_
    refine ex_if0 oq_X11_putOnTape_4 (t := 55) rfl rfl (fun (c101 : s.toInt < 0) => ?_) (fun (c101 : ¬ (s.toInt < 0)) => ?_)
    · exfalso; omega
    · refine ex_al oq_X11_putOnTape_7 g0 ?_
      obtain ⟨x102, ax102, rx102, lx102, ux102⟩ := ri_fld (k := 0) (d := 11) (f := 1) hT rfl rfl rfl
      try dsimp only at lx102 ux102
      refine ex_gf oq_X11_putOnTape_8 hT (k := 0) (d := 11) rfl rfl ax102 ?_
      have rx102 := (rx102.symm.trans hc : x102.toInt = (c : Int) + j)
      refine ex_if0 oq_X11_putOnTape_11 (t := 49) rfl rfl (fun (c103 : x102.toInt < 0) => ?_) (fun (c103 : ¬ (x102.toInt < 0)) => ?_)
      · exfalso; omega
      · refine ex_al oq_X11_putOnTape_14 g0 ?_
        obtain ⟨x104, ax104, rx104, lx104, ux104⟩ := ri_fld (k := 0) (d := 11) (f := 1) hT rfl rfl rfl
        try dsimp only at lx104 ux104
        refine ex_gf oq_X11_putOnTape_15 hT (k := 0) (d := 11) rfl rfl ax104 ?_
        have rx104 := (rx104.symm.trans hc : x104.toInt = (c : Int) + j)
        refine ex_al oq_X11_putOnTape_18 g0 ?_
        refine ex_gf oq_X11_putOnTape_19 hT (k := 0) (d := 11) rfl rfl (ri_ref (k := 0) (k' := 1) (d := 11) (f := 0) hT rfl rfl rfl (by decide) (ri_uniq (by decide +kernel))) ?_
        refine ex_len oq_X11_putOnTape_22 hT (k := 1) (d := 13) rfl rfl (by decide) (fun x105 hx105 => ?_)
        refine ex_if oq_X11_putOnTape_23 (t := 49) rfl rfl (fun (c106 : x105.toInt ≤ x104.toInt) => ?_) (fun (c106 : ¬ (x105.toInt ≤ x104.toInt)) => ?_)
        · exfalso; omega
        · refine ex_al oq_X11_putOnTape_26 g0 ?_
          refine ex_gf oq_X11_putOnTape_27 hT (k := 0) (d := 11) rfl rfl (ri_ref (k := 0) (k' := 1) (d := 11) (f := 0) hT rfl rfl rfl (by decide) (ri_uniq (by decide +kernel))) ?_
          refine ex_al oq_X11_putOnTape_30 g0 ?_
          obtain ⟨x107, ax107, rx107, lx107, ux107⟩ := ri_fld (k := 0) (d := 11) (f := 1) hT rfl rfl rfl
          try dsimp only at lx107 ux107
          refine ex_gf oq_X11_putOnTape_31 hT (k := 0) (d := 11) rfl rfl ax107 ?_
          have rx107 := (rx107.symm.trans hc : x107.toInt = (c : Int) + j)
          refine ex_il oq_X11_putOnTape_34 g1 ?_
          refine ex_il oq_X11_putOnTape_35 g2 ?_
          refine ex_ushrE oq_X11_putOnTape_36 (fun x108 hx108 => ?_)
          refine ex_i2b oq_X11_putOnTape_37 (fun x109 hx109 => ?_)
          refine ex_bwB oq_X11_putOnTape_38 hT (k := 1) (d := 13) (j := c + j) rfl rfl (by omega) (by omega) (fun h110 Th110 wh110 => ?_)
          have Fh110 : cw_Fr cw_Ds cw_sh kk_X11_putOnTape.2.2.2.2.2.1 h0 h110 := cw_Fr_tr Fh (cw_Fr_wrr wh110 (k := 1) (d := 13) rfl rfl (by decide +kernel))
          have eh110_0_1 : ri_at h110 0 1 = (c : Int) + j := (ri_ne wh110 (.inl (by decide))).trans hc
          refine ex_al oq_X11_putOnTape_39 g0 ?_
          refine ex_dup oq_X11_putOnTape_40 rfl ?_
          obtain ⟨x111, ax111, rx111, lx111, ux111⟩ := ri_fld (k := 0) (d := 11) (f := 1) Th110 rfl rfl rfl
          try dsimp only at lx111 ux111
          refine ex_gf oq_X11_putOnTape_41 Th110 (k := 0) (d := 11) rfl rfl ax111 ?_
          have rx111 := (rx111.symm.trans eh110_0_1 : x111.toInt = (c : Int) + j)
          refine ex_ic oq_X11_putOnTape_44 (m := 1) (by decide) (fun x112 hx112 => ?_)
          refine ex_add oq_X11_putOnTape_45 (by omega) (fun x113 hx113 => ?_)
          refine ex_pfi oq_X11_putOnTape_46 Th110 (k := 0) (d := 11) rfl rfl rfl (by omega) (by omega) (fun h114 Th114 wh114 => ?_)
          have Fh114 : cw_Fr cw_Ds cw_sh kk_X11_putOnTape.2.2.2.2.2.1 h0 h114 := cw_Fr_tr Fh110 (cw_Fr_wrf wh114 (k := 0) (d := 11) rfl rfl (by decide +kernel))
          have eh114_0_1 : ri_at h114 0 1 = x113.toInt := ri_self wh114
          refine ex_incA oq_X11_putOnTape_49 (v := s) (m := (-8)) g2 (by decide) (by omega) (fun L116 x115 hx115 gL116_2 kL116 => ?_)
          have gL116_0 : cv_get L116 0 = some (cv_r 0) := kL116 0 _ (by decide) (fun q => absurd q (by decide)) g0
          have gL116_1 : cv_get L116 1 = some (cv_i a) := kL116 1 _ (by decide) (fun _ => rfl) g1
          refine ex_go oq_X11_putOnTape_52 (t := 3) rfl rfl ?_
          exact ih (j + 1) L116 x115 h114 (by omega) Th114 Fh114 (by omega) (by omega) (zTP_eq (zTP_wr hp wh110 (by show (cv_nar 1 _).toInt % 256 = _; rw [lo8_nar, ← lo8_i, hx109, lo8_8, hx108, lo8_sh (by omega)]; exact zbt_s (by omega))) (fun i => (ri_ne wh114 (.inl (by decide))))) gL116_0 gL116_1 gL116_2
theorem ct_put {h0 : cv_H} (hT : cw_T G h0) (a : Int32) {c : Nat} (hc : ri_at h0 0 1 = c) (hc9 : c + 4 ≤ 900) (hQ : ∀ h', cw_T G h' → cw_Fr cw_Ds cw_sh kk_X11_putOnTape.2.2.2.2.2.1 h0 h' → ri_at h' 0 1 = c + 4 → zTP zm8 1 h0 h' c 4 (zbt a) → Q (none, h')) : cw_X X 108 Q 0 (cv_ent 0 [cv_r 0, cv_i a]) [] h0 := by
  have Fh0 : cw_Fr cw_Ds cw_sh kk_X11_putOnTape.2.2.2.2.2.1 h0 h0 := cw_Fr_refl
  refine ex_bi oq_X11_putOnTape_0 (m := 24) (by decide) (fun x301 hx301 => ?_)
  refine ex_isA oq_X11_putOnTape_2 (fun L302 gL302_2 kL302 => ?_)
  have gL302_0 : cv_get L302 0 = some (cv_r 0) := kL302 0 _ (by decide) (fun q => absurd q (by decide)) rfl
  have gL302_1 : cv_get L302 1 = some (cv_i a) := kL302 1 _ (by decide) (fun _ => rfl) rfl
  exact pt_lp hc9 hQ 4 0 L302 x301 h0 (by omega) hT Fh0 (by omega) (by omega) zTP_0 gL302_0 gL302_1 gL302_2
theorem ct_feed {h0 : cv_H} (hT : cw_T G h0) (a1 a2 a3 a4 a5 : Int32) {c : Nat} (hc : ri_at h0 0 1 = c) (hQ : ∀ (x : Int32) h', cw_T G h' → cw_Fr cw_Ds cw_sh kk_X11_feed.2.2.2.2.2.1 h0 h' → (880 < c ∧ x.toInt = -1 ∧ ri_at h' 0 1 = c ∧ (∀ i, ri_at h' 1 i = ri_at h0 1 i) ∨ c ≤ 880 ∧ x.toInt = c + 20 ∧ ri_at h' 0 1 = c + 20 ∧ zTP zm8 1 h0 h' c 20 (zfd [a1, a2, a3, a4, a5])) → Q (some (cv_i x), h')) : cw_X X 107 Q 0 (cv_ent 0 [cv_r 0, cv_i a1, cv_i a2, cv_i a3, cv_i a4, cv_i a5]) [] h0 := by
  have Fh0 : cw_Fr cw_Ds cw_sh kk_X11_feed.2.2.2.2.2.1 h0 h0 := cw_Fr_refl
  refine ex_al oq_X11_feed_0 rfl ?_
  obtain ⟨x101, ax101, rx101, lx101, ux101⟩ := ri_fld (k := 0) (d := 11) (f := 1) hT rfl rfl rfl
  try dsimp only at lx101 ux101
  refine ex_gf oq_X11_feed_1 hT (k := 0) (d := 11) rfl rfl ax101 ?_
  have rx101 := (rx101.symm.trans hc : x101.toInt = (c : Int))
  refine ex_si oq_X11_feed_4 (m := 880) (by decide) (fun x102 hx102 => ?_)
  refine ex_if oq_X11_feed_7 (t := 12) rfl rfl (fun (c103 : x101.toInt ≤ x102.toInt) => ?_) (fun (c103 : ¬ (x101.toInt ≤ x102.toInt)) => ?_)
  · refine ex_al oq_X11_feed_12 rfl ?_
    refine ex_il oq_X11_feed_13 rfl ?_
    refine ex_cv oq_X11_feed_14 (by decide) hT (k := 0) (d := 11) (as := [cv_i a1]) (stk := []) rfl rfl rfl rfl rfl rfl ⟨rfl, rfl⟩ (R := fun o => ∃ hb : cv_H, o = (none, hb) ∧ cw_T G hb ∧ cw_Fr cw_Ds cw_sh kk_X11_putOnTape.2.2.2.2.2.1 h0 hb ∧ ri_at hb 0 1 = ((c + 0 : Nat) : Int) + 4 ∧ zTP zm8 1 h0 hb (c + 0) 4 (zbt a1)) (ct_put hT a1 (c := c + 0) (by omega) (by omega) (fun hb b1 b2 b3 b4 => ⟨hb, rfl, b1, b2, b3, b4⟩)) (fun o ho => ?_)
    obtain ⟨h104, rfl, Th104, Ch104, ch104, ph104⟩ := ho
    show cw_X _ _ _ _ _ [] h104
    have Fh104 : cw_Fr cw_Ds cw_sh kk_X11_feed.2.2.2.2.2.1 h0 h104 := cw_Fr_tr Fh0 (cw_Fr_mono (by decide +kernel) Ch104)
    have Ph104 : zTP zm8 1 h0 h104 c 4 (zfd [a1, a2, a3, a4, a5]) := zTP_app (m := 0) zTP_0 ph104 (fun j hj => zfd_p (l := [a1, a2, a3, a4, a5]) (i := 0) rfl hj)
    refine ex_al oq_X11_feed_17 rfl ?_
    refine ex_il oq_X11_feed_18 rfl ?_
    refine ex_cv oq_X11_feed_19 (by decide) Th104 (k := 0) (d := 11) (as := [cv_i a2]) (stk := []) rfl rfl rfl rfl rfl rfl ⟨rfl, rfl⟩ (R := fun o => ∃ hb : cv_H, o = (none, hb) ∧ cw_T G hb ∧ cw_Fr cw_Ds cw_sh kk_X11_putOnTape.2.2.2.2.2.1 h104 hb ∧ ri_at hb 0 1 = ((c + 4 : Nat) : Int) + 4 ∧ zTP zm8 1 h104 hb (c + 4) 4 (zbt a2)) (ct_put Th104 a2 (c := c + 4) (by omega) (by omega) (fun hb b1 b2 b3 b4 => ⟨hb, rfl, b1, b2, b3, b4⟩)) (fun o ho => ?_)
    obtain ⟨h105, rfl, Th105, Ch105, ch105, ph105⟩ := ho
    show cw_X _ _ _ _ _ [] h105
    have Fh105 : cw_Fr cw_Ds cw_sh kk_X11_feed.2.2.2.2.2.1 h0 h105 := cw_Fr_tr Fh104 (cw_Fr_mono (by decide +kernel) Ch105)
    have Ph105 : zTP zm8 1 h0 h105 c 8 (zfd [a1, a2, a3, a4, a5]) := zTP_app (m := 4) Ph104 ph105 (fun j hj => zfd_p (l := [a1, a2, a3, a4, a5]) (i := 1) rfl hj)
    refine ex_al oq_X11_feed_22 rfl ?_
    refine ex_il oq_X11_feed_23 rfl ?_
    refine ex_cv oq_X11_feed_24 (by decide) Th105 (k := 0) (d := 11) (as := [cv_i a3]) (stk := []) rfl rfl rfl rfl rfl rfl ⟨rfl, rfl⟩ (R := fun o => ∃ hb : cv_H, o = (none, hb) ∧ cw_T G hb ∧ cw_Fr cw_Ds cw_sh kk_X11_putOnTape.2.2.2.2.2.1 h105 hb ∧ ri_at hb 0 1 = ((c + 8 : Nat) : Int) + 4 ∧ zTP zm8 1 h105 hb (c + 8) 4 (zbt a3)) (ct_put Th105 a3 (c := c + 8) (by omega) (by omega) (fun hb b1 b2 b3 b4 => ⟨hb, rfl, b1, b2, b3, b4⟩)) (fun o ho => ?_)
    obtain ⟨h106, rfl, Th106, Ch106, ch106, ph106⟩ := ho
    show cw_X _ _ _ _ _ [] h106
    have Fh106 : cw_Fr cw_Ds cw_sh kk_X11_feed.2.2.2.2.2.1 h0 h106 := cw_Fr_tr Fh105 (cw_Fr_mono (by decide +kernel) Ch106)
    have Ph106 : zTP zm8 1 h0 h106 c 12 (zfd [a1, a2, a3, a4, a5]) := zTP_app (m := 8) Ph105 ph106 (fun j hj => zfd_p (l := [a1, a2, a3, a4, a5]) (i := 2) rfl hj)
    refine ex_al oq_X11_feed_27 rfl ?_
    refine ex_ilw oq_X11_feed_28 rfl ?_
    refine ex_cv oq_X11_feed_30 (by decide) Th106 (k := 0) (d := 11) (as := [cv_i a4]) (stk := []) rfl rfl rfl rfl rfl rfl ⟨rfl, rfl⟩ (R := fun o => ∃ hb : cv_H, o = (none, hb) ∧ cw_T G hb ∧ cw_Fr cw_Ds cw_sh kk_X11_putOnTape.2.2.2.2.2.1 h106 hb ∧ ri_at hb 0 1 = ((c + 12 : Nat) : Int) + 4 ∧ zTP zm8 1 h106 hb (c + 12) 4 (zbt a4)) (ct_put Th106 a4 (c := c + 12) (by omega) (by omega) (fun hb b1 b2 b3 b4 => ⟨hb, rfl, b1, b2, b3, b4⟩)) (fun o ho => ?_)
    obtain ⟨h107, rfl, Th107, Ch107, ch107, ph107⟩ := ho
    show cw_X _ _ _ _ _ [] h107
    have Fh107 : cw_Fr cw_Ds cw_sh kk_X11_feed.2.2.2.2.2.1 h0 h107 := cw_Fr_tr Fh106 (cw_Fr_mono (by decide +kernel) Ch107)
    have Ph107 : zTP zm8 1 h0 h107 c 16 (zfd [a1, a2, a3, a4, a5]) := zTP_app (m := 12) Ph106 ph107 (fun j hj => zfd_p (l := [a1, a2, a3, a4, a5]) (i := 3) rfl hj)
    refine ex_al oq_X11_feed_33 rfl ?_
    refine ex_ilw oq_X11_feed_34 rfl ?_
    refine ex_cv oq_X11_feed_36 (by decide) Th107 (k := 0) (d := 11) (as := [cv_i a5]) (stk := []) rfl rfl rfl rfl rfl rfl ⟨rfl, rfl⟩ (R := fun o => ∃ hb : cv_H, o = (none, hb) ∧ cw_T G hb ∧ cw_Fr cw_Ds cw_sh kk_X11_putOnTape.2.2.2.2.2.1 h107 hb ∧ ri_at hb 0 1 = ((c + 16 : Nat) : Int) + 4 ∧ zTP zm8 1 h107 hb (c + 16) 4 (zbt a5)) (ct_put Th107 a5 (c := c + 16) (by omega) (by omega) (fun hb b1 b2 b3 b4 => ⟨hb, rfl, b1, b2, b3, b4⟩)) (fun o ho => ?_)
    obtain ⟨h108, rfl, Th108, Ch108, ch108, ph108⟩ := ho
    show cw_X _ _ _ _ _ [] h108
    have Fh108 : cw_Fr cw_Ds cw_sh kk_X11_feed.2.2.2.2.2.1 h0 h108 := cw_Fr_tr Fh107 (cw_Fr_mono (by decide +kernel) Ch108)
    have Ph108 : zTP zm8 1 h0 h108 c 20 (zfd [a1, a2, a3, a4, a5]) := zTP_app (m := 16) Ph107 ph108 (fun j hj => zfd_p (l := [a1, a2, a3, a4, a5]) (i := 4) rfl hj)
    refine ex_al oq_X11_feed_39 rfl ?_
    obtain ⟨x109, ax109, rx109, lx109, ux109⟩ := ri_fld (k := 0) (d := 11) (f := 1) Th108 rfl rfl rfl
    try dsimp only at lx109 ux109
    refine ex_gf oq_X11_feed_40 Th108 (k := 0) (d := 11) rfl rfl ax109 ?_
    have rx109 := (rx109.symm.trans ch108 : x109.toInt = ((c + 16 : Nat) : Int) + 4)
    exact ex_reti oq_X11_feed_43 rfl (hQ x109 h108 Th108 Fh108 (.inr ⟨by omega, by omega, by omega, Ph108⟩))
  · refine ex_ic oq_X11_feed_10 (m := (-1)) (by decide) (fun x110 hx110 => ?_)
    exact ex_reti oq_X11_feed_11 rfl (hQ x110 h0 hT Fh0 (.inl ⟨by omega, by omega, by omega, fun _ => rfl⟩))
set_option maxHeartbeats 8000000 in
theorem fd_lp {h0 : cv_H} {c : Nat} (hc8 : c ≤ 880) (a1 a2 a3 a4 a5 : Int32) (hQ : ∀ (x : Int32) h', cw_T G h' → cw_Fr cw_Ds cw_sh kk_X12_feed.2.2.2.2.2.1 h0 h' → (880 < c ∧ x.toInt = -1 ∧ ri_at h' 111 1 = c ∧ (∀ i, ri_at h' 112 i = ri_at h0 112 i) ∨ c ≤ 880 ∧ x.toInt = c + 20 ∧ ri_at h' 111 1 = c + 20 ∧ zTP id 112 h0 h' c 20 (zfd [a1, a2, a3, a4, a5])) → Q (some (cv_i x), h')) : ∀ (u k : Nat) (L : cv_L) (kk : Int32) (h : cv_H), k + u = 20 → cw_T G h → cw_Fr cw_Ds cw_sh kk_X12_feed.2.2.2.2.2.1 h0 h → kk.toInt = k → ri_at h 111 1 = (c : Int) → zTP id 112 h0 h c k (zfd [a1, a2, a3, a4, a5]) → cv_get L 0 = some (cv_r 111) → cv_get L 1 = some (cv_i a1) → cv_get L 2 = some (cv_i a2) → cv_get L 3 = some (cv_i a3) → cv_get L 4 = some (cv_i a4) → cv_get L 5 = some (cv_i a5) → cv_get L 6 = some (cv_i kk) → cw_X X 155 Q 23 L [] h := by
  intro u
  induction u with
  | zero =>
    intro k L kk h hku hT Fh hkk hc hp g0 g1 g2 g3 g4 g5 g6
    have hk20 : k = 20 := by omega
    subst hk20
    refine ex_ilw oq_X12_feed_23 g6 ?_
    refine ex_bi oq_X12_feed_25 (m := 20) (by decide) (fun x101 hx101 => ?_)
    refine ex_if oq_X12_feed_27 (t := 113) rfl rfl (fun (c102 : x101.toInt ≤ kk.toInt) => ?_) (fun (c102 : ¬ (x101.toInt ≤ kk.toInt)) => ?_)
    · refine ex_al oq_X12_feed_113 g0 ?_
      refine ex_dup oq_X12_feed_114 rfl ?_
      obtain ⟨x103, ax103, rx103, lx103, ux103⟩ := fi_tapeSize hT
      refine ex_gf oq_X12_feed_115 hT (k := 111) (d := 12) rfl rfl ax103 ?_
      have rx103 := (rx103.symm.trans hc : x103.toInt = (c : Int))
      refine ex_bi oq_X12_feed_118 (m := 20) (by decide) (fun x104 hx104 => ?_)
      refine ex_add oq_X12_feed_120 (by omega) (fun x105 hx105 => ?_)
      refine ex_pfi oq_X12_feed_121 hT (k := 111) (d := 12) rfl rfl rfl (by omega) (by omega) (fun h106 Th106 wh106 => ?_)
      have Fh106 : cw_Fr cw_Ds cw_sh kk_X12_feed.2.2.2.2.2.1 h0 h106 := cw_Fr_tr Fh (cw_Fr_wrf wh106 (k := 111) (d := 12) rfl rfl (by decide +kernel))
      have eh106_111_1 : ri_at h106 111 1 = x105.toInt := ri_self wh106
      refine ex_al oq_X12_feed_124 g0 ?_
      obtain ⟨x107, ax107, rx107, lx107, ux107⟩ := fi_tapeSize Th106
      refine ex_gf oq_X12_feed_125 Th106 (k := 111) (d := 12) rfl rfl ax107 ?_
      have rx107 := (rx107.symm.trans eh106_111_1 : x107.toInt = x105.toInt)
      exact ex_reti oq_X12_feed_128 rfl (hQ x107 h106 Th106 Fh106 (.inr ⟨by omega, by omega, by omega, zTP_eq hp (fun i => (ri_ne wh106 (.inl (by decide))))⟩))
    · exfalso; omega
  | succ u ih =>
    intro k L kk h hku hT Fh hkk hc hp g0 g1 g2 g3 g4 g5 g6
    refine ex_ilw oq_X12_feed_23 g6 ?_
    refine ex_bi oq_X12_feed_25 (m := 20) (by decide) (fun x101 hx101 => ?_)
    refine ex_if oq_X12_feed_27 (t := 113) rfl rfl (fun (c102 : x101.toInt ≤ kk.toInt) => ?_) (fun (c102 : ¬ (x101.toInt ≤ kk.toInt)) => ?_)
    · exfalso; omega
    · refine ex_ilw oq_X12_feed_30 g6 ?_
      refine ex_ic oq_X12_feed_32 (m := 4) (by decide) (fun x103 hx103 => ?_)
      refine ex_if oq_X12_feed_33 (t := 40) rfl rfl (fun (c104 : x103.toInt ≤ kk.toInt) => ?_) (fun (c104 : ¬ (x103.toInt ≤ kk.toInt)) => ?_)
      · refine ex_ilw oq_X12_feed_40 g6 ?_
        refine ex_bi oq_X12_feed_42 (m := 8) (by decide) (fun x105 hx105 => ?_)
        refine ex_if oq_X12_feed_44 (t := 51) rfl rfl (fun (c106 : x105.toInt ≤ kk.toInt) => ?_) (fun (c106 : ¬ (x105.toInt ≤ kk.toInt)) => ?_)
        · refine ex_ilw oq_X12_feed_51 g6 ?_
          refine ex_bi oq_X12_feed_53 (m := 12) (by decide) (fun x107 hx107 => ?_)
          refine ex_if oq_X12_feed_55 (t := 62) rfl rfl (fun (c108 : x107.toInt ≤ kk.toInt) => ?_) (fun (c108 : ¬ (x107.toInt ≤ kk.toInt)) => ?_)
          · refine ex_ilw oq_X12_feed_62 g6 ?_
            refine ex_bi oq_X12_feed_64 (m := 16) (by decide) (fun x109 hx109 => ?_)
            refine ex_if oq_X12_feed_66 (t := 74) rfl rfl (fun (c110 : x109.toInt ≤ kk.toInt) => ?_) (fun (c110 : ¬ (x109.toInt ≤ kk.toInt)) => ?_)
            · refine ex_ilw oq_X12_feed_74 g5 ?_
              refine ex_iswA oq_X12_feed_76 (fun L111 gL111_7 kL111 => ?_)
              have gL111_0 : cv_get L111 0 = some (cv_r 111) := kL111 0 _ (by decide) (fun q => absurd q (by decide)) g0
              have gL111_1 : cv_get L111 1 = some (cv_i a1) := kL111 1 _ (by decide) (fun q => absurd q (by decide)) g1
              have gL111_2 : cv_get L111 2 = some (cv_i a2) := kL111 2 _ (by decide) (fun q => absurd q (by decide)) g2
              have gL111_3 : cv_get L111 3 = some (cv_i a3) := kL111 3 _ (by decide) (fun q => absurd q (by decide)) g3
              have gL111_4 : cv_get L111 4 = some (cv_i a4) := kL111 4 _ (by decide) (fun q => absurd q (by decide)) g4
              have gL111_5 : cv_get L111 5 = some (cv_i a5) := kL111 5 _ (by decide) (fun q => absurd q (by decide)) g5
              have gL111_6 : cv_get L111 6 = some (cv_i kk) := kL111 6 _ (by decide) (fun _ => rfl) g6
              refine ex_al oq_X12_feed_78 gL111_0 ?_
              refine ex_gf oq_X12_feed_79 hT (k := 111) (d := 12) rfl rfl (fr_tape hT) ?_
              refine ex_al oq_X12_feed_82 gL111_0 ?_
              obtain ⟨x112, ax112, rx112, lx112, ux112⟩ := fi_tapeSize hT
              refine ex_gf oq_X12_feed_83 hT (k := 111) (d := 12) rfl rfl ax112 ?_
              have rx112 := (rx112.symm.trans hc : x112.toInt = (c : Int))
              refine ex_ilw oq_X12_feed_86 gL111_6 ?_
              refine ex_add oq_X12_feed_88 (by omega) (fun x113 hx113 => ?_)
              refine ex_ilw oq_X12_feed_89 gL111_7 ?_
              refine ex_bi oq_X12_feed_91 (m := 24) (by decide) (fun x114 hx114 => ?_)
              refine ex_bi oq_X12_feed_93 (m := 8) (by decide) (fun x115 hx115 => ?_)
              refine ex_ilw oq_X12_feed_95 gL111_6 ?_
              refine ex_ic oq_X12_feed_97 (m := 4) (by decide) (fun x116 hx116 => ?_)
              refine ex_rem oq_X12_feed_98 (by omega) (fun x117 hx117 => ?_)
              have rm : x117.toInt = ((k % 4 : Nat) : Int) := by rw [hx117]; exact rem4 hkk (by omega) hx116
              refine ex_mul oq_X12_feed_99 (m := 8 * x117.toInt) (by rw [hx115]) (by omega) (fun x118 hx118 => ?_)
              refine ex_sub oq_X12_feed_100 (by omega) (fun x119 hx119 => ?_)
              refine ex_shrE oq_X12_feed_101 (fun x120 hx120 => ?_)
              refine ex_si oq_X12_feed_102 (m := 255) (by decide) (fun x121 hx121 => ?_)
              refine ex_andE oq_X12_feed_105 (fun x122 hx122 => ?_)
              refine ex_iw1 oq_X12_feed_106 hT (k := 112) (d := 51) (j := c + k) rfl rfl (by omega) (by omega) ⟨(cw_i32 _).1, (cw_i32 _).2⟩ (fun h123 Th123 wh123 => ?_)
              have Fh123 : cw_Fr cw_Ds cw_sh kk_X12_feed.2.2.2.2.2.1 h0 h123 := cw_Fr_tr Fh (cw_Fr_wrr wh123 (k := 112) (d := 51) rfl rfl (by decide +kernel))
              have eh123_111_1 : ri_at h123 111 1 = (c : Int) := (ri_ne wh123 (.inl (by decide))).trans hc
              refine ex_incA oq_X12_feed_107 (v := kk) (m := 1) gL111_6 (by decide) (by omega) (fun L125 x124 hx124 gL125_6 kL125 => ?_)
              have gL125_7 : cv_get L125 7 = some (cv_i a5) := kL125 7 _ (by decide) (fun q => absurd q (by decide)) gL111_7
              have gL125_0 : cv_get L125 0 = some (cv_r 111) := kL125 0 _ (by decide) (fun q => absurd q (by decide)) gL111_0
              have gL125_1 : cv_get L125 1 = some (cv_i a1) := kL125 1 _ (by decide) (fun q => absurd q (by decide)) gL111_1
              have gL125_2 : cv_get L125 2 = some (cv_i a2) := kL125 2 _ (by decide) (fun q => absurd q (by decide)) gL111_2
              have gL125_3 : cv_get L125 3 = some (cv_i a3) := kL125 3 _ (by decide) (fun q => absurd q (by decide)) gL111_3
              have gL125_4 : cv_get L125 4 = some (cv_i a4) := kL125 4 _ (by decide) (fun q => absurd q (by decide)) gL111_4
              have gL125_5 : cv_get L125 5 = some (cv_i a5) := kL125 5 _ (by decide) (fun _ => rfl) gL111_5
              refine ex_go oq_X12_feed_110 (t := 23) rfl rfl ?_
              exact ih (k + 1) L125 x124 h123 (by omega) Th123 Fh123 (by omega) eh123_111_1 (zTP_wr hp wh123 (by show x122.toInt = _; rw [hx122, lo8_and hx121, hx120, zbt_s (j := k % 4) (by omega), show zfd [a1, a2, a3, a4, a5] k = zbt a5 (k % 4) from by unfold zfd; rw [show k / 4 = 4 from by omega]; rfl])) gL125_0 gL125_1 gL125_2 gL125_3 gL125_4 gL125_5 gL125_6
            · refine ex_ilw oq_X12_feed_69 g4 ?_
              refine ex_go oq_X12_feed_71 (t := 76) rfl rfl ?_
              refine ex_iswA oq_X12_feed_76 (fun L126 gL126_7 kL126 => ?_)
              have gL126_0 : cv_get L126 0 = some (cv_r 111) := kL126 0 _ (by decide) (fun q => absurd q (by decide)) g0
              have gL126_1 : cv_get L126 1 = some (cv_i a1) := kL126 1 _ (by decide) (fun q => absurd q (by decide)) g1
              have gL126_2 : cv_get L126 2 = some (cv_i a2) := kL126 2 _ (by decide) (fun q => absurd q (by decide)) g2
              have gL126_3 : cv_get L126 3 = some (cv_i a3) := kL126 3 _ (by decide) (fun q => absurd q (by decide)) g3
              have gL126_4 : cv_get L126 4 = some (cv_i a4) := kL126 4 _ (by decide) (fun q => absurd q (by decide)) g4
              have gL126_5 : cv_get L126 5 = some (cv_i a5) := kL126 5 _ (by decide) (fun q => absurd q (by decide)) g5
              have gL126_6 : cv_get L126 6 = some (cv_i kk) := kL126 6 _ (by decide) (fun _ => rfl) g6
              refine ex_al oq_X12_feed_78 gL126_0 ?_
              refine ex_gf oq_X12_feed_79 hT (k := 111) (d := 12) rfl rfl (fr_tape hT) ?_
              refine ex_al oq_X12_feed_82 gL126_0 ?_
              obtain ⟨x127, ax127, rx127, lx127, ux127⟩ := fi_tapeSize hT
              refine ex_gf oq_X12_feed_83 hT (k := 111) (d := 12) rfl rfl ax127 ?_
              have rx127 := (rx127.symm.trans hc : x127.toInt = (c : Int))
              refine ex_ilw oq_X12_feed_86 gL126_6 ?_
              refine ex_add oq_X12_feed_88 (by omega) (fun x128 hx128 => ?_)
              refine ex_ilw oq_X12_feed_89 gL126_7 ?_
              refine ex_bi oq_X12_feed_91 (m := 24) (by decide) (fun x129 hx129 => ?_)
              refine ex_bi oq_X12_feed_93 (m := 8) (by decide) (fun x130 hx130 => ?_)
              refine ex_ilw oq_X12_feed_95 gL126_6 ?_
              refine ex_ic oq_X12_feed_97 (m := 4) (by decide) (fun x131 hx131 => ?_)
              refine ex_rem oq_X12_feed_98 (by omega) (fun x132 hx132 => ?_)
              have rm : x132.toInt = ((k % 4 : Nat) : Int) := by rw [hx132]; exact rem4 hkk (by omega) hx131
              refine ex_mul oq_X12_feed_99 (m := 8 * x132.toInt) (by rw [hx130]) (by omega) (fun x133 hx133 => ?_)
              refine ex_sub oq_X12_feed_100 (by omega) (fun x134 hx134 => ?_)
              refine ex_shrE oq_X12_feed_101 (fun x135 hx135 => ?_)
              refine ex_si oq_X12_feed_102 (m := 255) (by decide) (fun x136 hx136 => ?_)
              refine ex_andE oq_X12_feed_105 (fun x137 hx137 => ?_)
              refine ex_iw1 oq_X12_feed_106 hT (k := 112) (d := 51) (j := c + k) rfl rfl (by omega) (by omega) ⟨(cw_i32 _).1, (cw_i32 _).2⟩ (fun h138 Th138 wh138 => ?_)
              have Fh138 : cw_Fr cw_Ds cw_sh kk_X12_feed.2.2.2.2.2.1 h0 h138 := cw_Fr_tr Fh (cw_Fr_wrr wh138 (k := 112) (d := 51) rfl rfl (by decide +kernel))
              have eh138_111_1 : ri_at h138 111 1 = (c : Int) := (ri_ne wh138 (.inl (by decide))).trans hc
              refine ex_incA oq_X12_feed_107 (v := kk) (m := 1) gL126_6 (by decide) (by omega) (fun L140 x139 hx139 gL140_6 kL140 => ?_)
              have gL140_7 : cv_get L140 7 = some (cv_i a4) := kL140 7 _ (by decide) (fun q => absurd q (by decide)) gL126_7
              have gL140_0 : cv_get L140 0 = some (cv_r 111) := kL140 0 _ (by decide) (fun q => absurd q (by decide)) gL126_0
              have gL140_1 : cv_get L140 1 = some (cv_i a1) := kL140 1 _ (by decide) (fun q => absurd q (by decide)) gL126_1
              have gL140_2 : cv_get L140 2 = some (cv_i a2) := kL140 2 _ (by decide) (fun q => absurd q (by decide)) gL126_2
              have gL140_3 : cv_get L140 3 = some (cv_i a3) := kL140 3 _ (by decide) (fun q => absurd q (by decide)) gL126_3
              have gL140_4 : cv_get L140 4 = some (cv_i a4) := kL140 4 _ (by decide) (fun q => absurd q (by decide)) gL126_4
              have gL140_5 : cv_get L140 5 = some (cv_i a5) := kL140 5 _ (by decide) (fun _ => rfl) gL126_5
              refine ex_go oq_X12_feed_110 (t := 23) rfl rfl ?_
              exact ih (k + 1) L140 x139 h138 (by omega) Th138 Fh138 (by omega) eh138_111_1 (zTP_wr hp wh138 (by show x137.toInt = _; rw [hx137, lo8_and hx136, hx135, zbt_s (j := k % 4) (by omega), show zfd [a1, a2, a3, a4, a5] k = zbt a4 (k % 4) from by unfold zfd; rw [show k / 4 = 3 from by omega]; rfl])) gL140_0 gL140_1 gL140_2 gL140_3 gL140_4 gL140_5 gL140_6
          · refine ex_il oq_X12_feed_58 g3 ?_
            refine ex_go oq_X12_feed_59 (t := 76) rfl rfl ?_
            refine ex_iswA oq_X12_feed_76 (fun L141 gL141_7 kL141 => ?_)
            have gL141_0 : cv_get L141 0 = some (cv_r 111) := kL141 0 _ (by decide) (fun q => absurd q (by decide)) g0
            have gL141_1 : cv_get L141 1 = some (cv_i a1) := kL141 1 _ (by decide) (fun q => absurd q (by decide)) g1
            have gL141_2 : cv_get L141 2 = some (cv_i a2) := kL141 2 _ (by decide) (fun q => absurd q (by decide)) g2
            have gL141_3 : cv_get L141 3 = some (cv_i a3) := kL141 3 _ (by decide) (fun q => absurd q (by decide)) g3
            have gL141_4 : cv_get L141 4 = some (cv_i a4) := kL141 4 _ (by decide) (fun q => absurd q (by decide)) g4
            have gL141_5 : cv_get L141 5 = some (cv_i a5) := kL141 5 _ (by decide) (fun q => absurd q (by decide)) g5
            have gL141_6 : cv_get L141 6 = some (cv_i kk) := kL141 6 _ (by decide) (fun _ => rfl) g6
            refine ex_al oq_X12_feed_78 gL141_0 ?_
            refine ex_gf oq_X12_feed_79 hT (k := 111) (d := 12) rfl rfl (fr_tape hT) ?_
            refine ex_al oq_X12_feed_82 gL141_0 ?_
            obtain ⟨x142, ax142, rx142, lx142, ux142⟩ := fi_tapeSize hT
            refine ex_gf oq_X12_feed_83 hT (k := 111) (d := 12) rfl rfl ax142 ?_
            have rx142 := (rx142.symm.trans hc : x142.toInt = (c : Int))
            refine ex_ilw oq_X12_feed_86 gL141_6 ?_
            refine ex_add oq_X12_feed_88 (by omega) (fun x143 hx143 => ?_)
            refine ex_ilw oq_X12_feed_89 gL141_7 ?_
            refine ex_bi oq_X12_feed_91 (m := 24) (by decide) (fun x144 hx144 => ?_)
            refine ex_bi oq_X12_feed_93 (m := 8) (by decide) (fun x145 hx145 => ?_)
            refine ex_ilw oq_X12_feed_95 gL141_6 ?_
            refine ex_ic oq_X12_feed_97 (m := 4) (by decide) (fun x146 hx146 => ?_)
            refine ex_rem oq_X12_feed_98 (by omega) (fun x147 hx147 => ?_)
            have rm : x147.toInt = ((k % 4 : Nat) : Int) := by rw [hx147]; exact rem4 hkk (by omega) hx146
            refine ex_mul oq_X12_feed_99 (m := 8 * x147.toInt) (by rw [hx145]) (by omega) (fun x148 hx148 => ?_)
            refine ex_sub oq_X12_feed_100 (by omega) (fun x149 hx149 => ?_)
            refine ex_shrE oq_X12_feed_101 (fun x150 hx150 => ?_)
            refine ex_si oq_X12_feed_102 (m := 255) (by decide) (fun x151 hx151 => ?_)
            refine ex_andE oq_X12_feed_105 (fun x152 hx152 => ?_)
            refine ex_iw1 oq_X12_feed_106 hT (k := 112) (d := 51) (j := c + k) rfl rfl (by omega) (by omega) ⟨(cw_i32 _).1, (cw_i32 _).2⟩ (fun h153 Th153 wh153 => ?_)
            have Fh153 : cw_Fr cw_Ds cw_sh kk_X12_feed.2.2.2.2.2.1 h0 h153 := cw_Fr_tr Fh (cw_Fr_wrr wh153 (k := 112) (d := 51) rfl rfl (by decide +kernel))
            have eh153_111_1 : ri_at h153 111 1 = (c : Int) := (ri_ne wh153 (.inl (by decide))).trans hc
            refine ex_incA oq_X12_feed_107 (v := kk) (m := 1) gL141_6 (by decide) (by omega) (fun L155 x154 hx154 gL155_6 kL155 => ?_)
            have gL155_7 : cv_get L155 7 = some (cv_i a3) := kL155 7 _ (by decide) (fun q => absurd q (by decide)) gL141_7
            have gL155_0 : cv_get L155 0 = some (cv_r 111) := kL155 0 _ (by decide) (fun q => absurd q (by decide)) gL141_0
            have gL155_1 : cv_get L155 1 = some (cv_i a1) := kL155 1 _ (by decide) (fun q => absurd q (by decide)) gL141_1
            have gL155_2 : cv_get L155 2 = some (cv_i a2) := kL155 2 _ (by decide) (fun q => absurd q (by decide)) gL141_2
            have gL155_3 : cv_get L155 3 = some (cv_i a3) := kL155 3 _ (by decide) (fun q => absurd q (by decide)) gL141_3
            have gL155_4 : cv_get L155 4 = some (cv_i a4) := kL155 4 _ (by decide) (fun q => absurd q (by decide)) gL141_4
            have gL155_5 : cv_get L155 5 = some (cv_i a5) := kL155 5 _ (by decide) (fun _ => rfl) gL141_5
            refine ex_go oq_X12_feed_110 (t := 23) rfl rfl ?_
            exact ih (k + 1) L155 x154 h153 (by omega) Th153 Fh153 (by omega) eh153_111_1 (zTP_wr hp wh153 (by show x152.toInt = _; rw [hx152, lo8_and hx151, hx150, zbt_s (j := k % 4) (by omega), show zfd [a1, a2, a3, a4, a5] k = zbt a3 (k % 4) from by unfold zfd; rw [show k / 4 = 2 from by omega]; rfl])) gL155_0 gL155_1 gL155_2 gL155_3 gL155_4 gL155_5 gL155_6
        · refine ex_il oq_X12_feed_47 g2 ?_
          refine ex_go oq_X12_feed_48 (t := 76) rfl rfl ?_
          refine ex_iswA oq_X12_feed_76 (fun L156 gL156_7 kL156 => ?_)
          have gL156_0 : cv_get L156 0 = some (cv_r 111) := kL156 0 _ (by decide) (fun q => absurd q (by decide)) g0
          have gL156_1 : cv_get L156 1 = some (cv_i a1) := kL156 1 _ (by decide) (fun q => absurd q (by decide)) g1
          have gL156_2 : cv_get L156 2 = some (cv_i a2) := kL156 2 _ (by decide) (fun q => absurd q (by decide)) g2
          have gL156_3 : cv_get L156 3 = some (cv_i a3) := kL156 3 _ (by decide) (fun q => absurd q (by decide)) g3
          have gL156_4 : cv_get L156 4 = some (cv_i a4) := kL156 4 _ (by decide) (fun q => absurd q (by decide)) g4
          have gL156_5 : cv_get L156 5 = some (cv_i a5) := kL156 5 _ (by decide) (fun q => absurd q (by decide)) g5
          have gL156_6 : cv_get L156 6 = some (cv_i kk) := kL156 6 _ (by decide) (fun _ => rfl) g6
          refine ex_al oq_X12_feed_78 gL156_0 ?_
          refine ex_gf oq_X12_feed_79 hT (k := 111) (d := 12) rfl rfl (fr_tape hT) ?_
          refine ex_al oq_X12_feed_82 gL156_0 ?_
          obtain ⟨x157, ax157, rx157, lx157, ux157⟩ := fi_tapeSize hT
          refine ex_gf oq_X12_feed_83 hT (k := 111) (d := 12) rfl rfl ax157 ?_
          have rx157 := (rx157.symm.trans hc : x157.toInt = (c : Int))
          refine ex_ilw oq_X12_feed_86 gL156_6 ?_
          refine ex_add oq_X12_feed_88 (by omega) (fun x158 hx158 => ?_)
          refine ex_ilw oq_X12_feed_89 gL156_7 ?_
          refine ex_bi oq_X12_feed_91 (m := 24) (by decide) (fun x159 hx159 => ?_)
          refine ex_bi oq_X12_feed_93 (m := 8) (by decide) (fun x160 hx160 => ?_)
          refine ex_ilw oq_X12_feed_95 gL156_6 ?_
          refine ex_ic oq_X12_feed_97 (m := 4) (by decide) (fun x161 hx161 => ?_)
          refine ex_rem oq_X12_feed_98 (by omega) (fun x162 hx162 => ?_)
          have rm : x162.toInt = ((k % 4 : Nat) : Int) := by rw [hx162]; exact rem4 hkk (by omega) hx161
          refine ex_mul oq_X12_feed_99 (m := 8 * x162.toInt) (by rw [hx160]) (by omega) (fun x163 hx163 => ?_)
          refine ex_sub oq_X12_feed_100 (by omega) (fun x164 hx164 => ?_)
          refine ex_shrE oq_X12_feed_101 (fun x165 hx165 => ?_)
          refine ex_si oq_X12_feed_102 (m := 255) (by decide) (fun x166 hx166 => ?_)
          refine ex_andE oq_X12_feed_105 (fun x167 hx167 => ?_)
          refine ex_iw1 oq_X12_feed_106 hT (k := 112) (d := 51) (j := c + k) rfl rfl (by omega) (by omega) ⟨(cw_i32 _).1, (cw_i32 _).2⟩ (fun h168 Th168 wh168 => ?_)
          have Fh168 : cw_Fr cw_Ds cw_sh kk_X12_feed.2.2.2.2.2.1 h0 h168 := cw_Fr_tr Fh (cw_Fr_wrr wh168 (k := 112) (d := 51) rfl rfl (by decide +kernel))
          have eh168_111_1 : ri_at h168 111 1 = (c : Int) := (ri_ne wh168 (.inl (by decide))).trans hc
          refine ex_incA oq_X12_feed_107 (v := kk) (m := 1) gL156_6 (by decide) (by omega) (fun L170 x169 hx169 gL170_6 kL170 => ?_)
          have gL170_7 : cv_get L170 7 = some (cv_i a2) := kL170 7 _ (by decide) (fun q => absurd q (by decide)) gL156_7
          have gL170_0 : cv_get L170 0 = some (cv_r 111) := kL170 0 _ (by decide) (fun q => absurd q (by decide)) gL156_0
          have gL170_1 : cv_get L170 1 = some (cv_i a1) := kL170 1 _ (by decide) (fun q => absurd q (by decide)) gL156_1
          have gL170_2 : cv_get L170 2 = some (cv_i a2) := kL170 2 _ (by decide) (fun q => absurd q (by decide)) gL156_2
          have gL170_3 : cv_get L170 3 = some (cv_i a3) := kL170 3 _ (by decide) (fun q => absurd q (by decide)) gL156_3
          have gL170_4 : cv_get L170 4 = some (cv_i a4) := kL170 4 _ (by decide) (fun q => absurd q (by decide)) gL156_4
          have gL170_5 : cv_get L170 5 = some (cv_i a5) := kL170 5 _ (by decide) (fun _ => rfl) gL156_5
          refine ex_go oq_X12_feed_110 (t := 23) rfl rfl ?_
          exact ih (k + 1) L170 x169 h168 (by omega) Th168 Fh168 (by omega) eh168_111_1 (zTP_wr hp wh168 (by show x167.toInt = _; rw [hx167, lo8_and hx166, hx165, zbt_s (j := k % 4) (by omega), show zfd [a1, a2, a3, a4, a5] k = zbt a2 (k % 4) from by unfold zfd; rw [show k / 4 = 1 from by omega]; rfl])) gL170_0 gL170_1 gL170_2 gL170_3 gL170_4 gL170_5 gL170_6
      · refine ex_il oq_X12_feed_36 g1 ?_
        refine ex_go oq_X12_feed_37 (t := 76) rfl rfl ?_
        refine ex_iswA oq_X12_feed_76 (fun L171 gL171_7 kL171 => ?_)
        have gL171_0 : cv_get L171 0 = some (cv_r 111) := kL171 0 _ (by decide) (fun q => absurd q (by decide)) g0
        have gL171_1 : cv_get L171 1 = some (cv_i a1) := kL171 1 _ (by decide) (fun q => absurd q (by decide)) g1
        have gL171_2 : cv_get L171 2 = some (cv_i a2) := kL171 2 _ (by decide) (fun q => absurd q (by decide)) g2
        have gL171_3 : cv_get L171 3 = some (cv_i a3) := kL171 3 _ (by decide) (fun q => absurd q (by decide)) g3
        have gL171_4 : cv_get L171 4 = some (cv_i a4) := kL171 4 _ (by decide) (fun q => absurd q (by decide)) g4
        have gL171_5 : cv_get L171 5 = some (cv_i a5) := kL171 5 _ (by decide) (fun q => absurd q (by decide)) g5
        have gL171_6 : cv_get L171 6 = some (cv_i kk) := kL171 6 _ (by decide) (fun _ => rfl) g6
        refine ex_al oq_X12_feed_78 gL171_0 ?_
        refine ex_gf oq_X12_feed_79 hT (k := 111) (d := 12) rfl rfl (fr_tape hT) ?_
        refine ex_al oq_X12_feed_82 gL171_0 ?_
        obtain ⟨x172, ax172, rx172, lx172, ux172⟩ := fi_tapeSize hT
        refine ex_gf oq_X12_feed_83 hT (k := 111) (d := 12) rfl rfl ax172 ?_
        have rx172 := (rx172.symm.trans hc : x172.toInt = (c : Int))
        refine ex_ilw oq_X12_feed_86 gL171_6 ?_
        refine ex_add oq_X12_feed_88 (by omega) (fun x173 hx173 => ?_)
        refine ex_ilw oq_X12_feed_89 gL171_7 ?_
        refine ex_bi oq_X12_feed_91 (m := 24) (by decide) (fun x174 hx174 => ?_)
        refine ex_bi oq_X12_feed_93 (m := 8) (by decide) (fun x175 hx175 => ?_)
        refine ex_ilw oq_X12_feed_95 gL171_6 ?_
        refine ex_ic oq_X12_feed_97 (m := 4) (by decide) (fun x176 hx176 => ?_)
        refine ex_rem oq_X12_feed_98 (by omega) (fun x177 hx177 => ?_)
        have rm : x177.toInt = ((k % 4 : Nat) : Int) := by rw [hx177]; exact rem4 hkk (by omega) hx176
        refine ex_mul oq_X12_feed_99 (m := 8 * x177.toInt) (by rw [hx175]) (by omega) (fun x178 hx178 => ?_)
        refine ex_sub oq_X12_feed_100 (by omega) (fun x179 hx179 => ?_)
        refine ex_shrE oq_X12_feed_101 (fun x180 hx180 => ?_)
        refine ex_si oq_X12_feed_102 (m := 255) (by decide) (fun x181 hx181 => ?_)
        refine ex_andE oq_X12_feed_105 (fun x182 hx182 => ?_)
        refine ex_iw1 oq_X12_feed_106 hT (k := 112) (d := 51) (j := c + k) rfl rfl (by omega) (by omega) ⟨(cw_i32 _).1, (cw_i32 _).2⟩ (fun h183 Th183 wh183 => ?_)
        have Fh183 : cw_Fr cw_Ds cw_sh kk_X12_feed.2.2.2.2.2.1 h0 h183 := cw_Fr_tr Fh (cw_Fr_wrr wh183 (k := 112) (d := 51) rfl rfl (by decide +kernel))
        have eh183_111_1 : ri_at h183 111 1 = (c : Int) := (ri_ne wh183 (.inl (by decide))).trans hc
        refine ex_incA oq_X12_feed_107 (v := kk) (m := 1) gL171_6 (by decide) (by omega) (fun L185 x184 hx184 gL185_6 kL185 => ?_)
        have gL185_7 : cv_get L185 7 = some (cv_i a1) := kL185 7 _ (by decide) (fun q => absurd q (by decide)) gL171_7
        have gL185_0 : cv_get L185 0 = some (cv_r 111) := kL185 0 _ (by decide) (fun q => absurd q (by decide)) gL171_0
        have gL185_1 : cv_get L185 1 = some (cv_i a1) := kL185 1 _ (by decide) (fun q => absurd q (by decide)) gL171_1
        have gL185_2 : cv_get L185 2 = some (cv_i a2) := kL185 2 _ (by decide) (fun q => absurd q (by decide)) gL171_2
        have gL185_3 : cv_get L185 3 = some (cv_i a3) := kL185 3 _ (by decide) (fun q => absurd q (by decide)) gL171_3
        have gL185_4 : cv_get L185 4 = some (cv_i a4) := kL185 4 _ (by decide) (fun q => absurd q (by decide)) gL171_4
        have gL185_5 : cv_get L185 5 = some (cv_i a5) := kL185 5 _ (by decide) (fun _ => rfl) gL171_5
        refine ex_go oq_X12_feed_110 (t := 23) rfl rfl ?_
        exact ih (k + 1) L185 x184 h183 (by omega) Th183 Fh183 (by omega) eh183_111_1 (zTP_wr hp wh183 (by show x182.toInt = _; rw [hx182, lo8_and hx181, hx180, zbt_s (j := k % 4) (by omega), show zfd [a1, a2, a3, a4, a5] k = zbt a1 (k % 4) from by unfold zfd; rw [show k / 4 = 0 from by omega]; rfl])) gL185_0 gL185_1 gL185_2 gL185_3 gL185_4 gL185_5 gL185_6
theorem rt_feed {h0 : cv_H} (hT : cw_T G h0) (a1 a2 a3 a4 a5 : Int32) {c : Nat} (hc : ri_at h0 111 1 = c) (hQ : ∀ (x : Int32) h', cw_T G h' → cw_Fr cw_Ds cw_sh kk_X12_feed.2.2.2.2.2.1 h0 h' → (880 < c ∧ x.toInt = -1 ∧ ri_at h' 111 1 = c ∧ (∀ i, ri_at h' 112 i = ri_at h0 112 i) ∨ c ≤ 880 ∧ x.toInt = c + 20 ∧ ri_at h' 111 1 = c + 20 ∧ zTP id 112 h0 h' c 20 (zfd [a1, a2, a3, a4, a5])) → Q (some (cv_i x), h')) : cw_X X 155 Q 0 (cv_ent 0 [cv_r 111, cv_i a1, cv_i a2, cv_i a3, cv_i a4, cv_i a5]) [] h0 := by
  have Fh0 : cw_Fr cw_Ds cw_sh kk_X12_feed.2.2.2.2.2.1 h0 h0 := cw_Fr_refl
  refine ex_al oq_X12_feed_0 rfl ?_
  refine ex_ic oq_X12_feed_1 (m := 0) (by decide) (fun x2001 hx2001 => ?_)
  refine ex_pfi oq_X12_feed_2 hT (k := 111) (d := 12) rfl rfl rfl (cw_i32 _).1 (cw_i32 _).2 (fun h2002 Th2002 wh2002 => ?_)
  have Fh2002 : cw_Fr cw_Ds cw_sh kk_X12_feed.2.2.2.2.2.1 h0 h2002 := cw_Fr_tr Fh0 (cw_Fr_wrf wh2002 (k := 111) (d := 12) rfl rfl (by decide +kernel))
  have eh2002_111_1 : ri_at h2002 111 1 = (c : Int) := (ri_ne wh2002 (.inr (by decide))).trans hc
  refine ex_al oq_X12_feed_5 rfl ?_
  obtain ⟨x2003, ax2003, rx2003, lx2003, ux2003⟩ := fi_tapeSize Th2002
  refine ex_gf oq_X12_feed_6 Th2002 (k := 111) (d := 12) rfl rfl ax2003 ?_
  have rx2003 := (rx2003.symm.trans eh2002_111_1 : x2003.toInt = (c : Int))
  refine ex_bi oq_X12_feed_9 (m := 20) (by decide) (fun x2004 hx2004 => ?_)
  refine ex_add oq_X12_feed_11 (by omega) (fun x2005 hx2005 => ?_)
  refine ex_si oq_X12_feed_12 (m := 900) (by decide) (fun x2006 hx2006 => ?_)
  refine ex_if oq_X12_feed_15 (t := 20) rfl rfl (fun (c2007 : x2005.toInt ≤ x2006.toInt) => ?_) (fun (c2007 : ¬ (x2005.toInt ≤ x2006.toInt)) => ?_)
  · refine ex_ic oq_X12_feed_20 (m := 0) (by decide) (fun x2008 hx2008 => ?_)
    refine ex_iswA oq_X12_feed_21 (fun L2009 gL2009_6 kL2009 => ?_)
    have gL2009_0 : cv_get L2009 0 = some (cv_r 111) := kL2009 0 _ (by decide) (fun q => absurd q (by decide)) rfl
    have gL2009_1 : cv_get L2009 1 = some (cv_i a1) := kL2009 1 _ (by decide) (fun q => absurd q (by decide)) rfl
    have gL2009_2 : cv_get L2009 2 = some (cv_i a2) := kL2009 2 _ (by decide) (fun q => absurd q (by decide)) rfl
    have gL2009_3 : cv_get L2009 3 = some (cv_i a3) := kL2009 3 _ (by decide) (fun q => absurd q (by decide)) rfl
    have gL2009_4 : cv_get L2009 4 = some (cv_i a4) := kL2009 4 _ (by decide) (fun q => absurd q (by decide)) rfl
    have gL2009_5 : cv_get L2009 5 = some (cv_i a5) := kL2009 5 _ (by decide) (fun _ => rfl) rfl
    have hc8 : c ≤ 880 := by omega
    exact fd_lp (c := c) hc8 a1 a2 a3 a4 a5 hQ 20 0 L2009 x2008 h2002 (by omega) Th2002 Fh2002 (by omega) eh2002_111_1 (zTP_eq zTP_0 (fun i => (ri_ne wh2002 (.inl (by decide))))) gL2009_0 gL2009_1 gL2009_2 gL2009_3 gL2009_4 gL2009_5 gL2009_6
  · refine ex_ic oq_X12_feed_18 (m := (-1)) (by decide) (fun x2010 hx2010 => ?_)
    exact ex_reti oq_X12_feed_19 rfl (hQ x2010 h2002 Th2002 Fh2002 (.inl ⟨by omega, by omega, by omega, fun i => (ri_ne wh2002 (.inl (by decide)))⟩))
end TZ
