/-! ===== knots of a formula: what each joins ===== -/
def zka (c : Int) : Nat := if c < 20000 then 0 else if c = 20002 then 1 else 2
def zri (c : Int) : Int := if c = 20000 then 4 else if c = 20001 then 3 else if c = 20002 then 2 else c - 19998
def zq1 (c : Int) : Int := if c < 10000 then 0 else if c < 20000 then 1 else zri c
def zq2 (S : List Int) (c : Int) : Int := if c < 10000 then c else if c < 20000 then c - 10000 else if c = 20002 then S.getD 0 0 else S.getD 1 0
def zq3 (S : List Int) (c : Int) : Int := if c < 20000 then 0 else if c = 20002 then -1 else S.getD 0 0
/-- the knots that still wait for a sign -/
def zkS : Nat → List Int → List Int → List Int
  | _, S, [] => S
  | i, S, c :: cs => zkS (i + 1) ((i : Int) :: S.drop (zka c)) cs
/-- the reference's rows hold a formula's knots -/
def zKN (h : cv_H) (o : Nat) : Nat → List Int → List Int → Prop
  | _, _, [] => True
  | i, S, c :: cs => ((ri_at h 125 (o + i) = zq1 c ∧ ri_at h 126 (o + i) = zq2 S c ∧ ri_at h 127 (o + i) = zq3 S c) ∧ zka c ≤ S.length) ∧ zKN h o (i + 1) ((i : Int) :: S.drop (zka c)) cs
theorem zkS_app : ∀ (cs : List Int) (i : Nat) (S : List Int) (c : Int), zkS i S (cs ++ [c]) = ((i + cs.length : Nat) : Int) :: (zkS i S cs).drop (zka c)
  | [], i, S, c => rfl
  | a :: cs, i, S, c => by
    show zkS (i + 1) _ (cs ++ [c]) = _
    rw [zkS_app cs, List.length_cons, show i + 1 + cs.length = i + (cs.length + 1) from by omega]
    rfl
theorem zKN_app {h : cv_H} {o : Nat} : ∀ {cs : List Int} {i : Nat} {S : List Int} {c : Int}, zKN h o i S cs → (ri_at h 125 (o + (i + cs.length)) = zq1 c ∧ ri_at h 126 (o + (i + cs.length)) = zq2 (zkS i S cs) c ∧ ri_at h 127 (o + (i + cs.length)) = zq3 (zkS i S cs) c) → zka c ≤ (zkS i S cs).length → zKN h o i S (cs ++ [c])
  | [], i, S, c, _, a, a2 => ⟨⟨a, a2⟩, trivial⟩
  | b :: cs, i, S, c, q, a, a2 => by
    refine ⟨q.1, zKN_app (cs := cs) q.2 ?_ a2⟩
    rw [show i + 1 + cs.length = i + (b :: cs).length from by rw [List.length_cons]; omega]
    exact a
theorem zKN_eq {h h' : cv_H} {o : Nat} : ∀ {cs : List Int} {i : Nat} {S : List Int}, zKN h o i S cs → (∀ j, j < cs.length → ri_at h' 125 (o + (i + j)) = ri_at h 125 (o + (i + j)) ∧ ri_at h' 126 (o + (i + j)) = ri_at h 126 (o + (i + j)) ∧ ri_at h' 127 (o + (i + j)) = ri_at h 127 (o + (i + j))) → zKN h' o i S cs
  | [], _, _, _, _ => trivial
  | b :: cs, i, S, q, e => by
    have e0 := e 0 (by simp)
    refine ⟨⟨⟨e0.1.trans q.1.1.1, e0.2.1.trans q.1.1.2.1, e0.2.2.trans q.1.1.2.2⟩, q.1.2⟩, zKN_eq q.2 (fun j hj => ?_)⟩
    have e1 := e (j + 1) (by rw [List.length_cons]; omega)
    rw [show i + (j + 1) = i + 1 + j from by omega] at e1
    exact e1
theorem zls1 {l : List Int} (h : 1 ≤ l.length) : ∃ a s, l = a :: s := by
  cases l with
  | nil => simp at h
  | cons a s => exact ⟨a, s, rfl⟩
theorem zls2 {l : List Int} (h : 2 ≤ l.length) : ∃ a b s, l = a :: b :: s := by
  cases l with
  | nil => simp at h
  | cons a s =>
    cases s with
    | nil => simp at h
    | cons b s => exact ⟨a, b, s, rfl⟩
theorem zsi_f {a : Int} (h : 2 ≤ a ∧ a ≤ 14) : 20000 ≤ zsi a ∧ (zsi a = 20002 ↔ a = 2) ∧ zri (zsi a) = a := by
  have P : ∀ i : Fin 15, 2 ≤ i.1 → 20000 ≤ zsi (i.1 : Int) ∧ (zsi (i.1 : Int) = 20002 ↔ (i.1 : Int) = 2) ∧ zri (zsi (i.1 : Int)) = (i.1 : Int) := by decide +kernel
  have e : ((a.toNat : Nat) : Int) = a := by omega
  have q := P ⟨a.toNat, by omega⟩ (by dsimp only; omega)
  dsimp only at q
  rw [e] at q
  exact q
theorem zq_u {S S' : List Int} {a i : Int} (ha : a = 2) (h : S = i :: S') : zq1 (zsi a) = a ∧ zq2 S (zsi a) = i ∧ zq3 S (zsi a) = -1 ∧ S.drop (zka (zsi a)) = S' ∧ zka (zsi a) ≤ S.length := by
  subst ha
  subst h
  exact ⟨rfl, rfl, rfl, rfl, Nat.le_add_left 1 _⟩
theorem zq_b {S S' : List Int} {a i j : Int} (ha : 3 ≤ a ∧ a ≤ 14) (h : S = j :: i :: S') : zq1 (zsi a) = a ∧ zq2 S (zsi a) = i ∧ zq3 S (zsi a) = j ∧ S.drop (zka (zsi a)) = S' ∧ zka (zsi a) ≤ S.length := by
  subst h
  obtain ⟨f1, f2, f3⟩ := zsi_f (a := a) (by omega)
  have f4 : ¬ zsi a = 20002 := fun q => by have := f2.mp q; omega
  unfold zq1 zq2 zq3 zka
  rw [if_neg (by omega), if_neg (by omega), if_neg (by omega), if_neg (by omega), if_neg f4, if_neg (by omega), if_neg f4, if_neg (by omega), if_neg f4]
  exact ⟨f3, rfl, rfl, rfl, Nat.le_add_left 2 _⟩
theorem zq_l {S : List Int} {c : Int} (h : 0 ≤ c ∧ c < 20000) : zq1 c = (if c < 10000 then 0 else 1) ∧ zq2 S c = (if c < 10000 then c else c - 10000) ∧ zq3 S c = 0 ∧ S.drop (zka c) = S ∧ zka c ≤ S.length := by
  unfold zq1 zq2 zq3 zka
  rw [if_pos h.2, if_pos h.2, if_pos h.2, if_pos h.2]
  exact ⟨rfl, rfl, rfl, rfl, Nat.zero_le _⟩
def zKV (h : cv_H) (V : Nat → Int × Int × Int) (f : Nat) (cs : List Int) : Prop := zKN h 64 f [] cs ∧ ∀ i, i < f → ri_at h 125 (64 + i) = (V i).1 ∧ ri_at h 126 (64 + i) = (V i).2.1 ∧ ri_at h 127 (64 + i) = (V i).2.2
theorem zKV_eq {h h' : cv_H} {V : Nat → Int × Int × Int} {f : Nat} {cs : List Int} (d : zKV h V f cs) (e : ∀ j, j < f + cs.length → ri_at h' 125 (64 + j) = ri_at h 125 (64 + j) ∧ ri_at h' 126 (64 + j) = ri_at h 126 (64 + j) ∧ ri_at h' 127 (64 + j) = ri_at h 127 (64 + j)) : zKV h' V f cs :=
  ⟨zKN_eq d.1 (fun j hj => e (f + j) (by omega)), fun i hi => by
    have a := e i (by omega)
    have b := d.2 i hi
    exact ⟨a.1.trans b.1, a.2.1.trans b.2.1, a.2.2.trans b.2.2⟩⟩
theorem zKV_app {h : cv_H} {V : Nat → Int × Int × Int} {f : Nat} {cs : List Int} {c : Int} (d : zKV h V f cs) (a : ri_at h 125 (64 + (f + cs.length)) = zq1 c ∧ ri_at h 126 (64 + (f + cs.length)) = zq2 (zkS f [] cs) c ∧ ri_at h 127 (64 + (f + cs.length)) = zq3 (zkS f [] cs) c) (a2 : zka c ≤ (zkS f [] cs).length) : zKV h V f (cs ++ [c]) := ⟨zKN_app d.1 a a2, d.2⟩
/-- a formula's knots as far as they are laid -/
def zFd (h : cv_H) (V : Nat → Int × Int × Int) (f : Nat) (cs : List Int) : Prop := zKV h V f cs ∧ zrow h 129 (zkS f [] cs) ∧ ((zkS f [] cs).length : Int) = ri_at h 111 38 ∧ (f : Int) + cs.length = ri_at h 111 19
theorem zFd_eq {h h' : cv_H} {V : Nat → Int × Int × Int} {f : Nat} {cs : List Int} (d : zFd h V f cs) (a : ∀ i, ri_at h' 125 i = ri_at h 125 i) (b : ∀ i, ri_at h' 126 i = ri_at h 126 i) (c : ∀ i, ri_at h' 127 i = ri_at h 127 i) (e : ∀ i, ri_at h' 129 i = ri_at h 129 i) (e1 : ri_at h' 111 38 = ri_at h 111 38) (e2 : ri_at h' 111 19 = ri_at h 111 19) : zFd h' V f cs :=
  ⟨zKV_eq d.1 (fun j _ => ⟨a _, b _, c _⟩), zrow_eq d.2.1 e, d.2.2.1.trans e1.symm, d.2.2.2.trans e2.symm⟩
section TZ
variable {G : Int} {X : cv_X} {Q : cv_O → Prop} {t : Nat → Int}
theorem rt_dropHeldD {h0 : cv_H} (hT : cw_T G h0) {e a : Int} {S : List Int} (he : ri_at h0 111 38 = e) (hS : (S.length : Int) = e - 1) (hR : zrow h0 129 (a :: S)) (hQ : ∀ (x : Int32) h', cw_T G h' → cw_Fr cw_Ds cw_sh mk_dr h0 h' → ri_at h' 111 38 = e - 1 → x.toInt = a → Q (some (cv_i x), h')) : cw_X X 193 Q 0 (cv_ent 0 [cv_r 111]) [] h0 := by
  have Fh0 : cw_Fr cw_Ds cw_sh mk_dr h0 h0 := cw_Fr_refl
  refine ex_al oq_X12_dropHeld_0 rfl ?_
  refine ex_dup oq_X12_dropHeld_1 rfl ?_
  obtain ⟨x11, ax11, rx11, lx11, ux11⟩ := fi_helds hT
  refine ex_gf oq_X12_dropHeld_2 hT (k := 111) (d := 12) rfl rfl ax11 ?_
  have rx11 := (rx11.symm.trans he : x11.toInt = e)
  refine ex_ic oq_X12_dropHeld_5 (m := 1) (by decide) (fun x12 hx12 => ?_)
  refine ex_sub oq_X12_dropHeld_6 (by omega) (fun x13 hx13 => ?_)
  refine ex_pfi oq_X12_dropHeld_7 hT (k := 111) (d := 12) rfl rfl rfl (by omega) (by omega) (fun h14 Th14 wh14 => ?_)
  have Fh14 : cw_Fr cw_Ds cw_sh mk_dr h0 h14 := cw_Fr_tr Fh0 (cw_Fr_wrf wh14 (k := 111) (d := 12) rfl rfl (by decide +kernel))
  have eh14_111_38 : ri_at h14 111 38 = x13.toInt := ri_self wh14
  refine ex_al oq_X12_dropHeld_10 rfl ?_
  refine ex_gf oq_X12_dropHeld_11 Th14 (k := 111) (d := 12) rfl rfl (fr_held Th14) ?_
  refine ex_al oq_X12_dropHeld_14 rfl ?_
  obtain ⟨x15, ax15, rx15, lx15, ux15⟩ := fi_helds Th14
  refine ex_gf oq_X12_dropHeld_15 Th14 (k := 111) (d := 12) rfl rfl ax15 ?_
  have rx15 := (rx15.symm.trans eh14_111_38 : x15.toInt = x13.toInt)
  refine ex_ia1 oq_X12_dropHeld_18 Th14 (k := 129) (d := 68) (j := S.length) rfl rfl (by omega) (by omega) (fun x16 hx16 lx16 ux16 => ?_)
  exact ex_reti oq_X12_dropHeld_19 rfl (hQ x16 h14 Th14 Fh14 (by omega) (hx16.symm.trans (((ri_ne wh14 (.inl (by decide)))).trans (zrow_top hR))))
theorem rt_grownK {h0 : cv_H} (hT : cw_T G h0) {a b c : Int32} {e k : Int} (he : ri_at h0 111 38 = e) (hk : ri_at h0 111 19 = k) (e0 : 0 ≤ e) (e1 : e ≤ 95) (k0 : 0 ≤ k) (k1 : k ≤ 63) {V : Nat → Int × Int × Int} {f : Nat} {cs S : List Int} {c' : Int} (hN : zKV h0 V f cs) (hR : zrow h0 129 S) (hSe : (S.length : Int) = e) (hke : (f : Int) + cs.length = k) (q1 : a.toInt = zq1 c') (q2 : b.toInt = zq2 (zkS f [] cs) c') (q3 : c.toInt = zq3 (zkS f [] cs) c') (q4 : zka c' ≤ (zkS f [] cs).length) (hQ : ∀ h', cw_T G h' → cw_Fr cw_Ds cw_sh mk_gw h0 h' → zFK h0 h' → ri_at h' 111 38 = e + 1 → ri_at h' 111 19 = k + 1 → zKV h' V f (cs ++ [c']) → zrow h' 129 (k :: S) → Q (none, h')) : cw_X X 192 Q 0 (cv_ent 0 [cv_r 111, cv_i a, cv_i b, cv_i c]) [] h0 := by
  have Fh0 : cw_Fr cw_Ds cw_sh mk_gw h0 h0 := cw_Fr_refl
  have Kh0 : zFK h0 h0 := zFK_0
  refine ex_al oq_X12_grown_0 rfl ?_
  refine ex_gf oq_X12_grown_1 hT (k := 111) (d := 12) rfl rfl (fr_knot hT) ?_
  refine ex_bi oq_X12_grown_4 (m := 64) (by decide) (fun x11 hx11 => ?_)
  refine ex_al oq_X12_grown_6 rfl ?_
  obtain ⟨x12, ax12, rx12, lx12, ux12⟩ := fi_knotsRead hT
  refine ex_gf oq_X12_grown_7 hT (k := 111) (d := 12) rfl rfl ax12 ?_
  have rx12 := (rx12.symm.trans hk : x12.toInt = k)
  refine ex_add oq_X12_grown_10 (by omega) (fun x13 hx13 => ?_)
  refine ex_il oq_X12_grown_11 rfl ?_
  refine ex_iw1 oq_X12_grown_12 hT (k := 125) (d := 64) (j := 64 + k.toNat) rfl rfl (by omega) (by omega) ⟨(cw_i32 _).1, (cw_i32 _).2⟩ (fun h14 Th14 wh14 => ?_)
  have Fh14 : cw_Fr cw_Ds cw_sh mk_gw h0 h14 := cw_Fr_tr Fh0 (cw_Fr_wrr wh14 (k := 125) (d := 64) rfl rfl (by decide +kernel))
  have Kh14 := zFK_wr (k := 125) wh14 ((by show 64 ≤ _; omega)) Kh0
  have eh14_111_38 : ri_at h14 111 38 = e := (ri_ne wh14 (.inl (by decide))).trans he
  have eh14_111_19 : ri_at h14 111 19 = k := (ri_ne wh14 (.inl (by decide))).trans hk
  refine ex_al oq_X12_grown_13 rfl ?_
  refine ex_gf oq_X12_grown_14 Th14 (k := 111) (d := 12) rfl rfl (fr_part Th14) ?_
  refine ex_bi oq_X12_grown_17 (m := 64) (by decide) (fun x15 hx15 => ?_)
  refine ex_al oq_X12_grown_19 rfl ?_
  obtain ⟨x16, ax16, rx16, lx16, ux16⟩ := fi_knotsRead Th14
  refine ex_gf oq_X12_grown_20 Th14 (k := 111) (d := 12) rfl rfl ax16 ?_
  have rx16 := (rx16.symm.trans eh14_111_19 : x16.toInt = k)
  refine ex_add oq_X12_grown_23 (by omega) (fun x17 hx17 => ?_)
  refine ex_il oq_X12_grown_24 rfl ?_
  refine ex_iw1 oq_X12_grown_25 Th14 (k := 126) (d := 65) (j := 64 + k.toNat) rfl rfl (by omega) (by omega) ⟨(cw_i32 _).1, (cw_i32 _).2⟩ (fun h18 Th18 wh18 => ?_)
  have Fh18 : cw_Fr cw_Ds cw_sh mk_gw h0 h18 := cw_Fr_tr Fh14 (cw_Fr_wrr wh18 (k := 126) (d := 65) rfl rfl (by decide +kernel))
  have Kh18 := zFK_wr (k := 126) wh18 ((by show 64 ≤ _; omega)) Kh14
  have eh18_111_38 : ri_at h18 111 38 = e := (ri_ne wh18 (.inl (by decide))).trans eh14_111_38
  clear eh14_111_38
  have eh18_111_19 : ri_at h18 111 19 = k := (ri_ne wh18 (.inl (by decide))).trans eh14_111_19
  clear eh14_111_19
  refine ex_al oq_X12_grown_26 rfl ?_
  refine ex_gf oq_X12_grown_27 Th18 (k := 111) (d := 12) rfl rfl (fr_other Th18) ?_
  refine ex_bi oq_X12_grown_30 (m := 64) (by decide) (fun x19 hx19 => ?_)
  refine ex_al oq_X12_grown_32 rfl ?_
  obtain ⟨x20, ax20, rx20, lx20, ux20⟩ := fi_knotsRead Th18
  refine ex_gf oq_X12_grown_33 Th18 (k := 111) (d := 12) rfl rfl ax20 ?_
  have rx20 := (rx20.symm.trans eh18_111_19 : x20.toInt = k)
  refine ex_add oq_X12_grown_36 (by omega) (fun x21 hx21 => ?_)
  refine ex_il oq_X12_grown_37 rfl ?_
  refine ex_iw1 oq_X12_grown_38 Th18 (k := 127) (d := 66) (j := 64 + k.toNat) rfl rfl (by omega) (by omega) ⟨(cw_i32 _).1, (cw_i32 _).2⟩ (fun h22 Th22 wh22 => ?_)
  have Fh22 : cw_Fr cw_Ds cw_sh mk_gw h0 h22 := cw_Fr_tr Fh18 (cw_Fr_wrr wh22 (k := 127) (d := 66) rfl rfl (by decide +kernel))
  have Kh22 := zFK_wr (k := 127) wh22 ((by show 64 ≤ _; omega)) Kh18
  have eh22_111_38 : ri_at h22 111 38 = e := (ri_ne wh22 (.inl (by decide))).trans eh18_111_38
  clear eh18_111_38
  have eh22_111_19 : ri_at h22 111 19 = k := (ri_ne wh22 (.inl (by decide))).trans eh18_111_19
  clear eh18_111_19
  refine ex_al oq_X12_grown_39 rfl ?_
  refine ex_gf oq_X12_grown_40 Th22 (k := 111) (d := 12) rfl rfl (fr_held Th22) ?_
  refine ex_al oq_X12_grown_43 rfl ?_
  obtain ⟨x23, ax23, rx23, lx23, ux23⟩ := fi_helds Th22
  refine ex_gf oq_X12_grown_44 Th22 (k := 111) (d := 12) rfl rfl ax23 ?_
  have rx23 := (rx23.symm.trans eh22_111_38 : x23.toInt = e)
  refine ex_al oq_X12_grown_47 rfl ?_
  obtain ⟨x24, ax24, rx24, lx24, ux24⟩ := fi_knotsRead Th22
  refine ex_gf oq_X12_grown_48 Th22 (k := 111) (d := 12) rfl rfl ax24 ?_
  have rx24 := (rx24.symm.trans eh22_111_19 : x24.toInt = k)
  refine ex_iw1 oq_X12_grown_51 Th22 (k := 129) (d := 68) (j := e.toNat) rfl rfl (by omega) (by omega) ⟨by omega, by omega⟩ (fun h25 Th25 wh25 => ?_)
  have Fh25 : cw_Fr cw_Ds cw_sh mk_gw h0 h25 := cw_Fr_tr Fh22 (cw_Fr_wrr wh25 (k := 129) (d := 68) rfl rfl (by decide +kernel))
  have Kh25 := zFK_wr (k := 129) wh25 (Nat.zero_le _) Kh22
  have eh25_111_38 : ri_at h25 111 38 = e := (ri_ne wh25 (.inl (by decide))).trans eh22_111_38
  clear eh22_111_38
  have eh25_111_19 : ri_at h25 111 19 = k := (ri_ne wh25 (.inl (by decide))).trans eh22_111_19
  clear eh22_111_19
  refine ex_al oq_X12_grown_52 rfl ?_
  refine ex_dup oq_X12_grown_53 rfl ?_
  obtain ⟨x26, ax26, rx26, lx26, ux26⟩ := fi_helds Th25
  refine ex_gf oq_X12_grown_54 Th25 (k := 111) (d := 12) rfl rfl ax26 ?_
  have rx26 := (rx26.symm.trans eh25_111_38 : x26.toInt = e)
  refine ex_ic oq_X12_grown_57 (m := 1) (by decide) (fun x27 hx27 => ?_)
  refine ex_add oq_X12_grown_58 (by omega) (fun x28 hx28 => ?_)
  refine ex_pfi oq_X12_grown_59 Th25 (k := 111) (d := 12) rfl rfl rfl (by omega) (by omega) (fun h29 Th29 wh29 => ?_)
  have Fh29 : cw_Fr cw_Ds cw_sh mk_gw h0 h29 := cw_Fr_tr Fh25 (cw_Fr_wrf wh29 (k := 111) (d := 12) rfl rfl (by decide +kernel))
  have Kh29 := zFK_wr (k := 111) wh29 (Nat.zero_le _) Kh25
  have eh29_111_38 : ri_at h29 111 38 = x28.toInt := ri_self wh29
  have eh29_111_19 : ri_at h29 111 19 = k := (ri_ne wh29 (by decide)).trans eh25_111_19
  clear eh25_111_19
  refine ex_al oq_X12_grown_62 rfl ?_
  refine ex_dup oq_X12_grown_63 rfl ?_
  obtain ⟨x30, ax30, rx30, lx30, ux30⟩ := fi_knotsRead Th29
  refine ex_gf oq_X12_grown_64 Th29 (k := 111) (d := 12) rfl rfl ax30 ?_
  have rx30 := (rx30.symm.trans eh29_111_19 : x30.toInt = k)
  refine ex_ic oq_X12_grown_67 (m := 1) (by decide) (fun x31 hx31 => ?_)
  refine ex_add oq_X12_grown_68 (by omega) (fun x32 hx32 => ?_)
  refine ex_pfi oq_X12_grown_69 Th29 (k := 111) (d := 12) rfl rfl rfl (by omega) (by omega) (fun h33 Th33 wh33 => ?_)
  have Fh33 : cw_Fr cw_Ds cw_sh mk_gw h0 h33 := cw_Fr_tr Fh29 (cw_Fr_wrf wh33 (k := 111) (d := 12) rfl rfl (by decide +kernel))
  have Kh33 := zFK_wr (k := 111) wh33 (Nat.zero_le _) Kh29
  have eh33_111_38 : ri_at h33 111 38 = x28.toInt := (ri_ne wh33 (by decide)).trans eh29_111_38
  clear eh29_111_38
  have eh33_111_19 : ri_at h33 111 19 = x32.toInt := ri_self wh33
  have ix : 64 + (f + cs.length) = 64 + k.toNat := by omega
  refine ex_retv oq_X12_grown_72 rfl (hQ h33 Th33 Fh33 Kh33 (by omega) (by omega) (zKV_app (zKV_eq hN (fun j hj => ⟨((ri_ne wh33 (.inl (by decide))).trans ((ri_ne wh29 (.inl (by decide))).trans ((ri_ne wh25 (.inl (by decide))).trans ((ri_ne wh22 (.inl (by decide))).trans ((ri_ne wh18 (.inl (by decide))).trans (ri_ne wh14 (.inr (by omega)))))))), ((ri_ne wh33 (.inl (by decide))).trans ((ri_ne wh29 (.inl (by decide))).trans ((ri_ne wh25 (.inl (by decide))).trans ((ri_ne wh22 (.inl (by decide))).trans ((ri_ne wh18 (.inr (by omega))).trans (ri_ne wh14 (.inl (by decide)))))))), ((ri_ne wh33 (.inl (by decide))).trans ((ri_ne wh29 (.inl (by decide))).trans ((ri_ne wh25 (.inl (by decide))).trans ((ri_ne wh22 (.inr (by omega))).trans ((ri_ne wh18 (.inl (by decide))).trans (ri_ne wh14 (.inl (by decide))))))))⟩)) ⟨?_, ?_, ?_⟩ q4) (zrow_push hR ?_ (fun i hi => ((ri_ne wh33 (.inl (by decide))).trans ((ri_ne wh29 (.inl (by decide))).trans ((ri_ne wh25 (.inr (by omega))).trans ((ri_ne wh22 (.inl (by decide))).trans ((ri_ne wh18 (.inl (by decide))).trans (ri_ne wh14 (.inl (by decide)))))))))))
  · rw [ix]; exact (((ri_ne wh33 (.inl (by decide))).trans ((ri_ne wh29 (.inl (by decide))).trans ((ri_ne wh25 (.inl (by decide))).trans ((ri_ne wh22 (.inl (by decide))).trans ((ri_ne wh18 (.inl (by decide))).trans (ri_self wh14))))))).trans q1
  · rw [ix]; exact (((ri_ne wh33 (.inl (by decide))).trans ((ri_ne wh29 (.inl (by decide))).trans ((ri_ne wh25 (.inl (by decide))).trans ((ri_ne wh22 (.inl (by decide))).trans (ri_self wh18)))))).trans q2
  · rw [ix]; exact (((ri_ne wh33 (.inl (by decide))).trans ((ri_ne wh29 (.inl (by decide))).trans ((ri_ne wh25 (.inl (by decide))).trans (ri_self wh22))))).trans q3
  · rw [show S.length = e.toNat from by omega]; exact (((ri_ne wh33 (.inl (by decide))).trans ((ri_ne wh29 (.inl (by decide))).trans (ri_self wh25)))).trans (by omega)
theorem zFd_grown {h : cv_H} {V : Nat → Int × Int × Int} {f : Nat} {cs S : List Int} {c e k : Int} (hd : (zkS f [] cs).drop (zka c) = S) (hn : zKV h V f (cs ++ [c])) (hr : zrow h 129 (k :: S)) (h1 : ri_at h 111 38 = e + 1) (h2 : ri_at h 111 19 = k + 1) (hk : (f : Int) + cs.length = k) (hS : (S.length : Int) = e) : zFd h V f (cs ++ [c]) := by
  have e1 : zkS f [] (cs ++ [c]) = k :: S := by rw [zkS_app, hd, show ((f + cs.length : Nat) : Int) = k from by omega]
  refine ⟨hn, by rw [e1]; exact hr, ?_, ?_⟩
  · rw [e1, List.length_cons, h1]; omega
  · rw [List.length_append, List.length_singleton, h2]; omega
set_option maxHeartbeats 8000000 in
theorem bd_lpK {h0 : cv_H} {le : Int32} (hle : 1 ≤ le.toInt) {S : List Int} {kn : Int} (hk64 : kn ≤ 64) {V : Nat → Int × Int × Int} {f : Nat} {C : List Int} (hQ : ∀ h', cw_T G h' → cw_Fr cw_Ds cw_sh mk_bz h0 h' → zFK h0 h' → ri_at h' 111 37 = S.length → ri_at h' 111 38 = zcb S + 1 → ri_at h' 111 19 + zcb S + zcu S = kn → zFd h' V f C → Q (none, h')) :
    ∀ (st : List Int) (h : cv_H) (L : cv_L) (cs : List Int), zbi le.toInt st = S → cs ++ (zbp le.toInt st).map zsi = C → cw_T G h → cw_Fr cw_Ds cw_sh mk_bz h0 h → zFK h0 h → zok st → zrow h 128 st → ri_at h 111 37 = st.length → ri_at h 111 38 = zcb st + 1 → ri_at h 111 19 + zcb st + zcu st = kn → zFd h V f cs → cv_get L 0 = some (cv_r 111) → cv_get L 1 = some (cv_i le) → cw_X X 194 Q 0 L [] h := by
  intro st
  induction st with
  | nil =>
    intro h L cs hst hcs hT Fh Kh ho hrw hwa hhe hkn hd g0 g1
    simp only [zbi] at hst
    rw [List.length_nil] at hwa
    refine ex_al oq_X12_bind_0 g0 ?_
    obtain ⟨x101, ax101, rx101, lx101, ux101⟩ := fi_waits hT
    refine ex_gf oq_X12_bind_1 hT (k := 111) (d := 12) rfl rfl ax101 ?_
    have rx101 := (rx101.symm.trans hwa : x101.toInt = ((0 : Nat) : Int))
    refine ex_if0 oq_X12_bind_4 (t := 76) rfl rfl (fun (c102 : x101.toInt ≤ 0) => ?_) (fun (c102 : ¬ (x101.toInt ≤ 0)) => ?_)
    · exact ex_retv oq_X12_bind_76 rfl (hQ h hT Fh Kh (by rw [← hst]; exact hwa) (by rw [← hst]; exact hhe) (by rw [← hst]; exact hkn) (by rw [← hcs]; show zFd h V f (cs ++ []); rw [List.append_nil]; exact hd))
    · exfalso; omega
  | cons a st ih =>
    intro h L cs hst hcs hT Fh Kh ho hrw hwa hhe hkn hd g0 g1
    have htop := zrow_top hrw
    have hlen := zc_len ho.2
    have hlen1 := zc_len ho
    have ho1 := ho.1
    have hcb : (3 ≤ a → zcb (a :: st) = 1 + zcb st) ∧ (a < 3 → zcb (a :: st) = zcb st) := by simp only [zcb]; constructor <;> intro q <;> split <;> omega
    have hcu : (a = 2 → zcu (a :: st) = 1 + zcu st) ∧ (¬ a = 2 → zcu (a :: st) = zcu st) := by simp only [zcu]; constructor <;> intro q <;> split <;> omega
    have hlc : (a :: st).length = st.length + 1 := rfl
    have hdl := hd.2.2.1
    have hdk := hd.2.2.2
    obtain ⟨K, hK⟩ : ∃ K, ri_at h 111 19 = K := ⟨_, rfl⟩
    have hK0 : 0 ≤ K := by obtain ⟨y, _, y1, y2, y3⟩ := fi_knotsRead hT; omega
    refine ex_al oq_X12_bind_0 g0 ?_
    obtain ⟨x101, ax101, rx101, lx101, ux101⟩ := fi_waits hT
    refine ex_gf oq_X12_bind_1 hT (k := 111) (d := 12) rfl rfl ax101 ?_
    have rx101 := (rx101.symm.trans hwa : x101.toInt = ((a :: st).length : Int))
    refine ex_if0 oq_X12_bind_4 (t := 76) rfl rfl (fun (c102 : x101.toInt ≤ 0) => ?_) (fun (c102 : ¬ (x101.toInt ≤ 0)) => ?_)
    · exfalso; omega
    · refine ex_al oq_X12_bind_7 g0 ?_
      refine ex_gf oq_X12_bind_8 hT (k := 111) (d := 12) rfl rfl (fr_wait hT) ?_
      refine ex_al oq_X12_bind_11 g0 ?_
      obtain ⟨x103, ax103, rx103, lx103, ux103⟩ := fi_waits hT
      refine ex_gf oq_X12_bind_12 hT (k := 111) (d := 12) rfl rfl ax103 ?_
      have rx103 := (rx103.symm.trans hwa : x103.toInt = ((a :: st).length : Int))
      refine ex_ic oq_X12_bind_15 (m := 1) (by decide) (fun x104 hx104 => ?_)
      refine ex_sub oq_X12_bind_16 (by omega) (fun x105 hx105 => ?_)
      refine ex_ia1 oq_X12_bind_17 hT (k := 128) (d := 67) (j := st.length) rfl rfl (by simp only [List.length_cons] at hwa; omega) (by omega) (fun x106 hx106 lx106 ux106 => ?_)
      have ax106 : x106.toInt = a := hx106.symm.trans (htop)
      have rb := zrk_b (k := a)
      refine ex_cs oq_X12_bind_18 (by decide) (as := [cv_i x106]) (stk := []) rfl rfl rfl ⟨rfl, rfl⟩ (R := fun o => ∃ x : Int32, o = (some (cv_i x), h) ∧ x.toInt = zrk x106.toInt) (rt_rank x106 (fun x q => ⟨x, rfl, q⟩)) (fun o ho => ?_)
      obtain ⟨x107, rfl, mx107⟩ := ho
      rw [ax106] at mx107
      show cw_X _ _ _ _ _ [cv_i x107] h
      refine ex_il oq_X12_bind_21 g1 ?_
      refine ex_if oq_X12_bind_22 (t := 76) rfl rfl (fun (c108 : x107.toInt < le.toInt) => ?_) (fun (c108 : ¬ (x107.toInt < le.toInt)) => ?_)
      · exact ex_retv oq_X12_bind_76 rfl (hQ h hT Fh Kh (by rw [← hst, zbi, if_neg (by omega)]; exact hwa) (by rw [← hst, zbi, if_neg (by omega)]; exact hhe) (by rw [← hst, zbi, if_neg (by omega)]; exact hkn) (by rw [← hcs, zbp_n (by omega), List.map_nil, List.append_nil]; exact hd))
      · refine ex_al oq_X12_bind_25 g0 ?_
        refine ex_dup oq_X12_bind_26 rfl ?_
        obtain ⟨x109, ax109, rx109, lx109, ux109⟩ := fi_waits hT
        refine ex_gf oq_X12_bind_27 hT (k := 111) (d := 12) rfl rfl ax109 ?_
        have rx109 := (rx109.symm.trans hwa : x109.toInt = ((a :: st).length : Int))
        refine ex_ic oq_X12_bind_30 (m := 1) (by decide) (fun x110 hx110 => ?_)
        refine ex_sub oq_X12_bind_31 (by omega) (fun x111 hx111 => ?_)
        refine ex_pfi oq_X12_bind_32 hT (k := 111) (d := 12) rfl rfl rfl (by omega) (by omega) (fun h112 Th112 wh112 => ?_)
        have Fh112 : cw_Fr cw_Ds cw_sh mk_bz h0 h112 := cw_Fr_tr Fh (cw_Fr_wrf wh112 (k := 111) (d := 12) rfl rfl (by decide +kernel))
        have Kh112 := zFK_wr (k := 111) wh112 (Nat.zero_le _) Kh
        have eh112_111_37 : ri_at h112 111 37 = x111.toInt := ri_self wh112
        have eh112_111_38 : ri_at h112 111 38 = zcb (a :: st) + 1 := (ri_ne wh112 (by decide)).trans hhe
        have eh112_111_19 : ri_at h112 111 19 = K := (ri_ne wh112 (by decide)).trans hK
        refine ex_al oq_X12_bind_35 g0 ?_
        refine ex_gf oq_X12_bind_36 Th112 (k := 111) (d := 12) rfl rfl (fr_wait Th112) ?_
        refine ex_al oq_X12_bind_39 g0 ?_
        obtain ⟨x113, ax113, rx113, lx113, ux113⟩ := fi_waits Th112
        refine ex_gf oq_X12_bind_40 Th112 (k := 111) (d := 12) rfl rfl ax113 ?_
        have rx113 := (rx113.symm.trans eh112_111_37 : x113.toInt = x111.toInt)
        refine ex_ia1 oq_X12_bind_43 Th112 (k := 128) (d := 67) (j := st.length) rfl rfl (by simp only [List.length_cons] at hwa; omega) (by omega) (fun x114 hx114 lx114 ux114 => ?_)
        have ax114 : x114.toInt = a := hx114.symm.trans ((ri_ne wh112 (.inl (by decide))).trans htop)
        refine ex_isA oq_X12_bind_44 (fun L115 gL115_2 kL115 => ?_)
        have gL115_0 : cv_get L115 0 = some (cv_r 111) := kL115 0 _ (by decide) (fun q => absurd q (by decide)) g0
        have gL115_1 : cv_get L115 1 = some (cv_i le) := kL115 1 _ (by decide) (fun _ => rfl) g1
        refine ex_il oq_X12_bind_45 gL115_2 ?_
        refine ex_ic oq_X12_bind_46 (m := 2) (by decide) (fun x116 hx116 => ?_)
        refine ex_if oq_X12_bind_47 (t := 54) rfl rfl (fun (c117 : ¬ x114.toInt = x116.toInt) => ?_) (fun (c117 : ¬ (¬ x114.toInt = x116.toInt)) => ?_)
        · have ha3 : 3 ≤ a ∧ a ≤ 14 := by omega
          obtain ⟨j1, i1, S1, hS1⟩ := zls2 (l := zkS f [] cs) (by omega)
          have qf := zq_b ha3 hS1
          have kr0 : zrow h 129 (j1 :: i1 :: S1) := hS1 ▸ hd.2.1
          have sl0 : ((j1 :: i1 :: S1).length : Int) = zcb (a :: st) + 1 := by rw [← hS1]; omega
          refine ex_al oq_X12_bind_54 gL115_0 ?_
          refine ex_cv oq_X12_bind_55 (by decide) Th112 (k := 111) (d := 12) (as := []) (stk := []) rfl rfl rfl rfl rfl rfl ⟨rfl, rfl⟩ (R := fun o => ∃ (x : Int32) (hb : cv_H), o = (some (cv_i x), hb) ∧ cw_T G hb ∧ cw_Fr cw_Ds cw_sh mk_dr h112 hb ∧ ri_at hb 111 38 = zcb (a :: st) + 1 - 1 ∧ x.toInt = j1) (rt_dropHeldD Th112 eh112_111_38 (S := i1 :: S1) (by (try simp only [List.length_cons] at *); omega) (zrow_eq kr0 (fun i => (ri_ne wh112 (.inl (by decide))))) (fun x hb b1 b2 b3 b4 => ⟨x, hb, rfl, b1, b2, b3, b4⟩)) (fun o ho => ?_)
          obtain ⟨x118, h119, rfl, Th119, Ch119, bh119, yx118⟩ := ho
          show cw_X _ _ _ _ _ [cv_i x118] h119
          have Fh119 : cw_Fr cw_Ds cw_sh mk_bz h0 h119 := cw_Fr_tr Fh112 (cw_Fr_mono (by decide +kernel) Ch119)
          have Kh119 := zFK_fr Ch119 (by decide +kernel) Kh112
          have eh119_111_37 : ri_at h119 111 37 = x111.toInt := (ri_frf Ch119 (d := 12) rfl rfl (by decide +kernel)).trans eh112_111_37
          clear eh112_111_37
          have eh119_111_19 : ri_at h119 111 19 = K := (ri_frf Ch119 (d := 12) rfl rfl (by decide +kernel)).trans eh112_111_19
          clear eh112_111_19
          have knh119 : zKV h119 V f cs := (zKV_eq hd.1 (fun j _ => ⟨((ri_frr Ch119 (k := 125) (d := 64) rfl rfl (by decide +kernel)).trans (ri_ne wh112 (.inl (by decide)))), ((ri_frr Ch119 (k := 126) (d := 65) rfl rfl (by decide +kernel)).trans (ri_ne wh112 (.inl (by decide)))), ((ri_frr Ch119 (k := 127) (d := 66) rfl rfl (by decide +kernel)).trans (ri_ne wh112 (.inl (by decide))))⟩))
          have krh119 : zrow h119 129 (i1 :: S1) := zrow_eq (zrow_tail kr0) (fun i => ((ri_frr Ch119 (k := 129) (d := 68) rfl rfl (by decide +kernel)).trans (ri_ne wh112 (.inl (by decide)))))
          refine ex_isA oq_X12_bind_58 (fun L120 gL120_3 kL120 => ?_)
          have gL120_2 : cv_get L120 2 = some (cv_i x114) := kL120 2 _ (by decide) (fun _ => rfl) gL115_2
          have gL120_0 : cv_get L120 0 = some (cv_r 111) := kL120 0 _ (by decide) (fun q => absurd q (by decide)) gL115_0
          have gL120_1 : cv_get L120 1 = some (cv_i le) := kL120 1 _ (by decide) (fun q => absurd q (by decide)) gL115_1
          refine ex_al oq_X12_bind_59 gL120_0 ?_
          refine ex_cv oq_X12_bind_60 (by decide) Th119 (k := 111) (d := 12) (as := []) (stk := []) rfl rfl rfl rfl rfl rfl ⟨rfl, rfl⟩ (R := fun o => ∃ (x : Int32) (hb : cv_H), o = (some (cv_i x), hb) ∧ cw_T G hb ∧ cw_Fr cw_Ds cw_sh mk_dr h119 hb ∧ ri_at hb 111 38 = zcb (a :: st) + 1 - 1 - 1 ∧ x.toInt = i1) (rt_dropHeldD Th119 bh119 (S := S1) (by (try simp only [List.length_cons] at *); omega) krh119 (fun x hb b1 b2 b3 b4 => ⟨x, hb, rfl, b1, b2, b3, b4⟩)) (fun o ho => ?_)
          obtain ⟨x121, h122, rfl, Th122, Ch122, bh122, yx121⟩ := ho
          show cw_X _ _ _ _ _ [cv_i x121] h122
          have Fh122 : cw_Fr cw_Ds cw_sh mk_bz h0 h122 := cw_Fr_tr Fh119 (cw_Fr_mono (by decide +kernel) Ch122)
          have Kh122 := zFK_fr Ch122 (by decide +kernel) Kh119
          have eh122_111_37 : ri_at h122 111 37 = x111.toInt := (ri_frf Ch122 (d := 12) rfl rfl (by decide +kernel)).trans eh119_111_37
          clear eh119_111_37
          have eh122_111_19 : ri_at h122 111 19 = K := (ri_frf Ch122 (d := 12) rfl rfl (by decide +kernel)).trans eh119_111_19
          clear eh119_111_19
          have knh122 : zKV h122 V f cs := (zKV_eq knh119 (fun j _ => ⟨(ri_frr Ch122 (k := 125) (d := 64) rfl rfl (by decide +kernel)), (ri_frr Ch122 (k := 126) (d := 65) rfl rfl (by decide +kernel)), (ri_frr Ch122 (k := 127) (d := 66) rfl rfl (by decide +kernel))⟩))
          have krh122 : zrow h122 129 (S1) := zrow_eq (zrow_tail krh119) (fun i => (ri_frr Ch122 (k := 129) (d := 68) rfl rfl (by decide +kernel)))
          refine ex_iswA oq_X12_bind_63 (fun L123 gL123_4 kL123 => ?_)
          have gL123_3 : cv_get L123 3 = some (cv_i x118) := kL123 3 _ (by decide) (fun _ => rfl) gL120_3
          have gL123_2 : cv_get L123 2 = some (cv_i x114) := kL123 2 _ (by decide) (fun q => absurd q (by decide)) gL120_2
          have gL123_0 : cv_get L123 0 = some (cv_r 111) := kL123 0 _ (by decide) (fun q => absurd q (by decide)) gL120_0
          have gL123_1 : cv_get L123 1 = some (cv_i le) := kL123 1 _ (by decide) (fun q => absurd q (by decide)) gL120_1
          refine ex_al oq_X12_bind_65 gL123_0 ?_
          refine ex_il oq_X12_bind_66 gL123_2 ?_
          refine ex_ilw oq_X12_bind_67 gL123_4 ?_
          refine ex_il oq_X12_bind_69 gL123_3 ?_
          refine ex_cv oq_X12_bind_70 (by decide) Th122 (k := 111) (d := 12) (as := [cv_i x114, cv_i x121, cv_i x118]) (stk := []) rfl rfl rfl rfl rfl rfl ⟨rfl, rfl⟩ (R := fun o => ∃ (hb : cv_H), o = (none, hb) ∧ cw_T G hb ∧ cw_Fr cw_Ds cw_sh mk_gw h122 hb ∧ zFK h122 hb ∧ ri_at hb 111 38 = zcb (a :: st) + 1 - 1 - 1 + 1 ∧ ri_at hb 111 19 = K + 1 ∧ zKV hb V f (cs ++ [zsi a]) ∧ zrow hb 129 ((K) :: S1)) (rt_grownK Th122 bh122 eh122_111_19 (by omega) (by omega) (by omega) (by omega) (f := f) (cs := cs) (S := S1) (c' := zsi a) knh122 krh122 (by (try simp only [List.length_cons] at *); omega) (by omega) (by rw [qf.1]; omega) (by rw [qf.2.1]; exact yx121) (by rw [qf.2.2.1]; exact yx118) qf.2.2.2.2 (fun hb b1 b2 bk b3 b4 b5 b6 => ⟨hb, rfl, b1, b2, bk, b3, b4, b5, b6⟩)) (fun o ho => ?_)
          obtain ⟨h124, rfl, Th124, Ch124, kh124, bh124, ch124, knh124, krh124⟩ := ho
          show cw_X _ _ _ _ _ [] h124
          have Fh124 : cw_Fr cw_Ds cw_sh mk_bz h0 h124 := cw_Fr_tr Fh122 (cw_Fr_mono (by decide +kernel) Ch124)
          have Kh124 := zFK_tr Kh122 kh124
          have eh124_111_37 : ri_at h124 111 37 = x111.toInt := (ri_frf Ch124 (d := 12) rfl rfl (by decide +kernel)).trans eh122_111_37
          clear eh122_111_37
          have fdh124 : zFd h124 V f (cs ++ [zsi a]) := zFd_grown qf.2.2.2.1 knh124 krh124 bh124 ch124 (by omega) (by (try simp only [List.length_cons] at *); omega)
          refine ex_go oq_X12_bind_73 (t := 0) rfl rfl ?_
          exact ih h124 L123 (cs ++ [zsi a]) (by rw [← hst, zbi, if_pos (by omega)]) (by rw [← hcs, zbp_y (by omega), List.map_cons, List.append_assoc]; rfl) Th124 Fh124 Kh124 ho.2 (zrow_eq (zrow_tail hrw) (fun i => ((ri_frr Ch124 (k := 128) (d := 67) rfl rfl (by decide +kernel)).trans ((ri_frr Ch122 (k := 128) (d := 67) rfl rfl (by decide +kernel)).trans ((ri_frr Ch119 (k := 128) (d := 67) rfl rfl (by decide +kernel)).trans (ri_ne wh112 (.inl (by decide)))))))) (by omega) (by omega) (by omega) fdh124 gL123_0 gL123_1
        · have ha2 : a = 2 := by omega
          obtain ⟨i1, S1, hS1⟩ := zls1 (l := zkS f [] cs) (by omega)
          have qf := zq_u ha2 hS1
          have kr0 : zrow h 129 (i1 :: S1) := hS1 ▸ hd.2.1
          have sl0 : ((i1 :: S1).length : Int) = zcb (a :: st) + 1 := by rw [← hS1]; omega
          refine ex_ic oq_X12_bind_50 (m := (-1)) (by decide) (fun x125 hx125 => ?_)
          refine ex_go oq_X12_bind_51 (t := 58) rfl rfl ?_
          refine ex_isA oq_X12_bind_58 (fun L126 gL126_3 kL126 => ?_)
          have gL126_2 : cv_get L126 2 = some (cv_i x114) := kL126 2 _ (by decide) (fun _ => rfl) gL115_2
          have gL126_0 : cv_get L126 0 = some (cv_r 111) := kL126 0 _ (by decide) (fun q => absurd q (by decide)) gL115_0
          have gL126_1 : cv_get L126 1 = some (cv_i le) := kL126 1 _ (by decide) (fun q => absurd q (by decide)) gL115_1
          refine ex_al oq_X12_bind_59 gL126_0 ?_
          refine ex_cv oq_X12_bind_60 (by decide) Th112 (k := 111) (d := 12) (as := []) (stk := []) rfl rfl rfl rfl rfl rfl ⟨rfl, rfl⟩ (R := fun o => ∃ (x : Int32) (hb : cv_H), o = (some (cv_i x), hb) ∧ cw_T G hb ∧ cw_Fr cw_Ds cw_sh mk_dr h112 hb ∧ ri_at hb 111 38 = zcb (a :: st) + 1 - 1 ∧ x.toInt = i1) (rt_dropHeldD Th112 eh112_111_38 (S := S1) (by (try simp only [List.length_cons] at *); omega) (zrow_eq kr0 (fun i => (ri_ne wh112 (.inl (by decide))))) (fun x hb b1 b2 b3 b4 => ⟨x, hb, rfl, b1, b2, b3, b4⟩)) (fun o ho => ?_)
          obtain ⟨x127, h128, rfl, Th128, Ch128, bh128, yx127⟩ := ho
          show cw_X _ _ _ _ _ [cv_i x127] h128
          have Fh128 : cw_Fr cw_Ds cw_sh mk_bz h0 h128 := cw_Fr_tr Fh112 (cw_Fr_mono (by decide +kernel) Ch128)
          have Kh128 := zFK_fr Ch128 (by decide +kernel) Kh112
          have eh128_111_37 : ri_at h128 111 37 = x111.toInt := (ri_frf Ch128 (d := 12) rfl rfl (by decide +kernel)).trans eh112_111_37
          clear eh112_111_37
          have eh128_111_19 : ri_at h128 111 19 = K := (ri_frf Ch128 (d := 12) rfl rfl (by decide +kernel)).trans eh112_111_19
          clear eh112_111_19
          have knh128 : zKV h128 V f cs := (zKV_eq hd.1 (fun j _ => ⟨((ri_frr Ch128 (k := 125) (d := 64) rfl rfl (by decide +kernel)).trans (ri_ne wh112 (.inl (by decide)))), ((ri_frr Ch128 (k := 126) (d := 65) rfl rfl (by decide +kernel)).trans (ri_ne wh112 (.inl (by decide)))), ((ri_frr Ch128 (k := 127) (d := 66) rfl rfl (by decide +kernel)).trans (ri_ne wh112 (.inl (by decide))))⟩))
          have krh128 : zrow h128 129 (S1) := zrow_eq (zrow_tail kr0) (fun i => ((ri_frr Ch128 (k := 129) (d := 68) rfl rfl (by decide +kernel)).trans (ri_ne wh112 (.inl (by decide)))))
          refine ex_iswA oq_X12_bind_63 (fun L129 gL129_4 kL129 => ?_)
          have gL129_3 : cv_get L129 3 = some (cv_i x125) := kL129 3 _ (by decide) (fun _ => rfl) gL126_3
          have gL129_2 : cv_get L129 2 = some (cv_i x114) := kL129 2 _ (by decide) (fun q => absurd q (by decide)) gL126_2
          have gL129_0 : cv_get L129 0 = some (cv_r 111) := kL129 0 _ (by decide) (fun q => absurd q (by decide)) gL126_0
          have gL129_1 : cv_get L129 1 = some (cv_i le) := kL129 1 _ (by decide) (fun q => absurd q (by decide)) gL126_1
          refine ex_al oq_X12_bind_65 gL129_0 ?_
          refine ex_il oq_X12_bind_66 gL129_2 ?_
          refine ex_ilw oq_X12_bind_67 gL129_4 ?_
          refine ex_il oq_X12_bind_69 gL129_3 ?_
          refine ex_cv oq_X12_bind_70 (by decide) Th128 (k := 111) (d := 12) (as := [cv_i x114, cv_i x127, cv_i x125]) (stk := []) rfl rfl rfl rfl rfl rfl ⟨rfl, rfl⟩ (R := fun o => ∃ (hb : cv_H), o = (none, hb) ∧ cw_T G hb ∧ cw_Fr cw_Ds cw_sh mk_gw h128 hb ∧ zFK h128 hb ∧ ri_at hb 111 38 = zcb (a :: st) + 1 - 1 + 1 ∧ ri_at hb 111 19 = K + 1 ∧ zKV hb V f (cs ++ [zsi a]) ∧ zrow hb 129 ((K) :: S1)) (rt_grownK Th128 bh128 eh128_111_19 (by omega) (by omega) (by omega) (by omega) (f := f) (cs := cs) (S := S1) (c' := zsi a) knh128 krh128 (by (try simp only [List.length_cons] at *); omega) (by omega) (by rw [qf.1]; omega) (by rw [qf.2.1]; exact yx127) (by rw [qf.2.2.1]; omega) qf.2.2.2.2 (fun hb b1 b2 bk b3 b4 b5 b6 => ⟨hb, rfl, b1, b2, bk, b3, b4, b5, b6⟩)) (fun o ho => ?_)
          obtain ⟨h130, rfl, Th130, Ch130, kh130, bh130, ch130, knh130, krh130⟩ := ho
          show cw_X _ _ _ _ _ [] h130
          have Fh130 : cw_Fr cw_Ds cw_sh mk_bz h0 h130 := cw_Fr_tr Fh128 (cw_Fr_mono (by decide +kernel) Ch130)
          have Kh130 := zFK_tr Kh128 kh130
          have eh130_111_37 : ri_at h130 111 37 = x111.toInt := (ri_frf Ch130 (d := 12) rfl rfl (by decide +kernel)).trans eh128_111_37
          clear eh128_111_37
          have fdh130 : zFd h130 V f (cs ++ [zsi a]) := zFd_grown qf.2.2.2.1 knh130 krh130 bh130 ch130 (by omega) (by (try simp only [List.length_cons] at *); omega)
          refine ex_go oq_X12_bind_73 (t := 0) rfl rfl ?_
          exact ih h130 L129 (cs ++ [zsi a]) (by rw [← hst, zbi, if_pos (by omega)]) (by rw [← hcs, zbp_y (by omega), List.map_cons, List.append_assoc]; rfl) Th130 Fh130 Kh130 ho.2 (zrow_eq (zrow_tail hrw) (fun i => ((ri_frr Ch130 (k := 128) (d := 67) rfl rfl (by decide +kernel)).trans ((ri_frr Ch128 (k := 128) (d := 67) rfl rfl (by decide +kernel)).trans (ri_ne wh112 (.inl (by decide))))))) (by omega) (by omega) (by omega) fdh130 gL129_0 gL129_1
theorem rt_bindK {h0 : cv_H} (hT : cw_T G h0) {le : Int32} (hle : 1 ≤ le.toInt) {st : List Int} {kn : Int} (hk64 : kn ≤ 64) (ho : zok st) (hrw : zrow h0 128 st) (hwa : ri_at h0 111 37 = st.length) (hhe : ri_at h0 111 38 = zcb st + 1) (hkn : ri_at h0 111 19 + zcb st + zcu st = kn) {V : Nat → Int × Int × Int} {f : Nat} {cs : List Int} (hd : zFd h0 V f cs) (hQ : ∀ h', cw_T G h' → cw_Fr cw_Ds cw_sh mk_bz h0 h' → zFK h0 h' → ri_at h' 111 37 = (zbi le.toInt st).length → ri_at h' 111 38 = zcb (zbi le.toInt st) + 1 → ri_at h' 111 19 + zcb (zbi le.toInt st) + zcu (zbi le.toInt st) = kn → zFd h' V f (cs ++ (zbp le.toInt st).map zsi) → Q (none, h')) : cw_X X 194 Q 0 (cv_ent 0 [cv_r 111, cv_i le]) [] h0 :=
  bd_lpK hle hk64 hQ st h0 _ cs rfl rfl hT cw_Fr_refl zFK_0 ho hrw hwa hhe hkn hd rfl rfl
end TZ
/-! ===== a word of a formula where a value is due, with its knots: the reference ===== -/
section TZ
variable {G : Int} {X : cv_X} {Q : cv_O → Prop} {t : Nat → Int}
set_option maxHeartbeats 8000000 in
theorem rt_leafReadK {h0 : cv_H} {n p : Nat} (ht : ∀ i, i < n → t i = ri_at h0 112 i) (hn9 : n ≤ 900) (hT : cw_T G h0) (hwr : ∀ i, i < 177 → ri_at h0 113 i = pp_words.getD i 0) (hpn : p ≤ n) (hz : zR t n p h0) {st : List Int} {kn m : Int} (hF : zFR h0 st kn 1 m) {V : Nat → Int × Int × Int} {f : Nat} {cs : List Int} (hd : zFd h0 V f cs) (hQ : ∀ (x : Int32) h', cw_T G h' → cw_Fr cw_Ds cw_sh mk_fm h0 h' → zFK h0 h' → zRe t n h0 h' x (zlf t n st kn m p) (fun s => zFR h' s.1 s.2.1 s.2.2.1 s.2.2.2 ∧ zFd h' V f (zlC t n p cs)) → Q (some (cv_i x), h')) : cw_X X 197 Q 0 (cv_ent 0 [cv_r 111]) [] h0 := by
  have Fh0 : cw_Fr cw_Ds cw_sh mk_fm h0 h0 := cw_Fr_refl
  have Kh0 : zFK h0 h0 := zFK_0
  have zxl := zx_le (t := t) hpn
  obtain ⟨z1, z2, z3, z4, z5⟩ := id hz
  replace z5 := zhd_i z5
  have hA : ∀ h, cw_Fr cw_Ds cw_sh mk_fm h0 h → ∀ i, ri_at h 112 i = ri_at h0 112 i := fun h F i => ri_frr F (k := 112) (d := 51) rfl rfl (by decide +kernel)
  have hB : ∀ h, cw_Fr cw_Ds cw_sh mk_fm h0 h → ∀ i, ri_at h 113 i = ri_at h0 113 i := fun h F i => ri_frr F (k := 113) (d := 52) rfl rfl (by decide +kernel)
  obtain ⟨ho, hrw, hwa, hhe, hkn, hct, hbr, hwn, hmn⟩ := hF
  have hlen := zc_len ho
  have hk64 : 0 ≤ kn ∧ kn ≤ 64 := by obtain ⟨y, _, y1, y2, y3⟩ := fi_counted hT; omega
  have hb8 : zc0 st ≤ 8 := by obtain ⟨y, _, y1, y2, y3⟩ := fi_brackets hT; omega
  have hm01 : 0 ≤ m ∧ m ≤ 1 := by obtain ⟨y, _, y1, y2, y3⟩ := fi_mayNot hT; omega
  obtain ⟨K, hK⟩ : ∃ K, ri_at h0 111 19 = K := ⟨_, rfl⟩
  have hK0 : 0 ≤ K ∧ K ≤ 64 := by obtain ⟨y, _, y1, y2, y3⟩ := fi_knotsRead hT; omega
  rw [hK] at hkn
  have hdl := hd.2.2.1
  have hdk := hd.2.2.2
  have hw33 : zk t n p = 1 → 0 ≤ zw t n p ∧ zw t n p ≤ 33 := zw_1 hpn
  have hw99 : zk t n p = 3 → 0 ≤ zw t n p ∧ zw t n p ≤ 99999 := zw_3 hpn
  have f0 : zcb (0 :: st) = zcb st ∧ zcu (0 :: st) = zcu st ∧ zc0 (0 :: st) = 1 + zc0 st := by simp [zcb, zcu, zc0]
  have f2 : zcb (2 :: st) = zcb st ∧ zcu (2 :: st) = 1 + zcu st ∧ zc0 (2 :: st) = zc0 st := by simp [zcb, zcu, zc0]
  refine ex_al oq_X12_leafRead_0 rfl ?_
  refine ex_bi oq_X12_leafRead_1 (m := 40) (by decide) (fun x101 hx101 => ?_)
  refine ex_cv oq_X12_leafRead_3 (by decide) hT (k := 111) (d := 12) (as := [cv_i x101]) (stk := []) rfl rfl rfl rfl rfl rfl ⟨rfl, rfl⟩ (R := fun o => ∃ x : Int32, o = (some (cv_i x), h0) ∧ (x.toInt = 1 ∧ zk t n p = 4 ∧ zw t n p = x101.toInt ∨ x.toInt = 0 ∧ ¬ (zk t n p = 4 ∧ zw t n p = x101.toInt))) (rt_isSign (t := t) (n := n) (p := p) hT (by exact hz) x101 (fun x q => ⟨x, rfl, q⟩)) (fun o ho => ?_)
  obtain ⟨x102, rfl, dx102⟩ := ho
  show cw_X _ _ _ _ _ [cv_i x102] h0
  rw [hx101] at dx102
  refine ex_if0 oq_X12_leafRead_6 (t := 50) rfl rfl (fun (c103 : x102.toInt = 0) => ?_) (fun (c103 : ¬ (x102.toInt = 0)) => ?_)
  · replace dx102 := flag_n dx102 c103
    refine ex_al oq_X12_leafRead_50 rfl ?_
    refine ex_bi oq_X12_leafRead_51 (m := 23) (by decide) (fun x104 hx104 => ?_)
    refine ex_cv oq_X12_leafRead_53 (by decide) hT (k := 111) (d := 12) (as := [cv_i x104]) (stk := []) rfl rfl rfl rfl rfl rfl ⟨rfl, rfl⟩ (R := fun o => ∃ x : Int32, o = (some (cv_i x), h0) ∧ (x.toInt = 1 ∧ zk t n p = 1 ∧ zw t n p = x104.toInt ∨ x.toInt = 0 ∧ ¬ (zk t n p = 1 ∧ zw t n p = x104.toInt))) (rt_isKey (t := t) (n := n) (p := p) hT (by exact hz) x104 (fun x q => ⟨x, rfl, q⟩)) (fun o ho => ?_)
    obtain ⟨x105, rfl, dx105⟩ := ho
    show cw_X _ _ _ _ _ [cv_i x105] h0
    rw [hx104] at dx105
    refine ex_if0 oq_X12_leafRead_56 (t := 86) rfl rfl (fun (c106 : x105.toInt = 0) => ?_) (fun (c106 : ¬ (x105.toInt = 0)) => ?_)
    · replace dx105 := flag_n dx105 c106
      refine ex_al oq_X12_leafRead_86 rfl ?_
      obtain ⟨x107, ax107, rx107, lx107, ux107⟩ := fi_kind hT
      refine ex_gf oq_X12_leafRead_87 hT (k := 111) (d := 12) rfl rfl ax107 ?_
      have rx107 := (rx107.symm.trans z4 : x107.toInt = zk t n p)
      refine ex_ic oq_X12_leafRead_90 (m := 1) (by decide) (fun x108 hx108 => ?_)
      refine ex_if oq_X12_leafRead_91 (t := 107) rfl rfl (fun (c109 : ¬ x107.toInt = x108.toInt) => ?_) (fun (c109 : ¬ (¬ x107.toInt = x108.toInt)) => ?_)
      · refine ex_ic oq_X12_leafRead_107 (m := 0) (by decide) (fun x110 hx110 => ?_)
        refine ex_isA oq_X12_leafRead_108 (fun L111 gL111_1 kL111 => ?_)
        have gL111_0 : cv_get L111 0 = some (cv_r 111) := kL111 0 _ (by decide) (fun _ => rfl) rfl
        refine ex_il oq_X12_leafRead_109 gL111_1 ?_
        refine ex_if0 oq_X12_leafRead_110 (t := 127) rfl rfl (fun (c112 : ¬ x110.toInt = 0) => ?_) (fun (c112 : ¬ (¬ x110.toInt = 0)) => ?_)
        · exfalso; omega
        · replace c112 : x110.toInt = 0 := by omega
          refine ex_al oq_X12_leafRead_113 gL111_0 ?_
          obtain ⟨x113, ax113, rx113, lx113, ux113⟩ := fi_kind hT
          refine ex_gf oq_X12_leafRead_114 hT (k := 111) (d := 12) rfl rfl ax113 ?_
          have rx113 := (rx113.symm.trans z4 : x113.toInt = zk t n p)
          refine ex_ic oq_X12_leafRead_117 (m := 3) (by decide) (fun x114 hx114 => ?_)
          refine ex_if oq_X12_leafRead_118 (t := 127) rfl rfl (fun (c115 : x113.toInt = x114.toInt) => ?_) (fun (c115 : ¬ (x113.toInt = x114.toInt)) => ?_)
          · refine ex_il oq_X12_leafRead_127 gL111_1 ?_
            refine ex_if0 oq_X12_leafRead_128 (t := 147) rfl rfl (fun (c116 : ¬ x110.toInt = 0) => ?_) (fun (c116 : ¬ (¬ x110.toInt = 0)) => ?_)
            · exfalso; omega
            · replace c116 : x110.toInt = 0 := by omega
              refine ex_al oq_X12_leafRead_131 gL111_0 ?_
              obtain ⟨x117, ax117, rx117, lx117, ux117⟩ := fi_which hT
              refine ex_gf oq_X12_leafRead_132 hT (k := 111) (d := 12) rfl rfl ax117 ?_
              have wx117 : x117.toInt = zw t n p := rx117.symm.trans (hz.2.2.2.2 (by omega) (by omega))
              refine ex_si oq_X12_leafRead_135 (m := 9999) (by decide) (fun x118 hx118 => ?_)
              refine ex_if oq_X12_leafRead_138 (t := 147) rfl rfl (fun (c119 : x117.toInt ≤ x118.toInt) => ?_) (fun (c119 : ¬ (x117.toInt ≤ x118.toInt)) => ?_)
              · refine ex_al oq_X12_leafRead_147 gL111_0 ?_
                refine ex_cv oq_X12_leafRead_148 (by decide) hT (k := 111) (d := 12) (as := []) (stk := []) rfl rfl rfl rfl rfl rfl ⟨rfl, rfl⟩ (R := fun o => ∃ (x : Int32) (hb : cv_H), o = (some (cv_i x), hb) ∧ cw_T G hb ∧ cw_Fr cw_Ds cw_sh mk_cn h0 hb ∧ (x.toInt = 1 ∧ kn < 64 ∧ ri_at hb 111 40 = kn + 1 ∧ ri_at hb 111 4 = ri_at h0 111 4 ∧ ri_at hb 111 5 = ri_at h0 111 5 ∨ x.toInt = 0 ∧ kn = 64 ∧ ri_at hb 111 4 = 2 ∧ ri_at hb 111 5 = ri_at h0 111 10)) (rt_isCounted hT hct (fun x hb b1 b2 b3 => ⟨x, hb, rfl, b1, b2, b3⟩)) (fun o ho => ?_)
                obtain ⟨x120, h121, rfl, Th121, Ch121, dx120⟩ := ho
                show cw_X _ _ _ _ _ [cv_i x120] h121
                have Fh121 : cw_Fr cw_Ds cw_sh mk_fm h0 h121 := cw_Fr_tr Fh0 (cw_Fr_mono (by decide +kernel) Ch121)
                have Kh121 := zFK_fr Ch121 (by decide +kernel) Kh0
                have eh121_111_6 : ri_at h121 111 6 = (n : Int) := (ri_frf Ch121 (d := 12) rfl rfl (by decide +kernel)).trans z1
                have eh121_111_7 : ri_at h121 111 7 = ((zx t n p : Nat) : Int) := (ri_frf Ch121 (d := 12) rfl rfl (by decide +kernel)).trans z3
                have eh121_111_8 : ri_at h121 111 8 = zk t n p := (ri_frf Ch121 (d := 12) rfl rfl (by decide +kernel)).trans z4
                have eh121_111_10 : ri_at h121 111 10 = ((za t n p : Nat) : Int) := (ri_frf Ch121 (d := 12) rfl rfl (by decide +kernel)).trans z2
                have eh121_111_11 : ri_at h121 111 11 = ri_at h0 111 11 := ri_frf Ch121 (d := 12) rfl rfl (by decide +kernel)
                have eh121_111_37 : ri_at h121 111 37 = (st.length : Int) := (ri_frf Ch121 (d := 12) rfl rfl (by decide +kernel)).trans hwa
                have eh121_111_38 : ri_at h121 111 38 = zcb st + (1 - 1) := (ri_frf Ch121 (d := 12) rfl rfl (by decide +kernel)).trans hhe
                have eh121_111_19 : ri_at h121 111 19 = K := (ri_frf Ch121 (d := 12) rfl rfl (by decide +kernel)).trans hK
                have eh121_111_39 : ri_at h121 111 39 = zc0 st := (ri_frf Ch121 (d := 12) rfl rfl (by decide +kernel)).trans hbr
                have eh121_111_41 : ri_at h121 111 41 = (1 : Int) := (ri_frf Ch121 (d := 12) rfl rfl (by decide +kernel)).trans hwn
                have eh121_111_42 : ri_at h121 111 42 = m := (ri_frf Ch121 (d := 12) rfl rfl (by decide +kernel)).trans hmn
                have Zh121 := zR_fr Ch121 hz (by decide +kernel)
                refine ex_if0 oq_X12_leafRead_151 (t := 156) rfl rfl (fun (c122 : ¬ x120.toInt = 0) => ?_) (fun (c122 : ¬ (¬ x120.toInt = 0)) => ?_)
                · obtain ⟨_, kx120, bx120, fx120, gx120⟩ := cnt_y dx120 c122
                  clear dx120
                  refine ex_al oq_X12_leafRead_156 gL111_0 ?_
                  refine ex_il oq_X12_leafRead_157 gL111_1 ?_
                  refine ex_if0 oq_X12_leafRead_158 (t := 165) rfl rfl (fun (c123 : x110.toInt = 0) => ?_) (fun (c123 : ¬ (x110.toInt = 0)) => ?_)
                  · refine ex_ic oq_X12_leafRead_165 (m := 0) (by decide) (fun x124 hx124 => ?_)
                    refine ex_il oq_X12_leafRead_166 gL111_1 ?_
                    refine ex_if0 oq_X12_leafRead_167 (t := 180) rfl rfl (fun (c125 : x110.toInt = 0) => ?_) (fun (c125 : ¬ (x110.toInt = 0)) => ?_)
                    · refine ex_al oq_X12_leafRead_180 gL111_0 ?_
                      obtain ⟨x126, ax126, rx126, lx126, ux126⟩ := fi_which Th121
                      refine ex_gf oq_X12_leafRead_181 Th121 (k := 111) (d := 12) rfl rfl ax126 ?_
                      have wx126 : x126.toInt = zw t n p := rx126.symm.trans (Zh121.2.2.2.2 (by omega) (by omega))
                      refine ex_ic oq_X12_leafRead_184 (m := 0) (by decide) (fun x127 hx127 => ?_)
                      refine ex_cv oq_X12_leafRead_185 (by decide) Th121 (k := 111) (d := 12) (as := [cv_i x124, cv_i x126, cv_i x127]) (stk := []) rfl rfl rfl rfl rfl rfl ⟨rfl, rfl⟩ (R := fun o => ∃ (hb : cv_H), o = (none, hb) ∧ cw_T G hb ∧ cw_Fr cw_Ds cw_sh mk_gw h121 hb ∧ zFK h121 hb ∧ ri_at hb 111 38 = zcb st + (1 - 1) + 1 ∧ ri_at hb 111 19 = K + 1 ∧ zKV hb V f (cs ++ [zw t n p]) ∧ zrow hb 129 ((K) :: zkS f [] cs)) (rt_grownK Th121 eh121_111_38 eh121_111_19 (by omega) (by omega) (by omega) (by omega) (f := f) (cs := cs) (S := zkS f [] cs) (c' := zw t n p) (zKV_eq hd.1 (fun j _ => ⟨(ri_frr Ch121 (k := 125) (d := 64) rfl rfl (by decide +kernel)), (ri_frr Ch121 (k := 126) (d := 65) rfl rfl (by decide +kernel)), (ri_frr Ch121 (k := 127) (d := 66) rfl rfl (by decide +kernel))⟩)) (zrow_eq hd.2.1 (fun i => (ri_frr Ch121 (k := 129) (d := 68) rfl rfl (by decide +kernel)))) (by (try simp only [List.length_cons] at *); omega) (by omega) (by rw [(zq_l (S := zkS f [] cs) (c := zw t n p) (by omega)).1, if_pos (by omega)]; omega) (by rw [(zq_l (S := zkS f [] cs) (c := zw t n p) (by omega)).2.1, if_pos (by omega)]; omega) (by rw [(zq_l (S := zkS f [] cs) (c := zw t n p) (by omega)).2.2.1]; omega) (zq_l (S := zkS f [] cs) (c := zw t n p) (by omega)).2.2.2.2 (fun hb b1 b2 bk b3 b4 b5 b6 => ⟨hb, rfl, b1, b2, bk, b3, b4, b5, b6⟩)) (fun o ho => ?_)
                      obtain ⟨h128, rfl, Th128, Ch128, kh128, bh128, ch128, knh128, krh128⟩ := ho
                      show cw_X _ _ _ _ _ [] h128
                      have Fh128 : cw_Fr cw_Ds cw_sh mk_fm h0 h128 := cw_Fr_tr Fh121 (cw_Fr_mono (by decide +kernel) Ch128)
                      have Kh128 := zFK_tr Kh121 kh128
                      have eh128_111_4 : ri_at h128 111 4 = ri_at h0 111 4 := (ri_frf Ch128 (d := 12) rfl rfl (by decide +kernel)).trans fx120
                      have eh128_111_5 : ri_at h128 111 5 = ri_at h0 111 5 := (ri_frf Ch128 (d := 12) rfl rfl (by decide +kernel)).trans gx120
                      have eh128_111_6 : ri_at h128 111 6 = (n : Int) := (ri_frf Ch128 (d := 12) rfl rfl (by decide +kernel)).trans eh121_111_6
                      clear eh121_111_6
                      have eh128_111_7 : ri_at h128 111 7 = ((zx t n p : Nat) : Int) := (ri_frf Ch128 (d := 12) rfl rfl (by decide +kernel)).trans eh121_111_7
                      clear eh121_111_7
                      have eh128_111_8 : ri_at h128 111 8 = zk t n p := (ri_frf Ch128 (d := 12) rfl rfl (by decide +kernel)).trans eh121_111_8
                      clear eh121_111_8
                      have eh128_111_10 : ri_at h128 111 10 = ((za t n p : Nat) : Int) := (ri_frf Ch128 (d := 12) rfl rfl (by decide +kernel)).trans eh121_111_10
                      clear eh121_111_10
                      have eh128_111_11 : ri_at h128 111 11 = ri_at h0 111 11 := (ri_frf Ch128 (d := 12) rfl rfl (by decide +kernel)).trans eh121_111_11
                      clear eh121_111_11
                      have eh128_111_37 : ri_at h128 111 37 = (st.length : Int) := (ri_frf Ch128 (d := 12) rfl rfl (by decide +kernel)).trans eh121_111_37
                      clear eh121_111_37
                      have eh128_111_40 : ri_at h128 111 40 = kn + 1 := (ri_frf Ch128 (d := 12) rfl rfl (by decide +kernel)).trans bx120
                      have eh128_111_39 : ri_at h128 111 39 = zc0 st := (ri_frf Ch128 (d := 12) rfl rfl (by decide +kernel)).trans eh121_111_39
                      clear eh121_111_39
                      have eh128_111_41 : ri_at h128 111 41 = (1 : Int) := (ri_frf Ch128 (d := 12) rfl rfl (by decide +kernel)).trans eh121_111_41
                      clear eh121_111_41
                      have eh128_111_42 : ri_at h128 111 42 = m := (ri_frf Ch128 (d := 12) rfl rfl (by decide +kernel)).trans eh121_111_42
                      clear eh121_111_42
                      have Zh128 := zR_fr Ch128 Zh121 (by decide +kernel)
                      have fdh128 : zFd h128 V f (cs ++ [zw t n p]) := zFd_grown (zq_l (c := zw t n p) (by omega)).2.2.2.1 knh128 krh128 bh128 ch128 (by omega) (by (try simp only [List.length_cons] at *); omega)
                      refine ex_al oq_X12_leafRead_188 gL111_0 ?_
                      refine ex_ic oq_X12_leafRead_189 (m := 0) (by decide) (fun x129 hx129 => ?_)
                      refine ex_pfb oq_X12_leafRead_190 Th128 (k := 111) (d := 12) rfl rfl rfl (by omega) (by omega) (fun h130 Th130 wh130 => ?_)
                      have Fh130 : cw_Fr cw_Ds cw_sh mk_fm h0 h130 := cw_Fr_tr Fh128 (cw_Fr_wrf wh130 (k := 111) (d := 12) rfl rfl (by decide +kernel))
                      have Kh130 := zFK_wr (k := 111) wh130 (Nat.zero_le _) Kh128
                      have eh130_111_4 : ri_at h130 111 4 = ri_at h0 111 4 := (ri_ne wh130 (by decide)).trans eh128_111_4
                      clear eh128_111_4
                      have eh130_111_5 : ri_at h130 111 5 = ri_at h0 111 5 := (ri_ne wh130 (by decide)).trans eh128_111_5
                      clear eh128_111_5
                      have eh130_111_6 : ri_at h130 111 6 = (n : Int) := (ri_ne wh130 (by decide)).trans eh128_111_6
                      clear eh128_111_6
                      have eh130_111_7 : ri_at h130 111 7 = ((zx t n p : Nat) : Int) := (ri_ne wh130 (by decide)).trans eh128_111_7
                      clear eh128_111_7
                      have eh130_111_8 : ri_at h130 111 8 = zk t n p := (ri_ne wh130 (by decide)).trans eh128_111_8
                      clear eh128_111_8
                      have eh130_111_10 : ri_at h130 111 10 = ((za t n p : Nat) : Int) := (ri_ne wh130 (by decide)).trans eh128_111_10
                      clear eh128_111_10
                      have eh130_111_11 : ri_at h130 111 11 = ri_at h0 111 11 := (ri_ne wh130 (by decide)).trans eh128_111_11
                      clear eh128_111_11
                      have eh130_111_37 : ri_at h130 111 37 = (st.length : Int) := (ri_ne wh130 (by decide)).trans eh128_111_37
                      clear eh128_111_37
                      have eh130_111_38 : ri_at h130 111 38 = zcb st + (1 - 1) + 1 := (ri_ne wh130 (by decide)).trans bh128
                      have eh130_111_19 : ri_at h130 111 19 = K + 1 := (ri_ne wh130 (by decide)).trans ch128
                      have eh130_111_40 : ri_at h130 111 40 = kn + 1 := (ri_ne wh130 (by decide)).trans eh128_111_40
                      clear eh128_111_40
                      have eh130_111_39 : ri_at h130 111 39 = zc0 st := (ri_ne wh130 (by decide)).trans eh128_111_39
                      clear eh128_111_39
                      have eh130_111_41 : ri_at h130 111 41 = x129.toInt := ri_self wh130
                      have eh130_111_42 : ri_at h130 111 42 = m := (ri_ne wh130 (by decide)).trans eh128_111_42
                      clear eh128_111_42
                      have Zh130 := zR_wr wh130 Zh128 (.inr (by decide))
                      refine ex_al oq_X12_leafRead_193 gL111_0 ?_
                      refine ex_cv oq_X12_leafRead_194 (by decide) Th130 (k := 111) (d := 12) (as := []) (stk := []) rfl rfl rfl rfl rfl rfl ⟨rfl, rfl⟩ (R := fun o => ∃ hb : cv_H, o = (none, hb) ∧ cw_T G hb ∧ cw_Fr cw_Ds cw_sh kk_X12_token.2.2.2.2.2.1 h130 hb ∧ zR t n (zx t n p) hb) (rt_tok (t := t) (n := n) (p := (zx t n p)) (fun i hi => by rw [ht i hi, ← hA _ Fh130]) hn9 (fun i hi => by rw [hB _ Fh130]; exact hwr i hi) Th130 (zx_le (by omega)) (by omega) (by omega) (fun hb b1 b2 b3 => ⟨hb, rfl, b1, b2, b3⟩)) (fun o ho => ?_)
                      obtain ⟨h131, rfl, Th131, Ch131, Zh131⟩ := ho
                      show cw_X _ _ _ _ _ [] h131
                      have Fh131 : cw_Fr cw_Ds cw_sh mk_fm h0 h131 := cw_Fr_tr Fh130 (cw_Fr_mono (by decide +kernel) Ch131)
                      have Kh131 := zFK_fr Ch131 (by decide +kernel) Kh130
                      have eh131_111_4 : ri_at h131 111 4 = ri_at h0 111 4 := (ri_frf Ch131 (d := 12) rfl rfl (by decide +kernel)).trans eh130_111_4
                      clear eh130_111_4
                      have eh131_111_5 : ri_at h131 111 5 = ri_at h0 111 5 := (ri_frf Ch131 (d := 12) rfl rfl (by decide +kernel)).trans eh130_111_5
                      clear eh130_111_5
                      have eh131_111_11 : ri_at h131 111 11 = ri_at h0 111 11 := (ri_frf Ch131 (d := 12) rfl rfl (by decide +kernel)).trans eh130_111_11
                      clear eh130_111_11
                      have eh131_111_37 : ri_at h131 111 37 = (st.length : Int) := (ri_frf Ch131 (d := 12) rfl rfl (by decide +kernel)).trans eh130_111_37
                      clear eh130_111_37
                      have eh131_111_38 : ri_at h131 111 38 = zcb st + (1 - 1) + 1 := (ri_frf Ch131 (d := 12) rfl rfl (by decide +kernel)).trans eh130_111_38
                      clear eh130_111_38
                      have eh131_111_19 : ri_at h131 111 19 = K + 1 := (ri_frf Ch131 (d := 12) rfl rfl (by decide +kernel)).trans eh130_111_19
                      clear eh130_111_19
                      have eh131_111_40 : ri_at h131 111 40 = kn + 1 := (ri_frf Ch131 (d := 12) rfl rfl (by decide +kernel)).trans eh130_111_40
                      clear eh130_111_40
                      have eh131_111_39 : ri_at h131 111 39 = zc0 st := (ri_frf Ch131 (d := 12) rfl rfl (by decide +kernel)).trans eh130_111_39
                      clear eh130_111_39
                      have eh131_111_41 : ri_at h131 111 41 = x129.toInt := (ri_frf Ch131 (d := 12) rfl rfl (by decide +kernel)).trans eh130_111_41
                      clear eh130_111_41
                      have eh131_111_42 : ri_at h131 111 42 = m := (ri_frf Ch131 (d := 12) rfl rfl (by decide +kernel)).trans eh130_111_42
                      clear eh130_111_42
                      obtain ⟨yah131, ybh131, ych131, ydh131, -⟩ := id Zh131
                      have zlh131 := zx_le (t := t) (n := n) (p := (zx t n p)) (by omega)
                      clear eh130_111_6 eh130_111_10 eh130_111_7 eh130_111_8
                      refine ex_ic oq_X12_leafRead_197 (m := 1) (by decide) (fun x132 hx132 => ?_)
                      exact ex_retb oq_X12_leafRead_198 rfl (by omega) (by omega) (hQ x132 h131 Th131 Fh131 Kh131 (.inl ⟨(st, kn + 1, 0, m), _, (by unfold zlf; rw [if_neg (by omega), if_neg (by omega), if_pos (by omega), if_neg (by omega), if_neg (by omega)]), by omega, by omega, Zh131, by omega, by omega, ⟨(show zok _ from ho), (zrow_eq hrw (fun i => ((ri_frr Ch131 (k := 128) (d := 67) rfl rfl (by decide +kernel)).trans ((ri_ne wh130 (.inl (by decide))).trans ((ri_frr Ch128 (k := 128) (d := 67) rfl rfl (by decide +kernel)).trans (ri_frr Ch121 (k := 128) (d := 67) rfl rfl (by decide +kernel))))))), by dsimp only; (try simp only [List.length_cons]); omega, by dsimp only; omega, by dsimp only; omega, by dsimp only; omega, by dsimp only; omega, by dsimp only; omega, by dsimp only; omega⟩, (by rw [show zlC t n p cs = cs ++ [zw t n p] from by unfold zlC; rw [if_neg (by omega), if_pos (by omega)]]; exact (zFd_eq fdh128 (fun i => ((ri_frr Ch131 (k := 125) (d := 64) rfl rfl (by decide +kernel)).trans (ri_ne wh130 (.inl (by decide))))) (fun i => ((ri_frr Ch131 (k := 126) (d := 65) rfl rfl (by decide +kernel)).trans (ri_ne wh130 (.inl (by decide))))) (fun i => ((ri_frr Ch131 (k := 127) (d := 66) rfl rfl (by decide +kernel)).trans (ri_ne wh130 (.inl (by decide))))) (fun i => ((ri_frr Ch131 (k := 129) (d := 68) rfl rfl (by decide +kernel)).trans (ri_ne wh130 (.inl (by decide))))) ((ri_frf Ch131 (k := 111) (d := 12) (i := 38) rfl rfl (by decide +kernel)).trans (ri_ne wh130 (by decide))) ((ri_frf Ch131 (k := 111) (d := 12) (i := 19) rfl rfl (by decide +kernel)).trans (ri_ne wh130 (by decide)))))⟩))
                    · exfalso; omega
                  · exfalso; omega
                · replace c122 : x120.toInt = 0 := by omega
                  obtain ⟨kx120, fx120, gx120⟩ := cnt_n dx120 c122
                  clear dx120
                  refine ex_ic oq_X12_leafRead_154 (m := 0) (by decide) (fun x133 hx133 => ?_)
                  exact ex_retb oq_X12_leafRead_155 rfl (by omega) (by omega) (hQ x133 h121 Th121 Fh121 Kh121 (.inr ⟨_, _, (by unfold zlf; rw [if_neg (by omega), if_neg (by omega), if_pos (by omega), if_neg (by omega), if_pos (by omega)]), by omega, by omega, by omega, by decide⟩))
              · refine ex_al oq_X12_leafRead_141 gL111_0 ?_
                refine ex_ic oq_X12_leafRead_142 (m := 2) (by decide) (fun x134 hx134 => ?_)
                refine ex_cv oq_X12_leafRead_143 (by decide) hT (k := 111) (d := 12) (as := [cv_i x134]) (stk := []) rfl rfl rfl rfl rfl rfl ⟨rfl, rfl⟩ (R := fun o => ∃ (x : Int32) (hb : cv_H), o = (some (cv_i x), hb) ∧ cw_T G hb ∧ cw_Fr cw_Ds cw_sh kk_X12_wrong.2.2.2.2.2.1 h0 hb ∧ x.toInt = 0 ∧ ri_at hb 111 4 = x134.toInt ∧ ri_at hb 111 5 = ri_at h0 111 10) (rt_wrong hT x134 (fun x hb b1 b2 b3 b4 b5 => ⟨x, hb, rfl, b1, b2, b3, b4, b5⟩)) (fun o ho => ?_)
                obtain ⟨x135, h136, rfl, Th136, Ch136, zh136, fh136, ph136⟩ := ho
                show cw_X _ _ _ _ _ [cv_i x135] h136
                have Fh136 : cw_Fr cw_Ds cw_sh mk_fm h0 h136 := cw_Fr_tr Fh0 (cw_Fr_mono (by decide +kernel) Ch136)
                have Kh136 := zFK_fr Ch136 (by decide +kernel) Kh0
                exact ex_retb oq_X12_leafRead_146 rfl (by omega) (by omega) (hQ x135 h136 Th136 Fh136 Kh136 (.inr ⟨_, _, (by unfold zlf; rw [if_neg (by omega), if_neg (by omega), if_pos (by omega), if_pos (by omega)]), by omega, by omega, by omega, by decide⟩))
          · refine ex_al oq_X12_leafRead_121 gL111_0 ?_
            refine ex_ic oq_X12_leafRead_122 (m := 1) (by decide) (fun x137 hx137 => ?_)
            refine ex_cv oq_X12_leafRead_123 (by decide) hT (k := 111) (d := 12) (as := [cv_i x137]) (stk := []) rfl rfl rfl rfl rfl rfl ⟨rfl, rfl⟩ (R := fun o => ∃ (x : Int32) (hb : cv_H), o = (some (cv_i x), hb) ∧ cw_T G hb ∧ cw_Fr cw_Ds cw_sh kk_X12_wrong.2.2.2.2.2.1 h0 hb ∧ x.toInt = 0 ∧ ri_at hb 111 4 = x137.toInt ∧ ri_at hb 111 5 = ri_at h0 111 10) (rt_wrong hT x137 (fun x hb b1 b2 b3 b4 b5 => ⟨x, hb, rfl, b1, b2, b3, b4, b5⟩)) (fun o ho => ?_)
            obtain ⟨x138, h139, rfl, Th139, Ch139, zh139, fh139, ph139⟩ := ho
            show cw_X _ _ _ _ _ [cv_i x138] h139
            have Fh139 : cw_Fr cw_Ds cw_sh mk_fm h0 h139 := cw_Fr_tr Fh0 (cw_Fr_mono (by decide +kernel) Ch139)
            have Kh139 := zFK_fr Ch139 (by decide +kernel) Kh0
            exact ex_retb oq_X12_leafRead_126 rfl (by omega) (by omega) (hQ x138 h139 Th139 Fh139 Kh139 (.inr ⟨_, _, (by unfold zlf; rw [if_neg (by omega), if_neg (by omega), if_neg (by omega)]), by omega, by omega, by omega, by decide⟩))
      · refine ex_al oq_X12_leafRead_94 rfl ?_
        obtain ⟨x140, ax140, rx140, lx140, ux140⟩ := fi_which hT
        refine ex_gf oq_X12_leafRead_95 hT (k := 111) (d := 12) rfl rfl ax140 ?_
        have wx140 : x140.toInt = zw t n p := rx140.symm.trans (hz.2.2.2.2 (by omega) (by omega))
        refine ex_bi oq_X12_leafRead_98 (m := 24) (by decide) (fun x141 hx141 => ?_)
        refine ex_if oq_X12_leafRead_100 (t := 107) rfl rfl (fun (c142 : x140.toInt < x141.toInt) => ?_) (fun (c142 : ¬ (x140.toInt < x141.toInt)) => ?_)
        · refine ex_ic oq_X12_leafRead_107 (m := 0) (by decide) (fun x143 hx143 => ?_)
          refine ex_isA oq_X12_leafRead_108 (fun L144 gL144_1 kL144 => ?_)
          have gL144_0 : cv_get L144 0 = some (cv_r 111) := kL144 0 _ (by decide) (fun _ => rfl) rfl
          refine ex_il oq_X12_leafRead_109 gL144_1 ?_
          refine ex_if0 oq_X12_leafRead_110 (t := 127) rfl rfl (fun (c145 : ¬ x143.toInt = 0) => ?_) (fun (c145 : ¬ (¬ x143.toInt = 0)) => ?_)
          · exfalso; omega
          · replace c145 : x143.toInt = 0 := by omega
            refine ex_al oq_X12_leafRead_113 gL144_0 ?_
            obtain ⟨x146, ax146, rx146, lx146, ux146⟩ := fi_kind hT
            refine ex_gf oq_X12_leafRead_114 hT (k := 111) (d := 12) rfl rfl ax146 ?_
            have rx146 := (rx146.symm.trans z4 : x146.toInt = zk t n p)
            refine ex_ic oq_X12_leafRead_117 (m := 3) (by decide) (fun x147 hx147 => ?_)
            refine ex_if oq_X12_leafRead_118 (t := 127) rfl rfl (fun (c148 : x146.toInt = x147.toInt) => ?_) (fun (c148 : ¬ (x146.toInt = x147.toInt)) => ?_)
            · refine ex_il oq_X12_leafRead_127 gL144_1 ?_
              refine ex_if0 oq_X12_leafRead_128 (t := 147) rfl rfl (fun (c149 : ¬ x143.toInt = 0) => ?_) (fun (c149 : ¬ (¬ x143.toInt = 0)) => ?_)
              · exfalso; omega
              · replace c149 : x143.toInt = 0 := by omega
                refine ex_al oq_X12_leafRead_131 gL144_0 ?_
                obtain ⟨x150, ax150, rx150, lx150, ux150⟩ := fi_which hT
                refine ex_gf oq_X12_leafRead_132 hT (k := 111) (d := 12) rfl rfl ax150 ?_
                have wx150 : x150.toInt = zw t n p := rx150.symm.trans (hz.2.2.2.2 (by omega) (by omega))
                refine ex_si oq_X12_leafRead_135 (m := 9999) (by decide) (fun x151 hx151 => ?_)
                refine ex_if oq_X12_leafRead_138 (t := 147) rfl rfl (fun (c152 : x150.toInt ≤ x151.toInt) => ?_) (fun (c152 : ¬ (x150.toInt ≤ x151.toInt)) => ?_)
                · refine ex_al oq_X12_leafRead_147 gL144_0 ?_
                  refine ex_cv oq_X12_leafRead_148 (by decide) hT (k := 111) (d := 12) (as := []) (stk := []) rfl rfl rfl rfl rfl rfl ⟨rfl, rfl⟩ (R := fun o => ∃ (x : Int32) (hb : cv_H), o = (some (cv_i x), hb) ∧ cw_T G hb ∧ cw_Fr cw_Ds cw_sh mk_cn h0 hb ∧ (x.toInt = 1 ∧ kn < 64 ∧ ri_at hb 111 40 = kn + 1 ∧ ri_at hb 111 4 = ri_at h0 111 4 ∧ ri_at hb 111 5 = ri_at h0 111 5 ∨ x.toInt = 0 ∧ kn = 64 ∧ ri_at hb 111 4 = 2 ∧ ri_at hb 111 5 = ri_at h0 111 10)) (rt_isCounted hT hct (fun x hb b1 b2 b3 => ⟨x, hb, rfl, b1, b2, b3⟩)) (fun o ho => ?_)
                  obtain ⟨x153, h154, rfl, Th154, Ch154, dx153⟩ := ho
                  show cw_X _ _ _ _ _ [cv_i x153] h154
                  have Fh154 : cw_Fr cw_Ds cw_sh mk_fm h0 h154 := cw_Fr_tr Fh0 (cw_Fr_mono (by decide +kernel) Ch154)
                  have Kh154 := zFK_fr Ch154 (by decide +kernel) Kh0
                  have eh154_111_6 : ri_at h154 111 6 = (n : Int) := (ri_frf Ch154 (d := 12) rfl rfl (by decide +kernel)).trans z1
                  have eh154_111_7 : ri_at h154 111 7 = ((zx t n p : Nat) : Int) := (ri_frf Ch154 (d := 12) rfl rfl (by decide +kernel)).trans z3
                  have eh154_111_8 : ri_at h154 111 8 = zk t n p := (ri_frf Ch154 (d := 12) rfl rfl (by decide +kernel)).trans z4
                  have eh154_111_10 : ri_at h154 111 10 = ((za t n p : Nat) : Int) := (ri_frf Ch154 (d := 12) rfl rfl (by decide +kernel)).trans z2
                  have eh154_111_11 : ri_at h154 111 11 = ri_at h0 111 11 := ri_frf Ch154 (d := 12) rfl rfl (by decide +kernel)
                  have eh154_111_37 : ri_at h154 111 37 = (st.length : Int) := (ri_frf Ch154 (d := 12) rfl rfl (by decide +kernel)).trans hwa
                  have eh154_111_38 : ri_at h154 111 38 = zcb st + (1 - 1) := (ri_frf Ch154 (d := 12) rfl rfl (by decide +kernel)).trans hhe
                  have eh154_111_19 : ri_at h154 111 19 = K := (ri_frf Ch154 (d := 12) rfl rfl (by decide +kernel)).trans hK
                  have eh154_111_39 : ri_at h154 111 39 = zc0 st := (ri_frf Ch154 (d := 12) rfl rfl (by decide +kernel)).trans hbr
                  have eh154_111_41 : ri_at h154 111 41 = (1 : Int) := (ri_frf Ch154 (d := 12) rfl rfl (by decide +kernel)).trans hwn
                  have eh154_111_42 : ri_at h154 111 42 = m := (ri_frf Ch154 (d := 12) rfl rfl (by decide +kernel)).trans hmn
                  have Zh154 := zR_fr Ch154 hz (by decide +kernel)
                  refine ex_if0 oq_X12_leafRead_151 (t := 156) rfl rfl (fun (c155 : ¬ x153.toInt = 0) => ?_) (fun (c155 : ¬ (¬ x153.toInt = 0)) => ?_)
                  · obtain ⟨_, kx153, bx153, fx153, gx153⟩ := cnt_y dx153 c155
                    clear dx153
                    refine ex_al oq_X12_leafRead_156 gL144_0 ?_
                    refine ex_il oq_X12_leafRead_157 gL144_1 ?_
                    refine ex_if0 oq_X12_leafRead_158 (t := 165) rfl rfl (fun (c156 : x143.toInt = 0) => ?_) (fun (c156 : ¬ (x143.toInt = 0)) => ?_)
                    · refine ex_ic oq_X12_leafRead_165 (m := 0) (by decide) (fun x157 hx157 => ?_)
                      refine ex_il oq_X12_leafRead_166 gL144_1 ?_
                      refine ex_if0 oq_X12_leafRead_167 (t := 180) rfl rfl (fun (c158 : x143.toInt = 0) => ?_) (fun (c158 : ¬ (x143.toInt = 0)) => ?_)
                      · refine ex_al oq_X12_leafRead_180 gL144_0 ?_
                        obtain ⟨x159, ax159, rx159, lx159, ux159⟩ := fi_which Th154
                        refine ex_gf oq_X12_leafRead_181 Th154 (k := 111) (d := 12) rfl rfl ax159 ?_
                        have wx159 : x159.toInt = zw t n p := rx159.symm.trans (Zh154.2.2.2.2 (by omega) (by omega))
                        refine ex_ic oq_X12_leafRead_184 (m := 0) (by decide) (fun x160 hx160 => ?_)
                        refine ex_cv oq_X12_leafRead_185 (by decide) Th154 (k := 111) (d := 12) (as := [cv_i x157, cv_i x159, cv_i x160]) (stk := []) rfl rfl rfl rfl rfl rfl ⟨rfl, rfl⟩ (R := fun o => ∃ (hb : cv_H), o = (none, hb) ∧ cw_T G hb ∧ cw_Fr cw_Ds cw_sh mk_gw h154 hb ∧ zFK h154 hb ∧ ri_at hb 111 38 = zcb st + (1 - 1) + 1 ∧ ri_at hb 111 19 = K + 1 ∧ zKV hb V f (cs ++ [zw t n p]) ∧ zrow hb 129 ((K) :: zkS f [] cs)) (rt_grownK Th154 eh154_111_38 eh154_111_19 (by omega) (by omega) (by omega) (by omega) (f := f) (cs := cs) (S := zkS f [] cs) (c' := zw t n p) (zKV_eq hd.1 (fun j _ => ⟨(ri_frr Ch154 (k := 125) (d := 64) rfl rfl (by decide +kernel)), (ri_frr Ch154 (k := 126) (d := 65) rfl rfl (by decide +kernel)), (ri_frr Ch154 (k := 127) (d := 66) rfl rfl (by decide +kernel))⟩)) (zrow_eq hd.2.1 (fun i => (ri_frr Ch154 (k := 129) (d := 68) rfl rfl (by decide +kernel)))) (by (try simp only [List.length_cons] at *); omega) (by omega) (by rw [(zq_l (S := zkS f [] cs) (c := zw t n p) (by omega)).1, if_pos (by omega)]; omega) (by rw [(zq_l (S := zkS f [] cs) (c := zw t n p) (by omega)).2.1, if_pos (by omega)]; omega) (by rw [(zq_l (S := zkS f [] cs) (c := zw t n p) (by omega)).2.2.1]; omega) (zq_l (S := zkS f [] cs) (c := zw t n p) (by omega)).2.2.2.2 (fun hb b1 b2 bk b3 b4 b5 b6 => ⟨hb, rfl, b1, b2, bk, b3, b4, b5, b6⟩)) (fun o ho => ?_)
                        obtain ⟨h161, rfl, Th161, Ch161, kh161, bh161, ch161, knh161, krh161⟩ := ho
                        show cw_X _ _ _ _ _ [] h161
                        have Fh161 : cw_Fr cw_Ds cw_sh mk_fm h0 h161 := cw_Fr_tr Fh154 (cw_Fr_mono (by decide +kernel) Ch161)
                        have Kh161 := zFK_tr Kh154 kh161
                        have eh161_111_4 : ri_at h161 111 4 = ri_at h0 111 4 := (ri_frf Ch161 (d := 12) rfl rfl (by decide +kernel)).trans fx153
                        have eh161_111_5 : ri_at h161 111 5 = ri_at h0 111 5 := (ri_frf Ch161 (d := 12) rfl rfl (by decide +kernel)).trans gx153
                        have eh161_111_6 : ri_at h161 111 6 = (n : Int) := (ri_frf Ch161 (d := 12) rfl rfl (by decide +kernel)).trans eh154_111_6
                        clear eh154_111_6
                        have eh161_111_7 : ri_at h161 111 7 = ((zx t n p : Nat) : Int) := (ri_frf Ch161 (d := 12) rfl rfl (by decide +kernel)).trans eh154_111_7
                        clear eh154_111_7
                        have eh161_111_8 : ri_at h161 111 8 = zk t n p := (ri_frf Ch161 (d := 12) rfl rfl (by decide +kernel)).trans eh154_111_8
                        clear eh154_111_8
                        have eh161_111_10 : ri_at h161 111 10 = ((za t n p : Nat) : Int) := (ri_frf Ch161 (d := 12) rfl rfl (by decide +kernel)).trans eh154_111_10
                        clear eh154_111_10
                        have eh161_111_11 : ri_at h161 111 11 = ri_at h0 111 11 := (ri_frf Ch161 (d := 12) rfl rfl (by decide +kernel)).trans eh154_111_11
                        clear eh154_111_11
                        have eh161_111_37 : ri_at h161 111 37 = (st.length : Int) := (ri_frf Ch161 (d := 12) rfl rfl (by decide +kernel)).trans eh154_111_37
                        clear eh154_111_37
                        have eh161_111_40 : ri_at h161 111 40 = kn + 1 := (ri_frf Ch161 (d := 12) rfl rfl (by decide +kernel)).trans bx153
                        have eh161_111_39 : ri_at h161 111 39 = zc0 st := (ri_frf Ch161 (d := 12) rfl rfl (by decide +kernel)).trans eh154_111_39
                        clear eh154_111_39
                        have eh161_111_41 : ri_at h161 111 41 = (1 : Int) := (ri_frf Ch161 (d := 12) rfl rfl (by decide +kernel)).trans eh154_111_41
                        clear eh154_111_41
                        have eh161_111_42 : ri_at h161 111 42 = m := (ri_frf Ch161 (d := 12) rfl rfl (by decide +kernel)).trans eh154_111_42
                        clear eh154_111_42
                        have Zh161 := zR_fr Ch161 Zh154 (by decide +kernel)
                        have fdh161 : zFd h161 V f (cs ++ [zw t n p]) := zFd_grown (zq_l (c := zw t n p) (by omega)).2.2.2.1 knh161 krh161 bh161 ch161 (by omega) (by (try simp only [List.length_cons] at *); omega)
                        refine ex_al oq_X12_leafRead_188 gL144_0 ?_
                        refine ex_ic oq_X12_leafRead_189 (m := 0) (by decide) (fun x162 hx162 => ?_)
                        refine ex_pfb oq_X12_leafRead_190 Th161 (k := 111) (d := 12) rfl rfl rfl (by omega) (by omega) (fun h163 Th163 wh163 => ?_)
                        have Fh163 : cw_Fr cw_Ds cw_sh mk_fm h0 h163 := cw_Fr_tr Fh161 (cw_Fr_wrf wh163 (k := 111) (d := 12) rfl rfl (by decide +kernel))
                        have Kh163 := zFK_wr (k := 111) wh163 (Nat.zero_le _) Kh161
                        have eh163_111_4 : ri_at h163 111 4 = ri_at h0 111 4 := (ri_ne wh163 (by decide)).trans eh161_111_4
                        clear eh161_111_4
                        have eh163_111_5 : ri_at h163 111 5 = ri_at h0 111 5 := (ri_ne wh163 (by decide)).trans eh161_111_5
                        clear eh161_111_5
                        have eh163_111_6 : ri_at h163 111 6 = (n : Int) := (ri_ne wh163 (by decide)).trans eh161_111_6
                        clear eh161_111_6
                        have eh163_111_7 : ri_at h163 111 7 = ((zx t n p : Nat) : Int) := (ri_ne wh163 (by decide)).trans eh161_111_7
                        clear eh161_111_7
                        have eh163_111_8 : ri_at h163 111 8 = zk t n p := (ri_ne wh163 (by decide)).trans eh161_111_8
                        clear eh161_111_8
                        have eh163_111_10 : ri_at h163 111 10 = ((za t n p : Nat) : Int) := (ri_ne wh163 (by decide)).trans eh161_111_10
                        clear eh161_111_10
                        have eh163_111_11 : ri_at h163 111 11 = ri_at h0 111 11 := (ri_ne wh163 (by decide)).trans eh161_111_11
                        clear eh161_111_11
                        have eh163_111_37 : ri_at h163 111 37 = (st.length : Int) := (ri_ne wh163 (by decide)).trans eh161_111_37
                        clear eh161_111_37
                        have eh163_111_38 : ri_at h163 111 38 = zcb st + (1 - 1) + 1 := (ri_ne wh163 (by decide)).trans bh161
                        have eh163_111_19 : ri_at h163 111 19 = K + 1 := (ri_ne wh163 (by decide)).trans ch161
                        have eh163_111_40 : ri_at h163 111 40 = kn + 1 := (ri_ne wh163 (by decide)).trans eh161_111_40
                        clear eh161_111_40
                        have eh163_111_39 : ri_at h163 111 39 = zc0 st := (ri_ne wh163 (by decide)).trans eh161_111_39
                        clear eh161_111_39
                        have eh163_111_41 : ri_at h163 111 41 = x162.toInt := ri_self wh163
                        have eh163_111_42 : ri_at h163 111 42 = m := (ri_ne wh163 (by decide)).trans eh161_111_42
                        clear eh161_111_42
                        have Zh163 := zR_wr wh163 Zh161 (.inr (by decide))
                        refine ex_al oq_X12_leafRead_193 gL144_0 ?_
                        refine ex_cv oq_X12_leafRead_194 (by decide) Th163 (k := 111) (d := 12) (as := []) (stk := []) rfl rfl rfl rfl rfl rfl ⟨rfl, rfl⟩ (R := fun o => ∃ hb : cv_H, o = (none, hb) ∧ cw_T G hb ∧ cw_Fr cw_Ds cw_sh kk_X12_token.2.2.2.2.2.1 h163 hb ∧ zR t n (zx t n p) hb) (rt_tok (t := t) (n := n) (p := (zx t n p)) (fun i hi => by rw [ht i hi, ← hA _ Fh163]) hn9 (fun i hi => by rw [hB _ Fh163]; exact hwr i hi) Th163 (zx_le (by omega)) (by omega) (by omega) (fun hb b1 b2 b3 => ⟨hb, rfl, b1, b2, b3⟩)) (fun o ho => ?_)
                        obtain ⟨h164, rfl, Th164, Ch164, Zh164⟩ := ho
                        show cw_X _ _ _ _ _ [] h164
                        have Fh164 : cw_Fr cw_Ds cw_sh mk_fm h0 h164 := cw_Fr_tr Fh163 (cw_Fr_mono (by decide +kernel) Ch164)
                        have Kh164 := zFK_fr Ch164 (by decide +kernel) Kh163
                        have eh164_111_4 : ri_at h164 111 4 = ri_at h0 111 4 := (ri_frf Ch164 (d := 12) rfl rfl (by decide +kernel)).trans eh163_111_4
                        clear eh163_111_4
                        have eh164_111_5 : ri_at h164 111 5 = ri_at h0 111 5 := (ri_frf Ch164 (d := 12) rfl rfl (by decide +kernel)).trans eh163_111_5
                        clear eh163_111_5
                        have eh164_111_11 : ri_at h164 111 11 = ri_at h0 111 11 := (ri_frf Ch164 (d := 12) rfl rfl (by decide +kernel)).trans eh163_111_11
                        clear eh163_111_11
                        have eh164_111_37 : ri_at h164 111 37 = (st.length : Int) := (ri_frf Ch164 (d := 12) rfl rfl (by decide +kernel)).trans eh163_111_37
                        clear eh163_111_37
                        have eh164_111_38 : ri_at h164 111 38 = zcb st + (1 - 1) + 1 := (ri_frf Ch164 (d := 12) rfl rfl (by decide +kernel)).trans eh163_111_38
                        clear eh163_111_38
                        have eh164_111_19 : ri_at h164 111 19 = K + 1 := (ri_frf Ch164 (d := 12) rfl rfl (by decide +kernel)).trans eh163_111_19
                        clear eh163_111_19
                        have eh164_111_40 : ri_at h164 111 40 = kn + 1 := (ri_frf Ch164 (d := 12) rfl rfl (by decide +kernel)).trans eh163_111_40
                        clear eh163_111_40
                        have eh164_111_39 : ri_at h164 111 39 = zc0 st := (ri_frf Ch164 (d := 12) rfl rfl (by decide +kernel)).trans eh163_111_39
                        clear eh163_111_39
                        have eh164_111_41 : ri_at h164 111 41 = x162.toInt := (ri_frf Ch164 (d := 12) rfl rfl (by decide +kernel)).trans eh163_111_41
                        clear eh163_111_41
                        have eh164_111_42 : ri_at h164 111 42 = m := (ri_frf Ch164 (d := 12) rfl rfl (by decide +kernel)).trans eh163_111_42
                        clear eh163_111_42
                        obtain ⟨yah164, ybh164, ych164, ydh164, -⟩ := id Zh164
                        have zlh164 := zx_le (t := t) (n := n) (p := (zx t n p)) (by omega)
                        clear eh163_111_6 eh163_111_10 eh163_111_7 eh163_111_8
                        refine ex_ic oq_X12_leafRead_197 (m := 1) (by decide) (fun x165 hx165 => ?_)
                        exact ex_retb oq_X12_leafRead_198 rfl (by omega) (by omega) (hQ x165 h164 Th164 Fh164 Kh164 (.inl ⟨(st, kn + 1, 0, m), _, (by unfold zlf; rw [if_neg (by omega), if_neg (by omega), if_pos (by omega), if_neg (by omega), if_neg (by omega)]), by omega, by omega, Zh164, by omega, by omega, ⟨(show zok _ from ho), (zrow_eq hrw (fun i => ((ri_frr Ch164 (k := 128) (d := 67) rfl rfl (by decide +kernel)).trans ((ri_ne wh163 (.inl (by decide))).trans ((ri_frr Ch161 (k := 128) (d := 67) rfl rfl (by decide +kernel)).trans (ri_frr Ch154 (k := 128) (d := 67) rfl rfl (by decide +kernel))))))), by dsimp only; (try simp only [List.length_cons]); omega, by dsimp only; omega, by dsimp only; omega, by dsimp only; omega, by dsimp only; omega, by dsimp only; omega, by dsimp only; omega⟩, (by rw [show zlC t n p cs = cs ++ [zw t n p] from by unfold zlC; rw [if_neg (by omega), if_pos (by omega)]]; exact (zFd_eq fdh161 (fun i => ((ri_frr Ch164 (k := 125) (d := 64) rfl rfl (by decide +kernel)).trans (ri_ne wh163 (.inl (by decide))))) (fun i => ((ri_frr Ch164 (k := 126) (d := 65) rfl rfl (by decide +kernel)).trans (ri_ne wh163 (.inl (by decide))))) (fun i => ((ri_frr Ch164 (k := 127) (d := 66) rfl rfl (by decide +kernel)).trans (ri_ne wh163 (.inl (by decide))))) (fun i => ((ri_frr Ch164 (k := 129) (d := 68) rfl rfl (by decide +kernel)).trans (ri_ne wh163 (.inl (by decide))))) ((ri_frf Ch164 (k := 111) (d := 12) (i := 38) rfl rfl (by decide +kernel)).trans (ri_ne wh163 (by decide))) ((ri_frf Ch164 (k := 111) (d := 12) (i := 19) rfl rfl (by decide +kernel)).trans (ri_ne wh163 (by decide)))))⟩))
                      · exfalso; omega
                    · exfalso; omega
                  · replace c155 : x153.toInt = 0 := by omega
                    obtain ⟨kx153, fx153, gx153⟩ := cnt_n dx153 c155
                    clear dx153
                    refine ex_ic oq_X12_leafRead_154 (m := 0) (by decide) (fun x166 hx166 => ?_)
                    exact ex_retb oq_X12_leafRead_155 rfl (by omega) (by omega) (hQ x166 h154 Th154 Fh154 Kh154 (.inr ⟨_, _, (by unfold zlf; rw [if_neg (by omega), if_neg (by omega), if_pos (by omega), if_neg (by omega), if_pos (by omega)]), by omega, by omega, by omega, by decide⟩))
                · refine ex_al oq_X12_leafRead_141 gL144_0 ?_
                  refine ex_ic oq_X12_leafRead_142 (m := 2) (by decide) (fun x167 hx167 => ?_)
                  refine ex_cv oq_X12_leafRead_143 (by decide) hT (k := 111) (d := 12) (as := [cv_i x167]) (stk := []) rfl rfl rfl rfl rfl rfl ⟨rfl, rfl⟩ (R := fun o => ∃ (x : Int32) (hb : cv_H), o = (some (cv_i x), hb) ∧ cw_T G hb ∧ cw_Fr cw_Ds cw_sh kk_X12_wrong.2.2.2.2.2.1 h0 hb ∧ x.toInt = 0 ∧ ri_at hb 111 4 = x167.toInt ∧ ri_at hb 111 5 = ri_at h0 111 10) (rt_wrong hT x167 (fun x hb b1 b2 b3 b4 b5 => ⟨x, hb, rfl, b1, b2, b3, b4, b5⟩)) (fun o ho => ?_)
                  obtain ⟨x168, h169, rfl, Th169, Ch169, zh169, fh169, ph169⟩ := ho
                  show cw_X _ _ _ _ _ [cv_i x168] h169
                  have Fh169 : cw_Fr cw_Ds cw_sh mk_fm h0 h169 := cw_Fr_tr Fh0 (cw_Fr_mono (by decide +kernel) Ch169)
                  have Kh169 := zFK_fr Ch169 (by decide +kernel) Kh0
                  exact ex_retb oq_X12_leafRead_146 rfl (by omega) (by omega) (hQ x168 h169 Th169 Fh169 Kh169 (.inr ⟨_, _, (by unfold zlf; rw [if_neg (by omega), if_neg (by omega), if_pos (by omega), if_pos (by omega)]), by omega, by omega, by omega, by decide⟩))
            · refine ex_al oq_X12_leafRead_121 gL144_0 ?_
              refine ex_ic oq_X12_leafRead_122 (m := 1) (by decide) (fun x170 hx170 => ?_)
              refine ex_cv oq_X12_leafRead_123 (by decide) hT (k := 111) (d := 12) (as := [cv_i x170]) (stk := []) rfl rfl rfl rfl rfl rfl ⟨rfl, rfl⟩ (R := fun o => ∃ (x : Int32) (hb : cv_H), o = (some (cv_i x), hb) ∧ cw_T G hb ∧ cw_Fr cw_Ds cw_sh kk_X12_wrong.2.2.2.2.2.1 h0 hb ∧ x.toInt = 0 ∧ ri_at hb 111 4 = x170.toInt ∧ ri_at hb 111 5 = ri_at h0 111 10) (rt_wrong hT x170 (fun x hb b1 b2 b3 b4 b5 => ⟨x, hb, rfl, b1, b2, b3, b4, b5⟩)) (fun o ho => ?_)
              obtain ⟨x171, h172, rfl, Th172, Ch172, zh172, fh172, ph172⟩ := ho
              show cw_X _ _ _ _ _ [cv_i x171] h172
              have Fh172 : cw_Fr cw_Ds cw_sh mk_fm h0 h172 := cw_Fr_tr Fh0 (cw_Fr_mono (by decide +kernel) Ch172)
              have Kh172 := zFK_fr Ch172 (by decide +kernel) Kh0
              exact ex_retb oq_X12_leafRead_126 rfl (by omega) (by omega) (hQ x171 h172 Th172 Fh172 Kh172 (.inr ⟨_, _, (by unfold zlf; rw [if_neg (by omega), if_neg (by omega), if_neg (by omega)]), by omega, by omega, by omega, by decide⟩))
        · refine ex_ic oq_X12_leafRead_103 (m := 1) (by decide) (fun x173 hx173 => ?_)
          refine ex_go oq_X12_leafRead_104 (t := 108) rfl rfl ?_
          refine ex_isA oq_X12_leafRead_108 (fun L174 gL174_1 kL174 => ?_)
          have gL174_0 : cv_get L174 0 = some (cv_r 111) := kL174 0 _ (by decide) (fun _ => rfl) rfl
          refine ex_il oq_X12_leafRead_109 gL174_1 ?_
          refine ex_if0 oq_X12_leafRead_110 (t := 127) rfl rfl (fun (c175 : ¬ x173.toInt = 0) => ?_) (fun (c175 : ¬ (¬ x173.toInt = 0)) => ?_)
          · refine ex_il oq_X12_leafRead_127 gL174_1 ?_
            refine ex_if0 oq_X12_leafRead_128 (t := 147) rfl rfl (fun (c176 : ¬ x173.toInt = 0) => ?_) (fun (c176 : ¬ (¬ x173.toInt = 0)) => ?_)
            · refine ex_al oq_X12_leafRead_147 gL174_0 ?_
              refine ex_cv oq_X12_leafRead_148 (by decide) hT (k := 111) (d := 12) (as := []) (stk := []) rfl rfl rfl rfl rfl rfl ⟨rfl, rfl⟩ (R := fun o => ∃ (x : Int32) (hb : cv_H), o = (some (cv_i x), hb) ∧ cw_T G hb ∧ cw_Fr cw_Ds cw_sh mk_cn h0 hb ∧ (x.toInt = 1 ∧ kn < 64 ∧ ri_at hb 111 40 = kn + 1 ∧ ri_at hb 111 4 = ri_at h0 111 4 ∧ ri_at hb 111 5 = ri_at h0 111 5 ∨ x.toInt = 0 ∧ kn = 64 ∧ ri_at hb 111 4 = 2 ∧ ri_at hb 111 5 = ri_at h0 111 10)) (rt_isCounted hT hct (fun x hb b1 b2 b3 => ⟨x, hb, rfl, b1, b2, b3⟩)) (fun o ho => ?_)
              obtain ⟨x177, h178, rfl, Th178, Ch178, dx177⟩ := ho
              show cw_X _ _ _ _ _ [cv_i x177] h178
              have Fh178 : cw_Fr cw_Ds cw_sh mk_fm h0 h178 := cw_Fr_tr Fh0 (cw_Fr_mono (by decide +kernel) Ch178)
              have Kh178 := zFK_fr Ch178 (by decide +kernel) Kh0
              have eh178_111_6 : ri_at h178 111 6 = (n : Int) := (ri_frf Ch178 (d := 12) rfl rfl (by decide +kernel)).trans z1
              have eh178_111_7 : ri_at h178 111 7 = ((zx t n p : Nat) : Int) := (ri_frf Ch178 (d := 12) rfl rfl (by decide +kernel)).trans z3
              have eh178_111_8 : ri_at h178 111 8 = zk t n p := (ri_frf Ch178 (d := 12) rfl rfl (by decide +kernel)).trans z4
              have eh178_111_10 : ri_at h178 111 10 = ((za t n p : Nat) : Int) := (ri_frf Ch178 (d := 12) rfl rfl (by decide +kernel)).trans z2
              have eh178_111_11 : ri_at h178 111 11 = ri_at h0 111 11 := ri_frf Ch178 (d := 12) rfl rfl (by decide +kernel)
              have eh178_111_37 : ri_at h178 111 37 = (st.length : Int) := (ri_frf Ch178 (d := 12) rfl rfl (by decide +kernel)).trans hwa
              have eh178_111_38 : ri_at h178 111 38 = zcb st + (1 - 1) := (ri_frf Ch178 (d := 12) rfl rfl (by decide +kernel)).trans hhe
              have eh178_111_19 : ri_at h178 111 19 = K := (ri_frf Ch178 (d := 12) rfl rfl (by decide +kernel)).trans hK
              have eh178_111_39 : ri_at h178 111 39 = zc0 st := (ri_frf Ch178 (d := 12) rfl rfl (by decide +kernel)).trans hbr
              have eh178_111_41 : ri_at h178 111 41 = (1 : Int) := (ri_frf Ch178 (d := 12) rfl rfl (by decide +kernel)).trans hwn
              have eh178_111_42 : ri_at h178 111 42 = m := (ri_frf Ch178 (d := 12) rfl rfl (by decide +kernel)).trans hmn
              have Zh178 := zR_fr Ch178 hz (by decide +kernel)
              refine ex_if0 oq_X12_leafRead_151 (t := 156) rfl rfl (fun (c179 : ¬ x177.toInt = 0) => ?_) (fun (c179 : ¬ (¬ x177.toInt = 0)) => ?_)
              · obtain ⟨_, kx177, bx177, fx177, gx177⟩ := cnt_y dx177 c179
                clear dx177
                refine ex_al oq_X12_leafRead_156 gL174_0 ?_
                refine ex_il oq_X12_leafRead_157 gL174_1 ?_
                refine ex_if0 oq_X12_leafRead_158 (t := 165) rfl rfl (fun (c180 : x173.toInt = 0) => ?_) (fun (c180 : ¬ (x173.toInt = 0)) => ?_)
                · exfalso; omega
                · replace c180 : ¬ x173.toInt = 0 := by omega
                  refine ex_ic oq_X12_leafRead_161 (m := 1) (by decide) (fun x181 hx181 => ?_)
                  refine ex_go oq_X12_leafRead_162 (t := 166) rfl rfl ?_
                  refine ex_il oq_X12_leafRead_166 gL174_1 ?_
                  refine ex_if0 oq_X12_leafRead_167 (t := 180) rfl rfl (fun (c182 : x173.toInt = 0) => ?_) (fun (c182 : ¬ (x173.toInt = 0)) => ?_)
                  · exfalso; omega
                  · replace c182 : ¬ x173.toInt = 0 := by omega
                    refine ex_al oq_X12_leafRead_170 gL174_0 ?_
                    obtain ⟨x183, ax183, rx183, lx183, ux183⟩ := fi_which Th178
                    refine ex_gf oq_X12_leafRead_171 Th178 (k := 111) (d := 12) rfl rfl ax183 ?_
                    have wx183 : x183.toInt = zw t n p := rx183.symm.trans (Zh178.2.2.2.2 (by omega) (by omega))
                    refine ex_bi oq_X12_leafRead_174 (m := 24) (by decide) (fun x184 hx184 => ?_)
                    refine ex_sub oq_X12_leafRead_176 (by omega) (fun x185 hx185 => ?_)
                    refine ex_go oq_X12_leafRead_177 (t := 184) rfl rfl ?_
                    refine ex_ic oq_X12_leafRead_184 (m := 0) (by decide) (fun x186 hx186 => ?_)
                    refine ex_cv oq_X12_leafRead_185 (by decide) Th178 (k := 111) (d := 12) (as := [cv_i x181, cv_i x185, cv_i x186]) (stk := []) rfl rfl rfl rfl rfl rfl ⟨rfl, rfl⟩ (R := fun o => ∃ (hb : cv_H), o = (none, hb) ∧ cw_T G hb ∧ cw_Fr cw_Ds cw_sh mk_gw h178 hb ∧ zFK h178 hb ∧ ri_at hb 111 38 = zcb st + (1 - 1) + 1 ∧ ri_at hb 111 19 = K + 1 ∧ zKV hb V f (cs ++ [10000 + (zw t n p - 24)]) ∧ zrow hb 129 ((K) :: zkS f [] cs)) (rt_grownK Th178 eh178_111_38 eh178_111_19 (by omega) (by omega) (by omega) (by omega) (f := f) (cs := cs) (S := zkS f [] cs) (c' := 10000 + (zw t n p - 24)) (zKV_eq hd.1 (fun j _ => ⟨(ri_frr Ch178 (k := 125) (d := 64) rfl rfl (by decide +kernel)), (ri_frr Ch178 (k := 126) (d := 65) rfl rfl (by decide +kernel)), (ri_frr Ch178 (k := 127) (d := 66) rfl rfl (by decide +kernel))⟩)) (zrow_eq hd.2.1 (fun i => (ri_frr Ch178 (k := 129) (d := 68) rfl rfl (by decide +kernel)))) (by (try simp only [List.length_cons] at *); omega) (by omega) (by rw [(zq_l (S := zkS f [] cs) (c := 10000 + (zw t n p - 24)) (by omega)).1, if_neg (by omega)]; omega) (by rw [(zq_l (S := zkS f [] cs) (c := 10000 + (zw t n p - 24)) (by omega)).2.1, if_neg (by omega)]; omega) (by rw [(zq_l (S := zkS f [] cs) (c := 10000 + (zw t n p - 24)) (by omega)).2.2.1]; omega) (zq_l (S := zkS f [] cs) (c := 10000 + (zw t n p - 24)) (by omega)).2.2.2.2 (fun hb b1 b2 bk b3 b4 b5 b6 => ⟨hb, rfl, b1, b2, bk, b3, b4, b5, b6⟩)) (fun o ho => ?_)
                    obtain ⟨h187, rfl, Th187, Ch187, kh187, bh187, ch187, knh187, krh187⟩ := ho
                    show cw_X _ _ _ _ _ [] h187
                    have Fh187 : cw_Fr cw_Ds cw_sh mk_fm h0 h187 := cw_Fr_tr Fh178 (cw_Fr_mono (by decide +kernel) Ch187)
                    have Kh187 := zFK_tr Kh178 kh187
                    have eh187_111_4 : ri_at h187 111 4 = ri_at h0 111 4 := (ri_frf Ch187 (d := 12) rfl rfl (by decide +kernel)).trans fx177
                    have eh187_111_5 : ri_at h187 111 5 = ri_at h0 111 5 := (ri_frf Ch187 (d := 12) rfl rfl (by decide +kernel)).trans gx177
                    have eh187_111_6 : ri_at h187 111 6 = (n : Int) := (ri_frf Ch187 (d := 12) rfl rfl (by decide +kernel)).trans eh178_111_6
                    clear eh178_111_6
                    have eh187_111_7 : ri_at h187 111 7 = ((zx t n p : Nat) : Int) := (ri_frf Ch187 (d := 12) rfl rfl (by decide +kernel)).trans eh178_111_7
                    clear eh178_111_7
                    have eh187_111_8 : ri_at h187 111 8 = zk t n p := (ri_frf Ch187 (d := 12) rfl rfl (by decide +kernel)).trans eh178_111_8
                    clear eh178_111_8
                    have eh187_111_10 : ri_at h187 111 10 = ((za t n p : Nat) : Int) := (ri_frf Ch187 (d := 12) rfl rfl (by decide +kernel)).trans eh178_111_10
                    clear eh178_111_10
                    have eh187_111_11 : ri_at h187 111 11 = ri_at h0 111 11 := (ri_frf Ch187 (d := 12) rfl rfl (by decide +kernel)).trans eh178_111_11
                    clear eh178_111_11
                    have eh187_111_37 : ri_at h187 111 37 = (st.length : Int) := (ri_frf Ch187 (d := 12) rfl rfl (by decide +kernel)).trans eh178_111_37
                    clear eh178_111_37
                    have eh187_111_40 : ri_at h187 111 40 = kn + 1 := (ri_frf Ch187 (d := 12) rfl rfl (by decide +kernel)).trans bx177
                    have eh187_111_39 : ri_at h187 111 39 = zc0 st := (ri_frf Ch187 (d := 12) rfl rfl (by decide +kernel)).trans eh178_111_39
                    clear eh178_111_39
                    have eh187_111_41 : ri_at h187 111 41 = (1 : Int) := (ri_frf Ch187 (d := 12) rfl rfl (by decide +kernel)).trans eh178_111_41
                    clear eh178_111_41
                    have eh187_111_42 : ri_at h187 111 42 = m := (ri_frf Ch187 (d := 12) rfl rfl (by decide +kernel)).trans eh178_111_42
                    clear eh178_111_42
                    have Zh187 := zR_fr Ch187 Zh178 (by decide +kernel)
                    have fdh187 : zFd h187 V f (cs ++ [10000 + (zw t n p - 24)]) := zFd_grown (zq_l (c := 10000 + (zw t n p - 24)) (by omega)).2.2.2.1 knh187 krh187 bh187 ch187 (by omega) (by (try simp only [List.length_cons] at *); omega)
                    refine ex_al oq_X12_leafRead_188 gL174_0 ?_
                    refine ex_ic oq_X12_leafRead_189 (m := 0) (by decide) (fun x188 hx188 => ?_)
                    refine ex_pfb oq_X12_leafRead_190 Th187 (k := 111) (d := 12) rfl rfl rfl (by omega) (by omega) (fun h189 Th189 wh189 => ?_)
                    have Fh189 : cw_Fr cw_Ds cw_sh mk_fm h0 h189 := cw_Fr_tr Fh187 (cw_Fr_wrf wh189 (k := 111) (d := 12) rfl rfl (by decide +kernel))
                    have Kh189 := zFK_wr (k := 111) wh189 (Nat.zero_le _) Kh187
                    have eh189_111_4 : ri_at h189 111 4 = ri_at h0 111 4 := (ri_ne wh189 (by decide)).trans eh187_111_4
                    clear eh187_111_4
                    have eh189_111_5 : ri_at h189 111 5 = ri_at h0 111 5 := (ri_ne wh189 (by decide)).trans eh187_111_5
                    clear eh187_111_5
                    have eh189_111_6 : ri_at h189 111 6 = (n : Int) := (ri_ne wh189 (by decide)).trans eh187_111_6
                    clear eh187_111_6
                    have eh189_111_7 : ri_at h189 111 7 = ((zx t n p : Nat) : Int) := (ri_ne wh189 (by decide)).trans eh187_111_7
                    clear eh187_111_7
                    have eh189_111_8 : ri_at h189 111 8 = zk t n p := (ri_ne wh189 (by decide)).trans eh187_111_8
                    clear eh187_111_8
                    have eh189_111_10 : ri_at h189 111 10 = ((za t n p : Nat) : Int) := (ri_ne wh189 (by decide)).trans eh187_111_10
                    clear eh187_111_10
                    have eh189_111_11 : ri_at h189 111 11 = ri_at h0 111 11 := (ri_ne wh189 (by decide)).trans eh187_111_11
                    clear eh187_111_11
                    have eh189_111_37 : ri_at h189 111 37 = (st.length : Int) := (ri_ne wh189 (by decide)).trans eh187_111_37
                    clear eh187_111_37
                    have eh189_111_38 : ri_at h189 111 38 = zcb st + (1 - 1) + 1 := (ri_ne wh189 (by decide)).trans bh187
                    have eh189_111_19 : ri_at h189 111 19 = K + 1 := (ri_ne wh189 (by decide)).trans ch187
                    have eh189_111_40 : ri_at h189 111 40 = kn + 1 := (ri_ne wh189 (by decide)).trans eh187_111_40
                    clear eh187_111_40
                    have eh189_111_39 : ri_at h189 111 39 = zc0 st := (ri_ne wh189 (by decide)).trans eh187_111_39
                    clear eh187_111_39
                    have eh189_111_41 : ri_at h189 111 41 = x188.toInt := ri_self wh189
                    have eh189_111_42 : ri_at h189 111 42 = m := (ri_ne wh189 (by decide)).trans eh187_111_42
                    clear eh187_111_42
                    have Zh189 := zR_wr wh189 Zh187 (.inr (by decide))
                    refine ex_al oq_X12_leafRead_193 gL174_0 ?_
                    refine ex_cv oq_X12_leafRead_194 (by decide) Th189 (k := 111) (d := 12) (as := []) (stk := []) rfl rfl rfl rfl rfl rfl ⟨rfl, rfl⟩ (R := fun o => ∃ hb : cv_H, o = (none, hb) ∧ cw_T G hb ∧ cw_Fr cw_Ds cw_sh kk_X12_token.2.2.2.2.2.1 h189 hb ∧ zR t n (zx t n p) hb) (rt_tok (t := t) (n := n) (p := (zx t n p)) (fun i hi => by rw [ht i hi, ← hA _ Fh189]) hn9 (fun i hi => by rw [hB _ Fh189]; exact hwr i hi) Th189 (zx_le (by omega)) (by omega) (by omega) (fun hb b1 b2 b3 => ⟨hb, rfl, b1, b2, b3⟩)) (fun o ho => ?_)
                    obtain ⟨h190, rfl, Th190, Ch190, Zh190⟩ := ho
                    show cw_X _ _ _ _ _ [] h190
                    have Fh190 : cw_Fr cw_Ds cw_sh mk_fm h0 h190 := cw_Fr_tr Fh189 (cw_Fr_mono (by decide +kernel) Ch190)
                    have Kh190 := zFK_fr Ch190 (by decide +kernel) Kh189
                    have eh190_111_4 : ri_at h190 111 4 = ri_at h0 111 4 := (ri_frf Ch190 (d := 12) rfl rfl (by decide +kernel)).trans eh189_111_4
                    clear eh189_111_4
                    have eh190_111_5 : ri_at h190 111 5 = ri_at h0 111 5 := (ri_frf Ch190 (d := 12) rfl rfl (by decide +kernel)).trans eh189_111_5
                    clear eh189_111_5
                    have eh190_111_11 : ri_at h190 111 11 = ri_at h0 111 11 := (ri_frf Ch190 (d := 12) rfl rfl (by decide +kernel)).trans eh189_111_11
                    clear eh189_111_11
                    have eh190_111_37 : ri_at h190 111 37 = (st.length : Int) := (ri_frf Ch190 (d := 12) rfl rfl (by decide +kernel)).trans eh189_111_37
                    clear eh189_111_37
                    have eh190_111_38 : ri_at h190 111 38 = zcb st + (1 - 1) + 1 := (ri_frf Ch190 (d := 12) rfl rfl (by decide +kernel)).trans eh189_111_38
                    clear eh189_111_38
                    have eh190_111_19 : ri_at h190 111 19 = K + 1 := (ri_frf Ch190 (d := 12) rfl rfl (by decide +kernel)).trans eh189_111_19
                    clear eh189_111_19
                    have eh190_111_40 : ri_at h190 111 40 = kn + 1 := (ri_frf Ch190 (d := 12) rfl rfl (by decide +kernel)).trans eh189_111_40
                    clear eh189_111_40
                    have eh190_111_39 : ri_at h190 111 39 = zc0 st := (ri_frf Ch190 (d := 12) rfl rfl (by decide +kernel)).trans eh189_111_39
                    clear eh189_111_39
                    have eh190_111_41 : ri_at h190 111 41 = x188.toInt := (ri_frf Ch190 (d := 12) rfl rfl (by decide +kernel)).trans eh189_111_41
                    clear eh189_111_41
                    have eh190_111_42 : ri_at h190 111 42 = m := (ri_frf Ch190 (d := 12) rfl rfl (by decide +kernel)).trans eh189_111_42
                    clear eh189_111_42
                    obtain ⟨yah190, ybh190, ych190, ydh190, -⟩ := id Zh190
                    have zlh190 := zx_le (t := t) (n := n) (p := (zx t n p)) (by omega)
                    clear eh189_111_6 eh189_111_10 eh189_111_7 eh189_111_8
                    refine ex_ic oq_X12_leafRead_197 (m := 1) (by decide) (fun x191 hx191 => ?_)
                    exact ex_retb oq_X12_leafRead_198 rfl (by omega) (by omega) (hQ x191 h190 Th190 Fh190 Kh190 (.inl ⟨(st, kn + 1, 0, m), _, (by unfold zlf; rw [if_neg (by omega), if_neg (by omega), if_pos (by omega), if_neg (by omega), if_neg (by omega)]), by omega, by omega, Zh190, by omega, by omega, ⟨(show zok _ from ho), (zrow_eq hrw (fun i => ((ri_frr Ch190 (k := 128) (d := 67) rfl rfl (by decide +kernel)).trans ((ri_ne wh189 (.inl (by decide))).trans ((ri_frr Ch187 (k := 128) (d := 67) rfl rfl (by decide +kernel)).trans (ri_frr Ch178 (k := 128) (d := 67) rfl rfl (by decide +kernel))))))), by dsimp only; (try simp only [List.length_cons]); omega, by dsimp only; omega, by dsimp only; omega, by dsimp only; omega, by dsimp only; omega, by dsimp only; omega, by dsimp only; omega⟩, (by rw [show zlC t n p cs = cs ++ [10000 + (zw t n p - 24)] from by unfold zlC; rw [if_neg (by omega), if_neg (by omega)]]; exact (zFd_eq fdh187 (fun i => ((ri_frr Ch190 (k := 125) (d := 64) rfl rfl (by decide +kernel)).trans (ri_ne wh189 (.inl (by decide))))) (fun i => ((ri_frr Ch190 (k := 126) (d := 65) rfl rfl (by decide +kernel)).trans (ri_ne wh189 (.inl (by decide))))) (fun i => ((ri_frr Ch190 (k := 127) (d := 66) rfl rfl (by decide +kernel)).trans (ri_ne wh189 (.inl (by decide))))) (fun i => ((ri_frr Ch190 (k := 129) (d := 68) rfl rfl (by decide +kernel)).trans (ri_ne wh189 (.inl (by decide))))) ((ri_frf Ch190 (k := 111) (d := 12) (i := 38) rfl rfl (by decide +kernel)).trans (ri_ne wh189 (by decide))) ((ri_frf Ch190 (k := 111) (d := 12) (i := 19) rfl rfl (by decide +kernel)).trans (ri_ne wh189 (by decide)))))⟩))
              · replace c179 : x177.toInt = 0 := by omega
                obtain ⟨kx177, fx177, gx177⟩ := cnt_n dx177 c179
                clear dx177
                refine ex_ic oq_X12_leafRead_154 (m := 0) (by decide) (fun x192 hx192 => ?_)
                exact ex_retb oq_X12_leafRead_155 rfl (by omega) (by omega) (hQ x192 h178 Th178 Fh178 Kh178 (.inr ⟨_, _, (by unfold zlf; rw [if_neg (by omega), if_neg (by omega), if_pos (by omega), if_neg (by omega), if_pos (by omega)]), by omega, by omega, by omega, by decide⟩))
            · exfalso; omega
          · exfalso; omega
    · replace c106 : ¬ x105.toInt = 0 := by omega
      obtain ⟨_, dx105, dx105b⟩ := isin_y dx105 c106
      refine ex_al oq_X12_leafRead_59 rfl ?_
      obtain ⟨x193, ax193, rx193, lx193, ux193⟩ := fi_mayNot hT
      refine ex_gf oq_X12_leafRead_60 hT (k := 111) (d := 12) rfl rfl ax193 ?_
      have rx193 := (rx193.symm.trans hmn : x193.toInt = m)
      refine ex_if0 oq_X12_leafRead_63 (t := 86) rfl rfl (fun (c194 : x193.toInt = 0) => ?_) (fun (c194 : ¬ (x193.toInt = 0)) => ?_)
      · refine ex_al oq_X12_leafRead_86 rfl ?_
        obtain ⟨x195, ax195, rx195, lx195, ux195⟩ := fi_kind hT
        refine ex_gf oq_X12_leafRead_87 hT (k := 111) (d := 12) rfl rfl ax195 ?_
        have rx195 := (rx195.symm.trans z4 : x195.toInt = zk t n p)
        refine ex_ic oq_X12_leafRead_90 (m := 1) (by decide) (fun x196 hx196 => ?_)
        refine ex_if oq_X12_leafRead_91 (t := 107) rfl rfl (fun (c197 : ¬ x195.toInt = x196.toInt) => ?_) (fun (c197 : ¬ (¬ x195.toInt = x196.toInt)) => ?_)
        · refine ex_ic oq_X12_leafRead_107 (m := 0) (by decide) (fun x198 hx198 => ?_)
          refine ex_isA oq_X12_leafRead_108 (fun L199 gL199_1 kL199 => ?_)
          have gL199_0 : cv_get L199 0 = some (cv_r 111) := kL199 0 _ (by decide) (fun _ => rfl) rfl
          refine ex_il oq_X12_leafRead_109 gL199_1 ?_
          refine ex_if0 oq_X12_leafRead_110 (t := 127) rfl rfl (fun (c200 : ¬ x198.toInt = 0) => ?_) (fun (c200 : ¬ (¬ x198.toInt = 0)) => ?_)
          · exfalso; omega
          · replace c200 : x198.toInt = 0 := by omega
            refine ex_al oq_X12_leafRead_113 gL199_0 ?_
            obtain ⟨x201, ax201, rx201, lx201, ux201⟩ := fi_kind hT
            refine ex_gf oq_X12_leafRead_114 hT (k := 111) (d := 12) rfl rfl ax201 ?_
            have rx201 := (rx201.symm.trans z4 : x201.toInt = zk t n p)
            refine ex_ic oq_X12_leafRead_117 (m := 3) (by decide) (fun x202 hx202 => ?_)
            refine ex_if oq_X12_leafRead_118 (t := 127) rfl rfl (fun (c203 : x201.toInt = x202.toInt) => ?_) (fun (c203 : ¬ (x201.toInt = x202.toInt)) => ?_)
            · refine ex_il oq_X12_leafRead_127 gL199_1 ?_
              refine ex_if0 oq_X12_leafRead_128 (t := 147) rfl rfl (fun (c204 : ¬ x198.toInt = 0) => ?_) (fun (c204 : ¬ (¬ x198.toInt = 0)) => ?_)
              · exfalso; omega
              · replace c204 : x198.toInt = 0 := by omega
                refine ex_al oq_X12_leafRead_131 gL199_0 ?_
                obtain ⟨x205, ax205, rx205, lx205, ux205⟩ := fi_which hT
                refine ex_gf oq_X12_leafRead_132 hT (k := 111) (d := 12) rfl rfl ax205 ?_
                have wx205 : x205.toInt = zw t n p := rx205.symm.trans (hz.2.2.2.2 (by omega) (by omega))
                refine ex_si oq_X12_leafRead_135 (m := 9999) (by decide) (fun x206 hx206 => ?_)
                refine ex_if oq_X12_leafRead_138 (t := 147) rfl rfl (fun (c207 : x205.toInt ≤ x206.toInt) => ?_) (fun (c207 : ¬ (x205.toInt ≤ x206.toInt)) => ?_)
                · refine ex_al oq_X12_leafRead_147 gL199_0 ?_
                  refine ex_cv oq_X12_leafRead_148 (by decide) hT (k := 111) (d := 12) (as := []) (stk := []) rfl rfl rfl rfl rfl rfl ⟨rfl, rfl⟩ (R := fun o => ∃ (x : Int32) (hb : cv_H), o = (some (cv_i x), hb) ∧ cw_T G hb ∧ cw_Fr cw_Ds cw_sh mk_cn h0 hb ∧ (x.toInt = 1 ∧ kn < 64 ∧ ri_at hb 111 40 = kn + 1 ∧ ri_at hb 111 4 = ri_at h0 111 4 ∧ ri_at hb 111 5 = ri_at h0 111 5 ∨ x.toInt = 0 ∧ kn = 64 ∧ ri_at hb 111 4 = 2 ∧ ri_at hb 111 5 = ri_at h0 111 10)) (rt_isCounted hT hct (fun x hb b1 b2 b3 => ⟨x, hb, rfl, b1, b2, b3⟩)) (fun o ho => ?_)
                  obtain ⟨x208, h209, rfl, Th209, Ch209, dx208⟩ := ho
                  show cw_X _ _ _ _ _ [cv_i x208] h209
                  have Fh209 : cw_Fr cw_Ds cw_sh mk_fm h0 h209 := cw_Fr_tr Fh0 (cw_Fr_mono (by decide +kernel) Ch209)
                  have Kh209 := zFK_fr Ch209 (by decide +kernel) Kh0
                  have eh209_111_6 : ri_at h209 111 6 = (n : Int) := (ri_frf Ch209 (d := 12) rfl rfl (by decide +kernel)).trans z1
                  have eh209_111_7 : ri_at h209 111 7 = ((zx t n p : Nat) : Int) := (ri_frf Ch209 (d := 12) rfl rfl (by decide +kernel)).trans z3
                  have eh209_111_8 : ri_at h209 111 8 = zk t n p := (ri_frf Ch209 (d := 12) rfl rfl (by decide +kernel)).trans z4
                  have eh209_111_10 : ri_at h209 111 10 = ((za t n p : Nat) : Int) := (ri_frf Ch209 (d := 12) rfl rfl (by decide +kernel)).trans z2
                  have eh209_111_11 : ri_at h209 111 11 = ri_at h0 111 11 := ri_frf Ch209 (d := 12) rfl rfl (by decide +kernel)
                  have eh209_111_37 : ri_at h209 111 37 = (st.length : Int) := (ri_frf Ch209 (d := 12) rfl rfl (by decide +kernel)).trans hwa
                  have eh209_111_38 : ri_at h209 111 38 = zcb st + (1 - 1) := (ri_frf Ch209 (d := 12) rfl rfl (by decide +kernel)).trans hhe
                  have eh209_111_19 : ri_at h209 111 19 = K := (ri_frf Ch209 (d := 12) rfl rfl (by decide +kernel)).trans hK
                  have eh209_111_39 : ri_at h209 111 39 = zc0 st := (ri_frf Ch209 (d := 12) rfl rfl (by decide +kernel)).trans hbr
                  have eh209_111_41 : ri_at h209 111 41 = (1 : Int) := (ri_frf Ch209 (d := 12) rfl rfl (by decide +kernel)).trans hwn
                  have eh209_111_42 : ri_at h209 111 42 = m := (ri_frf Ch209 (d := 12) rfl rfl (by decide +kernel)).trans hmn
                  have Zh209 := zR_fr Ch209 hz (by decide +kernel)
                  refine ex_if0 oq_X12_leafRead_151 (t := 156) rfl rfl (fun (c210 : ¬ x208.toInt = 0) => ?_) (fun (c210 : ¬ (¬ x208.toInt = 0)) => ?_)
                  · obtain ⟨_, kx208, bx208, fx208, gx208⟩ := cnt_y dx208 c210
                    clear dx208
                    refine ex_al oq_X12_leafRead_156 gL199_0 ?_
                    refine ex_il oq_X12_leafRead_157 gL199_1 ?_
                    refine ex_if0 oq_X12_leafRead_158 (t := 165) rfl rfl (fun (c211 : x198.toInt = 0) => ?_) (fun (c211 : ¬ (x198.toInt = 0)) => ?_)
                    · refine ex_ic oq_X12_leafRead_165 (m := 0) (by decide) (fun x212 hx212 => ?_)
                      refine ex_il oq_X12_leafRead_166 gL199_1 ?_
                      refine ex_if0 oq_X12_leafRead_167 (t := 180) rfl rfl (fun (c213 : x198.toInt = 0) => ?_) (fun (c213 : ¬ (x198.toInt = 0)) => ?_)
                      · refine ex_al oq_X12_leafRead_180 gL199_0 ?_
                        obtain ⟨x214, ax214, rx214, lx214, ux214⟩ := fi_which Th209
                        refine ex_gf oq_X12_leafRead_181 Th209 (k := 111) (d := 12) rfl rfl ax214 ?_
                        have wx214 : x214.toInt = zw t n p := rx214.symm.trans (Zh209.2.2.2.2 (by omega) (by omega))
                        refine ex_ic oq_X12_leafRead_184 (m := 0) (by decide) (fun x215 hx215 => ?_)
                        refine ex_cv oq_X12_leafRead_185 (by decide) Th209 (k := 111) (d := 12) (as := [cv_i x212, cv_i x214, cv_i x215]) (stk := []) rfl rfl rfl rfl rfl rfl ⟨rfl, rfl⟩ (R := fun o => ∃ (hb : cv_H), o = (none, hb) ∧ cw_T G hb ∧ cw_Fr cw_Ds cw_sh mk_gw h209 hb ∧ zFK h209 hb ∧ ri_at hb 111 38 = zcb st + (1 - 1) + 1 ∧ ri_at hb 111 19 = K + 1 ∧ zKV hb V f (cs ++ [zw t n p]) ∧ zrow hb 129 ((K) :: zkS f [] cs)) (rt_grownK Th209 eh209_111_38 eh209_111_19 (by omega) (by omega) (by omega) (by omega) (f := f) (cs := cs) (S := zkS f [] cs) (c' := zw t n p) (zKV_eq hd.1 (fun j _ => ⟨(ri_frr Ch209 (k := 125) (d := 64) rfl rfl (by decide +kernel)), (ri_frr Ch209 (k := 126) (d := 65) rfl rfl (by decide +kernel)), (ri_frr Ch209 (k := 127) (d := 66) rfl rfl (by decide +kernel))⟩)) (zrow_eq hd.2.1 (fun i => (ri_frr Ch209 (k := 129) (d := 68) rfl rfl (by decide +kernel)))) (by (try simp only [List.length_cons] at *); omega) (by omega) (by rw [(zq_l (S := zkS f [] cs) (c := zw t n p) (by omega)).1, if_pos (by omega)]; omega) (by rw [(zq_l (S := zkS f [] cs) (c := zw t n p) (by omega)).2.1, if_pos (by omega)]; omega) (by rw [(zq_l (S := zkS f [] cs) (c := zw t n p) (by omega)).2.2.1]; omega) (zq_l (S := zkS f [] cs) (c := zw t n p) (by omega)).2.2.2.2 (fun hb b1 b2 bk b3 b4 b5 b6 => ⟨hb, rfl, b1, b2, bk, b3, b4, b5, b6⟩)) (fun o ho => ?_)
                        obtain ⟨h216, rfl, Th216, Ch216, kh216, bh216, ch216, knh216, krh216⟩ := ho
                        show cw_X _ _ _ _ _ [] h216
                        have Fh216 : cw_Fr cw_Ds cw_sh mk_fm h0 h216 := cw_Fr_tr Fh209 (cw_Fr_mono (by decide +kernel) Ch216)
                        have Kh216 := zFK_tr Kh209 kh216
                        have eh216_111_4 : ri_at h216 111 4 = ri_at h0 111 4 := (ri_frf Ch216 (d := 12) rfl rfl (by decide +kernel)).trans fx208
                        have eh216_111_5 : ri_at h216 111 5 = ri_at h0 111 5 := (ri_frf Ch216 (d := 12) rfl rfl (by decide +kernel)).trans gx208
                        have eh216_111_6 : ri_at h216 111 6 = (n : Int) := (ri_frf Ch216 (d := 12) rfl rfl (by decide +kernel)).trans eh209_111_6
                        clear eh209_111_6
                        have eh216_111_7 : ri_at h216 111 7 = ((zx t n p : Nat) : Int) := (ri_frf Ch216 (d := 12) rfl rfl (by decide +kernel)).trans eh209_111_7
                        clear eh209_111_7
                        have eh216_111_8 : ri_at h216 111 8 = zk t n p := (ri_frf Ch216 (d := 12) rfl rfl (by decide +kernel)).trans eh209_111_8
                        clear eh209_111_8
                        have eh216_111_10 : ri_at h216 111 10 = ((za t n p : Nat) : Int) := (ri_frf Ch216 (d := 12) rfl rfl (by decide +kernel)).trans eh209_111_10
                        clear eh209_111_10
                        have eh216_111_11 : ri_at h216 111 11 = ri_at h0 111 11 := (ri_frf Ch216 (d := 12) rfl rfl (by decide +kernel)).trans eh209_111_11
                        clear eh209_111_11
                        have eh216_111_37 : ri_at h216 111 37 = (st.length : Int) := (ri_frf Ch216 (d := 12) rfl rfl (by decide +kernel)).trans eh209_111_37
                        clear eh209_111_37
                        have eh216_111_40 : ri_at h216 111 40 = kn + 1 := (ri_frf Ch216 (d := 12) rfl rfl (by decide +kernel)).trans bx208
                        have eh216_111_39 : ri_at h216 111 39 = zc0 st := (ri_frf Ch216 (d := 12) rfl rfl (by decide +kernel)).trans eh209_111_39
                        clear eh209_111_39
                        have eh216_111_41 : ri_at h216 111 41 = (1 : Int) := (ri_frf Ch216 (d := 12) rfl rfl (by decide +kernel)).trans eh209_111_41
                        clear eh209_111_41
                        have eh216_111_42 : ri_at h216 111 42 = m := (ri_frf Ch216 (d := 12) rfl rfl (by decide +kernel)).trans eh209_111_42
                        clear eh209_111_42
                        have Zh216 := zR_fr Ch216 Zh209 (by decide +kernel)
                        have fdh216 : zFd h216 V f (cs ++ [zw t n p]) := zFd_grown (zq_l (c := zw t n p) (by omega)).2.2.2.1 knh216 krh216 bh216 ch216 (by omega) (by (try simp only [List.length_cons] at *); omega)
                        refine ex_al oq_X12_leafRead_188 gL199_0 ?_
                        refine ex_ic oq_X12_leafRead_189 (m := 0) (by decide) (fun x217 hx217 => ?_)
                        refine ex_pfb oq_X12_leafRead_190 Th216 (k := 111) (d := 12) rfl rfl rfl (by omega) (by omega) (fun h218 Th218 wh218 => ?_)
                        have Fh218 : cw_Fr cw_Ds cw_sh mk_fm h0 h218 := cw_Fr_tr Fh216 (cw_Fr_wrf wh218 (k := 111) (d := 12) rfl rfl (by decide +kernel))
                        have Kh218 := zFK_wr (k := 111) wh218 (Nat.zero_le _) Kh216
                        have eh218_111_4 : ri_at h218 111 4 = ri_at h0 111 4 := (ri_ne wh218 (by decide)).trans eh216_111_4
                        clear eh216_111_4
                        have eh218_111_5 : ri_at h218 111 5 = ri_at h0 111 5 := (ri_ne wh218 (by decide)).trans eh216_111_5
                        clear eh216_111_5
                        have eh218_111_6 : ri_at h218 111 6 = (n : Int) := (ri_ne wh218 (by decide)).trans eh216_111_6
                        clear eh216_111_6
                        have eh218_111_7 : ri_at h218 111 7 = ((zx t n p : Nat) : Int) := (ri_ne wh218 (by decide)).trans eh216_111_7
                        clear eh216_111_7
                        have eh218_111_8 : ri_at h218 111 8 = zk t n p := (ri_ne wh218 (by decide)).trans eh216_111_8
                        clear eh216_111_8
                        have eh218_111_10 : ri_at h218 111 10 = ((za t n p : Nat) : Int) := (ri_ne wh218 (by decide)).trans eh216_111_10
                        clear eh216_111_10
                        have eh218_111_11 : ri_at h218 111 11 = ri_at h0 111 11 := (ri_ne wh218 (by decide)).trans eh216_111_11
                        clear eh216_111_11
                        have eh218_111_37 : ri_at h218 111 37 = (st.length : Int) := (ri_ne wh218 (by decide)).trans eh216_111_37
                        clear eh216_111_37
                        have eh218_111_38 : ri_at h218 111 38 = zcb st + (1 - 1) + 1 := (ri_ne wh218 (by decide)).trans bh216
                        have eh218_111_19 : ri_at h218 111 19 = K + 1 := (ri_ne wh218 (by decide)).trans ch216
                        have eh218_111_40 : ri_at h218 111 40 = kn + 1 := (ri_ne wh218 (by decide)).trans eh216_111_40
                        clear eh216_111_40
                        have eh218_111_39 : ri_at h218 111 39 = zc0 st := (ri_ne wh218 (by decide)).trans eh216_111_39
                        clear eh216_111_39
                        have eh218_111_41 : ri_at h218 111 41 = x217.toInt := ri_self wh218
                        have eh218_111_42 : ri_at h218 111 42 = m := (ri_ne wh218 (by decide)).trans eh216_111_42
                        clear eh216_111_42
                        have Zh218 := zR_wr wh218 Zh216 (.inr (by decide))
                        refine ex_al oq_X12_leafRead_193 gL199_0 ?_
                        refine ex_cv oq_X12_leafRead_194 (by decide) Th218 (k := 111) (d := 12) (as := []) (stk := []) rfl rfl rfl rfl rfl rfl ⟨rfl, rfl⟩ (R := fun o => ∃ hb : cv_H, o = (none, hb) ∧ cw_T G hb ∧ cw_Fr cw_Ds cw_sh kk_X12_token.2.2.2.2.2.1 h218 hb ∧ zR t n (zx t n p) hb) (rt_tok (t := t) (n := n) (p := (zx t n p)) (fun i hi => by rw [ht i hi, ← hA _ Fh218]) hn9 (fun i hi => by rw [hB _ Fh218]; exact hwr i hi) Th218 (zx_le (by omega)) (by omega) (by omega) (fun hb b1 b2 b3 => ⟨hb, rfl, b1, b2, b3⟩)) (fun o ho => ?_)
                        obtain ⟨h219, rfl, Th219, Ch219, Zh219⟩ := ho
                        show cw_X _ _ _ _ _ [] h219
                        have Fh219 : cw_Fr cw_Ds cw_sh mk_fm h0 h219 := cw_Fr_tr Fh218 (cw_Fr_mono (by decide +kernel) Ch219)
                        have Kh219 := zFK_fr Ch219 (by decide +kernel) Kh218
                        have eh219_111_4 : ri_at h219 111 4 = ri_at h0 111 4 := (ri_frf Ch219 (d := 12) rfl rfl (by decide +kernel)).trans eh218_111_4
                        clear eh218_111_4
                        have eh219_111_5 : ri_at h219 111 5 = ri_at h0 111 5 := (ri_frf Ch219 (d := 12) rfl rfl (by decide +kernel)).trans eh218_111_5
                        clear eh218_111_5
                        have eh219_111_11 : ri_at h219 111 11 = ri_at h0 111 11 := (ri_frf Ch219 (d := 12) rfl rfl (by decide +kernel)).trans eh218_111_11
                        clear eh218_111_11
                        have eh219_111_37 : ri_at h219 111 37 = (st.length : Int) := (ri_frf Ch219 (d := 12) rfl rfl (by decide +kernel)).trans eh218_111_37
                        clear eh218_111_37
                        have eh219_111_38 : ri_at h219 111 38 = zcb st + (1 - 1) + 1 := (ri_frf Ch219 (d := 12) rfl rfl (by decide +kernel)).trans eh218_111_38
                        clear eh218_111_38
                        have eh219_111_19 : ri_at h219 111 19 = K + 1 := (ri_frf Ch219 (d := 12) rfl rfl (by decide +kernel)).trans eh218_111_19
                        clear eh218_111_19
                        have eh219_111_40 : ri_at h219 111 40 = kn + 1 := (ri_frf Ch219 (d := 12) rfl rfl (by decide +kernel)).trans eh218_111_40
                        clear eh218_111_40
                        have eh219_111_39 : ri_at h219 111 39 = zc0 st := (ri_frf Ch219 (d := 12) rfl rfl (by decide +kernel)).trans eh218_111_39
                        clear eh218_111_39
                        have eh219_111_41 : ri_at h219 111 41 = x217.toInt := (ri_frf Ch219 (d := 12) rfl rfl (by decide +kernel)).trans eh218_111_41
                        clear eh218_111_41
                        have eh219_111_42 : ri_at h219 111 42 = m := (ri_frf Ch219 (d := 12) rfl rfl (by decide +kernel)).trans eh218_111_42
                        clear eh218_111_42
                        obtain ⟨yah219, ybh219, ych219, ydh219, -⟩ := id Zh219
                        have zlh219 := zx_le (t := t) (n := n) (p := (zx t n p)) (by omega)
                        clear eh218_111_6 eh218_111_10 eh218_111_7 eh218_111_8
                        refine ex_ic oq_X12_leafRead_197 (m := 1) (by decide) (fun x220 hx220 => ?_)
                        exact ex_retb oq_X12_leafRead_198 rfl (by omega) (by omega) (hQ x220 h219 Th219 Fh219 Kh219 (.inl ⟨(st, kn + 1, 0, m), _, (by unfold zlf; rw [if_neg (by omega), if_neg (by omega), if_pos (by omega), if_neg (by omega), if_neg (by omega)]), by omega, by omega, Zh219, by omega, by omega, ⟨(show zok _ from ho), (zrow_eq hrw (fun i => ((ri_frr Ch219 (k := 128) (d := 67) rfl rfl (by decide +kernel)).trans ((ri_ne wh218 (.inl (by decide))).trans ((ri_frr Ch216 (k := 128) (d := 67) rfl rfl (by decide +kernel)).trans (ri_frr Ch209 (k := 128) (d := 67) rfl rfl (by decide +kernel))))))), by dsimp only; (try simp only [List.length_cons]); omega, by dsimp only; omega, by dsimp only; omega, by dsimp only; omega, by dsimp only; omega, by dsimp only; omega, by dsimp only; omega⟩, (by rw [show zlC t n p cs = cs ++ [zw t n p] from by unfold zlC; rw [if_neg (by omega), if_pos (by omega)]]; exact (zFd_eq fdh216 (fun i => ((ri_frr Ch219 (k := 125) (d := 64) rfl rfl (by decide +kernel)).trans (ri_ne wh218 (.inl (by decide))))) (fun i => ((ri_frr Ch219 (k := 126) (d := 65) rfl rfl (by decide +kernel)).trans (ri_ne wh218 (.inl (by decide))))) (fun i => ((ri_frr Ch219 (k := 127) (d := 66) rfl rfl (by decide +kernel)).trans (ri_ne wh218 (.inl (by decide))))) (fun i => ((ri_frr Ch219 (k := 129) (d := 68) rfl rfl (by decide +kernel)).trans (ri_ne wh218 (.inl (by decide))))) ((ri_frf Ch219 (k := 111) (d := 12) (i := 38) rfl rfl (by decide +kernel)).trans (ri_ne wh218 (by decide))) ((ri_frf Ch219 (k := 111) (d := 12) (i := 19) rfl rfl (by decide +kernel)).trans (ri_ne wh218 (by decide)))))⟩))
                      · exfalso; omega
                    · exfalso; omega
                  · replace c210 : x208.toInt = 0 := by omega
                    obtain ⟨kx208, fx208, gx208⟩ := cnt_n dx208 c210
                    clear dx208
                    refine ex_ic oq_X12_leafRead_154 (m := 0) (by decide) (fun x221 hx221 => ?_)
                    exact ex_retb oq_X12_leafRead_155 rfl (by omega) (by omega) (hQ x221 h209 Th209 Fh209 Kh209 (.inr ⟨_, _, (by unfold zlf; rw [if_neg (by omega), if_neg (by omega), if_pos (by omega), if_neg (by omega), if_pos (by omega)]), by omega, by omega, by omega, by decide⟩))
                · refine ex_al oq_X12_leafRead_141 gL199_0 ?_
                  refine ex_ic oq_X12_leafRead_142 (m := 2) (by decide) (fun x222 hx222 => ?_)
                  refine ex_cv oq_X12_leafRead_143 (by decide) hT (k := 111) (d := 12) (as := [cv_i x222]) (stk := []) rfl rfl rfl rfl rfl rfl ⟨rfl, rfl⟩ (R := fun o => ∃ (x : Int32) (hb : cv_H), o = (some (cv_i x), hb) ∧ cw_T G hb ∧ cw_Fr cw_Ds cw_sh kk_X12_wrong.2.2.2.2.2.1 h0 hb ∧ x.toInt = 0 ∧ ri_at hb 111 4 = x222.toInt ∧ ri_at hb 111 5 = ri_at h0 111 10) (rt_wrong hT x222 (fun x hb b1 b2 b3 b4 b5 => ⟨x, hb, rfl, b1, b2, b3, b4, b5⟩)) (fun o ho => ?_)
                  obtain ⟨x223, h224, rfl, Th224, Ch224, zh224, fh224, ph224⟩ := ho
                  show cw_X _ _ _ _ _ [cv_i x223] h224
                  have Fh224 : cw_Fr cw_Ds cw_sh mk_fm h0 h224 := cw_Fr_tr Fh0 (cw_Fr_mono (by decide +kernel) Ch224)
                  have Kh224 := zFK_fr Ch224 (by decide +kernel) Kh0
                  exact ex_retb oq_X12_leafRead_146 rfl (by omega) (by omega) (hQ x223 h224 Th224 Fh224 Kh224 (.inr ⟨_, _, (by unfold zlf; rw [if_neg (by omega), if_neg (by omega), if_pos (by omega), if_pos (by omega)]), by omega, by omega, by omega, by decide⟩))
            · refine ex_al oq_X12_leafRead_121 gL199_0 ?_
              refine ex_ic oq_X12_leafRead_122 (m := 1) (by decide) (fun x225 hx225 => ?_)
              refine ex_cv oq_X12_leafRead_123 (by decide) hT (k := 111) (d := 12) (as := [cv_i x225]) (stk := []) rfl rfl rfl rfl rfl rfl ⟨rfl, rfl⟩ (R := fun o => ∃ (x : Int32) (hb : cv_H), o = (some (cv_i x), hb) ∧ cw_T G hb ∧ cw_Fr cw_Ds cw_sh kk_X12_wrong.2.2.2.2.2.1 h0 hb ∧ x.toInt = 0 ∧ ri_at hb 111 4 = x225.toInt ∧ ri_at hb 111 5 = ri_at h0 111 10) (rt_wrong hT x225 (fun x hb b1 b2 b3 b4 b5 => ⟨x, hb, rfl, b1, b2, b3, b4, b5⟩)) (fun o ho => ?_)
              obtain ⟨x226, h227, rfl, Th227, Ch227, zh227, fh227, ph227⟩ := ho
              show cw_X _ _ _ _ _ [cv_i x226] h227
              have Fh227 : cw_Fr cw_Ds cw_sh mk_fm h0 h227 := cw_Fr_tr Fh0 (cw_Fr_mono (by decide +kernel) Ch227)
              have Kh227 := zFK_fr Ch227 (by decide +kernel) Kh0
              exact ex_retb oq_X12_leafRead_126 rfl (by omega) (by omega) (hQ x226 h227 Th227 Fh227 Kh227 (.inr ⟨_, _, (by unfold zlf; rw [if_neg (by omega), if_neg (by omega), if_neg (by omega)]), by omega, by omega, by omega, by decide⟩))
        · refine ex_al oq_X12_leafRead_94 rfl ?_
          obtain ⟨x228, ax228, rx228, lx228, ux228⟩ := fi_which hT
          refine ex_gf oq_X12_leafRead_95 hT (k := 111) (d := 12) rfl rfl ax228 ?_
          have wx228 : x228.toInt = zw t n p := rx228.symm.trans (hz.2.2.2.2 (by omega) (by omega))
          refine ex_bi oq_X12_leafRead_98 (m := 24) (by decide) (fun x229 hx229 => ?_)
          refine ex_if oq_X12_leafRead_100 (t := 107) rfl rfl (fun (c230 : x228.toInt < x229.toInt) => ?_) (fun (c230 : ¬ (x228.toInt < x229.toInt)) => ?_)
          · refine ex_ic oq_X12_leafRead_107 (m := 0) (by decide) (fun x231 hx231 => ?_)
            refine ex_isA oq_X12_leafRead_108 (fun L232 gL232_1 kL232 => ?_)
            have gL232_0 : cv_get L232 0 = some (cv_r 111) := kL232 0 _ (by decide) (fun _ => rfl) rfl
            refine ex_il oq_X12_leafRead_109 gL232_1 ?_
            refine ex_if0 oq_X12_leafRead_110 (t := 127) rfl rfl (fun (c233 : ¬ x231.toInt = 0) => ?_) (fun (c233 : ¬ (¬ x231.toInt = 0)) => ?_)
            · exfalso; omega
            · replace c233 : x231.toInt = 0 := by omega
              refine ex_al oq_X12_leafRead_113 gL232_0 ?_
              obtain ⟨x234, ax234, rx234, lx234, ux234⟩ := fi_kind hT
              refine ex_gf oq_X12_leafRead_114 hT (k := 111) (d := 12) rfl rfl ax234 ?_
              have rx234 := (rx234.symm.trans z4 : x234.toInt = zk t n p)
              refine ex_ic oq_X12_leafRead_117 (m := 3) (by decide) (fun x235 hx235 => ?_)
              refine ex_if oq_X12_leafRead_118 (t := 127) rfl rfl (fun (c236 : x234.toInt = x235.toInt) => ?_) (fun (c236 : ¬ (x234.toInt = x235.toInt)) => ?_)
              · refine ex_il oq_X12_leafRead_127 gL232_1 ?_
                refine ex_if0 oq_X12_leafRead_128 (t := 147) rfl rfl (fun (c237 : ¬ x231.toInt = 0) => ?_) (fun (c237 : ¬ (¬ x231.toInt = 0)) => ?_)
                · exfalso; omega
                · replace c237 : x231.toInt = 0 := by omega
                  refine ex_al oq_X12_leafRead_131 gL232_0 ?_
                  obtain ⟨x238, ax238, rx238, lx238, ux238⟩ := fi_which hT
                  refine ex_gf oq_X12_leafRead_132 hT (k := 111) (d := 12) rfl rfl ax238 ?_
                  have wx238 : x238.toInt = zw t n p := rx238.symm.trans (hz.2.2.2.2 (by omega) (by omega))
                  refine ex_si oq_X12_leafRead_135 (m := 9999) (by decide) (fun x239 hx239 => ?_)
                  refine ex_if oq_X12_leafRead_138 (t := 147) rfl rfl (fun (c240 : x238.toInt ≤ x239.toInt) => ?_) (fun (c240 : ¬ (x238.toInt ≤ x239.toInt)) => ?_)
                  · refine ex_al oq_X12_leafRead_147 gL232_0 ?_
                    refine ex_cv oq_X12_leafRead_148 (by decide) hT (k := 111) (d := 12) (as := []) (stk := []) rfl rfl rfl rfl rfl rfl ⟨rfl, rfl⟩ (R := fun o => ∃ (x : Int32) (hb : cv_H), o = (some (cv_i x), hb) ∧ cw_T G hb ∧ cw_Fr cw_Ds cw_sh mk_cn h0 hb ∧ (x.toInt = 1 ∧ kn < 64 ∧ ri_at hb 111 40 = kn + 1 ∧ ri_at hb 111 4 = ri_at h0 111 4 ∧ ri_at hb 111 5 = ri_at h0 111 5 ∨ x.toInt = 0 ∧ kn = 64 ∧ ri_at hb 111 4 = 2 ∧ ri_at hb 111 5 = ri_at h0 111 10)) (rt_isCounted hT hct (fun x hb b1 b2 b3 => ⟨x, hb, rfl, b1, b2, b3⟩)) (fun o ho => ?_)
                    obtain ⟨x241, h242, rfl, Th242, Ch242, dx241⟩ := ho
                    show cw_X _ _ _ _ _ [cv_i x241] h242
                    have Fh242 : cw_Fr cw_Ds cw_sh mk_fm h0 h242 := cw_Fr_tr Fh0 (cw_Fr_mono (by decide +kernel) Ch242)
                    have Kh242 := zFK_fr Ch242 (by decide +kernel) Kh0
                    have eh242_111_6 : ri_at h242 111 6 = (n : Int) := (ri_frf Ch242 (d := 12) rfl rfl (by decide +kernel)).trans z1
                    have eh242_111_7 : ri_at h242 111 7 = ((zx t n p : Nat) : Int) := (ri_frf Ch242 (d := 12) rfl rfl (by decide +kernel)).trans z3
                    have eh242_111_8 : ri_at h242 111 8 = zk t n p := (ri_frf Ch242 (d := 12) rfl rfl (by decide +kernel)).trans z4
                    have eh242_111_10 : ri_at h242 111 10 = ((za t n p : Nat) : Int) := (ri_frf Ch242 (d := 12) rfl rfl (by decide +kernel)).trans z2
                    have eh242_111_11 : ri_at h242 111 11 = ri_at h0 111 11 := ri_frf Ch242 (d := 12) rfl rfl (by decide +kernel)
                    have eh242_111_37 : ri_at h242 111 37 = (st.length : Int) := (ri_frf Ch242 (d := 12) rfl rfl (by decide +kernel)).trans hwa
                    have eh242_111_38 : ri_at h242 111 38 = zcb st + (1 - 1) := (ri_frf Ch242 (d := 12) rfl rfl (by decide +kernel)).trans hhe
                    have eh242_111_19 : ri_at h242 111 19 = K := (ri_frf Ch242 (d := 12) rfl rfl (by decide +kernel)).trans hK
                    have eh242_111_39 : ri_at h242 111 39 = zc0 st := (ri_frf Ch242 (d := 12) rfl rfl (by decide +kernel)).trans hbr
                    have eh242_111_41 : ri_at h242 111 41 = (1 : Int) := (ri_frf Ch242 (d := 12) rfl rfl (by decide +kernel)).trans hwn
                    have eh242_111_42 : ri_at h242 111 42 = m := (ri_frf Ch242 (d := 12) rfl rfl (by decide +kernel)).trans hmn
                    have Zh242 := zR_fr Ch242 hz (by decide +kernel)
                    refine ex_if0 oq_X12_leafRead_151 (t := 156) rfl rfl (fun (c243 : ¬ x241.toInt = 0) => ?_) (fun (c243 : ¬ (¬ x241.toInt = 0)) => ?_)
                    · obtain ⟨_, kx241, bx241, fx241, gx241⟩ := cnt_y dx241 c243
                      clear dx241
                      refine ex_al oq_X12_leafRead_156 gL232_0 ?_
                      refine ex_il oq_X12_leafRead_157 gL232_1 ?_
                      refine ex_if0 oq_X12_leafRead_158 (t := 165) rfl rfl (fun (c244 : x231.toInt = 0) => ?_) (fun (c244 : ¬ (x231.toInt = 0)) => ?_)
                      · refine ex_ic oq_X12_leafRead_165 (m := 0) (by decide) (fun x245 hx245 => ?_)
                        refine ex_il oq_X12_leafRead_166 gL232_1 ?_
                        refine ex_if0 oq_X12_leafRead_167 (t := 180) rfl rfl (fun (c246 : x231.toInt = 0) => ?_) (fun (c246 : ¬ (x231.toInt = 0)) => ?_)
                        · refine ex_al oq_X12_leafRead_180 gL232_0 ?_
                          obtain ⟨x247, ax247, rx247, lx247, ux247⟩ := fi_which Th242
                          refine ex_gf oq_X12_leafRead_181 Th242 (k := 111) (d := 12) rfl rfl ax247 ?_
                          have wx247 : x247.toInt = zw t n p := rx247.symm.trans (Zh242.2.2.2.2 (by omega) (by omega))
                          refine ex_ic oq_X12_leafRead_184 (m := 0) (by decide) (fun x248 hx248 => ?_)
                          refine ex_cv oq_X12_leafRead_185 (by decide) Th242 (k := 111) (d := 12) (as := [cv_i x245, cv_i x247, cv_i x248]) (stk := []) rfl rfl rfl rfl rfl rfl ⟨rfl, rfl⟩ (R := fun o => ∃ (hb : cv_H), o = (none, hb) ∧ cw_T G hb ∧ cw_Fr cw_Ds cw_sh mk_gw h242 hb ∧ zFK h242 hb ∧ ri_at hb 111 38 = zcb st + (1 - 1) + 1 ∧ ri_at hb 111 19 = K + 1 ∧ zKV hb V f (cs ++ [zw t n p]) ∧ zrow hb 129 ((K) :: zkS f [] cs)) (rt_grownK Th242 eh242_111_38 eh242_111_19 (by omega) (by omega) (by omega) (by omega) (f := f) (cs := cs) (S := zkS f [] cs) (c' := zw t n p) (zKV_eq hd.1 (fun j _ => ⟨(ri_frr Ch242 (k := 125) (d := 64) rfl rfl (by decide +kernel)), (ri_frr Ch242 (k := 126) (d := 65) rfl rfl (by decide +kernel)), (ri_frr Ch242 (k := 127) (d := 66) rfl rfl (by decide +kernel))⟩)) (zrow_eq hd.2.1 (fun i => (ri_frr Ch242 (k := 129) (d := 68) rfl rfl (by decide +kernel)))) (by (try simp only [List.length_cons] at *); omega) (by omega) (by rw [(zq_l (S := zkS f [] cs) (c := zw t n p) (by omega)).1, if_pos (by omega)]; omega) (by rw [(zq_l (S := zkS f [] cs) (c := zw t n p) (by omega)).2.1, if_pos (by omega)]; omega) (by rw [(zq_l (S := zkS f [] cs) (c := zw t n p) (by omega)).2.2.1]; omega) (zq_l (S := zkS f [] cs) (c := zw t n p) (by omega)).2.2.2.2 (fun hb b1 b2 bk b3 b4 b5 b6 => ⟨hb, rfl, b1, b2, bk, b3, b4, b5, b6⟩)) (fun o ho => ?_)
                          obtain ⟨h249, rfl, Th249, Ch249, kh249, bh249, ch249, knh249, krh249⟩ := ho
                          show cw_X _ _ _ _ _ [] h249
                          have Fh249 : cw_Fr cw_Ds cw_sh mk_fm h0 h249 := cw_Fr_tr Fh242 (cw_Fr_mono (by decide +kernel) Ch249)
                          have Kh249 := zFK_tr Kh242 kh249
                          have eh249_111_4 : ri_at h249 111 4 = ri_at h0 111 4 := (ri_frf Ch249 (d := 12) rfl rfl (by decide +kernel)).trans fx241
                          have eh249_111_5 : ri_at h249 111 5 = ri_at h0 111 5 := (ri_frf Ch249 (d := 12) rfl rfl (by decide +kernel)).trans gx241
                          have eh249_111_6 : ri_at h249 111 6 = (n : Int) := (ri_frf Ch249 (d := 12) rfl rfl (by decide +kernel)).trans eh242_111_6
                          clear eh242_111_6
                          have eh249_111_7 : ri_at h249 111 7 = ((zx t n p : Nat) : Int) := (ri_frf Ch249 (d := 12) rfl rfl (by decide +kernel)).trans eh242_111_7
                          clear eh242_111_7
                          have eh249_111_8 : ri_at h249 111 8 = zk t n p := (ri_frf Ch249 (d := 12) rfl rfl (by decide +kernel)).trans eh242_111_8
                          clear eh242_111_8
                          have eh249_111_10 : ri_at h249 111 10 = ((za t n p : Nat) : Int) := (ri_frf Ch249 (d := 12) rfl rfl (by decide +kernel)).trans eh242_111_10
                          clear eh242_111_10
                          have eh249_111_11 : ri_at h249 111 11 = ri_at h0 111 11 := (ri_frf Ch249 (d := 12) rfl rfl (by decide +kernel)).trans eh242_111_11
                          clear eh242_111_11
                          have eh249_111_37 : ri_at h249 111 37 = (st.length : Int) := (ri_frf Ch249 (d := 12) rfl rfl (by decide +kernel)).trans eh242_111_37
                          clear eh242_111_37
                          have eh249_111_40 : ri_at h249 111 40 = kn + 1 := (ri_frf Ch249 (d := 12) rfl rfl (by decide +kernel)).trans bx241
                          have eh249_111_39 : ri_at h249 111 39 = zc0 st := (ri_frf Ch249 (d := 12) rfl rfl (by decide +kernel)).trans eh242_111_39
                          clear eh242_111_39
                          have eh249_111_41 : ri_at h249 111 41 = (1 : Int) := (ri_frf Ch249 (d := 12) rfl rfl (by decide +kernel)).trans eh242_111_41
                          clear eh242_111_41
                          have eh249_111_42 : ri_at h249 111 42 = m := (ri_frf Ch249 (d := 12) rfl rfl (by decide +kernel)).trans eh242_111_42
                          clear eh242_111_42
                          have Zh249 := zR_fr Ch249 Zh242 (by decide +kernel)
                          have fdh249 : zFd h249 V f (cs ++ [zw t n p]) := zFd_grown (zq_l (c := zw t n p) (by omega)).2.2.2.1 knh249 krh249 bh249 ch249 (by omega) (by (try simp only [List.length_cons] at *); omega)
                          refine ex_al oq_X12_leafRead_188 gL232_0 ?_
                          refine ex_ic oq_X12_leafRead_189 (m := 0) (by decide) (fun x250 hx250 => ?_)
                          refine ex_pfb oq_X12_leafRead_190 Th249 (k := 111) (d := 12) rfl rfl rfl (by omega) (by omega) (fun h251 Th251 wh251 => ?_)
                          have Fh251 : cw_Fr cw_Ds cw_sh mk_fm h0 h251 := cw_Fr_tr Fh249 (cw_Fr_wrf wh251 (k := 111) (d := 12) rfl rfl (by decide +kernel))
                          have Kh251 := zFK_wr (k := 111) wh251 (Nat.zero_le _) Kh249
                          have eh251_111_4 : ri_at h251 111 4 = ri_at h0 111 4 := (ri_ne wh251 (by decide)).trans eh249_111_4
                          clear eh249_111_4
                          have eh251_111_5 : ri_at h251 111 5 = ri_at h0 111 5 := (ri_ne wh251 (by decide)).trans eh249_111_5
                          clear eh249_111_5
                          have eh251_111_6 : ri_at h251 111 6 = (n : Int) := (ri_ne wh251 (by decide)).trans eh249_111_6
                          clear eh249_111_6
                          have eh251_111_7 : ri_at h251 111 7 = ((zx t n p : Nat) : Int) := (ri_ne wh251 (by decide)).trans eh249_111_7
                          clear eh249_111_7
                          have eh251_111_8 : ri_at h251 111 8 = zk t n p := (ri_ne wh251 (by decide)).trans eh249_111_8
                          clear eh249_111_8
                          have eh251_111_10 : ri_at h251 111 10 = ((za t n p : Nat) : Int) := (ri_ne wh251 (by decide)).trans eh249_111_10
                          clear eh249_111_10
                          have eh251_111_11 : ri_at h251 111 11 = ri_at h0 111 11 := (ri_ne wh251 (by decide)).trans eh249_111_11
                          clear eh249_111_11
                          have eh251_111_37 : ri_at h251 111 37 = (st.length : Int) := (ri_ne wh251 (by decide)).trans eh249_111_37
                          clear eh249_111_37
                          have eh251_111_38 : ri_at h251 111 38 = zcb st + (1 - 1) + 1 := (ri_ne wh251 (by decide)).trans bh249
                          have eh251_111_19 : ri_at h251 111 19 = K + 1 := (ri_ne wh251 (by decide)).trans ch249
                          have eh251_111_40 : ri_at h251 111 40 = kn + 1 := (ri_ne wh251 (by decide)).trans eh249_111_40
                          clear eh249_111_40
                          have eh251_111_39 : ri_at h251 111 39 = zc0 st := (ri_ne wh251 (by decide)).trans eh249_111_39
                          clear eh249_111_39
                          have eh251_111_41 : ri_at h251 111 41 = x250.toInt := ri_self wh251
                          have eh251_111_42 : ri_at h251 111 42 = m := (ri_ne wh251 (by decide)).trans eh249_111_42
                          clear eh249_111_42
                          have Zh251 := zR_wr wh251 Zh249 (.inr (by decide))
                          refine ex_al oq_X12_leafRead_193 gL232_0 ?_
                          refine ex_cv oq_X12_leafRead_194 (by decide) Th251 (k := 111) (d := 12) (as := []) (stk := []) rfl rfl rfl rfl rfl rfl ⟨rfl, rfl⟩ (R := fun o => ∃ hb : cv_H, o = (none, hb) ∧ cw_T G hb ∧ cw_Fr cw_Ds cw_sh kk_X12_token.2.2.2.2.2.1 h251 hb ∧ zR t n (zx t n p) hb) (rt_tok (t := t) (n := n) (p := (zx t n p)) (fun i hi => by rw [ht i hi, ← hA _ Fh251]) hn9 (fun i hi => by rw [hB _ Fh251]; exact hwr i hi) Th251 (zx_le (by omega)) (by omega) (by omega) (fun hb b1 b2 b3 => ⟨hb, rfl, b1, b2, b3⟩)) (fun o ho => ?_)
                          obtain ⟨h252, rfl, Th252, Ch252, Zh252⟩ := ho
                          show cw_X _ _ _ _ _ [] h252
                          have Fh252 : cw_Fr cw_Ds cw_sh mk_fm h0 h252 := cw_Fr_tr Fh251 (cw_Fr_mono (by decide +kernel) Ch252)
                          have Kh252 := zFK_fr Ch252 (by decide +kernel) Kh251
                          have eh252_111_4 : ri_at h252 111 4 = ri_at h0 111 4 := (ri_frf Ch252 (d := 12) rfl rfl (by decide +kernel)).trans eh251_111_4
                          clear eh251_111_4
                          have eh252_111_5 : ri_at h252 111 5 = ri_at h0 111 5 := (ri_frf Ch252 (d := 12) rfl rfl (by decide +kernel)).trans eh251_111_5
                          clear eh251_111_5
                          have eh252_111_11 : ri_at h252 111 11 = ri_at h0 111 11 := (ri_frf Ch252 (d := 12) rfl rfl (by decide +kernel)).trans eh251_111_11
                          clear eh251_111_11
                          have eh252_111_37 : ri_at h252 111 37 = (st.length : Int) := (ri_frf Ch252 (d := 12) rfl rfl (by decide +kernel)).trans eh251_111_37
                          clear eh251_111_37
                          have eh252_111_38 : ri_at h252 111 38 = zcb st + (1 - 1) + 1 := (ri_frf Ch252 (d := 12) rfl rfl (by decide +kernel)).trans eh251_111_38
                          clear eh251_111_38
                          have eh252_111_19 : ri_at h252 111 19 = K + 1 := (ri_frf Ch252 (d := 12) rfl rfl (by decide +kernel)).trans eh251_111_19
                          clear eh251_111_19
                          have eh252_111_40 : ri_at h252 111 40 = kn + 1 := (ri_frf Ch252 (d := 12) rfl rfl (by decide +kernel)).trans eh251_111_40
                          clear eh251_111_40
                          have eh252_111_39 : ri_at h252 111 39 = zc0 st := (ri_frf Ch252 (d := 12) rfl rfl (by decide +kernel)).trans eh251_111_39
                          clear eh251_111_39
                          have eh252_111_41 : ri_at h252 111 41 = x250.toInt := (ri_frf Ch252 (d := 12) rfl rfl (by decide +kernel)).trans eh251_111_41
                          clear eh251_111_41
                          have eh252_111_42 : ri_at h252 111 42 = m := (ri_frf Ch252 (d := 12) rfl rfl (by decide +kernel)).trans eh251_111_42
                          clear eh251_111_42
                          obtain ⟨yah252, ybh252, ych252, ydh252, -⟩ := id Zh252
                          have zlh252 := zx_le (t := t) (n := n) (p := (zx t n p)) (by omega)
                          clear eh251_111_6 eh251_111_10 eh251_111_7 eh251_111_8
                          refine ex_ic oq_X12_leafRead_197 (m := 1) (by decide) (fun x253 hx253 => ?_)
                          exact ex_retb oq_X12_leafRead_198 rfl (by omega) (by omega) (hQ x253 h252 Th252 Fh252 Kh252 (.inl ⟨(st, kn + 1, 0, m), _, (by unfold zlf; rw [if_neg (by omega), if_neg (by omega), if_pos (by omega), if_neg (by omega), if_neg (by omega)]), by omega, by omega, Zh252, by omega, by omega, ⟨(show zok _ from ho), (zrow_eq hrw (fun i => ((ri_frr Ch252 (k := 128) (d := 67) rfl rfl (by decide +kernel)).trans ((ri_ne wh251 (.inl (by decide))).trans ((ri_frr Ch249 (k := 128) (d := 67) rfl rfl (by decide +kernel)).trans (ri_frr Ch242 (k := 128) (d := 67) rfl rfl (by decide +kernel))))))), by dsimp only; (try simp only [List.length_cons]); omega, by dsimp only; omega, by dsimp only; omega, by dsimp only; omega, by dsimp only; omega, by dsimp only; omega, by dsimp only; omega⟩, (by rw [show zlC t n p cs = cs ++ [zw t n p] from by unfold zlC; rw [if_neg (by omega), if_pos (by omega)]]; exact (zFd_eq fdh249 (fun i => ((ri_frr Ch252 (k := 125) (d := 64) rfl rfl (by decide +kernel)).trans (ri_ne wh251 (.inl (by decide))))) (fun i => ((ri_frr Ch252 (k := 126) (d := 65) rfl rfl (by decide +kernel)).trans (ri_ne wh251 (.inl (by decide))))) (fun i => ((ri_frr Ch252 (k := 127) (d := 66) rfl rfl (by decide +kernel)).trans (ri_ne wh251 (.inl (by decide))))) (fun i => ((ri_frr Ch252 (k := 129) (d := 68) rfl rfl (by decide +kernel)).trans (ri_ne wh251 (.inl (by decide))))) ((ri_frf Ch252 (k := 111) (d := 12) (i := 38) rfl rfl (by decide +kernel)).trans (ri_ne wh251 (by decide))) ((ri_frf Ch252 (k := 111) (d := 12) (i := 19) rfl rfl (by decide +kernel)).trans (ri_ne wh251 (by decide)))))⟩))
                        · exfalso; omega
                      · exfalso; omega
                    · replace c243 : x241.toInt = 0 := by omega
                      obtain ⟨kx241, fx241, gx241⟩ := cnt_n dx241 c243
                      clear dx241
                      refine ex_ic oq_X12_leafRead_154 (m := 0) (by decide) (fun x254 hx254 => ?_)
                      exact ex_retb oq_X12_leafRead_155 rfl (by omega) (by omega) (hQ x254 h242 Th242 Fh242 Kh242 (.inr ⟨_, _, (by unfold zlf; rw [if_neg (by omega), if_neg (by omega), if_pos (by omega), if_neg (by omega), if_pos (by omega)]), by omega, by omega, by omega, by decide⟩))
                  · refine ex_al oq_X12_leafRead_141 gL232_0 ?_
                    refine ex_ic oq_X12_leafRead_142 (m := 2) (by decide) (fun x255 hx255 => ?_)
                    refine ex_cv oq_X12_leafRead_143 (by decide) hT (k := 111) (d := 12) (as := [cv_i x255]) (stk := []) rfl rfl rfl rfl rfl rfl ⟨rfl, rfl⟩ (R := fun o => ∃ (x : Int32) (hb : cv_H), o = (some (cv_i x), hb) ∧ cw_T G hb ∧ cw_Fr cw_Ds cw_sh kk_X12_wrong.2.2.2.2.2.1 h0 hb ∧ x.toInt = 0 ∧ ri_at hb 111 4 = x255.toInt ∧ ri_at hb 111 5 = ri_at h0 111 10) (rt_wrong hT x255 (fun x hb b1 b2 b3 b4 b5 => ⟨x, hb, rfl, b1, b2, b3, b4, b5⟩)) (fun o ho => ?_)
                    obtain ⟨x256, h257, rfl, Th257, Ch257, zh257, fh257, ph257⟩ := ho
                    show cw_X _ _ _ _ _ [cv_i x256] h257
                    have Fh257 : cw_Fr cw_Ds cw_sh mk_fm h0 h257 := cw_Fr_tr Fh0 (cw_Fr_mono (by decide +kernel) Ch257)
                    have Kh257 := zFK_fr Ch257 (by decide +kernel) Kh0
                    exact ex_retb oq_X12_leafRead_146 rfl (by omega) (by omega) (hQ x256 h257 Th257 Fh257 Kh257 (.inr ⟨_, _, (by unfold zlf; rw [if_neg (by omega), if_neg (by omega), if_pos (by omega), if_pos (by omega)]), by omega, by omega, by omega, by decide⟩))
              · refine ex_al oq_X12_leafRead_121 gL232_0 ?_
                refine ex_ic oq_X12_leafRead_122 (m := 1) (by decide) (fun x258 hx258 => ?_)
                refine ex_cv oq_X12_leafRead_123 (by decide) hT (k := 111) (d := 12) (as := [cv_i x258]) (stk := []) rfl rfl rfl rfl rfl rfl ⟨rfl, rfl⟩ (R := fun o => ∃ (x : Int32) (hb : cv_H), o = (some (cv_i x), hb) ∧ cw_T G hb ∧ cw_Fr cw_Ds cw_sh kk_X12_wrong.2.2.2.2.2.1 h0 hb ∧ x.toInt = 0 ∧ ri_at hb 111 4 = x258.toInt ∧ ri_at hb 111 5 = ri_at h0 111 10) (rt_wrong hT x258 (fun x hb b1 b2 b3 b4 b5 => ⟨x, hb, rfl, b1, b2, b3, b4, b5⟩)) (fun o ho => ?_)
                obtain ⟨x259, h260, rfl, Th260, Ch260, zh260, fh260, ph260⟩ := ho
                show cw_X _ _ _ _ _ [cv_i x259] h260
                have Fh260 : cw_Fr cw_Ds cw_sh mk_fm h0 h260 := cw_Fr_tr Fh0 (cw_Fr_mono (by decide +kernel) Ch260)
                have Kh260 := zFK_fr Ch260 (by decide +kernel) Kh0
                exact ex_retb oq_X12_leafRead_126 rfl (by omega) (by omega) (hQ x259 h260 Th260 Fh260 Kh260 (.inr ⟨_, _, (by unfold zlf; rw [if_neg (by omega), if_neg (by omega), if_neg (by omega)]), by omega, by omega, by omega, by decide⟩))
          · refine ex_ic oq_X12_leafRead_103 (m := 1) (by decide) (fun x261 hx261 => ?_)
            refine ex_go oq_X12_leafRead_104 (t := 108) rfl rfl ?_
            refine ex_isA oq_X12_leafRead_108 (fun L262 gL262_1 kL262 => ?_)
            have gL262_0 : cv_get L262 0 = some (cv_r 111) := kL262 0 _ (by decide) (fun _ => rfl) rfl
            refine ex_il oq_X12_leafRead_109 gL262_1 ?_
            refine ex_if0 oq_X12_leafRead_110 (t := 127) rfl rfl (fun (c263 : ¬ x261.toInt = 0) => ?_) (fun (c263 : ¬ (¬ x261.toInt = 0)) => ?_)
            · refine ex_il oq_X12_leafRead_127 gL262_1 ?_
              refine ex_if0 oq_X12_leafRead_128 (t := 147) rfl rfl (fun (c264 : ¬ x261.toInt = 0) => ?_) (fun (c264 : ¬ (¬ x261.toInt = 0)) => ?_)
              · refine ex_al oq_X12_leafRead_147 gL262_0 ?_
                refine ex_cv oq_X12_leafRead_148 (by decide) hT (k := 111) (d := 12) (as := []) (stk := []) rfl rfl rfl rfl rfl rfl ⟨rfl, rfl⟩ (R := fun o => ∃ (x : Int32) (hb : cv_H), o = (some (cv_i x), hb) ∧ cw_T G hb ∧ cw_Fr cw_Ds cw_sh mk_cn h0 hb ∧ (x.toInt = 1 ∧ kn < 64 ∧ ri_at hb 111 40 = kn + 1 ∧ ri_at hb 111 4 = ri_at h0 111 4 ∧ ri_at hb 111 5 = ri_at h0 111 5 ∨ x.toInt = 0 ∧ kn = 64 ∧ ri_at hb 111 4 = 2 ∧ ri_at hb 111 5 = ri_at h0 111 10)) (rt_isCounted hT hct (fun x hb b1 b2 b3 => ⟨x, hb, rfl, b1, b2, b3⟩)) (fun o ho => ?_)
                obtain ⟨x265, h266, rfl, Th266, Ch266, dx265⟩ := ho
                show cw_X _ _ _ _ _ [cv_i x265] h266
                have Fh266 : cw_Fr cw_Ds cw_sh mk_fm h0 h266 := cw_Fr_tr Fh0 (cw_Fr_mono (by decide +kernel) Ch266)
                have Kh266 := zFK_fr Ch266 (by decide +kernel) Kh0
                have eh266_111_6 : ri_at h266 111 6 = (n : Int) := (ri_frf Ch266 (d := 12) rfl rfl (by decide +kernel)).trans z1
                have eh266_111_7 : ri_at h266 111 7 = ((zx t n p : Nat) : Int) := (ri_frf Ch266 (d := 12) rfl rfl (by decide +kernel)).trans z3
                have eh266_111_8 : ri_at h266 111 8 = zk t n p := (ri_frf Ch266 (d := 12) rfl rfl (by decide +kernel)).trans z4
                have eh266_111_10 : ri_at h266 111 10 = ((za t n p : Nat) : Int) := (ri_frf Ch266 (d := 12) rfl rfl (by decide +kernel)).trans z2
                have eh266_111_11 : ri_at h266 111 11 = ri_at h0 111 11 := ri_frf Ch266 (d := 12) rfl rfl (by decide +kernel)
                have eh266_111_37 : ri_at h266 111 37 = (st.length : Int) := (ri_frf Ch266 (d := 12) rfl rfl (by decide +kernel)).trans hwa
                have eh266_111_38 : ri_at h266 111 38 = zcb st + (1 - 1) := (ri_frf Ch266 (d := 12) rfl rfl (by decide +kernel)).trans hhe
                have eh266_111_19 : ri_at h266 111 19 = K := (ri_frf Ch266 (d := 12) rfl rfl (by decide +kernel)).trans hK
                have eh266_111_39 : ri_at h266 111 39 = zc0 st := (ri_frf Ch266 (d := 12) rfl rfl (by decide +kernel)).trans hbr
                have eh266_111_41 : ri_at h266 111 41 = (1 : Int) := (ri_frf Ch266 (d := 12) rfl rfl (by decide +kernel)).trans hwn
                have eh266_111_42 : ri_at h266 111 42 = m := (ri_frf Ch266 (d := 12) rfl rfl (by decide +kernel)).trans hmn
                have Zh266 := zR_fr Ch266 hz (by decide +kernel)
                refine ex_if0 oq_X12_leafRead_151 (t := 156) rfl rfl (fun (c267 : ¬ x265.toInt = 0) => ?_) (fun (c267 : ¬ (¬ x265.toInt = 0)) => ?_)
                · obtain ⟨_, kx265, bx265, fx265, gx265⟩ := cnt_y dx265 c267
                  clear dx265
                  refine ex_al oq_X12_leafRead_156 gL262_0 ?_
                  refine ex_il oq_X12_leafRead_157 gL262_1 ?_
                  refine ex_if0 oq_X12_leafRead_158 (t := 165) rfl rfl (fun (c268 : x261.toInt = 0) => ?_) (fun (c268 : ¬ (x261.toInt = 0)) => ?_)
                  · exfalso; omega
                  · replace c268 : ¬ x261.toInt = 0 := by omega
                    refine ex_ic oq_X12_leafRead_161 (m := 1) (by decide) (fun x269 hx269 => ?_)
                    refine ex_go oq_X12_leafRead_162 (t := 166) rfl rfl ?_
                    refine ex_il oq_X12_leafRead_166 gL262_1 ?_
                    refine ex_if0 oq_X12_leafRead_167 (t := 180) rfl rfl (fun (c270 : x261.toInt = 0) => ?_) (fun (c270 : ¬ (x261.toInt = 0)) => ?_)
                    · exfalso; omega
                    · replace c270 : ¬ x261.toInt = 0 := by omega
                      refine ex_al oq_X12_leafRead_170 gL262_0 ?_
                      obtain ⟨x271, ax271, rx271, lx271, ux271⟩ := fi_which Th266
                      refine ex_gf oq_X12_leafRead_171 Th266 (k := 111) (d := 12) rfl rfl ax271 ?_
                      have wx271 : x271.toInt = zw t n p := rx271.symm.trans (Zh266.2.2.2.2 (by omega) (by omega))
                      refine ex_bi oq_X12_leafRead_174 (m := 24) (by decide) (fun x272 hx272 => ?_)
                      refine ex_sub oq_X12_leafRead_176 (by omega) (fun x273 hx273 => ?_)
                      refine ex_go oq_X12_leafRead_177 (t := 184) rfl rfl ?_
                      refine ex_ic oq_X12_leafRead_184 (m := 0) (by decide) (fun x274 hx274 => ?_)
                      refine ex_cv oq_X12_leafRead_185 (by decide) Th266 (k := 111) (d := 12) (as := [cv_i x269, cv_i x273, cv_i x274]) (stk := []) rfl rfl rfl rfl rfl rfl ⟨rfl, rfl⟩ (R := fun o => ∃ (hb : cv_H), o = (none, hb) ∧ cw_T G hb ∧ cw_Fr cw_Ds cw_sh mk_gw h266 hb ∧ zFK h266 hb ∧ ri_at hb 111 38 = zcb st + (1 - 1) + 1 ∧ ri_at hb 111 19 = K + 1 ∧ zKV hb V f (cs ++ [10000 + (zw t n p - 24)]) ∧ zrow hb 129 ((K) :: zkS f [] cs)) (rt_grownK Th266 eh266_111_38 eh266_111_19 (by omega) (by omega) (by omega) (by omega) (f := f) (cs := cs) (S := zkS f [] cs) (c' := 10000 + (zw t n p - 24)) (zKV_eq hd.1 (fun j _ => ⟨(ri_frr Ch266 (k := 125) (d := 64) rfl rfl (by decide +kernel)), (ri_frr Ch266 (k := 126) (d := 65) rfl rfl (by decide +kernel)), (ri_frr Ch266 (k := 127) (d := 66) rfl rfl (by decide +kernel))⟩)) (zrow_eq hd.2.1 (fun i => (ri_frr Ch266 (k := 129) (d := 68) rfl rfl (by decide +kernel)))) (by (try simp only [List.length_cons] at *); omega) (by omega) (by rw [(zq_l (S := zkS f [] cs) (c := 10000 + (zw t n p - 24)) (by omega)).1, if_neg (by omega)]; omega) (by rw [(zq_l (S := zkS f [] cs) (c := 10000 + (zw t n p - 24)) (by omega)).2.1, if_neg (by omega)]; omega) (by rw [(zq_l (S := zkS f [] cs) (c := 10000 + (zw t n p - 24)) (by omega)).2.2.1]; omega) (zq_l (S := zkS f [] cs) (c := 10000 + (zw t n p - 24)) (by omega)).2.2.2.2 (fun hb b1 b2 bk b3 b4 b5 b6 => ⟨hb, rfl, b1, b2, bk, b3, b4, b5, b6⟩)) (fun o ho => ?_)
                      obtain ⟨h275, rfl, Th275, Ch275, kh275, bh275, ch275, knh275, krh275⟩ := ho
                      show cw_X _ _ _ _ _ [] h275
                      have Fh275 : cw_Fr cw_Ds cw_sh mk_fm h0 h275 := cw_Fr_tr Fh266 (cw_Fr_mono (by decide +kernel) Ch275)
                      have Kh275 := zFK_tr Kh266 kh275
                      have eh275_111_4 : ri_at h275 111 4 = ri_at h0 111 4 := (ri_frf Ch275 (d := 12) rfl rfl (by decide +kernel)).trans fx265
                      have eh275_111_5 : ri_at h275 111 5 = ri_at h0 111 5 := (ri_frf Ch275 (d := 12) rfl rfl (by decide +kernel)).trans gx265
                      have eh275_111_6 : ri_at h275 111 6 = (n : Int) := (ri_frf Ch275 (d := 12) rfl rfl (by decide +kernel)).trans eh266_111_6
                      clear eh266_111_6
                      have eh275_111_7 : ri_at h275 111 7 = ((zx t n p : Nat) : Int) := (ri_frf Ch275 (d := 12) rfl rfl (by decide +kernel)).trans eh266_111_7
                      clear eh266_111_7
                      have eh275_111_8 : ri_at h275 111 8 = zk t n p := (ri_frf Ch275 (d := 12) rfl rfl (by decide +kernel)).trans eh266_111_8
                      clear eh266_111_8
                      have eh275_111_10 : ri_at h275 111 10 = ((za t n p : Nat) : Int) := (ri_frf Ch275 (d := 12) rfl rfl (by decide +kernel)).trans eh266_111_10
                      clear eh266_111_10
                      have eh275_111_11 : ri_at h275 111 11 = ri_at h0 111 11 := (ri_frf Ch275 (d := 12) rfl rfl (by decide +kernel)).trans eh266_111_11
                      clear eh266_111_11
                      have eh275_111_37 : ri_at h275 111 37 = (st.length : Int) := (ri_frf Ch275 (d := 12) rfl rfl (by decide +kernel)).trans eh266_111_37
                      clear eh266_111_37
                      have eh275_111_40 : ri_at h275 111 40 = kn + 1 := (ri_frf Ch275 (d := 12) rfl rfl (by decide +kernel)).trans bx265
                      have eh275_111_39 : ri_at h275 111 39 = zc0 st := (ri_frf Ch275 (d := 12) rfl rfl (by decide +kernel)).trans eh266_111_39
                      clear eh266_111_39
                      have eh275_111_41 : ri_at h275 111 41 = (1 : Int) := (ri_frf Ch275 (d := 12) rfl rfl (by decide +kernel)).trans eh266_111_41
                      clear eh266_111_41
                      have eh275_111_42 : ri_at h275 111 42 = m := (ri_frf Ch275 (d := 12) rfl rfl (by decide +kernel)).trans eh266_111_42
                      clear eh266_111_42
                      have Zh275 := zR_fr Ch275 Zh266 (by decide +kernel)
                      have fdh275 : zFd h275 V f (cs ++ [10000 + (zw t n p - 24)]) := zFd_grown (zq_l (c := 10000 + (zw t n p - 24)) (by omega)).2.2.2.1 knh275 krh275 bh275 ch275 (by omega) (by (try simp only [List.length_cons] at *); omega)
                      refine ex_al oq_X12_leafRead_188 gL262_0 ?_
                      refine ex_ic oq_X12_leafRead_189 (m := 0) (by decide) (fun x276 hx276 => ?_)
                      refine ex_pfb oq_X12_leafRead_190 Th275 (k := 111) (d := 12) rfl rfl rfl (by omega) (by omega) (fun h277 Th277 wh277 => ?_)
                      have Fh277 : cw_Fr cw_Ds cw_sh mk_fm h0 h277 := cw_Fr_tr Fh275 (cw_Fr_wrf wh277 (k := 111) (d := 12) rfl rfl (by decide +kernel))
                      have Kh277 := zFK_wr (k := 111) wh277 (Nat.zero_le _) Kh275
                      have eh277_111_4 : ri_at h277 111 4 = ri_at h0 111 4 := (ri_ne wh277 (by decide)).trans eh275_111_4
                      clear eh275_111_4
                      have eh277_111_5 : ri_at h277 111 5 = ri_at h0 111 5 := (ri_ne wh277 (by decide)).trans eh275_111_5
                      clear eh275_111_5
                      have eh277_111_6 : ri_at h277 111 6 = (n : Int) := (ri_ne wh277 (by decide)).trans eh275_111_6
                      clear eh275_111_6
                      have eh277_111_7 : ri_at h277 111 7 = ((zx t n p : Nat) : Int) := (ri_ne wh277 (by decide)).trans eh275_111_7
                      clear eh275_111_7
                      have eh277_111_8 : ri_at h277 111 8 = zk t n p := (ri_ne wh277 (by decide)).trans eh275_111_8
                      clear eh275_111_8
                      have eh277_111_10 : ri_at h277 111 10 = ((za t n p : Nat) : Int) := (ri_ne wh277 (by decide)).trans eh275_111_10
                      clear eh275_111_10
                      have eh277_111_11 : ri_at h277 111 11 = ri_at h0 111 11 := (ri_ne wh277 (by decide)).trans eh275_111_11
                      clear eh275_111_11
                      have eh277_111_37 : ri_at h277 111 37 = (st.length : Int) := (ri_ne wh277 (by decide)).trans eh275_111_37
                      clear eh275_111_37
                      have eh277_111_38 : ri_at h277 111 38 = zcb st + (1 - 1) + 1 := (ri_ne wh277 (by decide)).trans bh275
                      have eh277_111_19 : ri_at h277 111 19 = K + 1 := (ri_ne wh277 (by decide)).trans ch275
                      have eh277_111_40 : ri_at h277 111 40 = kn + 1 := (ri_ne wh277 (by decide)).trans eh275_111_40
                      clear eh275_111_40
                      have eh277_111_39 : ri_at h277 111 39 = zc0 st := (ri_ne wh277 (by decide)).trans eh275_111_39
                      clear eh275_111_39
                      have eh277_111_41 : ri_at h277 111 41 = x276.toInt := ri_self wh277
                      have eh277_111_42 : ri_at h277 111 42 = m := (ri_ne wh277 (by decide)).trans eh275_111_42
                      clear eh275_111_42
                      have Zh277 := zR_wr wh277 Zh275 (.inr (by decide))
                      refine ex_al oq_X12_leafRead_193 gL262_0 ?_
                      refine ex_cv oq_X12_leafRead_194 (by decide) Th277 (k := 111) (d := 12) (as := []) (stk := []) rfl rfl rfl rfl rfl rfl ⟨rfl, rfl⟩ (R := fun o => ∃ hb : cv_H, o = (none, hb) ∧ cw_T G hb ∧ cw_Fr cw_Ds cw_sh kk_X12_token.2.2.2.2.2.1 h277 hb ∧ zR t n (zx t n p) hb) (rt_tok (t := t) (n := n) (p := (zx t n p)) (fun i hi => by rw [ht i hi, ← hA _ Fh277]) hn9 (fun i hi => by rw [hB _ Fh277]; exact hwr i hi) Th277 (zx_le (by omega)) (by omega) (by omega) (fun hb b1 b2 b3 => ⟨hb, rfl, b1, b2, b3⟩)) (fun o ho => ?_)
                      obtain ⟨h278, rfl, Th278, Ch278, Zh278⟩ := ho
                      show cw_X _ _ _ _ _ [] h278
                      have Fh278 : cw_Fr cw_Ds cw_sh mk_fm h0 h278 := cw_Fr_tr Fh277 (cw_Fr_mono (by decide +kernel) Ch278)
                      have Kh278 := zFK_fr Ch278 (by decide +kernel) Kh277
                      have eh278_111_4 : ri_at h278 111 4 = ri_at h0 111 4 := (ri_frf Ch278 (d := 12) rfl rfl (by decide +kernel)).trans eh277_111_4
                      clear eh277_111_4
                      have eh278_111_5 : ri_at h278 111 5 = ri_at h0 111 5 := (ri_frf Ch278 (d := 12) rfl rfl (by decide +kernel)).trans eh277_111_5
                      clear eh277_111_5
                      have eh278_111_11 : ri_at h278 111 11 = ri_at h0 111 11 := (ri_frf Ch278 (d := 12) rfl rfl (by decide +kernel)).trans eh277_111_11
                      clear eh277_111_11
                      have eh278_111_37 : ri_at h278 111 37 = (st.length : Int) := (ri_frf Ch278 (d := 12) rfl rfl (by decide +kernel)).trans eh277_111_37
                      clear eh277_111_37
                      have eh278_111_38 : ri_at h278 111 38 = zcb st + (1 - 1) + 1 := (ri_frf Ch278 (d := 12) rfl rfl (by decide +kernel)).trans eh277_111_38
                      clear eh277_111_38
                      have eh278_111_19 : ri_at h278 111 19 = K + 1 := (ri_frf Ch278 (d := 12) rfl rfl (by decide +kernel)).trans eh277_111_19
                      clear eh277_111_19
                      have eh278_111_40 : ri_at h278 111 40 = kn + 1 := (ri_frf Ch278 (d := 12) rfl rfl (by decide +kernel)).trans eh277_111_40
                      clear eh277_111_40
                      have eh278_111_39 : ri_at h278 111 39 = zc0 st := (ri_frf Ch278 (d := 12) rfl rfl (by decide +kernel)).trans eh277_111_39
                      clear eh277_111_39
                      have eh278_111_41 : ri_at h278 111 41 = x276.toInt := (ri_frf Ch278 (d := 12) rfl rfl (by decide +kernel)).trans eh277_111_41
                      clear eh277_111_41
                      have eh278_111_42 : ri_at h278 111 42 = m := (ri_frf Ch278 (d := 12) rfl rfl (by decide +kernel)).trans eh277_111_42
                      clear eh277_111_42
                      obtain ⟨yah278, ybh278, ych278, ydh278, -⟩ := id Zh278
                      have zlh278 := zx_le (t := t) (n := n) (p := (zx t n p)) (by omega)
                      clear eh277_111_6 eh277_111_10 eh277_111_7 eh277_111_8
                      refine ex_ic oq_X12_leafRead_197 (m := 1) (by decide) (fun x279 hx279 => ?_)
                      exact ex_retb oq_X12_leafRead_198 rfl (by omega) (by omega) (hQ x279 h278 Th278 Fh278 Kh278 (.inl ⟨(st, kn + 1, 0, m), _, (by unfold zlf; rw [if_neg (by omega), if_neg (by omega), if_pos (by omega), if_neg (by omega), if_neg (by omega)]), by omega, by omega, Zh278, by omega, by omega, ⟨(show zok _ from ho), (zrow_eq hrw (fun i => ((ri_frr Ch278 (k := 128) (d := 67) rfl rfl (by decide +kernel)).trans ((ri_ne wh277 (.inl (by decide))).trans ((ri_frr Ch275 (k := 128) (d := 67) rfl rfl (by decide +kernel)).trans (ri_frr Ch266 (k := 128) (d := 67) rfl rfl (by decide +kernel))))))), by dsimp only; (try simp only [List.length_cons]); omega, by dsimp only; omega, by dsimp only; omega, by dsimp only; omega, by dsimp only; omega, by dsimp only; omega, by dsimp only; omega⟩, (by rw [show zlC t n p cs = cs ++ [10000 + (zw t n p - 24)] from by unfold zlC; rw [if_neg (by omega), if_neg (by omega)]]; exact (zFd_eq fdh275 (fun i => ((ri_frr Ch278 (k := 125) (d := 64) rfl rfl (by decide +kernel)).trans (ri_ne wh277 (.inl (by decide))))) (fun i => ((ri_frr Ch278 (k := 126) (d := 65) rfl rfl (by decide +kernel)).trans (ri_ne wh277 (.inl (by decide))))) (fun i => ((ri_frr Ch278 (k := 127) (d := 66) rfl rfl (by decide +kernel)).trans (ri_ne wh277 (.inl (by decide))))) (fun i => ((ri_frr Ch278 (k := 129) (d := 68) rfl rfl (by decide +kernel)).trans (ri_ne wh277 (.inl (by decide))))) ((ri_frf Ch278 (k := 111) (d := 12) (i := 38) rfl rfl (by decide +kernel)).trans (ri_ne wh277 (by decide))) ((ri_frf Ch278 (k := 111) (d := 12) (i := 19) rfl rfl (by decide +kernel)).trans (ri_ne wh277 (by decide)))))⟩))
                · replace c267 : x265.toInt = 0 := by omega
                  obtain ⟨kx265, fx265, gx265⟩ := cnt_n dx265 c267
                  clear dx265
                  refine ex_ic oq_X12_leafRead_154 (m := 0) (by decide) (fun x280 hx280 => ?_)
                  exact ex_retb oq_X12_leafRead_155 rfl (by omega) (by omega) (hQ x280 h266 Th266 Fh266 Kh266 (.inr ⟨_, _, (by unfold zlf; rw [if_neg (by omega), if_neg (by omega), if_pos (by omega), if_neg (by omega), if_pos (by omega)]), by omega, by omega, by omega, by decide⟩))
              · exfalso; omega
            · exfalso; omega
      · replace c194 : ¬ x193.toInt = 0 := by omega
        refine ex_al oq_X12_leafRead_66 rfl ?_
        refine ex_cv oq_X12_leafRead_67 (by decide) hT (k := 111) (d := 12) (as := []) (stk := []) rfl rfl rfl rfl rfl rfl ⟨rfl, rfl⟩ (R := fun o => ∃ (x : Int32) (hb : cv_H), o = (some (cv_i x), hb) ∧ cw_T G hb ∧ cw_Fr cw_Ds cw_sh mk_cn h0 hb ∧ (x.toInt = 1 ∧ kn < 64 ∧ ri_at hb 111 40 = kn + 1 ∧ ri_at hb 111 4 = ri_at h0 111 4 ∧ ri_at hb 111 5 = ri_at h0 111 5 ∨ x.toInt = 0 ∧ kn = 64 ∧ ri_at hb 111 4 = 2 ∧ ri_at hb 111 5 = ri_at h0 111 10)) (rt_isCounted hT hct (fun x hb b1 b2 b3 => ⟨x, hb, rfl, b1, b2, b3⟩)) (fun o ho => ?_)
        obtain ⟨x281, h282, rfl, Th282, Ch282, dx281⟩ := ho
        show cw_X _ _ _ _ _ [cv_i x281] h282
        have Fh282 : cw_Fr cw_Ds cw_sh mk_fm h0 h282 := cw_Fr_tr Fh0 (cw_Fr_mono (by decide +kernel) Ch282)
        have Kh282 := zFK_fr Ch282 (by decide +kernel) Kh0
        have eh282_111_6 : ri_at h282 111 6 = (n : Int) := (ri_frf Ch282 (d := 12) rfl rfl (by decide +kernel)).trans z1
        have eh282_111_7 : ri_at h282 111 7 = ((zx t n p : Nat) : Int) := (ri_frf Ch282 (d := 12) rfl rfl (by decide +kernel)).trans z3
        have eh282_111_8 : ri_at h282 111 8 = zk t n p := (ri_frf Ch282 (d := 12) rfl rfl (by decide +kernel)).trans z4
        have eh282_111_10 : ri_at h282 111 10 = ((za t n p : Nat) : Int) := (ri_frf Ch282 (d := 12) rfl rfl (by decide +kernel)).trans z2
        have eh282_111_11 : ri_at h282 111 11 = ri_at h0 111 11 := ri_frf Ch282 (d := 12) rfl rfl (by decide +kernel)
        have eh282_111_37 : ri_at h282 111 37 = (st.length : Int) := (ri_frf Ch282 (d := 12) rfl rfl (by decide +kernel)).trans hwa
        have eh282_111_38 : ri_at h282 111 38 = zcb st + (1 - 1) := (ri_frf Ch282 (d := 12) rfl rfl (by decide +kernel)).trans hhe
        have eh282_111_19 : ri_at h282 111 19 = K := (ri_frf Ch282 (d := 12) rfl rfl (by decide +kernel)).trans hK
        have eh282_111_39 : ri_at h282 111 39 = zc0 st := (ri_frf Ch282 (d := 12) rfl rfl (by decide +kernel)).trans hbr
        have eh282_111_41 : ri_at h282 111 41 = (1 : Int) := (ri_frf Ch282 (d := 12) rfl rfl (by decide +kernel)).trans hwn
        have eh282_111_42 : ri_at h282 111 42 = m := (ri_frf Ch282 (d := 12) rfl rfl (by decide +kernel)).trans hmn
        have Zh282 := zR_fr Ch282 hz (by decide +kernel)
        refine ex_if0 oq_X12_leafRead_70 (t := 75) rfl rfl (fun (c283 : ¬ x281.toInt = 0) => ?_) (fun (c283 : ¬ (¬ x281.toInt = 0)) => ?_)
        · obtain ⟨_, kx281, bx281, fx281, gx281⟩ := cnt_y dx281 c283
          clear dx281
          refine ex_al oq_X12_leafRead_75 rfl ?_
          refine ex_ic oq_X12_leafRead_76 (m := 2) (by decide) (fun x284 hx284 => ?_)
          have enh282 : (ri_at h282 111 37).toNat = (st).length := by omega
          refine ex_cv oq_X12_leafRead_77 (by decide) Th282 (k := 111) (d := 12) (as := [cv_i x284]) (stk := []) rfl rfl rfl rfl rfl rfl ⟨rfl, rfl⟩ (R := fun o => ∃ (hb : cv_H), o = (none, hb) ∧ cw_T G hb ∧ cw_Fr cw_Ds cw_sh mk_wf h282 hb ∧ ri_at hb 111 37 = (st.length : Int) + 1 ∧ ri_at hb 128 (st).length = x284.toInt ∧ ∀ i, i ≠ (st).length → ri_at hb 128 i = ri_at h282 128 i) (sp_waitsFor Th282 x284 (by omega) (fun hb b1 b2 b3 b4 b5 => ⟨hb, rfl, b1, b2, b3.trans (congrArg (· + 1) eh282_111_37), by rw [← enh282]; exact b4, by rw [← enh282]; exact b5⟩)) (fun o ho => ?_)
          obtain ⟨h285, rfl, Th285, Ch285, bh285, ch285, dh285⟩ := ho
          show cw_X _ _ _ _ _ [] h285
          have rowh285 : zrow h285 128 (2 :: st) := zrow_push (zrow_eq hrw (fun i => (ri_frr Ch282 (k := 128) (d := 67) rfl rfl (by decide +kernel)))) (by rw [ch285]; exact hx284) dh285
          have Fh285 : cw_Fr cw_Ds cw_sh mk_fm h0 h285 := cw_Fr_tr Fh282 (cw_Fr_mono (by decide +kernel) Ch285)
          have Kh285 := zFK_fr Ch285 (by decide +kernel) Kh282
          have eh285_111_4 : ri_at h285 111 4 = ri_at h0 111 4 := (ri_frf Ch285 (d := 12) rfl rfl (by decide +kernel)).trans fx281
          have eh285_111_5 : ri_at h285 111 5 = ri_at h0 111 5 := (ri_frf Ch285 (d := 12) rfl rfl (by decide +kernel)).trans gx281
          have eh285_111_6 : ri_at h285 111 6 = (n : Int) := (ri_frf Ch285 (d := 12) rfl rfl (by decide +kernel)).trans eh282_111_6
          clear eh282_111_6
          have eh285_111_7 : ri_at h285 111 7 = ((zx t n p : Nat) : Int) := (ri_frf Ch285 (d := 12) rfl rfl (by decide +kernel)).trans eh282_111_7
          clear eh282_111_7
          have eh285_111_8 : ri_at h285 111 8 = zk t n p := (ri_frf Ch285 (d := 12) rfl rfl (by decide +kernel)).trans eh282_111_8
          clear eh282_111_8
          have eh285_111_10 : ri_at h285 111 10 = ((za t n p : Nat) : Int) := (ri_frf Ch285 (d := 12) rfl rfl (by decide +kernel)).trans eh282_111_10
          clear eh282_111_10
          have eh285_111_11 : ri_at h285 111 11 = ri_at h0 111 11 := (ri_frf Ch285 (d := 12) rfl rfl (by decide +kernel)).trans eh282_111_11
          clear eh282_111_11
          have eh285_111_38 : ri_at h285 111 38 = zcb st + (1 - 1) := (ri_frf Ch285 (d := 12) rfl rfl (by decide +kernel)).trans eh282_111_38
          clear eh282_111_38
          have eh285_111_19 : ri_at h285 111 19 = K := (ri_frf Ch285 (d := 12) rfl rfl (by decide +kernel)).trans eh282_111_19
          clear eh282_111_19
          have eh285_111_40 : ri_at h285 111 40 = kn + 1 := (ri_frf Ch285 (d := 12) rfl rfl (by decide +kernel)).trans bx281
          have eh285_111_39 : ri_at h285 111 39 = zc0 st := (ri_frf Ch285 (d := 12) rfl rfl (by decide +kernel)).trans eh282_111_39
          clear eh282_111_39
          have eh285_111_41 : ri_at h285 111 41 = (1 : Int) := (ri_frf Ch285 (d := 12) rfl rfl (by decide +kernel)).trans eh282_111_41
          clear eh282_111_41
          have eh285_111_42 : ri_at h285 111 42 = m := (ri_frf Ch285 (d := 12) rfl rfl (by decide +kernel)).trans eh282_111_42
          clear eh282_111_42
          have Zh285 := zR_fr Ch285 Zh282 (by decide +kernel)
          refine ex_al oq_X12_leafRead_80 rfl ?_
          refine ex_cv oq_X12_leafRead_81 (by decide) Th285 (k := 111) (d := 12) (as := []) (stk := []) rfl rfl rfl rfl rfl rfl ⟨rfl, rfl⟩ (R := fun o => ∃ hb : cv_H, o = (none, hb) ∧ cw_T G hb ∧ cw_Fr cw_Ds cw_sh kk_X12_token.2.2.2.2.2.1 h285 hb ∧ zR t n (zx t n p) hb) (rt_tok (t := t) (n := n) (p := (zx t n p)) (fun i hi => by rw [ht i hi, ← hA _ Fh285]) hn9 (fun i hi => by rw [hB _ Fh285]; exact hwr i hi) Th285 (zx_le (by omega)) (by omega) (by omega) (fun hb b1 b2 b3 => ⟨hb, rfl, b1, b2, b3⟩)) (fun o ho => ?_)
          obtain ⟨h286, rfl, Th286, Ch286, Zh286⟩ := ho
          show cw_X _ _ _ _ _ [] h286
          have Fh286 : cw_Fr cw_Ds cw_sh mk_fm h0 h286 := cw_Fr_tr Fh285 (cw_Fr_mono (by decide +kernel) Ch286)
          have Kh286 := zFK_fr Ch286 (by decide +kernel) Kh285
          have eh286_111_4 : ri_at h286 111 4 = ri_at h0 111 4 := (ri_frf Ch286 (d := 12) rfl rfl (by decide +kernel)).trans eh285_111_4
          clear eh285_111_4
          have eh286_111_5 : ri_at h286 111 5 = ri_at h0 111 5 := (ri_frf Ch286 (d := 12) rfl rfl (by decide +kernel)).trans eh285_111_5
          clear eh285_111_5
          have eh286_111_11 : ri_at h286 111 11 = ri_at h0 111 11 := (ri_frf Ch286 (d := 12) rfl rfl (by decide +kernel)).trans eh285_111_11
          clear eh285_111_11
          have eh286_111_37 : ri_at h286 111 37 = (st.length : Int) + 1 := (ri_frf Ch286 (d := 12) rfl rfl (by decide +kernel)).trans bh285
          have eh286_111_38 : ri_at h286 111 38 = zcb st + (1 - 1) := (ri_frf Ch286 (d := 12) rfl rfl (by decide +kernel)).trans eh285_111_38
          clear eh285_111_38
          have eh286_111_19 : ri_at h286 111 19 = K := (ri_frf Ch286 (d := 12) rfl rfl (by decide +kernel)).trans eh285_111_19
          clear eh285_111_19
          have eh286_111_40 : ri_at h286 111 40 = kn + 1 := (ri_frf Ch286 (d := 12) rfl rfl (by decide +kernel)).trans eh285_111_40
          clear eh285_111_40
          have eh286_111_39 : ri_at h286 111 39 = zc0 st := (ri_frf Ch286 (d := 12) rfl rfl (by decide +kernel)).trans eh285_111_39
          clear eh285_111_39
          have eh286_111_41 : ri_at h286 111 41 = (1 : Int) := (ri_frf Ch286 (d := 12) rfl rfl (by decide +kernel)).trans eh285_111_41
          clear eh285_111_41
          have eh286_111_42 : ri_at h286 111 42 = m := (ri_frf Ch286 (d := 12) rfl rfl (by decide +kernel)).trans eh285_111_42
          clear eh285_111_42
          obtain ⟨yah286, ybh286, ych286, ydh286, -⟩ := id Zh286
          have zlh286 := zx_le (t := t) (n := n) (p := (zx t n p)) (by omega)
          clear eh285_111_6 eh285_111_10 eh285_111_7 eh285_111_8
          refine ex_ic oq_X12_leafRead_84 (m := 1) (by decide) (fun x287 hx287 => ?_)
          exact ex_retb oq_X12_leafRead_85 rfl (by omega) (by omega) (hQ x287 h286 Th286 Fh286 Kh286 (.inl ⟨(2 :: st, kn + 1, 1, m), _, (by unfold zlf; rw [if_neg (by omega), if_pos (by omega), if_neg (by omega)]), by omega, by omega, Zh286, by omega, by omega, ⟨(show zok _ from ⟨.inr (.inl rfl), ho⟩), (zrow_eq rowh285 (fun i => (ri_frr Ch286 (k := 128) (d := 67) rfl rfl (by decide +kernel)))), by dsimp only; (try simp only [List.length_cons]); omega, by dsimp only; omega, by dsimp only; omega, by dsimp only; omega, by dsimp only; omega, by dsimp only; omega, by dsimp only; omega⟩, (by rw [show zlC t n p cs = cs from if_pos (by omega)]; exact (zFd_eq hd (fun i => ((ri_frr Ch286 (k := 125) (d := 64) rfl rfl (by decide +kernel)).trans ((ri_frr Ch285 (k := 125) (d := 64) rfl rfl (by decide +kernel)).trans (ri_frr Ch282 (k := 125) (d := 64) rfl rfl (by decide +kernel))))) (fun i => ((ri_frr Ch286 (k := 126) (d := 65) rfl rfl (by decide +kernel)).trans ((ri_frr Ch285 (k := 126) (d := 65) rfl rfl (by decide +kernel)).trans (ri_frr Ch282 (k := 126) (d := 65) rfl rfl (by decide +kernel))))) (fun i => ((ri_frr Ch286 (k := 127) (d := 66) rfl rfl (by decide +kernel)).trans ((ri_frr Ch285 (k := 127) (d := 66) rfl rfl (by decide +kernel)).trans (ri_frr Ch282 (k := 127) (d := 66) rfl rfl (by decide +kernel))))) (fun i => ((ri_frr Ch286 (k := 129) (d := 68) rfl rfl (by decide +kernel)).trans ((ri_frr Ch285 (k := 129) (d := 68) rfl rfl (by decide +kernel)).trans (ri_frr Ch282 (k := 129) (d := 68) rfl rfl (by decide +kernel))))) ((ri_frf Ch286 (k := 111) (d := 12) (i := 38) rfl rfl (by decide +kernel)).trans ((ri_frf Ch285 (k := 111) (d := 12) (i := 38) rfl rfl (by decide +kernel)).trans (ri_frf Ch282 (k := 111) (d := 12) (i := 38) rfl rfl (by decide +kernel)))) ((ri_frf Ch286 (k := 111) (d := 12) (i := 19) rfl rfl (by decide +kernel)).trans ((ri_frf Ch285 (k := 111) (d := 12) (i := 19) rfl rfl (by decide +kernel)).trans (ri_frf Ch282 (k := 111) (d := 12) (i := 19) rfl rfl (by decide +kernel))))))⟩))
        · replace c283 : x281.toInt = 0 := by omega
          obtain ⟨kx281, fx281, gx281⟩ := cnt_n dx281 c283
          clear dx281
          refine ex_ic oq_X12_leafRead_73 (m := 0) (by decide) (fun x288 hx288 => ?_)
          exact ex_retb oq_X12_leafRead_74 rfl (by omega) (by omega) (hQ x288 h282 Th282 Fh282 Kh282 (.inr ⟨_, _, (by unfold zlf; rw [if_neg (by omega), if_pos (by omega), if_pos (by omega)]), by omega, by omega, by omega, by decide⟩))
  · replace c103 : ¬ x102.toInt = 0 := by omega
    obtain ⟨_, dx102, dx102b⟩ := isin_y dx102 c103
    refine ex_al oq_X12_leafRead_9 rfl ?_
    obtain ⟨x289, ax289, rx289, lx289, ux289⟩ := fi_brackets hT
    refine ex_gf oq_X12_leafRead_10 hT (k := 111) (d := 12) rfl rfl ax289 ?_
    have rx289 := (rx289.symm.trans hbr : x289.toInt = zc0 st)
    refine ex_bi oq_X12_leafRead_13 (m := 8) (by decide) (fun x290 hx290 => ?_)
    refine ex_if oq_X12_leafRead_15 (t := 24) rfl rfl (fun (c291 : ¬ x289.toInt = x290.toInt) => ?_) (fun (c291 : ¬ (¬ x289.toInt = x290.toInt)) => ?_)
    · refine ex_al oq_X12_leafRead_24 rfl ?_
      refine ex_dup oq_X12_leafRead_25 rfl ?_
      obtain ⟨x292, ax292, rx292, lx292, ux292⟩ := fi_brackets hT
      refine ex_gf oq_X12_leafRead_26 hT (k := 111) (d := 12) rfl rfl ax292 ?_
      have rx292 := (rx292.symm.trans hbr : x292.toInt = zc0 st)
      refine ex_ic oq_X12_leafRead_29 (m := 1) (by decide) (fun x293 hx293 => ?_)
      refine ex_add oq_X12_leafRead_30 (by omega) (fun x294 hx294 => ?_)
      refine ex_pfi oq_X12_leafRead_31 hT (k := 111) (d := 12) rfl rfl rfl (by omega) (by omega) (fun h295 Th295 wh295 => ?_)
      have Fh295 : cw_Fr cw_Ds cw_sh mk_fm h0 h295 := cw_Fr_tr Fh0 (cw_Fr_wrf wh295 (k := 111) (d := 12) rfl rfl (by decide +kernel))
      have Kh295 := zFK_wr (k := 111) wh295 (Nat.zero_le _) Kh0
      have eh295_111_4 : ri_at h295 111 4 = ri_at h0 111 4 := ri_ne wh295 (by decide)
      have eh295_111_5 : ri_at h295 111 5 = ri_at h0 111 5 := ri_ne wh295 (by decide)
      have eh295_111_6 : ri_at h295 111 6 = (n : Int) := (ri_ne wh295 (by decide)).trans z1
      have eh295_111_7 : ri_at h295 111 7 = ((zx t n p : Nat) : Int) := (ri_ne wh295 (by decide)).trans z3
      have eh295_111_8 : ri_at h295 111 8 = zk t n p := (ri_ne wh295 (by decide)).trans z4
      have eh295_111_10 : ri_at h295 111 10 = ((za t n p : Nat) : Int) := (ri_ne wh295 (by decide)).trans z2
      have eh295_111_11 : ri_at h295 111 11 = ri_at h0 111 11 := ri_ne wh295 (by decide)
      have eh295_111_37 : ri_at h295 111 37 = (st.length : Int) := (ri_ne wh295 (by decide)).trans hwa
      have eh295_111_38 : ri_at h295 111 38 = zcb st + (1 - 1) := (ri_ne wh295 (by decide)).trans hhe
      have eh295_111_19 : ri_at h295 111 19 = K := (ri_ne wh295 (by decide)).trans hK
      have eh295_111_40 : ri_at h295 111 40 = kn := (ri_ne wh295 (by decide)).trans hct
      have eh295_111_39 : ri_at h295 111 39 = x294.toInt := ri_self wh295
      have eh295_111_41 : ri_at h295 111 41 = (1 : Int) := (ri_ne wh295 (by decide)).trans hwn
      have eh295_111_42 : ri_at h295 111 42 = m := (ri_ne wh295 (by decide)).trans hmn
      have Zh295 := zR_wr wh295 hz (.inr (by decide))
      refine ex_al oq_X12_leafRead_34 rfl ?_
      refine ex_ic oq_X12_leafRead_35 (m := 0) (by decide) (fun x296 hx296 => ?_)
      have enh295 : (ri_at h295 111 37).toNat = (st).length := by omega
      refine ex_cv oq_X12_leafRead_36 (by decide) Th295 (k := 111) (d := 12) (as := [cv_i x296]) (stk := []) rfl rfl rfl rfl rfl rfl ⟨rfl, rfl⟩ (R := fun o => ∃ (hb : cv_H), o = (none, hb) ∧ cw_T G hb ∧ cw_Fr cw_Ds cw_sh mk_wf h295 hb ∧ ri_at hb 111 37 = (st.length : Int) + 1 ∧ ri_at hb 128 (st).length = x296.toInt ∧ ∀ i, i ≠ (st).length → ri_at hb 128 i = ri_at h295 128 i) (sp_waitsFor Th295 x296 (by omega) (fun hb b1 b2 b3 b4 b5 => ⟨hb, rfl, b1, b2, b3.trans (congrArg (· + 1) eh295_111_37), by rw [← enh295]; exact b4, by rw [← enh295]; exact b5⟩)) (fun o ho => ?_)
      obtain ⟨h297, rfl, Th297, Ch297, bh297, ch297, dh297⟩ := ho
      show cw_X _ _ _ _ _ [] h297
      have rowh297 : zrow h297 128 (0 :: st) := zrow_push (zrow_eq hrw (fun i => (ri_ne wh295 (.inl (by decide))))) (by rw [ch297]; exact hx296) dh297
      have Fh297 : cw_Fr cw_Ds cw_sh mk_fm h0 h297 := cw_Fr_tr Fh295 (cw_Fr_mono (by decide +kernel) Ch297)
      have Kh297 := zFK_fr Ch297 (by decide +kernel) Kh295
      have eh297_111_4 : ri_at h297 111 4 = ri_at h0 111 4 := (ri_frf Ch297 (d := 12) rfl rfl (by decide +kernel)).trans eh295_111_4
      clear eh295_111_4
      have eh297_111_5 : ri_at h297 111 5 = ri_at h0 111 5 := (ri_frf Ch297 (d := 12) rfl rfl (by decide +kernel)).trans eh295_111_5
      clear eh295_111_5
      have eh297_111_6 : ri_at h297 111 6 = (n : Int) := (ri_frf Ch297 (d := 12) rfl rfl (by decide +kernel)).trans eh295_111_6
      clear eh295_111_6
      have eh297_111_7 : ri_at h297 111 7 = ((zx t n p : Nat) : Int) := (ri_frf Ch297 (d := 12) rfl rfl (by decide +kernel)).trans eh295_111_7
      clear eh295_111_7
      have eh297_111_8 : ri_at h297 111 8 = zk t n p := (ri_frf Ch297 (d := 12) rfl rfl (by decide +kernel)).trans eh295_111_8
      clear eh295_111_8
      have eh297_111_10 : ri_at h297 111 10 = ((za t n p : Nat) : Int) := (ri_frf Ch297 (d := 12) rfl rfl (by decide +kernel)).trans eh295_111_10
      clear eh295_111_10
      have eh297_111_11 : ri_at h297 111 11 = ri_at h0 111 11 := (ri_frf Ch297 (d := 12) rfl rfl (by decide +kernel)).trans eh295_111_11
      clear eh295_111_11
      have eh297_111_38 : ri_at h297 111 38 = zcb st + (1 - 1) := (ri_frf Ch297 (d := 12) rfl rfl (by decide +kernel)).trans eh295_111_38
      clear eh295_111_38
      have eh297_111_19 : ri_at h297 111 19 = K := (ri_frf Ch297 (d := 12) rfl rfl (by decide +kernel)).trans eh295_111_19
      clear eh295_111_19
      have eh297_111_40 : ri_at h297 111 40 = kn := (ri_frf Ch297 (d := 12) rfl rfl (by decide +kernel)).trans eh295_111_40
      clear eh295_111_40
      have eh297_111_39 : ri_at h297 111 39 = x294.toInt := (ri_frf Ch297 (d := 12) rfl rfl (by decide +kernel)).trans eh295_111_39
      clear eh295_111_39
      have eh297_111_41 : ri_at h297 111 41 = (1 : Int) := (ri_frf Ch297 (d := 12) rfl rfl (by decide +kernel)).trans eh295_111_41
      clear eh295_111_41
      have eh297_111_42 : ri_at h297 111 42 = m := (ri_frf Ch297 (d := 12) rfl rfl (by decide +kernel)).trans eh295_111_42
      clear eh295_111_42
      have Zh297 := zR_fr Ch297 Zh295 (by decide +kernel)
      refine ex_al oq_X12_leafRead_39 rfl ?_
      refine ex_ic oq_X12_leafRead_40 (m := 1) (by decide) (fun x298 hx298 => ?_)
      refine ex_pfb oq_X12_leafRead_41 Th297 (k := 111) (d := 12) rfl rfl rfl (by omega) (by omega) (fun h299 Th299 wh299 => ?_)
      have Fh299 : cw_Fr cw_Ds cw_sh mk_fm h0 h299 := cw_Fr_tr Fh297 (cw_Fr_wrf wh299 (k := 111) (d := 12) rfl rfl (by decide +kernel))
      have Kh299 := zFK_wr (k := 111) wh299 (Nat.zero_le _) Kh297
      have eh299_111_4 : ri_at h299 111 4 = ri_at h0 111 4 := (ri_ne wh299 (by decide)).trans eh297_111_4
      clear eh297_111_4
      have eh299_111_5 : ri_at h299 111 5 = ri_at h0 111 5 := (ri_ne wh299 (by decide)).trans eh297_111_5
      clear eh297_111_5
      have eh299_111_6 : ri_at h299 111 6 = (n : Int) := (ri_ne wh299 (by decide)).trans eh297_111_6
      clear eh297_111_6
      have eh299_111_7 : ri_at h299 111 7 = ((zx t n p : Nat) : Int) := (ri_ne wh299 (by decide)).trans eh297_111_7
      clear eh297_111_7
      have eh299_111_8 : ri_at h299 111 8 = zk t n p := (ri_ne wh299 (by decide)).trans eh297_111_8
      clear eh297_111_8
      have eh299_111_10 : ri_at h299 111 10 = ((za t n p : Nat) : Int) := (ri_ne wh299 (by decide)).trans eh297_111_10
      clear eh297_111_10
      have eh299_111_11 : ri_at h299 111 11 = ri_at h0 111 11 := (ri_ne wh299 (by decide)).trans eh297_111_11
      clear eh297_111_11
      have eh299_111_37 : ri_at h299 111 37 = (st.length : Int) + 1 := (ri_ne wh299 (by decide)).trans bh297
      have eh299_111_38 : ri_at h299 111 38 = zcb st + (1 - 1) := (ri_ne wh299 (by decide)).trans eh297_111_38
      clear eh297_111_38
      have eh299_111_19 : ri_at h299 111 19 = K := (ri_ne wh299 (by decide)).trans eh297_111_19
      clear eh297_111_19
      have eh299_111_40 : ri_at h299 111 40 = kn := (ri_ne wh299 (by decide)).trans eh297_111_40
      clear eh297_111_40
      have eh299_111_39 : ri_at h299 111 39 = x294.toInt := (ri_ne wh299 (by decide)).trans eh297_111_39
      clear eh297_111_39
      have eh299_111_41 : ri_at h299 111 41 = (1 : Int) := (ri_ne wh299 (by decide)).trans eh297_111_41
      clear eh297_111_41
      have eh299_111_42 : ri_at h299 111 42 = x298.toInt := ri_self wh299
      have Zh299 := zR_wr wh299 Zh297 (.inr (by decide))
      refine ex_al oq_X12_leafRead_44 rfl ?_
      refine ex_cv oq_X12_leafRead_45 (by decide) Th299 (k := 111) (d := 12) (as := []) (stk := []) rfl rfl rfl rfl rfl rfl ⟨rfl, rfl⟩ (R := fun o => ∃ hb : cv_H, o = (none, hb) ∧ cw_T G hb ∧ cw_Fr cw_Ds cw_sh kk_X12_token.2.2.2.2.2.1 h299 hb ∧ zR t n (zx t n p) hb) (rt_tok (t := t) (n := n) (p := (zx t n p)) (fun i hi => by rw [ht i hi, ← hA _ Fh299]) hn9 (fun i hi => by rw [hB _ Fh299]; exact hwr i hi) Th299 (zx_le (by omega)) (by omega) (by omega) (fun hb b1 b2 b3 => ⟨hb, rfl, b1, b2, b3⟩)) (fun o ho => ?_)
      obtain ⟨h300, rfl, Th300, Ch300, Zh300⟩ := ho
      show cw_X _ _ _ _ _ [] h300
      have Fh300 : cw_Fr cw_Ds cw_sh mk_fm h0 h300 := cw_Fr_tr Fh299 (cw_Fr_mono (by decide +kernel) Ch300)
      have Kh300 := zFK_fr Ch300 (by decide +kernel) Kh299
      have eh300_111_4 : ri_at h300 111 4 = ri_at h0 111 4 := (ri_frf Ch300 (d := 12) rfl rfl (by decide +kernel)).trans eh299_111_4
      clear eh299_111_4
      have eh300_111_5 : ri_at h300 111 5 = ri_at h0 111 5 := (ri_frf Ch300 (d := 12) rfl rfl (by decide +kernel)).trans eh299_111_5
      clear eh299_111_5
      have eh300_111_11 : ri_at h300 111 11 = ri_at h0 111 11 := (ri_frf Ch300 (d := 12) rfl rfl (by decide +kernel)).trans eh299_111_11
      clear eh299_111_11
      have eh300_111_37 : ri_at h300 111 37 = (st.length : Int) + 1 := (ri_frf Ch300 (d := 12) rfl rfl (by decide +kernel)).trans eh299_111_37
      clear eh299_111_37
      have eh300_111_38 : ri_at h300 111 38 = zcb st + (1 - 1) := (ri_frf Ch300 (d := 12) rfl rfl (by decide +kernel)).trans eh299_111_38
      clear eh299_111_38
      have eh300_111_19 : ri_at h300 111 19 = K := (ri_frf Ch300 (d := 12) rfl rfl (by decide +kernel)).trans eh299_111_19
      clear eh299_111_19
      have eh300_111_40 : ri_at h300 111 40 = kn := (ri_frf Ch300 (d := 12) rfl rfl (by decide +kernel)).trans eh299_111_40
      clear eh299_111_40
      have eh300_111_39 : ri_at h300 111 39 = x294.toInt := (ri_frf Ch300 (d := 12) rfl rfl (by decide +kernel)).trans eh299_111_39
      clear eh299_111_39
      have eh300_111_41 : ri_at h300 111 41 = (1 : Int) := (ri_frf Ch300 (d := 12) rfl rfl (by decide +kernel)).trans eh299_111_41
      clear eh299_111_41
      have eh300_111_42 : ri_at h300 111 42 = x298.toInt := (ri_frf Ch300 (d := 12) rfl rfl (by decide +kernel)).trans eh299_111_42
      clear eh299_111_42
      obtain ⟨yah300, ybh300, ych300, ydh300, -⟩ := id Zh300
      have zlh300 := zx_le (t := t) (n := n) (p := (zx t n p)) (by omega)
      clear eh299_111_6 eh299_111_10 eh299_111_7 eh299_111_8
      refine ex_ic oq_X12_leafRead_48 (m := 1) (by decide) (fun x301 hx301 => ?_)
      exact ex_retb oq_X12_leafRead_49 rfl (by omega) (by omega) (hQ x301 h300 Th300 Fh300 Kh300 (.inl ⟨(0 :: st, kn, 1, 1), _, (by unfold zlf; rw [if_pos (by omega), if_neg (by omega)]), by omega, by omega, Zh300, by omega, by omega, ⟨(show zok _ from ⟨.inl rfl, ho⟩), (zrow_eq rowh297 (fun i => ((ri_frr Ch300 (k := 128) (d := 67) rfl rfl (by decide +kernel)).trans (ri_ne wh299 (.inl (by decide)))))), by dsimp only; (try simp only [List.length_cons]); omega, by dsimp only; omega, by dsimp only; omega, by dsimp only; omega, by dsimp only; omega, by dsimp only; omega, by dsimp only; omega⟩, (by rw [show zlC t n p cs = cs from if_pos (by omega)]; exact (zFd_eq hd (fun i => ((ri_frr Ch300 (k := 125) (d := 64) rfl rfl (by decide +kernel)).trans ((ri_ne wh299 (.inl (by decide))).trans ((ri_frr Ch297 (k := 125) (d := 64) rfl rfl (by decide +kernel)).trans (ri_ne wh295 (.inl (by decide))))))) (fun i => ((ri_frr Ch300 (k := 126) (d := 65) rfl rfl (by decide +kernel)).trans ((ri_ne wh299 (.inl (by decide))).trans ((ri_frr Ch297 (k := 126) (d := 65) rfl rfl (by decide +kernel)).trans (ri_ne wh295 (.inl (by decide))))))) (fun i => ((ri_frr Ch300 (k := 127) (d := 66) rfl rfl (by decide +kernel)).trans ((ri_ne wh299 (.inl (by decide))).trans ((ri_frr Ch297 (k := 127) (d := 66) rfl rfl (by decide +kernel)).trans (ri_ne wh295 (.inl (by decide))))))) (fun i => ((ri_frr Ch300 (k := 129) (d := 68) rfl rfl (by decide +kernel)).trans ((ri_ne wh299 (.inl (by decide))).trans ((ri_frr Ch297 (k := 129) (d := 68) rfl rfl (by decide +kernel)).trans (ri_ne wh295 (.inl (by decide))))))) ((ri_frf Ch300 (k := 111) (d := 12) (i := 38) rfl rfl (by decide +kernel)).trans ((ri_ne wh299 (by decide)).trans ((ri_frf Ch297 (k := 111) (d := 12) (i := 38) rfl rfl (by decide +kernel)).trans (ri_ne wh295 (by decide))))) ((ri_frf Ch300 (k := 111) (d := 12) (i := 19) rfl rfl (by decide +kernel)).trans ((ri_ne wh299 (by decide)).trans ((ri_frf Ch297 (k := 111) (d := 12) (i := 19) rfl rfl (by decide +kernel)).trans (ri_ne wh295 (by decide)))))))⟩))
    · refine ex_al oq_X12_leafRead_18 rfl ?_
      refine ex_ic oq_X12_leafRead_19 (m := 2) (by decide) (fun x302 hx302 => ?_)
      refine ex_cv oq_X12_leafRead_20 (by decide) hT (k := 111) (d := 12) (as := [cv_i x302]) (stk := []) rfl rfl rfl rfl rfl rfl ⟨rfl, rfl⟩ (R := fun o => ∃ (x : Int32) (hb : cv_H), o = (some (cv_i x), hb) ∧ cw_T G hb ∧ cw_Fr cw_Ds cw_sh kk_X12_wrong.2.2.2.2.2.1 h0 hb ∧ x.toInt = 0 ∧ ri_at hb 111 4 = x302.toInt ∧ ri_at hb 111 5 = ri_at h0 111 10) (rt_wrong hT x302 (fun x hb b1 b2 b3 b4 b5 => ⟨x, hb, rfl, b1, b2, b3, b4, b5⟩)) (fun o ho => ?_)
      obtain ⟨x303, h304, rfl, Th304, Ch304, zh304, fh304, ph304⟩ := ho
      show cw_X _ _ _ _ _ [cv_i x303] h304
      have Fh304 : cw_Fr cw_Ds cw_sh mk_fm h0 h304 := cw_Fr_tr Fh0 (cw_Fr_mono (by decide +kernel) Ch304)
      have Kh304 := zFK_fr Ch304 (by decide +kernel) Kh0
      exact ex_retb oq_X12_leafRead_23 rfl (by omega) (by omega) (hQ x303 h304 Th304 Fh304 Kh304 (.inr ⟨_, _, (by unfold zlf; rw [if_pos (by omega), if_pos (by omega)]), by omega, by omega, by omega, by decide⟩))
end TZ
