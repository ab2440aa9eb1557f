/-! ===== a line on a cause, a line on a work: the reference ===== -/
def zb2 {α β : Type} (S : (Int × Nat) ⊕ (α × Nat)) (f : α → Nat → (Int × Nat) ⊕ β) : (Int × Nat) ⊕ β := match S with
  | .inl e => .inl e
  | .inr (v, q) => f v q
theorem zb2_l {α β : Type} {S : (Int × Nat) ⊕ (α × Nat)} {f : α → Nat → (Int × Nat) ⊕ β} {e : Int × Nat} (h : S = .inl e) : zb2 S f = .inl e := by rw [h]; rfl
theorem zb2_r {α β : Type} {S : (Int × Nat) ⊕ (α × Nat)} {f : α → Nat → (Int × Nat) ⊕ β} {v : α} {q : Nat} (h : S = .inr (v, q)) : zb2 S f = f v q := by rw [h]; rfl
/-- a line on a cause: what goes wrong and where, or its name and the next place -/
def zcl (t : Nat → Int) (n : Nat) (l : List Int) (p : Nat) : (Int × Nat) ⊕ (Int × Nat) := if l.length = 6 then .inl (2, za t n p) else
  zb2 (zm t n l (zx t n p)) fun nm p1 => zb2 (zn t n 1 99 p1) fun _ p2 => if zk t n p2 = 1 ∧ 5 ≤ zw t n p2 ∧ zw t n p2 ≤ 7 then zb2 (zn t n 1 999 (zx t n p2)) fun _ p3 => .inr (nm, p3) else .inl (1, za t n p2)
section ZC
variable {t : Nat → Int} {n p : Nat} {l : List Int} {e : Int × Nat} {nm w k : Int} {p1 p2 p3 : Nat}
theorem zcl_0 (h : l.length = 6) : zcl t n l p = .inl (2, za t n p) := by unfold zcl; rw [if_pos h]
theorem zcl_1 (h : ¬ l.length = 6) (e1 : zm t n l (zx t n p) = .inl e) : zcl t n l p = .inl e := by unfold zcl; rw [if_neg h, zb2_l e1]
theorem zcl_2 (h : ¬ l.length = 6) (e1 : zm t n l (zx t n p) = .inr (nm, p1)) (e2 : zn t n 1 99 p1 = .inl e) : zcl t n l p = .inl e := by unfold zcl; rw [if_neg h, zb2_r e1, zb2_l e2]
theorem zcl_3 (h : ¬ l.length = 6) (e1 : zm t n l (zx t n p) = .inr (nm, p1)) (e2 : zn t n 1 99 p1 = .inr (w, p2)) (h3 : ¬ (zk t n p2 = 1 ∧ 5 ≤ zw t n p2 ∧ zw t n p2 ≤ 7)) : zcl t n l p = .inl (1, za t n p2) := by unfold zcl; rw [if_neg h, zb2_r e1, zb2_r e2, if_neg h3]
theorem zcl_4 (h : ¬ l.length = 6) (e1 : zm t n l (zx t n p) = .inr (nm, p1)) (e2 : zn t n 1 99 p1 = .inr (w, p2)) (h3 : zk t n p2 = 1 ∧ 5 ≤ zw t n p2 ∧ zw t n p2 ≤ 7) (e4 : zn t n 1 999 (zx t n p2) = .inl e) : zcl t n l p = .inl e := by unfold zcl; rw [if_neg h, zb2_r e1, zb2_r e2, if_pos h3, zb2_l e4]
theorem zcl_5 (h : ¬ l.length = 6) (e1 : zm t n l (zx t n p) = .inr (nm, p1)) (e2 : zn t n 1 99 p1 = .inr (w, p2)) (h3 : zk t n p2 = 1 ∧ 5 ≤ zw t n p2 ∧ zw t n p2 ≤ 7) (e4 : zn t n 1 999 (zx t n p2) = .inr (k, p3)) : zcl t n l p = .inr (nm, p3) := by unfold zcl; rw [if_neg h, zb2_r e1, zb2_r e2, if_pos h3, zb2_r e4]
end ZC
section TZ
variable {G : Int} {X : cv_X} {Q : cv_O → Prop} {t : Nat → Int}
theorem rt_causeLine {h0 : cv_H} {n p : Nat} (ht : ∀ i, i < n → t i = ri_at h0 112 i) (hn9 : n ≤ 900) (hT : cw_T G h0) (hwr : ∀ i, i < 177 → ri_at h0 113 i = pp_words.getD i 0) (hpn : p ≤ n) (hz : zR t n p h0) {l : List Int} (hc : ri_at h0 111 18 = l.length) (hlm : l.length ≤ 6) (hl : ∀ k, k < l.length → ri_at h0 123 (6 + k) = l.getD k 0) (hQ : ∀ (x : Int32) h', cw_T G h' → cw_Fr cw_Ds cw_sh mk_ca h0 h' → zRe t n h0 h' x (zcl t n l p) (fun v => (∀ k, k < l.length → ri_at h' 123 (6 + k) = l.getD k 0) ∧ ri_at h' 123 (6 + l.length) = v ∧ ri_at h' 111 18 = l.length + 1) → Q (some (cv_i x), h')) : cw_X X 186 Q 0 (cv_ent 0 [cv_r 111]) [] h0 := by
  have Fh0 : cw_Fr cw_Ds cw_sh mk_ca h0 h0 := cw_Fr_refl
  have zxl := zx_le (t := t) hpn
  obtain ⟨z1, z2, z3, z4, z5⟩ := id hz
  have hA : ∀ h, cw_Fr cw_Ds cw_sh mk_ca h0 h → ∀ i, ri_at h 112 i = ri_at h0 112 i := fun h F i => ri_frr F (k := 112) (d := 51) rfl rfl (by decide +kernel)
  have hB : ∀ h, cw_Fr cw_Ds cw_sh mk_ca h0 h → ∀ i, ri_at h 113 i = ri_at h0 113 i := fun h F i => ri_frr F (k := 113) (d := 52) rfl rfl (by decide +kernel)
  refine ex_al oq_X12_causeLine_0 rfl ?_
  obtain ⟨x101, ax101, rx101, lx101, ux101⟩ := fi_causesRead hT
  refine ex_gf oq_X12_causeLine_1 hT (k := 111) (d := 12) rfl rfl ax101 ?_
  refine ex_bi oq_X12_causeLine_4 (m := 6) (by decide) (fun x102 hx102 => ?_)
  refine ex_if oq_X12_causeLine_6 (t := 15) rfl rfl (fun (c103 : ¬ x101.toInt = x102.toInt) => ?_) (fun (c103 : ¬ (¬ x101.toInt = x102.toInt)) => ?_)
  · refine ex_al oq_X12_causeLine_15 rfl ?_
    refine ex_cv oq_X12_causeLine_16 (by decide) hT (k := 111) (d := 12) (as := []) (stk := []) rfl rfl rfl rfl rfl rfl ⟨rfl, rfl⟩ (R := fun o => ∃ hb : cv_H, o = (none, hb) ∧ cw_T G hb ∧ cw_Fr cw_Ds cw_sh kk_X12_token.2.2.2.2.2.1 h0 hb ∧ zR t n (zx t n p) hb) (rt_tok (t := t) (n := n) (p := zx t n p) (fun i hi => by rw [ht i hi, ← hA _ Fh0]) hn9 (fun i hi => by rw [hB _ Fh0]; exact hwr i hi) hT (zx_le (by omega)) (by omega) (by omega) (fun hb b1 b2 b3 => ⟨hb, rfl, b1, b2, b3⟩)) (fun o ho => ?_)
    obtain ⟨h104, rfl, Th104, Ch104, Zh104⟩ := ho
    show cw_X _ _ _ _ _ [] h104
    have Fh104 : cw_Fr cw_Ds cw_sh mk_ca h0 h104 := cw_Fr_tr Fh0 (cw_Fr_mono (by decide +kernel) Ch104)
    have eh104_4 : ri_at h104 111 4 = ri_at h0 111 4 := ri_frf Ch104 (d := 12) rfl rfl (by decide +kernel)
    have eh104_5 : ri_at h104 111 5 = ri_at h0 111 5 := ri_frf Ch104 (d := 12) rfl rfl (by decide +kernel)
    have eh104_11 : ri_at h104 111 11 = ri_at h0 111 11 := ri_frf Ch104 (d := 12) rfl rfl (by decide +kernel)
    have eh104_18 : ri_at h104 111 18 = ri_at h0 111 18 := ri_frf Ch104 (d := 12) rfl rfl (by decide +kernel)
    obtain ⟨yah104, ybh104, ych104, ydh104, yeh104⟩ := id Zh104
    have zlh104 := zx_le (t := t) (n := n) (p := (zx t n p)) (by omega)
    refine ex_al oq_X12_causeLine_19 rfl ?_
    refine ex_al oq_X12_causeLine_20 rfl ?_
    refine ex_gf oq_X12_causeLine_21 Th104 (k := 111) (d := 12) rfl rfl (fr_causeName Th104) ?_
    refine ex_bi oq_X12_causeLine_24 (m := 6) (by decide) (fun x105 hx105 => ?_)
    refine ex_al oq_X12_causeLine_26 rfl ?_
    obtain ⟨x106, ax106, rx106, lx106, ux106⟩ := fi_causesRead Th104
    refine ex_gf oq_X12_causeLine_27 Th104 (k := 111) (d := 12) rfl rfl ax106 ?_
    have hlh104 : ∀ k, k < l.length → ri_at h104 123 (6 + k) = l.getD k 0 := fun k hk => by rw [show ri_at h104 123 (6 + k) = ri_at h0 123 (6 + k) from (ri_frr Ch104 (k := 123) (d := 62) rfl rfl (by decide +kernel))]; exact hl k hk
    refine ex_cv oq_X12_causeLine_30 (by decide) Th104 (k := 111) (d := 12) (as := [cv_r 123, cv_i x105, cv_i x106]) (stk := []) rfl rfl rfl rfl rfl rfl ⟨rfl, rfl⟩ (R := fun o => ∃ (x : Int32) (hb : cv_H), o = (some (cv_i x), hb) ∧ cw_T G hb ∧ cw_Fr cw_Ds cw_sh kk_X12_newName_2.2.2.2.2.2.1 h104 hb ∧ zRe t n h104 hb x (zm t n l (zx t n p)) (fun v => (∀ k, k < l.length → ri_at hb 123 (6 + k) = l.getD k 0) ∧ ri_at hb 123 (6 + l.length) = v)) (rt_newNameC (t := t) (n := n) (p := (zx t n p)) (l := l) (fun i hi => by rw [ht i hi, ← hA _ Fh104]) hn9 Th104 (fun i hi => by rw [hB _ Fh104]; exact hwr i hi) (by omega) Zh104 (by omega) (by omega) (by omega) hlh104 (fun x hb b1 b2 b3 => ⟨x, hb, rfl, b1, b2, b3⟩)) (fun o ho => ?_)
    obtain ⟨x107, h108, rfl, Th108, Ch108, dx107⟩ := ho
    show cw_X _ _ _ _ _ [cv_i x107] h108
    have Fh108 : cw_Fr cw_Ds cw_sh mk_ca h0 h108 := cw_Fr_tr Fh104 (cw_Fr_mono (by decide +kernel) Ch108)
    have eh108_18 : ri_at h108 111 18 = ri_at h104 111 18 := ri_frf Ch108 (d := 12) rfl rfl (by decide +kernel)
    refine ex_if0 oq_X12_causeLine_33 (t := 46) rfl rfl (fun (c109 : x107.toInt = 0) => ?_) (fun (c109 : ¬ (x107.toInt = 0)) => ?_)
    · obtain ⟨fc1, fa1, e1_1, e1_2, e1_3, e1_4, e1_5⟩ := zRe_no dx107 (by omega)
      clear dx107
      refine ex_ic oq_X12_causeLine_46 (m := 0) (by decide) (fun x110 hx110 => ?_)
      exact ex_retb oq_X12_causeLine_47 rfl (by omega) (by omega) (hQ x110 h108 Th108 Fh108 (.inr ⟨_, _, zcl_1 (by omega) e1_1, by omega, by omega, by omega, by omega⟩))
    · obtain ⟨v1, q1, e1_1, e1_2, e1_3, e1_4, e1_5, e1_6, e1_7⟩ := zRe_yes dx107 (by omega)
      clear dx107
      obtain ⟨y1_1, y1_2, y1_3, y1_4, y1_5⟩ := id e1_4
      have zl1 := zx_le (t := t) e1_2
      refine ex_al oq_X12_causeLine_36 rfl ?_
      refine ex_ic oq_X12_causeLine_37 (m := 1) (by decide) (fun x111 hx111 => ?_)
      refine ex_bi oq_X12_causeLine_38 (m := 99) (by decide) (fun x112 hx112 => ?_)
      refine ex_cv oq_X12_causeLine_40 (by decide) Th108 (k := 111) (d := 12) (as := [cv_i x111, cv_i x112]) (stk := []) rfl rfl rfl rfl rfl rfl ⟨rfl, rfl⟩ (R := fun o => ∃ (x : Int32) (hb : cv_H), o = (some (cv_i x), hb) ∧ cw_T G hb ∧ cw_Fr cw_Ds cw_sh kk_X12_number.2.2.2.2.2.1 h108 hb ∧ zRe t n h108 hb x (zn t n x111.toInt x112.toInt q1) (fun v => ri_at hb 111 11 = v)) (rt_number (t := t) (n := n) (p := q1) (fun i hi => by rw [ht i hi, ← hA _ Fh108]) hn9 Th108 (fun i hi => by rw [hB _ Fh108]; exact hwr i hi) (by omega) e1_4 x111 x112 (fun x hb b1 b2 b3 => ⟨x, hb, rfl, b1, b2, b3⟩)) (fun o ho => ?_)
      obtain ⟨x113, h114, rfl, Th114, Ch114, dx113⟩ := ho
      show cw_X _ _ _ _ _ [cv_i x113] h114
      have Fh114 : cw_Fr cw_Ds cw_sh mk_ca h0 h114 := cw_Fr_tr Fh108 (cw_Fr_mono (by decide +kernel) Ch114)
      have eh114_18 : ri_at h114 111 18 = ri_at h108 111 18 := ri_frf Ch114 (d := 12) rfl rfl (by decide +kernel)
      refine ex_if0 oq_X12_causeLine_43 (t := 48) rfl rfl (fun (c115 : ¬ x113.toInt = 0) => ?_) (fun (c115 : ¬ (¬ x113.toInt = 0)) => ?_)
      · obtain ⟨v2, q2, e2_1, e2_2, e2_3, e2_4, e2_5, e2_6, e2_7⟩ := zRe_yes dx113 (by omega)
        clear dx113
        obtain ⟨y2_1, y2_2, y2_3, y2_4, y2_5⟩ := id e2_4
        have zl2 := zx_le (t := t) e2_2
        have e2_8 := zn_rg e2_1
        refine ex_bi oq_X12_causeLine_48 (m := 18) (by decide) (fun x116 hx116 => ?_)
        refine ex_ic oq_X12_causeLine_50 (m := 3) (by decide) (fun x117 hx117 => ?_)
        refine ex_al oq_X12_causeLine_51 rfl ?_
        obtain ⟨x118, ax118, rx118, lx118, ux118⟩ := fi_causesRead Th114
        refine ex_gf oq_X12_causeLine_52 Th114 (k := 111) (d := 12) rfl rfl ax118 ?_
        refine ex_mul oq_X12_causeLine_55 (m := 3 * x118.toInt) (by rw [hx117]) (by omega) (fun x119 hx119 => ?_)
        refine ex_add oq_X12_causeLine_56 (by omega) (fun x120 hx120 => ?_)
        refine ex_isA oq_X12_causeLine_57 (fun L121 gL121_1 kL121 => ?_)
        have gL121_0 : cv_get L121 0 = some (cv_r 111) := kL121 0 _ (by decide) (fun _ => rfl) rfl
        refine ex_al oq_X12_causeLine_58 gL121_0 ?_
        refine ex_gf oq_X12_causeLine_59 Th114 (k := 111) (d := 12) rfl rfl (fr_causeHas Th114) ?_
        refine ex_il oq_X12_causeLine_62 gL121_1 ?_
        refine ex_al oq_X12_causeLine_63 gL121_0 ?_
        obtain ⟨x122, ax122, rx122, lx122, ux122⟩ := fi_got Th114
        refine ex_gf oq_X12_causeLine_64 Th114 (k := 111) (d := 12) rfl rfl ax122 ?_
        refine ex_iw oq_X12_causeLine_67 Th114 (k := 124) (d := 63) (j := 18 + 3 * l.length) rfl rfl (by omega) (by omega) (fun r hr => ca_get hr _ (cw_i32 _) (fun q => by omega)) (fun h123 Th123 wh123 => ?_)
        have Fh123 : cw_Fr cw_Ds cw_sh mk_ca h0 h123 := cw_Fr_tr Fh114 (cw_Fr_wrr wh123 (k := 124) (d := 63) rfl rfl (by decide +kernel))
        have eh123_4 : ri_at h123 111 4 = ri_at h114 111 4 := ri_ne wh123 (.inl (by decide))
        have eh123_5 : ri_at h123 111 5 = ri_at h114 111 5 := ri_ne wh123 (.inl (by decide))
        have eh123_6 : ri_at h123 111 6 = ri_at h114 111 6 := ri_ne wh123 (.inl (by decide))
        have eh123_7 : ri_at h123 111 7 = ri_at h114 111 7 := ri_ne wh123 (.inl (by decide))
        have eh123_8 : ri_at h123 111 8 = ri_at h114 111 8 := ri_ne wh123 (.inl (by decide))
        have eh123_9 : ri_at h123 111 9 = ri_at h114 111 9 := ri_ne wh123 (.inl (by decide))
        have eh123_10 : ri_at h123 111 10 = ri_at h114 111 10 := ri_ne wh123 (.inl (by decide))
        have eh123_11 : ri_at h123 111 11 = ri_at h114 111 11 := ri_ne wh123 (.inl (by decide))
        have eh123_18 : ri_at h123 111 18 = ri_at h114 111 18 := ri_ne wh123 (.inl (by decide))
        refine ex_al oq_X12_causeLine_68 gL121_0 ?_
        obtain ⟨x124, ax124, rx124, lx124, ux124⟩ := fi_kind Th123
        refine ex_gf oq_X12_causeLine_69 Th123 (k := 111) (d := 12) rfl rfl ax124 ?_
        refine ex_ic oq_X12_causeLine_72 (m := 1) (by decide) (fun x125 hx125 => ?_)
        refine ex_if oq_X12_causeLine_73 (t := 89) rfl rfl (fun (c126 : ¬ x124.toInt = x125.toInt) => ?_) (fun (c126 : ¬ (¬ x124.toInt = x125.toInt)) => ?_)
        · refine ex_al oq_X12_causeLine_89 gL121_0 ?_
          refine ex_ic oq_X12_causeLine_90 (m := 1) (by decide) (fun x127 hx127 => ?_)
          refine ex_cv oq_X12_causeLine_91 (by decide) Th123 (k := 111) (d := 12) (as := [cv_i x127]) (stk := []) rfl rfl rfl rfl rfl rfl ⟨rfl, rfl⟩ (R := fun o => ∃ (x : Int32) (hb : cv_H), o = (some (cv_i x), hb) ∧ cw_T G hb ∧ cw_Fr cw_Ds cw_sh kk_X12_wrong.2.2.2.2.2.1 h123 hb ∧ x.toInt = 0 ∧ ri_at hb 111 4 = x127.toInt ∧ ri_at hb 111 5 = ri_at h123 111 10) (rt_wrong Th123 x127 (fun x hb b1 b2 b3 b4 b5 => ⟨x, hb, rfl, b1, b2, b3, b4, b5⟩)) (fun o ho => ?_)
          obtain ⟨x128, h129, rfl, Th129, Ch129, zh129, fh129, ph129⟩ := ho
          show cw_X _ _ _ _ _ [cv_i x128] h129
          have Fh129 : cw_Fr cw_Ds cw_sh mk_ca h0 h129 := cw_Fr_tr Fh123 (cw_Fr_mono (by decide +kernel) Ch129)
          exact ex_retb oq_X12_causeLine_94 rfl (by omega) (by omega) (hQ x128 h129 Th129 Fh129 (.inr ⟨_, _, zcl_3 (by omega) e1_1 (show zn t n 1 99 q1 = _ from by rw [show (1 : Int) = x111.toInt from by omega, show (99 : Int) = x112.toInt from by omega]; exact e2_1) (by omega), by omega, by omega, by omega, by decide⟩))
        · refine ex_al oq_X12_causeLine_76 gL121_0 ?_
          obtain ⟨x130, ax130, rx130, lx130, ux130⟩ := fi_which Th123
          refine ex_gf oq_X12_causeLine_77 Th123 (k := 111) (d := 12) rfl rfl ax130 ?_
          refine ex_ic oq_X12_causeLine_80 (m := 5) (by decide) (fun x131 hx131 => ?_)
          refine ex_bi oq_X12_causeLine_81 (m := 7) (by decide) (fun x132 hx132 => ?_)
          refine ex_cs oq_X12_causeLine_83 (by decide) (as := [cv_i x130, cv_i x131, cv_i x132]) (stk := []) rfl rfl rfl ⟨rfl, rfl⟩ (R := fun o => ∃ x : Int32, o = (some (cv_i x), h123) ∧ (x.toInt = 1 ∧ x131.toInt ≤ x130.toInt ∧ x130.toInt ≤ x132.toInt ∨ x.toInt = 0 ∧ (x130.toInt < x131.toInt ∨ x132.toInt < x130.toInt))) (rt_isIn x130 x131 x132 (fun x q => ⟨x, rfl, q⟩)) (fun o ho => ?_)
          obtain ⟨x133, rfl, dx133⟩ := ho
          show cw_X _ _ _ _ _ [cv_i x133] h123
          refine ex_if0 oq_X12_causeLine_86 (t := 95) rfl rfl (fun (c134 : ¬ x133.toInt = 0) => ?_) (fun (c134 : ¬ (¬ x133.toInt = 0)) => ?_)
          · refine ex_al oq_X12_causeLine_95 gL121_0 ?_
            refine ex_gf oq_X12_causeLine_96 Th123 (k := 111) (d := 12) rfl rfl (fr_causeHas Th123) ?_
            refine ex_il oq_X12_causeLine_99 gL121_1 ?_
            refine ex_ic oq_X12_causeLine_100 (m := 1) (by decide) (fun x135 hx135 => ?_)
            refine ex_add oq_X12_causeLine_101 (by omega) (fun x136 hx136 => ?_)
            refine ex_al oq_X12_causeLine_102 gL121_0 ?_
            obtain ⟨x137, ax137, rx137, lx137, ux137⟩ := fi_which Th123
            refine ex_gf oq_X12_causeLine_103 Th123 (k := 111) (d := 12) rfl rfl ax137 ?_
            refine ex_ic oq_X12_causeLine_106 (m := 5) (by decide) (fun x138 hx138 => ?_)
            refine ex_sub oq_X12_causeLine_107 (by omega) (fun x139 hx139 => ?_)
            refine ex_iw oq_X12_causeLine_108 Th123 (k := 124) (d := 63) (j := 18 + 3 * l.length + 1) rfl rfl (by omega) (by omega) (fun r hr => ca_get hr _ (cw_i32 _) (fun q => by omega)) (fun h140 Th140 wh140 => ?_)
            have Fh140 : cw_Fr cw_Ds cw_sh mk_ca h0 h140 := cw_Fr_tr Fh123 (cw_Fr_wrr wh140 (k := 124) (d := 63) rfl rfl (by decide +kernel))
            have eh140_4 : ri_at h140 111 4 = ri_at h123 111 4 := ri_ne wh140 (.inl (by decide))
            have eh140_5 : ri_at h140 111 5 = ri_at h123 111 5 := ri_ne wh140 (.inl (by decide))
            have eh140_6 : ri_at h140 111 6 = ri_at h123 111 6 := ri_ne wh140 (.inl (by decide))
            have eh140_7 : ri_at h140 111 7 = ri_at h123 111 7 := ri_ne wh140 (.inl (by decide))
            have eh140_8 : ri_at h140 111 8 = ri_at h123 111 8 := ri_ne wh140 (.inl (by decide))
            have eh140_9 : ri_at h140 111 9 = ri_at h123 111 9 := ri_ne wh140 (.inl (by decide))
            have eh140_10 : ri_at h140 111 10 = ri_at h123 111 10 := ri_ne wh140 (.inl (by decide))
            have eh140_11 : ri_at h140 111 11 = ri_at h123 111 11 := ri_ne wh140 (.inl (by decide))
            have eh140_18 : ri_at h140 111 18 = ri_at h123 111 18 := ri_ne wh140 (.inl (by decide))
            refine ex_al oq_X12_causeLine_109 gL121_0 ?_
            refine ex_cv oq_X12_causeLine_110 (by decide) Th140 (k := 111) (d := 12) (as := []) (stk := []) rfl rfl rfl rfl rfl rfl ⟨rfl, rfl⟩ (R := fun o => ∃ hb : cv_H, o = (none, hb) ∧ cw_T G hb ∧ cw_Fr cw_Ds cw_sh kk_X12_token.2.2.2.2.2.1 h140 hb ∧ zR t n (zx t n q2) hb) (rt_tok (t := t) (n := n) (p := zx t n q2) (fun i hi => by rw [ht i hi, ← hA _ Fh140]) hn9 (fun i hi => by rw [hB _ Fh140]; exact hwr i hi) Th140 (zx_le (by omega)) (by omega) (by omega) (fun hb b1 b2 b3 => ⟨hb, rfl, b1, b2, b3⟩)) (fun o ho => ?_)
            obtain ⟨h141, rfl, Th141, Ch141, Zh141⟩ := ho
            show cw_X _ _ _ _ _ [] h141
            have Fh141 : cw_Fr cw_Ds cw_sh mk_ca h0 h141 := cw_Fr_tr Fh140 (cw_Fr_mono (by decide +kernel) Ch141)
            have eh141_4 : ri_at h141 111 4 = ri_at h140 111 4 := ri_frf Ch141 (d := 12) rfl rfl (by decide +kernel)
            have eh141_5 : ri_at h141 111 5 = ri_at h140 111 5 := ri_frf Ch141 (d := 12) rfl rfl (by decide +kernel)
            have eh141_11 : ri_at h141 111 11 = ri_at h140 111 11 := ri_frf Ch141 (d := 12) rfl rfl (by decide +kernel)
            have eh141_18 : ri_at h141 111 18 = ri_at h140 111 18 := ri_frf Ch141 (d := 12) rfl rfl (by decide +kernel)
            obtain ⟨yah141, ybh141, ych141, ydh141, yeh141⟩ := id Zh141
            have zlh141 := zx_le (t := t) (n := n) (p := (zx t n q2)) (by omega)
            refine ex_al oq_X12_causeLine_113 gL121_0 ?_
            refine ex_ic oq_X12_causeLine_114 (m := 1) (by decide) (fun x142 hx142 => ?_)
            refine ex_si oq_X12_causeLine_115 (m := 999) (by decide) (fun x143 hx143 => ?_)
            refine ex_cv oq_X12_causeLine_118 (by decide) Th141 (k := 111) (d := 12) (as := [cv_i x142, cv_i x143]) (stk := []) rfl rfl rfl rfl rfl rfl ⟨rfl, rfl⟩ (R := fun o => ∃ (x : Int32) (hb : cv_H), o = (some (cv_i x), hb) ∧ cw_T G hb ∧ cw_Fr cw_Ds cw_sh kk_X12_number.2.2.2.2.2.1 h141 hb ∧ zRe t n h141 hb x (zn t n x142.toInt x143.toInt (zx t n q2)) (fun v => ri_at hb 111 11 = v)) (rt_number (t := t) (n := n) (p := (zx t n q2)) (fun i hi => by rw [ht i hi, ← hA _ Fh141]) hn9 Th141 (fun i hi => by rw [hB _ Fh141]; exact hwr i hi) (by omega) Zh141 x142 x143 (fun x hb b1 b2 b3 => ⟨x, hb, rfl, b1, b2, b3⟩)) (fun o ho => ?_)
            obtain ⟨x144, h145, rfl, Th145, Ch145, dx144⟩ := ho
            show cw_X _ _ _ _ _ [cv_i x144] h145
            have Fh145 : cw_Fr cw_Ds cw_sh mk_ca h0 h145 := cw_Fr_tr Fh141 (cw_Fr_mono (by decide +kernel) Ch145)
            have eh145_18 : ri_at h145 111 18 = ri_at h141 111 18 := ri_frf Ch145 (d := 12) rfl rfl (by decide +kernel)
            refine ex_if0 oq_X12_causeLine_121 (t := 126) rfl rfl (fun (c146 : ¬ x144.toInt = 0) => ?_) (fun (c146 : ¬ (¬ x144.toInt = 0)) => ?_)
            · obtain ⟨v4, q4, e4_1, e4_2, e4_3, e4_4, e4_5, e4_6, e4_7⟩ := zRe_yes dx144 (by omega)
              clear dx144
              obtain ⟨y4_1, y4_2, y4_3, y4_4, y4_5⟩ := id e4_4
              have zl4 := zx_le (t := t) e4_2
              have e4_8 := zn_rg e4_1
              refine ex_al oq_X12_causeLine_126 gL121_0 ?_
              refine ex_gf oq_X12_causeLine_127 Th145 (k := 111) (d := 12) rfl rfl (fr_causeHas Th145) ?_
              refine ex_il oq_X12_causeLine_130 gL121_1 ?_
              refine ex_ic oq_X12_causeLine_131 (m := 2) (by decide) (fun x147 hx147 => ?_)
              refine ex_add oq_X12_causeLine_132 (by omega) (fun x148 hx148 => ?_)
              refine ex_al oq_X12_causeLine_133 gL121_0 ?_
              obtain ⟨x149, ax149, rx149, lx149, ux149⟩ := fi_got Th145
              refine ex_gf oq_X12_causeLine_134 Th145 (k := 111) (d := 12) rfl rfl ax149 ?_
              refine ex_iw oq_X12_causeLine_137 Th145 (k := 124) (d := 63) (j := 18 + 3 * l.length + 2) rfl rfl (by omega) (by omega) (fun r hr => ca_get hr _ (cw_i32 _) (fun q => by omega)) (fun h150 Th150 wh150 => ?_)
              have Fh150 : cw_Fr cw_Ds cw_sh mk_ca h0 h150 := cw_Fr_tr Fh145 (cw_Fr_wrr wh150 (k := 124) (d := 63) rfl rfl (by decide +kernel))
              have eh150_4 : ri_at h150 111 4 = ri_at h145 111 4 := ri_ne wh150 (.inl (by decide))
              have eh150_5 : ri_at h150 111 5 = ri_at h145 111 5 := ri_ne wh150 (.inl (by decide))
              have eh150_6 : ri_at h150 111 6 = ri_at h145 111 6 := ri_ne wh150 (.inl (by decide))
              have eh150_7 : ri_at h150 111 7 = ri_at h145 111 7 := ri_ne wh150 (.inl (by decide))
              have eh150_8 : ri_at h150 111 8 = ri_at h145 111 8 := ri_ne wh150 (.inl (by decide))
              have eh150_9 : ri_at h150 111 9 = ri_at h145 111 9 := ri_ne wh150 (.inl (by decide))
              have eh150_10 : ri_at h150 111 10 = ri_at h145 111 10 := ri_ne wh150 (.inl (by decide))
              have eh150_11 : ri_at h150 111 11 = ri_at h145 111 11 := ri_ne wh150 (.inl (by decide))
              have eh150_18 : ri_at h150 111 18 = ri_at h145 111 18 := ri_ne wh150 (.inl (by decide))
              refine ex_al oq_X12_causeLine_138 gL121_0 ?_
              refine ex_dup oq_X12_causeLine_139 rfl ?_
              obtain ⟨x151, ax151, rx151, lx151, ux151⟩ := fi_causesRead Th150
              refine ex_gf oq_X12_causeLine_140 Th150 (k := 111) (d := 12) rfl rfl ax151 ?_
              refine ex_ic oq_X12_causeLine_143 (m := 1) (by decide) (fun x152 hx152 => ?_)
              refine ex_add oq_X12_causeLine_144 (by omega) (fun x153 hx153 => ?_)
              refine ex_pfi oq_X12_causeLine_145 Th150 (k := 111) (d := 12) rfl rfl rfl (by omega) (by omega) (fun h154 Th154 wh154 => ?_)
              have Fh154 : cw_Fr cw_Ds cw_sh mk_ca h0 h154 := cw_Fr_tr Fh150 (cw_Fr_wrf wh154 (k := 111) (d := 12) rfl rfl (by decide +kernel))
              have eh154_4 : ri_at h154 111 4 = ri_at h150 111 4 := ri_ne wh154 (by decide)
              have eh154_5 : ri_at h154 111 5 = ri_at h150 111 5 := ri_ne wh154 (by decide)
              have eh154_6 : ri_at h154 111 6 = ri_at h150 111 6 := ri_ne wh154 (by decide)
              have eh154_7 : ri_at h154 111 7 = ri_at h150 111 7 := ri_ne wh154 (by decide)
              have eh154_8 : ri_at h154 111 8 = ri_at h150 111 8 := ri_ne wh154 (by decide)
              have eh154_9 : ri_at h154 111 9 = ri_at h150 111 9 := ri_ne wh154 (by decide)
              have eh154_10 : ri_at h154 111 10 = ri_at h150 111 10 := ri_ne wh154 (by decide)
              have eh154_11 : ri_at h154 111 11 = ri_at h150 111 11 := ri_ne wh154 (by decide)
              have eh154_18 : ri_at h154 111 18 = x153.toInt := ri_self wh154
              refine ex_ic oq_X12_causeLine_148 (m := 1) (by decide) (fun x155 hx155 => ?_)
              have hr : ∀ i, ri_at h154 123 i = ri_at h108 123 i := fun i => ((ri_ne wh154 (.inl (by decide))).trans ((ri_ne wh150 (.inl (by decide))).trans ((ri_frr Ch145 (k := 123) (d := 62) rfl rfl (by decide +kernel)).trans ((ri_frr Ch141 (k := 123) (d := 62) rfl rfl (by decide +kernel)).trans ((ri_ne wh140 (.inl (by decide))).trans ((ri_ne wh123 (.inl (by decide))).trans (ri_frr Ch114 (k := 123) (d := 62) rfl rfl (by decide +kernel))))))))
              exact ex_retb oq_X12_causeLine_149 rfl (by omega) (by omega) (hQ x155 h154 Th154 Fh154 (.inl ⟨_, _, zcl_5 (by omega) e1_1 (show zn t n 1 99 q1 = _ from by rw [show (1 : Int) = x111.toInt from by omega, show (99 : Int) = x112.toInt from by omega]; exact e2_1) (by omega) (show zn t n 1 999 (zx t n q2) = _ from by rw [show (1 : Int) = x142.toInt from by omega, show (999 : Int) = x143.toInt from by omega]; exact e4_1), e4_2, by omega, ⟨by omega, by omega, by omega, by omega, fun q1 q2 => by have := y4_5 q1 q2; omega⟩, by omega, by omega, fun k hk => by rw [hr]; exact e1_7.1 k hk, by rw [hr]; exact e1_7.2, by omega⟩))
            · obtain ⟨fc4, fa4, e4_1, e4_2, e4_3, e4_4, e4_5⟩ := zRe_no dx144 (by omega)
              clear dx144
              refine ex_ic oq_X12_causeLine_124 (m := 0) (by decide) (fun x156 hx156 => ?_)
              exact ex_retb oq_X12_causeLine_125 rfl (by omega) (by omega) (hQ x156 h145 Th145 Fh145 (.inr ⟨_, _, zcl_4 (by omega) e1_1 (show zn t n 1 99 q1 = _ from by rw [show (1 : Int) = x111.toInt from by omega, show (99 : Int) = x112.toInt from by omega]; exact e2_1) (by omega) (show zn t n 1 999 (zx t n q2) = _ from by rw [show (1 : Int) = x142.toInt from by omega, show (999 : Int) = x143.toInt from by omega]; exact e4_1), by omega, by omega, by omega, by omega⟩))
          · refine ex_al oq_X12_causeLine_89 gL121_0 ?_
            refine ex_ic oq_X12_causeLine_90 (m := 1) (by decide) (fun x157 hx157 => ?_)
            refine ex_cv oq_X12_causeLine_91 (by decide) Th123 (k := 111) (d := 12) (as := [cv_i x157]) (stk := []) rfl rfl rfl rfl rfl rfl ⟨rfl, rfl⟩ (R := fun o => ∃ (x : Int32) (hb : cv_H), o = (some (cv_i x), hb) ∧ cw_T G hb ∧ cw_Fr cw_Ds cw_sh kk_X12_wrong.2.2.2.2.2.1 h123 hb ∧ x.toInt = 0 ∧ ri_at hb 111 4 = x157.toInt ∧ ri_at hb 111 5 = ri_at h123 111 10) (rt_wrong Th123 x157 (fun x hb b1 b2 b3 b4 b5 => ⟨x, hb, rfl, b1, b2, b3, b4, b5⟩)) (fun o ho => ?_)
            obtain ⟨x158, h159, rfl, Th159, Ch159, zh159, fh159, ph159⟩ := ho
            show cw_X _ _ _ _ _ [cv_i x158] h159
            have Fh159 : cw_Fr cw_Ds cw_sh mk_ca h0 h159 := cw_Fr_tr Fh123 (cw_Fr_mono (by decide +kernel) Ch159)
            exact ex_retb oq_X12_causeLine_94 rfl (by omega) (by omega) (hQ x158 h159 Th159 Fh159 (.inr ⟨_, _, zcl_3 (by omega) e1_1 (show zn t n 1 99 q1 = _ from by rw [show (1 : Int) = x111.toInt from by omega, show (99 : Int) = x112.toInt from by omega]; exact e2_1) (by omega), by omega, by omega, by omega, by decide⟩))
      · obtain ⟨fc2, fa2, e2_1, e2_2, e2_3, e2_4, e2_5⟩ := zRe_no dx113 (by omega)
        clear dx113
        refine ex_ic oq_X12_causeLine_46 (m := 0) (by decide) (fun x160 hx160 => ?_)
        exact ex_retb oq_X12_causeLine_47 rfl (by omega) (by omega) (hQ x160 h114 Th114 Fh114 (.inr ⟨_, _, zcl_2 (by omega) e1_1 (show zn t n 1 99 q1 = _ from by rw [show (1 : Int) = x111.toInt from by omega, show (99 : Int) = x112.toInt from by omega]; exact e2_1), by omega, by omega, by omega, by omega⟩))
  · refine ex_al oq_X12_causeLine_9 rfl ?_
    refine ex_ic oq_X12_causeLine_10 (m := 2) (by decide) (fun x161 hx161 => ?_)
    refine ex_cv oq_X12_causeLine_11 (by decide) hT (k := 111) (d := 12) (as := [cv_i x161]) (stk := []) rfl rfl rfl rfl rfl rfl ⟨rfl, rfl⟩ (R := fun o => ∃ (x : Int32) (hb : cv_H), o = (some (cv_i x), hb) ∧ cw_T G hb ∧ cw_Fr cw_Ds cw_sh kk_X12_wrong.2.2.2.2.2.1 h0 hb ∧ x.toInt = 0 ∧ ri_at hb 111 4 = x161.toInt ∧ ri_at hb 111 5 = ri_at h0 111 10) (rt_wrong hT x161 (fun x hb b1 b2 b3 b4 b5 => ⟨x, hb, rfl, b1, b2, b3, b4, b5⟩)) (fun o ho => ?_)
    obtain ⟨x162, h163, rfl, Th163, Ch163, zh163, fh163, ph163⟩ := ho
    show cw_X _ _ _ _ _ [cv_i x162] h163
    have Fh163 : cw_Fr cw_Ds cw_sh mk_ca h0 h163 := cw_Fr_tr Fh0 (cw_Fr_mono (by decide +kernel) Ch163)
    exact ex_retb oq_X12_causeLine_14 rfl (by omega) (by omega) (hQ x162 h163 Th163 Fh163 (.inr ⟨_, _, zcl_0 (by omega), by omega, by omega, by omega, by decide⟩))
end TZ
