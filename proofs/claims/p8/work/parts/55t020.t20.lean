/-! ===== a sign of a formula: the reference ===== -/
section TZ
variable {G : Int} {X : cv_X} {Q : cv_O → Prop} {t : Nat → Int}
set_option maxHeartbeats 8000000 in
theorem sg_c {h0 : cv_H} {n p : Nat} (ht : ∀ i, i < n → t i = ri_at h0 112 i) (hn9 : n ≤ 900) (hwr : ∀ i, i < 177 → ri_at h0 113 i = pp_words.getD i 0) (hpn : p ≤ n) {h : cv_H} (hT : cw_T G h) (Fh : cw_Fr cw_Ds cw_sh mk_fm h0 h) (hz : zR t n p h) (hf4 : ri_at h 111 4 = ri_at h0 111 4) (hf5 : ri_at h 111 5 = ri_at h0 111 5) {st s1 : List Int} {kn m : Int} (hk64 : 0 ≤ kn ∧ kn ≤ 64) (hno : ¬ ((zk t n p = 4 ∧ zw t n p = 41) ∧ 0 < zc0 st)) (hs1 : zbi (if zrk (zsk (zk t n p) (zw t n p)) = 4 then 5 else zrk (zsk (zk t n p) (zw t n p))) st = s1) (ho : zok s1) (hrw : zrow h 128 s1) (hwa : ri_at h 111 37 = s1.length) (hhe : ri_at h 111 38 = zcb s1 + 1) (hkn : ri_at h 111 19 + zcb s1 + zcu s1 = kn) (hct : ri_at h 111 40 = kn) (hbr : ri_at h 111 39 = zc0 s1) (hwn : ri_at h 111 41 = 0) (hmn : ri_at h 111 42 = m) {L : cv_L} {k : Int32} (hk : k.toInt = (zsk (zk t n p) (zw t n p))) (hk3 : 3 ≤ (zsk (zk t n p) (zw t n p)) ∧ (zsk (zk t n p) (zw t n p)) ≤ 14) (g0 : cv_get L 0 = some (cv_r 111)) (g1 : cv_get L 1 = some (cv_i k)) (hcp : ¬ (zrk (zsk (zk t n p) (zw t n p)) = 4 ∧ zrk (s1.headD 0) = 4)) (hQ : ∀ (x : Int32) h', cw_T G h' → cw_Fr cw_Ds cw_sh mk_fm h0 h' → zRe t n h0 h' x (zsg t n st kn m p) (fun s => zFR h' s.1 s.2.1 s.2.2.1 s.2.2.2) → Q (some (cv_i x), h')) : cw_X X 198 Q 217 L [] h := by
  obtain ⟨z1, z2, z3, z4, z5⟩ := id hz
  replace z5 := zhd_i z5
  have zxl := zx_le (t := t) hpn
  have hlen := zc_len ho
  obtain ⟨K, hK⟩ : ∃ K, ri_at h 111 19 = K := ⟨_, rfl⟩
  have hK0 : 0 ≤ K ∧ K ≤ 64 := by obtain ⟨y, _, y1, y2, y3⟩ := fi_knotsRead hT; omega
  rw [hK] at hkn
  have hb8 : zc0 s1 ≤ 8 := by obtain ⟨y, _, y1, y2, y3⟩ := fi_brackets hT; omega
  have hA : ∀ h, cw_Fr cw_Ds cw_sh mk_fm h0 h → ∀ i, ri_at h 112 i = ri_at h0 112 i := fun h F i => ri_frr F (k := 112) (d := 51) rfl rfl (by decide +kernel)
  have hB : ∀ h, cw_Fr cw_Ds cw_sh mk_fm h0 h → ∀ i, ri_at h 113 i = ri_at h0 113 i := fun h F i => ri_frr F (k := 113) (d := 52) rfl rfl (by decide +kernel)
  have f1 : zcb ((zsk (zk t n p) (zw t n p)) :: s1) = 1 + zcb s1 ∧ zcu ((zsk (zk t n p) (zw t n p)) :: s1) = zcu s1 ∧ zc0 ((zsk (zk t n p) (zw t n p)) :: s1) = zc0 s1 := by
    simp only [zcb, zcu, zc0]
    rw [if_pos (by omega), if_neg (by omega), if_neg (by omega)]
    omega
  refine ex_al oq_X12_signs_217 g0 ?_
  refine ex_cv oq_X12_signs_218 (by decide) hT (k := 111) (d := 12) (as := []) (stk := []) rfl rfl rfl rfl rfl rfl ⟨rfl, rfl⟩ (R := fun o => ∃ (x : Int32) (hb : cv_H), o = (some (cv_i x), hb) ∧ cw_T G hb ∧ cw_Fr cw_Ds cw_sh mk_cn h hb ∧ (x.toInt = 1 ∧ kn < 64 ∧ ri_at hb 111 40 = kn + 1 ∧ ri_at hb 111 4 = ri_at h 111 4 ∧ ri_at hb 111 5 = ri_at h 111 5 ∨ x.toInt = 0 ∧ kn = 64 ∧ ri_at hb 111 4 = 2 ∧ ri_at hb 111 5 = ri_at h 111 10)) (rt_isCounted hT hct (fun x hb b1 b2 b3 => ⟨x, hb, rfl, b1, b2, b3⟩)) (fun o ho => ?_)
  obtain ⟨x101, h102, rfl, Th102, Ch102, dx101⟩ := ho
  show cw_X _ _ _ _ _ [cv_i x101] h102
  have Fh102 : cw_Fr cw_Ds cw_sh mk_fm h0 h102 := cw_Fr_tr Fh (cw_Fr_mono (by decide +kernel) Ch102)
  have eh102_111_6 : ri_at h102 111 6 = (n : Int) := (ri_frf Ch102 (d := 12) rfl rfl (by decide +kernel)).trans z1
  have eh102_111_7 : ri_at h102 111 7 = ((zx t n p : Nat) : Int) := (ri_frf Ch102 (d := 12) rfl rfl (by decide +kernel)).trans z3
  have eh102_111_8 : ri_at h102 111 8 = zk t n p := (ri_frf Ch102 (d := 12) rfl rfl (by decide +kernel)).trans z4
  have eh102_111_10 : ri_at h102 111 10 = ((za t n p : Nat) : Int) := (ri_frf Ch102 (d := 12) rfl rfl (by decide +kernel)).trans z2
  have eh102_111_11 : ri_at h102 111 11 = ri_at h 111 11 := ri_frf Ch102 (d := 12) rfl rfl (by decide +kernel)
  have eh102_111_37 : ri_at h102 111 37 = (s1.length : Int) := (ri_frf Ch102 (d := 12) rfl rfl (by decide +kernel)).trans hwa
  have eh102_111_38 : ri_at h102 111 38 = zcb s1 + 1 := (ri_frf Ch102 (d := 12) rfl rfl (by decide +kernel)).trans hhe
  have eh102_111_19 : ri_at h102 111 19 = K := (ri_frf Ch102 (d := 12) rfl rfl (by decide +kernel)).trans hK
  have eh102_111_39 : ri_at h102 111 39 = zc0 s1 := (ri_frf Ch102 (d := 12) rfl rfl (by decide +kernel)).trans hbr
  have eh102_111_41 : ri_at h102 111 41 = (0 : Int) := (ri_frf Ch102 (d := 12) rfl rfl (by decide +kernel)).trans hwn
  have eh102_111_42 : ri_at h102 111 42 = m := (ri_frf Ch102 (d := 12) rfl rfl (by decide +kernel)).trans hmn
  have Zh102 := zR_fr Ch102 hz (by decide +kernel)
  refine ex_if0 oq_X12_signs_221 (t := 226) rfl rfl (fun (c103 : ¬ x101.toInt = 0) => ?_) (fun (c103 : ¬ (¬ x101.toInt = 0)) => ?_)
  · obtain ⟨_, kx101, bx101, fx101, gx101⟩ := cnt_y dx101 c103
    clear dx101
    replace fx101 := fx101.trans hf4
    replace gx101 := gx101.trans hf5
    refine ex_al oq_X12_signs_226 g0 ?_
    refine ex_il oq_X12_signs_227 g1 ?_
    have enh102 : (ri_at h102 111 37).toNat = (s1).length := by omega
    refine ex_cv oq_X12_signs_228 (by decide) Th102 (k := 111) (d := 12) (as := [cv_i k]) (stk := []) rfl rfl rfl rfl rfl rfl ⟨rfl, rfl⟩ (R := fun o => ∃ (hb : cv_H), o = (none, hb) ∧ cw_T G hb ∧ cw_Fr cw_Ds cw_sh mk_wf h102 hb ∧ ri_at hb 111 37 = (s1.length : Int) + 1 ∧ ri_at hb 128 (s1).length = k.toInt ∧ ∀ i, i ≠ (s1).length → ri_at hb 128 i = ri_at h102 128 i) (sp_waitsFor Th102 k (by omega) (fun hb b1 b2 b3 b4 b5 => ⟨hb, rfl, b1, b2, b3.trans (congrArg (· + 1) eh102_111_37), by rw [← enh102]; exact b4, by rw [← enh102]; exact b5⟩)) (fun o ho => ?_)
    obtain ⟨h104, rfl, Th104, Ch104, bh104, ch104, dh104⟩ := ho
    show cw_X _ _ _ _ _ [] h104
    have rowh104 : zrow h104 128 ((zsk (zk t n p) (zw t n p)) :: s1) := zrow_push (zrow_eq hrw (fun i => (ri_frr Ch102 (k := 128) (d := 67) rfl rfl (by decide +kernel)))) (by rw [ch104]; exact hk) dh104
    have Fh104 : cw_Fr cw_Ds cw_sh mk_fm h0 h104 := cw_Fr_tr Fh102 (cw_Fr_mono (by decide +kernel) Ch104)
    have eh104_111_4 : ri_at h104 111 4 = ri_at h0 111 4 := (ri_frf Ch104 (d := 12) rfl rfl (by decide +kernel)).trans fx101
    have eh104_111_5 : ri_at h104 111 5 = ri_at h0 111 5 := (ri_frf Ch104 (d := 12) rfl rfl (by decide +kernel)).trans gx101
    have eh104_111_6 : ri_at h104 111 6 = (n : Int) := (ri_frf Ch104 (d := 12) rfl rfl (by decide +kernel)).trans eh102_111_6
    clear eh102_111_6
    have eh104_111_7 : ri_at h104 111 7 = ((zx t n p : Nat) : Int) := (ri_frf Ch104 (d := 12) rfl rfl (by decide +kernel)).trans eh102_111_7
    clear eh102_111_7
    have eh104_111_8 : ri_at h104 111 8 = zk t n p := (ri_frf Ch104 (d := 12) rfl rfl (by decide +kernel)).trans eh102_111_8
    clear eh102_111_8
    have eh104_111_10 : ri_at h104 111 10 = ((za t n p : Nat) : Int) := (ri_frf Ch104 (d := 12) rfl rfl (by decide +kernel)).trans eh102_111_10
    clear eh102_111_10
    have eh104_111_11 : ri_at h104 111 11 = ri_at h 111 11 := (ri_frf Ch104 (d := 12) rfl rfl (by decide +kernel)).trans eh102_111_11
    clear eh102_111_11
    have eh104_111_38 : ri_at h104 111 38 = zcb s1 + 1 := (ri_frf Ch104 (d := 12) rfl rfl (by decide +kernel)).trans eh102_111_38
    clear eh102_111_38
    have eh104_111_19 : ri_at h104 111 19 = K := (ri_frf Ch104 (d := 12) rfl rfl (by decide +kernel)).trans eh102_111_19
    clear eh102_111_19
    have eh104_111_40 : ri_at h104 111 40 = kn + 1 := (ri_frf Ch104 (d := 12) rfl rfl (by decide +kernel)).trans bx101
    have eh104_111_39 : ri_at h104 111 39 = zc0 s1 := (ri_frf Ch104 (d := 12) rfl rfl (by decide +kernel)).trans eh102_111_39
    clear eh102_111_39
    have eh104_111_41 : ri_at h104 111 41 = (0 : Int) := (ri_frf Ch104 (d := 12) rfl rfl (by decide +kernel)).trans eh102_111_41
    clear eh102_111_41
    have eh104_111_42 : ri_at h104 111 42 = m := (ri_frf Ch104 (d := 12) rfl rfl (by decide +kernel)).trans eh102_111_42
    clear eh102_111_42
    have Zh104 := zR_fr Ch104 Zh102 (by decide +kernel)
    refine ex_al oq_X12_signs_231 g0 ?_
    refine ex_ic oq_X12_signs_232 (m := 1) (by decide) (fun x105 hx105 => ?_)
    refine ex_pfb oq_X12_signs_233 Th104 (k := 111) (d := 12) rfl rfl rfl (by omega) (by omega) (fun h106 Th106 wh106 => ?_)
    have Fh106 : cw_Fr cw_Ds cw_sh mk_fm h0 h106 := cw_Fr_tr Fh104 (cw_Fr_wrf wh106 (k := 111) (d := 12) rfl rfl (by decide +kernel))
    have eh106_111_4 : ri_at h106 111 4 = ri_at h0 111 4 := (ri_ne wh106 (by decide)).trans eh104_111_4
    clear eh104_111_4
    have eh106_111_5 : ri_at h106 111 5 = ri_at h0 111 5 := (ri_ne wh106 (by decide)).trans eh104_111_5
    clear eh104_111_5
    have eh106_111_6 : ri_at h106 111 6 = (n : Int) := (ri_ne wh106 (by decide)).trans eh104_111_6
    clear eh104_111_6
    have eh106_111_7 : ri_at h106 111 7 = ((zx t n p : Nat) : Int) := (ri_ne wh106 (by decide)).trans eh104_111_7
    clear eh104_111_7
    have eh106_111_8 : ri_at h106 111 8 = zk t n p := (ri_ne wh106 (by decide)).trans eh104_111_8
    clear eh104_111_8
    have eh106_111_10 : ri_at h106 111 10 = ((za t n p : Nat) : Int) := (ri_ne wh106 (by decide)).trans eh104_111_10
    clear eh104_111_10
    have eh106_111_11 : ri_at h106 111 11 = ri_at h 111 11 := (ri_ne wh106 (by decide)).trans eh104_111_11
    clear eh104_111_11
    have eh106_111_37 : ri_at h106 111 37 = (s1.length : Int) + 1 := (ri_ne wh106 (by decide)).trans bh104
    have eh106_111_38 : ri_at h106 111 38 = zcb s1 + 1 := (ri_ne wh106 (by decide)).trans eh104_111_38
    clear eh104_111_38
    have eh106_111_19 : ri_at h106 111 19 = K := (ri_ne wh106 (by decide)).trans eh104_111_19
    clear eh104_111_19
    have eh106_111_40 : ri_at h106 111 40 = kn + 1 := (ri_ne wh106 (by decide)).trans eh104_111_40
    clear eh104_111_40
    have eh106_111_39 : ri_at h106 111 39 = zc0 s1 := (ri_ne wh106 (by decide)).trans eh104_111_39
    clear eh104_111_39
    have eh106_111_41 : ri_at h106 111 41 = x105.toInt := ri_self wh106
    have eh106_111_42 : ri_at h106 111 42 = m := (ri_ne wh106 (by decide)).trans eh104_111_42
    clear eh104_111_42
    have Zh106 := zR_wr wh106 Zh104 (.inr (by decide))
    refine ex_al oq_X12_signs_236 g0 ?_
    refine ex_il oq_X12_signs_237 g1 ?_
    refine ex_cs oq_X12_signs_238 (by decide) (as := [cv_i k]) (stk := [cv_r 111]) rfl rfl rfl ⟨rfl, rfl⟩ (R := fun o => ∃ x : Int32, o = (some (cv_i x), h106) ∧ x.toInt = zrk k.toInt) (rt_rank k (fun x q => ⟨x, rfl, q⟩)) (fun o ho => ?_)
    obtain ⟨x107, rfl, mx107⟩ := ho
    show cw_X _ _ _ _ _ [cv_i x107, cv_r 111] h106
    refine ex_ic oq_X12_signs_241 (m := 3) (by decide) (fun x108 hx108 => ?_)
    refine ex_if oq_X12_signs_242 (t := 249) rfl rfl (fun (c109 : x108.toInt ≤ x107.toInt) => ?_) (fun (c109 : ¬ (x108.toInt ≤ x107.toInt)) => ?_)
    · rw [hk] at mx107
      refine ex_ic oq_X12_signs_249 (m := 0) (by decide) (fun x110 hx110 => ?_)
      refine ex_pfb oq_X12_signs_250 Th106 (k := 111) (d := 12) rfl rfl rfl (by omega) (by omega) (fun h111 Th111 wh111 => ?_)
      have Fh111 : cw_Fr cw_Ds cw_sh mk_fm h0 h111 := cw_Fr_tr Fh106 (cw_Fr_wrf wh111 (k := 111) (d := 12) rfl rfl (by decide +kernel))
      have eh111_111_4 : ri_at h111 111 4 = ri_at h0 111 4 := (ri_ne wh111 (by decide)).trans eh106_111_4
      clear eh106_111_4
      have eh111_111_5 : ri_at h111 111 5 = ri_at h0 111 5 := (ri_ne wh111 (by decide)).trans eh106_111_5
      clear eh106_111_5
      have eh111_111_6 : ri_at h111 111 6 = (n : Int) := (ri_ne wh111 (by decide)).trans eh106_111_6
      clear eh106_111_6
      have eh111_111_7 : ri_at h111 111 7 = ((zx t n p : Nat) : Int) := (ri_ne wh111 (by decide)).trans eh106_111_7
      clear eh106_111_7
      have eh111_111_8 : ri_at h111 111 8 = zk t n p := (ri_ne wh111 (by decide)).trans eh106_111_8
      clear eh106_111_8
      have eh111_111_10 : ri_at h111 111 10 = ((za t n p : Nat) : Int) := (ri_ne wh111 (by decide)).trans eh106_111_10
      clear eh106_111_10
      have eh111_111_11 : ri_at h111 111 11 = ri_at h 111 11 := (ri_ne wh111 (by decide)).trans eh106_111_11
      clear eh106_111_11
      have eh111_111_37 : ri_at h111 111 37 = (s1.length : Int) + 1 := (ri_ne wh111 (by decide)).trans eh106_111_37
      clear eh106_111_37
      have eh111_111_38 : ri_at h111 111 38 = zcb s1 + 1 := (ri_ne wh111 (by decide)).trans eh106_111_38
      clear eh106_111_38
      have eh111_111_19 : ri_at h111 111 19 = K := (ri_ne wh111 (by decide)).trans eh106_111_19
      clear eh106_111_19
      have eh111_111_40 : ri_at h111 111 40 = kn + 1 := (ri_ne wh111 (by decide)).trans eh106_111_40
      clear eh106_111_40
      have eh111_111_39 : ri_at h111 111 39 = zc0 s1 := (ri_ne wh111 (by decide)).trans eh106_111_39
      clear eh106_111_39
      have eh111_111_41 : ri_at h111 111 41 = x105.toInt := (ri_ne wh111 (by decide)).trans eh106_111_41
      clear eh106_111_41
      have eh111_111_42 : ri_at h111 111 42 = x110.toInt := ri_self wh111
      have Zh111 := zR_wr wh111 Zh106 (.inr (by decide))
      refine ex_al oq_X12_signs_253 g0 ?_
      refine ex_cv oq_X12_signs_254 (by decide) Th111 (k := 111) (d := 12) (as := []) (stk := []) rfl rfl rfl rfl rfl rfl ⟨rfl, rfl⟩ (R := fun o => ∃ hb : cv_H, o = (none, hb) ∧ cw_T G hb ∧ cw_Fr cw_Ds cw_sh kk_X12_token.2.2.2.2.2.1 h111 hb ∧ zR t n (zx t n p) hb) (rt_tok (t := t) (n := n) (p := (zx t n p)) (fun i hi => by rw [ht i hi, ← hA _ Fh111]) hn9 (fun i hi => by rw [hB _ Fh111]; exact hwr i hi) Th111 (zx_le (by omega)) (by omega) (by omega) (fun hb b1 b2 b3 => ⟨hb, rfl, b1, b2, b3⟩)) (fun o ho => ?_)
      obtain ⟨h112, rfl, Th112, Ch112, Zh112⟩ := ho
      show cw_X _ _ _ _ _ [] h112
      have Fh112 : cw_Fr cw_Ds cw_sh mk_fm h0 h112 := cw_Fr_tr Fh111 (cw_Fr_mono (by decide +kernel) Ch112)
      have eh112_111_4 : ri_at h112 111 4 = ri_at h0 111 4 := (ri_frf Ch112 (d := 12) rfl rfl (by decide +kernel)).trans eh111_111_4
      clear eh111_111_4
      have eh112_111_5 : ri_at h112 111 5 = ri_at h0 111 5 := (ri_frf Ch112 (d := 12) rfl rfl (by decide +kernel)).trans eh111_111_5
      clear eh111_111_5
      have eh112_111_11 : ri_at h112 111 11 = ri_at h 111 11 := (ri_frf Ch112 (d := 12) rfl rfl (by decide +kernel)).trans eh111_111_11
      clear eh111_111_11
      have eh112_111_37 : ri_at h112 111 37 = (s1.length : Int) + 1 := (ri_frf Ch112 (d := 12) rfl rfl (by decide +kernel)).trans eh111_111_37
      clear eh111_111_37
      have eh112_111_38 : ri_at h112 111 38 = zcb s1 + 1 := (ri_frf Ch112 (d := 12) rfl rfl (by decide +kernel)).trans eh111_111_38
      clear eh111_111_38
      have eh112_111_19 : ri_at h112 111 19 = K := (ri_frf Ch112 (d := 12) rfl rfl (by decide +kernel)).trans eh111_111_19
      clear eh111_111_19
      have eh112_111_40 : ri_at h112 111 40 = kn + 1 := (ri_frf Ch112 (d := 12) rfl rfl (by decide +kernel)).trans eh111_111_40
      clear eh111_111_40
      have eh112_111_39 : ri_at h112 111 39 = zc0 s1 := (ri_frf Ch112 (d := 12) rfl rfl (by decide +kernel)).trans eh111_111_39
      clear eh111_111_39
      have eh112_111_41 : ri_at h112 111 41 = x105.toInt := (ri_frf Ch112 (d := 12) rfl rfl (by decide +kernel)).trans eh111_111_41
      clear eh111_111_41
      have eh112_111_42 : ri_at h112 111 42 = x110.toInt := (ri_frf Ch112 (d := 12) rfl rfl (by decide +kernel)).trans eh111_111_42
      clear eh111_111_42
      obtain ⟨yah112, ybh112, ych112, ydh112, -⟩ := id Zh112
      have zlh112 := zx_le (t := t) (n := n) (p := (zx t n p)) (by omega)
      clear eh111_111_6 eh111_111_10 eh111_111_7 eh111_111_8
      refine ex_ic oq_X12_signs_257 (m := 1) (by decide) (fun x113 hx113 => ?_)
      exact ex_retb oq_X12_signs_258 rfl (by omega) (by omega) (hQ x113 h112 Th112 Fh112 (.inl ⟨((zsk (zk t n p) (zw t n p)) :: s1, kn + 1, 1, if zrk (zsk (zk t n p) (zw t n p)) < 3 then 1 else 0), _, (by unfold zsg; rw [if_neg hno, if_neg (by omega), hs1, if_neg hcp, if_neg (by omega)]), by omega, by omega, Zh112, by omega, by omega, (show zok _ from ⟨by omega, ho⟩), (zrow_eq rowh104 (fun i => ((ri_frr Ch112 (k := 128) (d := 67) rfl rfl (by decide +kernel)).trans ((ri_ne wh111 (.inl (by decide))).trans (ri_ne wh106 (.inl (by decide))))))), by dsimp only; simp only [List.length_cons]; omega, by dsimp only; omega, by dsimp only; omega, by dsimp only; omega, by dsimp only; omega, by dsimp only; omega, by dsimp only; rw [if_neg (by omega)]; omega⟩))
    · rw [hk] at mx107
      refine ex_ic oq_X12_signs_245 (m := 1) (by decide) (fun x114 hx114 => ?_)
      refine ex_go oq_X12_signs_246 (t := 250) rfl rfl ?_
      refine ex_pfb oq_X12_signs_250 Th106 (k := 111) (d := 12) rfl rfl rfl (by omega) (by omega) (fun h115 Th115 wh115 => ?_)
      have Fh115 : cw_Fr cw_Ds cw_sh mk_fm h0 h115 := cw_Fr_tr Fh106 (cw_Fr_wrf wh115 (k := 111) (d := 12) rfl rfl (by decide +kernel))
      have eh115_111_4 : ri_at h115 111 4 = ri_at h0 111 4 := (ri_ne wh115 (by decide)).trans eh106_111_4
      clear eh106_111_4
      have eh115_111_5 : ri_at h115 111 5 = ri_at h0 111 5 := (ri_ne wh115 (by decide)).trans eh106_111_5
      clear eh106_111_5
      have eh115_111_6 : ri_at h115 111 6 = (n : Int) := (ri_ne wh115 (by decide)).trans eh106_111_6
      clear eh106_111_6
      have eh115_111_7 : ri_at h115 111 7 = ((zx t n p : Nat) : Int) := (ri_ne wh115 (by decide)).trans eh106_111_7
      clear eh106_111_7
      have eh115_111_8 : ri_at h115 111 8 = zk t n p := (ri_ne wh115 (by decide)).trans eh106_111_8
      clear eh106_111_8
      have eh115_111_10 : ri_at h115 111 10 = ((za t n p : Nat) : Int) := (ri_ne wh115 (by decide)).trans eh106_111_10
      clear eh106_111_10
      have eh115_111_11 : ri_at h115 111 11 = ri_at h 111 11 := (ri_ne wh115 (by decide)).trans eh106_111_11
      clear eh106_111_11
      have eh115_111_37 : ri_at h115 111 37 = (s1.length : Int) + 1 := (ri_ne wh115 (by decide)).trans eh106_111_37
      clear eh106_111_37
      have eh115_111_38 : ri_at h115 111 38 = zcb s1 + 1 := (ri_ne wh115 (by decide)).trans eh106_111_38
      clear eh106_111_38
      have eh115_111_19 : ri_at h115 111 19 = K := (ri_ne wh115 (by decide)).trans eh106_111_19
      clear eh106_111_19
      have eh115_111_40 : ri_at h115 111 40 = kn + 1 := (ri_ne wh115 (by decide)).trans eh106_111_40
      clear eh106_111_40
      have eh115_111_39 : ri_at h115 111 39 = zc0 s1 := (ri_ne wh115 (by decide)).trans eh106_111_39
      clear eh106_111_39
      have eh115_111_41 : ri_at h115 111 41 = x105.toInt := (ri_ne wh115 (by decide)).trans eh106_111_41
      clear eh106_111_41
      have eh115_111_42 : ri_at h115 111 42 = x114.toInt := ri_self wh115
      have Zh115 := zR_wr wh115 Zh106 (.inr (by decide))
      refine ex_al oq_X12_signs_253 g0 ?_
      refine ex_cv oq_X12_signs_254 (by decide) Th115 (k := 111) (d := 12) (as := []) (stk := []) rfl rfl rfl rfl rfl rfl ⟨rfl, rfl⟩ (R := fun o => ∃ hb : cv_H, o = (none, hb) ∧ cw_T G hb ∧ cw_Fr cw_Ds cw_sh kk_X12_token.2.2.2.2.2.1 h115 hb ∧ zR t n (zx t n p) hb) (rt_tok (t := t) (n := n) (p := (zx t n p)) (fun i hi => by rw [ht i hi, ← hA _ Fh115]) hn9 (fun i hi => by rw [hB _ Fh115]; exact hwr i hi) Th115 (zx_le (by omega)) (by omega) (by omega) (fun hb b1 b2 b3 => ⟨hb, rfl, b1, b2, b3⟩)) (fun o ho => ?_)
      obtain ⟨h116, rfl, Th116, Ch116, Zh116⟩ := ho
      show cw_X _ _ _ _ _ [] h116
      have Fh116 : cw_Fr cw_Ds cw_sh mk_fm h0 h116 := cw_Fr_tr Fh115 (cw_Fr_mono (by decide +kernel) Ch116)
      have eh116_111_4 : ri_at h116 111 4 = ri_at h0 111 4 := (ri_frf Ch116 (d := 12) rfl rfl (by decide +kernel)).trans eh115_111_4
      clear eh115_111_4
      have eh116_111_5 : ri_at h116 111 5 = ri_at h0 111 5 := (ri_frf Ch116 (d := 12) rfl rfl (by decide +kernel)).trans eh115_111_5
      clear eh115_111_5
      have eh116_111_11 : ri_at h116 111 11 = ri_at h 111 11 := (ri_frf Ch116 (d := 12) rfl rfl (by decide +kernel)).trans eh115_111_11
      clear eh115_111_11
      have eh116_111_37 : ri_at h116 111 37 = (s1.length : Int) + 1 := (ri_frf Ch116 (d := 12) rfl rfl (by decide +kernel)).trans eh115_111_37
      clear eh115_111_37
      have eh116_111_38 : ri_at h116 111 38 = zcb s1 + 1 := (ri_frf Ch116 (d := 12) rfl rfl (by decide +kernel)).trans eh115_111_38
      clear eh115_111_38
      have eh116_111_19 : ri_at h116 111 19 = K := (ri_frf Ch116 (d := 12) rfl rfl (by decide +kernel)).trans eh115_111_19
      clear eh115_111_19
      have eh116_111_40 : ri_at h116 111 40 = kn + 1 := (ri_frf Ch116 (d := 12) rfl rfl (by decide +kernel)).trans eh115_111_40
      clear eh115_111_40
      have eh116_111_39 : ri_at h116 111 39 = zc0 s1 := (ri_frf Ch116 (d := 12) rfl rfl (by decide +kernel)).trans eh115_111_39
      clear eh115_111_39
      have eh116_111_41 : ri_at h116 111 41 = x105.toInt := (ri_frf Ch116 (d := 12) rfl rfl (by decide +kernel)).trans eh115_111_41
      clear eh115_111_41
      have eh116_111_42 : ri_at h116 111 42 = x114.toInt := (ri_frf Ch116 (d := 12) rfl rfl (by decide +kernel)).trans eh115_111_42
      clear eh115_111_42
      obtain ⟨yah116, ybh116, ych116, ydh116, -⟩ := id Zh116
      have zlh116 := zx_le (t := t) (n := n) (p := (zx t n p)) (by omega)
      clear eh115_111_6 eh115_111_10 eh115_111_7 eh115_111_8
      refine ex_ic oq_X12_signs_257 (m := 1) (by decide) (fun x117 hx117 => ?_)
      exact ex_retb oq_X12_signs_258 rfl (by omega) (by omega) (hQ x117 h116 Th116 Fh116 (.inl ⟨((zsk (zk t n p) (zw t n p)) :: s1, kn + 1, 1, if zrk (zsk (zk t n p) (zw t n p)) < 3 then 1 else 0), _, (by unfold zsg; rw [if_neg hno, if_neg (by omega), hs1, if_neg hcp, if_neg (by omega)]), by omega, by omega, Zh116, by omega, by omega, (show zok _ from ⟨by omega, ho⟩), (zrow_eq rowh104 (fun i => ((ri_frr Ch116 (k := 128) (d := 67) rfl rfl (by decide +kernel)).trans ((ri_ne wh115 (.inl (by decide))).trans (ri_ne wh106 (.inl (by decide))))))), by dsimp only; simp only [List.length_cons]; omega, by dsimp only; omega, by dsimp only; omega, by dsimp only; omega, by dsimp only; omega, by dsimp only; omega, by dsimp only; rw [if_pos (by omega)]; omega⟩))
  · replace c103 : x101.toInt = 0 := by omega
    obtain ⟨kx101, fx101, gx101⟩ := cnt_n dx101 c103
    clear dx101
    refine ex_ic oq_X12_signs_224 (m := 0) (by decide) (fun x118 hx118 => ?_)
    exact ex_retb oq_X12_signs_225 rfl (by omega) (by omega) (hQ x118 h102 Th102 Fh102 (.inr ⟨_, _, (by unfold zsg; rw [if_neg hno, if_neg (by omega), hs1, if_neg hcp, if_pos (by omega)]), by omega, by omega, by omega, by decide⟩))
set_option maxHeartbeats 8000000 in
theorem sg_b {h0 : cv_H} {n p : Nat} (ht : ∀ i, i < n → t i = ri_at h0 112 i) (hn9 : n ≤ 900) (hwr : ∀ i, i < 177 → ri_at h0 113 i = pp_words.getD i 0) (hpn : p ≤ n) {h : cv_H} (hT : cw_T G h) (Fh : cw_Fr cw_Ds cw_sh mk_fm h0 h) (hz : zR t n p h) (hf4 : ri_at h 111 4 = ri_at h0 111 4) (hf5 : ri_at h 111 5 = ri_at h0 111 5) {st s1 : List Int} {kn m : Int} (hk64 : 0 ≤ kn ∧ kn ≤ 64) (hno : ¬ ((zk t n p = 4 ∧ zw t n p = 41) ∧ 0 < zc0 st)) (hs1 : zbi (if zrk (zsk (zk t n p) (zw t n p)) = 4 then 5 else zrk (zsk (zk t n p) (zw t n p))) st = s1) (ho : zok s1) (hrw : zrow h 128 s1) (hwa : ri_at h 111 37 = s1.length) (hhe : ri_at h 111 38 = zcb s1 + 1) (hkn : ri_at h 111 19 + zcb s1 + zcu s1 = kn) (hct : ri_at h 111 40 = kn) (hbr : ri_at h 111 39 = zc0 s1) (hwn : ri_at h 111 41 = 0) (hmn : ri_at h 111 42 = m) {L : cv_L} {k : Int32} (hk : k.toInt = (zsk (zk t n p) (zw t n p))) (hk3 : 3 ≤ (zsk (zk t n p) (zw t n p)) ∧ (zsk (zk t n p) (zw t n p)) ≤ 14) (g0 : cv_get L 0 = some (cv_r 111)) (g1 : cv_get L 1 = some (cv_i k)) (hQ : ∀ (x : Int32) h', cw_T G h' → cw_Fr cw_Ds cw_sh mk_fm h0 h' → zRe t n h0 h' x (zsg t n st kn m p) (fun s => zFR h' s.1 s.2.1 s.2.2.1 s.2.2.2) → Q (some (cv_i x), h')) : cw_X X 198 Q 178 L [] h := by
  have hkn0 := hkn
  obtain ⟨z1, z2, z3, z4, z5⟩ := id hz
  replace z5 := zhd_i z5
  have zxl := zx_le (t := t) hpn
  have hlen := zc_len ho
  obtain ⟨K, hK⟩ : ∃ K, ri_at h 111 19 = K := ⟨_, rfl⟩
  have hK0 : 0 ≤ K ∧ K ≤ 64 := by obtain ⟨y, _, y1, y2, y3⟩ := fi_knotsRead hT; omega
  rw [hK] at hkn
  have hb8 : zc0 s1 ≤ 8 := by obtain ⟨y, _, y1, y2, y3⟩ := fi_brackets hT; omega
  have hA : ∀ h, cw_Fr cw_Ds cw_sh mk_fm h0 h → ∀ i, ri_at h 112 i = ri_at h0 112 i := fun h F i => ri_frr F (k := 112) (d := 51) rfl rfl (by decide +kernel)
  have hB : ∀ h, cw_Fr cw_Ds cw_sh mk_fm h0 h → ∀ i, ri_at h 113 i = ri_at h0 113 i := fun h F i => ri_frr F (k := 113) (d := 52) rfl rfl (by decide +kernel)
  refine ex_il oq_X12_signs_178 g1 ?_
  refine ex_cs oq_X12_signs_179 (by decide) (as := [cv_i k]) (stk := []) rfl rfl rfl ⟨rfl, rfl⟩ (R := fun o => ∃ x : Int32, o = (some (cv_i x), h) ∧ x.toInt = zrk k.toInt) (rt_rank k (fun x q => ⟨x, rfl, q⟩)) (fun o ho => ?_)
  obtain ⟨x101, rfl, mx101⟩ := ho
  show cw_X _ _ _ _ _ [cv_i x101] h
  refine ex_ic oq_X12_signs_182 (m := 4) (by decide) (fun x102 hx102 => ?_)
  refine ex_if oq_X12_signs_183 (t := 217) rfl rfl (fun (c103 : ¬ x101.toInt = x102.toInt) => ?_) (fun (c103 : ¬ (¬ x101.toInt = x102.toInt)) => ?_)
  · rw [hk] at mx101
    exact sg_c ht hn9 hwr hpn hT Fh hz hf4 hf5 hk64 hno hs1 ho hrw hwa hhe hkn0 hct hbr hwn hmn hk hk3 g0 g1 (fun q => by omega) hQ
  · rw [hk] at mx101
    refine ex_al oq_X12_signs_186 g0 ?_
    obtain ⟨x104, ax104, rx104, lx104, ux104⟩ := fi_waits hT
    refine ex_gf oq_X12_signs_187 hT (k := 111) (d := 12) rfl rfl ax104 ?_
    have rx104 := (rx104.symm.trans hwa : x104.toInt = (s1.length : Int))
    refine ex_if0 oq_X12_signs_190 (t := 217) rfl rfl (fun (c105 : x104.toInt ≤ 0) => ?_) (fun (c105 : ¬ (x104.toInt ≤ 0)) => ?_)
    · exact sg_c ht hn9 hwr hpn hT Fh hz hf4 hf5 hk64 hno hs1 ho hrw hwa hhe hkn0 hct hbr hwn hmn hk hk3 g0 g1 (fun q => by rw [show s1 = [] from List.length_eq_zero_iff.mp (by omega)] at q; exact absurd q.2 (by decide)) hQ
    · refine ex_al oq_X12_signs_193 g0 ?_
      refine ex_gf oq_X12_signs_194 hT (k := 111) (d := 12) rfl rfl (fr_wait hT) ?_
      refine ex_al oq_X12_signs_197 g0 ?_
      obtain ⟨x106, ax106, rx106, lx106, ux106⟩ := fi_waits hT
      refine ex_gf oq_X12_signs_198 hT (k := 111) (d := 12) rfl rfl ax106 ?_
      have rx106 := (rx106.symm.trans hwa : x106.toInt = (s1.length : Int))
      refine ex_ic oq_X12_signs_201 (m := 1) (by decide) (fun x107 hx107 => ?_)
      refine ex_sub oq_X12_signs_202 (by omega) (fun x108 hx108 => ?_)
      refine ex_ia1 oq_X12_signs_203 hT (k := 128) (d := 67) (j := s1.length - 1) rfl rfl (by omega) (by omega) (fun x109 hx109 lx109 ux109 => ?_)
      have htp : x109.toInt = s1.headD 0 := by
        cases s1 with
        | nil => simp only [List.length_nil] at hwa; omega
        | cons a s2 => exact hx109.symm.trans (zrow_top hrw)
      refine ex_cs oq_X12_signs_204 (by decide) (as := [cv_i x109]) (stk := []) rfl rfl rfl ⟨rfl, rfl⟩ (R := fun o => ∃ x : Int32, o = (some (cv_i x), h) ∧ x.toInt = zrk x109.toInt) (rt_rank x109 (fun x q => ⟨x, rfl, q⟩)) (fun o ho => ?_)
      obtain ⟨x110, rfl, mx110⟩ := ho
      show cw_X _ _ _ _ _ [cv_i x110] h
      refine ex_ic oq_X12_signs_207 (m := 4) (by decide) (fun x111 hx111 => ?_)
      refine ex_if oq_X12_signs_208 (t := 217) rfl rfl (fun (c112 : ¬ x110.toInt = x111.toInt) => ?_) (fun (c112 : ¬ (¬ x110.toInt = x111.toInt)) => ?_)
      · exact sg_c ht hn9 hwr hpn hT Fh hz hf4 hf5 hk64 hno hs1 ho hrw hwa hhe hkn0 hct hbr hwn hmn hk hk3 g0 g1 (fun q => by rw [← htp] at q; omega) hQ
      · refine ex_al oq_X12_signs_211 g0 ?_
        refine ex_ic oq_X12_signs_212 (m := 1) (by decide) (fun x113 hx113 => ?_)
        refine ex_cv oq_X12_signs_213 (by decide) hT (k := 111) (d := 12) (as := [cv_i x113]) (stk := []) rfl rfl rfl rfl rfl rfl ⟨rfl, rfl⟩ (R := fun o => ∃ (x : Int32) (hb : cv_H), o = (some (cv_i x), hb) ∧ cw_T G hb ∧ cw_Fr cw_Ds cw_sh kk_X12_wrong.2.2.2.2.2.1 h hb ∧ x.toInt = 0 ∧ ri_at hb 111 4 = x113.toInt ∧ ri_at hb 111 5 = ri_at h 111 10) (rt_wrong hT x113 (fun x hb b1 b2 b3 b4 b5 => ⟨x, hb, rfl, b1, b2, b3, b4, b5⟩)) (fun o ho => ?_)
        obtain ⟨x114, h115, rfl, Th115, Ch115, zh115, fh115, ph115⟩ := ho
        show cw_X _ _ _ _ _ [cv_i x114] h115
        have Fh115 : cw_Fr cw_Ds cw_sh mk_fm h0 h115 := cw_Fr_tr Fh (cw_Fr_mono (by decide +kernel) Ch115)
        exact ex_retb oq_X12_signs_216 rfl (by omega) (by omega) (hQ x114 h115 Th115 Fh115 (.inr ⟨_, _, (by unfold zsg; rw [if_neg hno, if_neg (by omega), hs1, if_pos ⟨by omega, by rw [← htp]; omega⟩]), by omega, by omega, by omega, by decide⟩))
set_option maxHeartbeats 8000000 in
theorem sg_k {h0 : cv_H} {n p : Nat} (ht : ∀ i, i < n → t i = ri_at h0 112 i) (hn9 : n ≤ 900) (hwr : ∀ i, i < 177 → ri_at h0 113 i = pp_words.getD i 0) (hpn : p ≤ n) {h : cv_H} (hT : cw_T G h) (Fh : cw_Fr cw_Ds cw_sh mk_fm h0 h) (hz : zR t n p h) (hf4 : ri_at h 111 4 = ri_at h0 111 4) (hf5 : ri_at h 111 5 = ri_at h0 111 5) {st : List Int} {kn m : Int} (hF : zFR h st kn 0 m) (hno : ¬ ((zk t n p = 4 ∧ zw t n p = 41) ∧ 0 < zc0 st)) {L : cv_L} {k : Int32} (hk : k.toInt = (zsk (zk t n p) (zw t n p))) (hk3 : (zsk (zk t n p) (zw t n p)) = 0 ∨ 3 ≤ (zsk (zk t n p) (zw t n p)) ∧ (zsk (zk t n p) (zw t n p)) ≤ 14) (g0 : cv_get L 0 = some (cv_r 111)) (g1 : cv_get L 1 = some (cv_i k)) (hQ : ∀ (x : Int32) h', cw_T G h' → cw_Fr cw_Ds cw_sh mk_fm h0 h' → zRe t n h0 h' x (zsg t n st kn m p) (fun s => zFR h' s.1 s.2.1 s.2.2.1 s.2.2.2) → Q (some (cv_i x), h')) : cw_X X 198 Q 148 L [] h := by
  obtain ⟨z1, z2, z3, z4, z5⟩ := id hz
  replace z5 := zhd_i z5
  have zxl := zx_le (t := t) hpn
  obtain ⟨ho, hrw, hwa, hhe, hkn, hct, hbr, hwn, hmn⟩ := hF
  have hlen := zc_len ho
  have hk64 : 0 ≤ kn ∧ kn ≤ 64 := by obtain ⟨y, _, y1, y2, y3⟩ := fi_counted hT; omega
  have hb8 : zc0 st ≤ 8 := by obtain ⟨y, _, y1, y2, y3⟩ := fi_brackets hT; omega
  have hm01 : 0 ≤ m ∧ m ≤ 1 := by obtain ⟨y, _, y1, y2, y3⟩ := fi_mayNot hT; omega
  obtain ⟨K, hK⟩ : ∃ K, ri_at h 111 19 = K := ⟨_, rfl⟩
  have hK0 : 0 ≤ K ∧ K ≤ 64 := by obtain ⟨y, _, y1, y2, y3⟩ := fi_knotsRead hT; omega
  rw [hK] at hkn
  have hA : ∀ h, cw_Fr cw_Ds cw_sh mk_fm h0 h → ∀ i, ri_at h 112 i = ri_at h0 112 i := fun h F i => ri_frr F (k := 112) (d := 51) rfl rfl (by decide +kernel)
  have hB : ∀ h, cw_Fr cw_Ds cw_sh mk_fm h0 h → ∀ i, ri_at h 113 i = ri_at h0 113 i := fun h F i => ri_frr F (k := 113) (d := 52) rfl rfl (by decide +kernel)
  refine ex_il oq_X12_signs_148 g1 ?_
  refine ex_if0 oq_X12_signs_149 (t := 158) rfl rfl (fun (c101 : ¬ k.toInt = 0) => ?_) (fun (c101 : ¬ (¬ k.toInt = 0)) => ?_)
  · refine ex_al oq_X12_signs_158 g0 ?_
    refine ex_il oq_X12_signs_159 g1 ?_
    refine ex_cs oq_X12_signs_160 (by decide) (as := [cv_i k]) (stk := [cv_r 111]) rfl rfl rfl ⟨rfl, rfl⟩ (R := fun o => ∃ x : Int32, o = (some (cv_i x), h) ∧ x.toInt = zrk k.toInt) (rt_rank k (fun x q => ⟨x, rfl, q⟩)) (fun o ho => ?_)
    obtain ⟨x102, rfl, mx102⟩ := ho
    show cw_X _ _ _ _ _ [cv_i x102, cv_r 111] h
    refine ex_ic oq_X12_signs_163 (m := 4) (by decide) (fun x103 hx103 => ?_)
    refine ex_if oq_X12_signs_164 (t := 171) rfl rfl (fun (c104 : ¬ x102.toInt = x103.toInt) => ?_) (fun (c104 : ¬ (¬ x102.toInt = x103.toInt)) => ?_)
    · rw [hk] at mx102
      refine ex_il oq_X12_signs_171 g1 ?_
      refine ex_cs oq_X12_signs_172 (by decide) (as := [cv_i k]) (stk := [cv_r 111]) rfl rfl rfl ⟨rfl, rfl⟩ (R := fun o => ∃ x : Int32, o = (some (cv_i x), h) ∧ x.toInt = zrk k.toInt) (rt_rank k (fun x q => ⟨x, rfl, q⟩)) (fun o ho => ?_)
      obtain ⟨x105, rfl, mx105⟩ := ho
      show cw_X _ _ _ _ _ [cv_i x105, cv_r 111] h
      have rb2 := zrk_b (k := (zsk (zk t n p) (zw t n p)))
      have lpfh : x105.toInt = (zrk (zsk (zk t n p) (zw t n p))) := (by rw [mx105, hk])
      refine ex_cv oq_X12_signs_175 (by decide) hT (k := 111) (d := 12) (as := [cv_i x105]) (stk := []) rfl rfl rfl rfl rfl rfl ⟨rfl, rfl⟩ (R := fun o => ∃ (hb : cv_H), o = (none, hb) ∧ cw_T G hb ∧ cw_Fr cw_Ds cw_sh mk_bz h hb ∧ ri_at hb 111 37 = (zbi (zrk (zsk (zk t n p) (zw t n p))) st).length ∧ ri_at hb 111 38 = zcb (zbi (zrk (zsk (zk t n p) (zw t n p))) st) + 1 ∧ ri_at hb 111 19 + zcb (zbi (zrk (zsk (zk t n p) (zw t n p))) st) + zcu (zbi (zrk (zsk (zk t n p) (zw t n p))) st) = kn) (rt_bind hT (by omega) (st := st) (kn := kn) (by omega) ho (zrow_eq hrw (fun i => rfl)) (by omega) (by omega) (by omega) (fun hb b1 b2 b3 b4 b5 => ⟨hb, rfl, b1, b2, by rw [lpfh] at b3; exact b3, by rw [lpfh] at b4; exact b4, by rw [lpfh] at b5; exact b5⟩)) (fun o ho => ?_)
      obtain ⟨h106, rfl, Th106, Ch106, bh106, ch106, dh106⟩ := ho
      show cw_X _ _ _ _ _ [] h106
      have Fh106 : cw_Fr cw_Ds cw_sh mk_fm h0 h106 := cw_Fr_tr Fh (cw_Fr_mono (by decide +kernel) Ch106)
      have eh106_111_4 : ri_at h106 111 4 = ri_at h0 111 4 := (ri_frf Ch106 (d := 12) rfl rfl (by decide +kernel)).trans hf4
      have eh106_111_5 : ri_at h106 111 5 = ri_at h0 111 5 := (ri_frf Ch106 (d := 12) rfl rfl (by decide +kernel)).trans hf5
      have eh106_111_6 : ri_at h106 111 6 = (n : Int) := (ri_frf Ch106 (d := 12) rfl rfl (by decide +kernel)).trans z1
      have eh106_111_7 : ri_at h106 111 7 = ((zx t n p : Nat) : Int) := (ri_frf Ch106 (d := 12) rfl rfl (by decide +kernel)).trans z3
      have eh106_111_8 : ri_at h106 111 8 = zk t n p := (ri_frf Ch106 (d := 12) rfl rfl (by decide +kernel)).trans z4
      have eh106_111_10 : ri_at h106 111 10 = ((za t n p : Nat) : Int) := (ri_frf Ch106 (d := 12) rfl rfl (by decide +kernel)).trans z2
      have eh106_111_11 : ri_at h106 111 11 = ri_at h 111 11 := ri_frf Ch106 (d := 12) rfl rfl (by decide +kernel)
      have eh106_111_40 : ri_at h106 111 40 = kn := (ri_frf Ch106 (d := 12) rfl rfl (by decide +kernel)).trans hct
      have eh106_111_39 : ri_at h106 111 39 = zc0 st := (ri_frf Ch106 (d := 12) rfl rfl (by decide +kernel)).trans hbr
      have eh106_111_41 : ri_at h106 111 41 = (0 : Int) := (ri_frf Ch106 (d := 12) rfl rfl (by decide +kernel)).trans hwn
      have eh106_111_42 : ri_at h106 111 42 = m := (ri_frf Ch106 (d := 12) rfl rfl (by decide +kernel)).trans hmn
      have Zh106 := zR_fr Ch106 hz (by decide +kernel)
      have rowh106 : zrow h106 128 (zbi (zrk (zsk (zk t n p) (zw t n p))) st) := zrow_bi (zrow_eq hrw (fun i => (ri_frr Ch106 (k := 128) (d := 67) rfl rfl (by decide +kernel))))
      exact sg_b ht hn9 hwr hpn Th106 Fh106 Zh106 eh106_111_4 eh106_111_5 hk64 hno (by rw [if_neg (by omega)]) (zbi_ok ho) rowh106 (by omega) (by omega) dh106 (by omega) (by rw [zbi_c0 (by omega)]; omega) (by omega) (by omega) hk (by omega) g0 g1 hQ
    · rw [hk] at mx102
      refine ex_ic oq_X12_signs_167 (m := 5) (by decide) (fun x107 hx107 => ?_)
      refine ex_go oq_X12_signs_168 (t := 175) rfl rfl ?_
      have lpfh : x107.toInt = 5 := hx107
      refine ex_cv oq_X12_signs_175 (by decide) hT (k := 111) (d := 12) (as := [cv_i x107]) (stk := []) rfl rfl rfl rfl rfl rfl ⟨rfl, rfl⟩ (R := fun o => ∃ (hb : cv_H), o = (none, hb) ∧ cw_T G hb ∧ cw_Fr cw_Ds cw_sh mk_bz h hb ∧ ri_at hb 111 37 = (zbi 5 st).length ∧ ri_at hb 111 38 = zcb (zbi 5 st) + 1 ∧ ri_at hb 111 19 + zcb (zbi 5 st) + zcu (zbi 5 st) = kn) (rt_bind hT (by omega) (st := st) (kn := kn) (by omega) ho (zrow_eq hrw (fun i => rfl)) (by omega) (by omega) (by omega) (fun hb b1 b2 b3 b4 b5 => ⟨hb, rfl, b1, b2, by rw [lpfh] at b3; exact b3, by rw [lpfh] at b4; exact b4, by rw [lpfh] at b5; exact b5⟩)) (fun o ho => ?_)
      obtain ⟨h108, rfl, Th108, Ch108, bh108, ch108, dh108⟩ := ho
      show cw_X _ _ _ _ _ [] h108
      have Fh108 : cw_Fr cw_Ds cw_sh mk_fm h0 h108 := cw_Fr_tr Fh (cw_Fr_mono (by decide +kernel) Ch108)
      have eh108_111_4 : ri_at h108 111 4 = ri_at h0 111 4 := (ri_frf Ch108 (d := 12) rfl rfl (by decide +kernel)).trans hf4
      have eh108_111_5 : ri_at h108 111 5 = ri_at h0 111 5 := (ri_frf Ch108 (d := 12) rfl rfl (by decide +kernel)).trans hf5
      have eh108_111_6 : ri_at h108 111 6 = (n : Int) := (ri_frf Ch108 (d := 12) rfl rfl (by decide +kernel)).trans z1
      have eh108_111_7 : ri_at h108 111 7 = ((zx t n p : Nat) : Int) := (ri_frf Ch108 (d := 12) rfl rfl (by decide +kernel)).trans z3
      have eh108_111_8 : ri_at h108 111 8 = zk t n p := (ri_frf Ch108 (d := 12) rfl rfl (by decide +kernel)).trans z4
      have eh108_111_10 : ri_at h108 111 10 = ((za t n p : Nat) : Int) := (ri_frf Ch108 (d := 12) rfl rfl (by decide +kernel)).trans z2
      have eh108_111_11 : ri_at h108 111 11 = ri_at h 111 11 := ri_frf Ch108 (d := 12) rfl rfl (by decide +kernel)
      have eh108_111_40 : ri_at h108 111 40 = kn := (ri_frf Ch108 (d := 12) rfl rfl (by decide +kernel)).trans hct
      have eh108_111_39 : ri_at h108 111 39 = zc0 st := (ri_frf Ch108 (d := 12) rfl rfl (by decide +kernel)).trans hbr
      have eh108_111_41 : ri_at h108 111 41 = (0 : Int) := (ri_frf Ch108 (d := 12) rfl rfl (by decide +kernel)).trans hwn
      have eh108_111_42 : ri_at h108 111 42 = m := (ri_frf Ch108 (d := 12) rfl rfl (by decide +kernel)).trans hmn
      have Zh108 := zR_fr Ch108 hz (by decide +kernel)
      have rowh108 : zrow h108 128 (zbi 5 st) := zrow_bi (zrow_eq hrw (fun i => (ri_frr Ch108 (k := 128) (d := 67) rfl rfl (by decide +kernel))))
      exact sg_b ht hn9 hwr hpn Th108 Fh108 Zh108 eh108_111_4 eh108_111_5 hk64 hno (by rw [if_pos (by omega)]) (zbi_ok ho) rowh108 (by omega) (by omega) dh108 (by omega) (by rw [zbi_c0 (by omega)]; omega) (by omega) (by omega) hk (by omega) g0 g1 hQ
  · replace c101 : k.toInt = 0 := by omega
    refine ex_al oq_X12_signs_152 g0 ?_
    refine ex_ic oq_X12_signs_153 (m := 1) (by decide) (fun x109 hx109 => ?_)
    refine ex_cv oq_X12_signs_154 (by decide) hT (k := 111) (d := 12) (as := [cv_i x109]) (stk := []) rfl rfl rfl rfl rfl rfl ⟨rfl, rfl⟩ (R := fun o => ∃ (x : Int32) (hb : cv_H), o = (some (cv_i x), hb) ∧ cw_T G hb ∧ cw_Fr cw_Ds cw_sh kk_X12_wrong.2.2.2.2.2.1 h hb ∧ x.toInt = 0 ∧ ri_at hb 111 4 = x109.toInt ∧ ri_at hb 111 5 = ri_at h 111 10) (rt_wrong hT x109 (fun x hb b1 b2 b3 b4 b5 => ⟨x, hb, rfl, b1, b2, b3, b4, b5⟩)) (fun o ho => ?_)
    obtain ⟨x110, h111, rfl, Th111, Ch111, zh111, fh111, ph111⟩ := ho
    show cw_X _ _ _ _ _ [cv_i x110] h111
    have Fh111 : cw_Fr cw_Ds cw_sh mk_fm h0 h111 := cw_Fr_tr Fh (cw_Fr_mono (by decide +kernel) Ch111)
    exact ex_retb oq_X12_signs_157 rfl (by omega) (by omega) (hQ x110 h111 Th111 Fh111 (.inr ⟨_, _, (by unfold zsg; rw [if_neg hno, if_pos (by omega)]), by omega, by omega, by omega, by decide⟩))
set_option maxHeartbeats 8000000 in
theorem rt_signs {h0 : cv_H} {n p : Nat} (ht : ∀ i, i < n → t i = ri_at h0 112 i) (hn9 : n ≤ 900) (hT : cw_T G h0) (hwr : ∀ i, i < 177 → ri_at h0 113 i = pp_words.getD i 0) (hpn : p ≤ n) (hz : zR t n p h0) {st : List Int} {kn m : Int} (hF : zFR h0 st kn 0 m) (hw5 : zk t n p = 5 → 0 ≤ zw t n p ∧ zw t n p ≤ 5) (hQ : ∀ (x : Int32) h', cw_T G h' → cw_Fr cw_Ds cw_sh mk_fm h0 h' → zRe t n h0 h' x (zsg t n st kn m p) (fun s => zFR h' s.1 s.2.1 s.2.2.1 s.2.2.2) → Q (some (cv_i x), h')) : cw_X X 198 Q 0 (cv_ent 0 [cv_r 111]) [] h0 := by
  have hF0 := hF
  have Fh0 : cw_Fr cw_Ds cw_sh mk_fm h0 h0 := cw_Fr_refl
  have zxl := zx_le (t := t) hpn
  obtain ⟨z1, z2, z3, z4, z5⟩ := id hz
  replace z5 := zhd_i z5
  have hA : ∀ h, cw_Fr cw_Ds cw_sh mk_fm h0 h → ∀ i, ri_at h 112 i = ri_at h0 112 i := fun h F i => ri_frr F (k := 112) (d := 51) rfl rfl (by decide +kernel)
  have hB : ∀ h, cw_Fr cw_Ds cw_sh mk_fm h0 h → ∀ i, ri_at h 113 i = ri_at h0 113 i := fun h F i => ri_frr F (k := 113) (d := 52) rfl rfl (by decide +kernel)
  obtain ⟨ho, hrw, hwa, hhe, hkn, hct, hbr, hwn, hmn⟩ := hF
  have hlen := zc_len ho
  have hk64 : 0 ≤ kn ∧ kn ≤ 64 := by obtain ⟨y, _, y1, y2, y3⟩ := fi_counted hT; omega
  have hb8 : zc0 st ≤ 8 := by obtain ⟨y, _, y1, y2, y3⟩ := fi_brackets hT; omega
  have hm01 : 0 ≤ m ∧ m ≤ 1 := by obtain ⟨y, _, y1, y2, y3⟩ := fi_mayNot hT; omega
  obtain ⟨K, hK⟩ : ∃ K, ri_at h0 111 19 = K := ⟨_, rfl⟩
  have hK0 : 0 ≤ K ∧ K ≤ 64 := by obtain ⟨y, _, y1, y2, y3⟩ := fi_knotsRead hT; omega
  rw [hK] at hkn
  refine ex_al oq_X12_signs_0 rfl ?_
  refine ex_bi oq_X12_signs_1 (m := 41) (by decide) (fun x101 hx101 => ?_)
  refine ex_cv oq_X12_signs_3 (by decide) hT (k := 111) (d := 12) (as := [cv_i x101]) (stk := []) rfl rfl rfl rfl rfl rfl ⟨rfl, rfl⟩ (R := fun o => ∃ x : Int32, o = (some (cv_i x), h0) ∧ (x.toInt = 1 ∧ zk t n p = 4 ∧ zw t n p = x101.toInt ∨ x.toInt = 0 ∧ ¬ (zk t n p = 4 ∧ zw t n p = x101.toInt))) (rt_isSign (t := t) (n := n) (p := p) hT (by exact hz) x101 (fun x q => ⟨x, rfl, q⟩)) (fun o ho => ?_)
  obtain ⟨x102, rfl, dx102⟩ := ho
  show cw_X _ _ _ _ _ [cv_i x102] h0
  rw [hx101] at dx102
  refine ex_if0 oq_X12_signs_6 (t := 47) rfl rfl (fun (c103 : x102.toInt = 0) => ?_) (fun (c103 : ¬ (x102.toInt = 0)) => ?_)
  · replace dx102 := flag_n dx102 c103
    have hno : ¬ ((zk t n p = 4 ∧ zw t n p = 41) ∧ 0 < zc0 st) := fun q => dx102 q.1
    refine ex_al oq_X12_signs_47 rfl ?_
    refine ex_bi oq_X12_signs_48 (m := 21) (by decide) (fun x104 hx104 => ?_)
    refine ex_cv oq_X12_signs_50 (by decide) hT (k := 111) (d := 12) (as := [cv_i x104]) (stk := []) rfl rfl rfl rfl rfl rfl ⟨rfl, rfl⟩ (R := fun o => ∃ x : Int32, o = (some (cv_i x), h0) ∧ (x.toInt = 1 ∧ zk t n p = 1 ∧ zw t n p = x104.toInt ∨ x.toInt = 0 ∧ ¬ (zk t n p = 1 ∧ zw t n p = x104.toInt))) (rt_isKey (t := t) (n := n) (p := p) hT (by exact hz) x104 (fun x q => ⟨x, rfl, q⟩)) (fun o ho => ?_)
    obtain ⟨x105, rfl, dx105⟩ := ho
    show cw_X _ _ _ _ _ [cv_i x105] h0
    rw [hx104] at dx105
    refine ex_if0 oq_X12_signs_53 (t := 60) rfl rfl (fun (c106 : x105.toInt = 0) => ?_) (fun (c106 : ¬ (x105.toInt = 0)) => ?_)
    · replace dx105 := flag_n dx105 c106
      refine ex_al oq_X12_signs_60 rfl ?_
      refine ex_bi oq_X12_signs_61 (m := 22) (by decide) (fun x107 hx107 => ?_)
      refine ex_cv oq_X12_signs_63 (by decide) hT (k := 111) (d := 12) (as := [cv_i x107]) (stk := []) rfl rfl rfl rfl rfl rfl ⟨rfl, rfl⟩ (R := fun o => ∃ x : Int32, o = (some (cv_i x), h0) ∧ (x.toInt = 1 ∧ zk t n p = 1 ∧ zw t n p = x107.toInt ∨ x.toInt = 0 ∧ ¬ (zk t n p = 1 ∧ zw t n p = x107.toInt))) (rt_isKey (t := t) (n := n) (p := p) hT (by exact hz) x107 (fun x q => ⟨x, rfl, q⟩)) (fun o ho => ?_)
      obtain ⟨x108, rfl, dx108⟩ := ho
      show cw_X _ _ _ _ _ [cv_i x108] h0
      rw [hx107] at dx108
      refine ex_if0 oq_X12_signs_66 (t := 73) rfl rfl (fun (c109 : x108.toInt = 0) => ?_) (fun (c109 : ¬ (x108.toInt = 0)) => ?_)
      · replace dx108 := flag_n dx108 c109
        refine ex_al oq_X12_signs_73 rfl ?_
        obtain ⟨x110, ax110, rx110, lx110, ux110⟩ := fi_kind hT
        refine ex_gf oq_X12_signs_74 hT (k := 111) (d := 12) rfl rfl ax110 ?_
        have rx110 := (rx110.symm.trans z4 : x110.toInt = zk t n p)
        refine ex_ic oq_X12_signs_77 (m := 5) (by decide) (fun x111 hx111 => ?_)
        refine ex_if oq_X12_signs_78 (t := 90) rfl rfl (fun (c112 : ¬ x110.toInt = x111.toInt) => ?_) (fun (c112 : ¬ (¬ x110.toInt = x111.toInt)) => ?_)
        · refine ex_al oq_X12_signs_90 rfl ?_
          refine ex_bi oq_X12_signs_91 (m := 43) (by decide) (fun x113 hx113 => ?_)
          refine ex_cv oq_X12_signs_93 (by decide) hT (k := 111) (d := 12) (as := [cv_i x113]) (stk := []) rfl rfl rfl rfl rfl rfl ⟨rfl, rfl⟩ (R := fun o => ∃ x : Int32, o = (some (cv_i x), h0) ∧ (x.toInt = 1 ∧ zk t n p = 4 ∧ zw t n p = x113.toInt ∨ x.toInt = 0 ∧ ¬ (zk t n p = 4 ∧ zw t n p = x113.toInt))) (rt_isSign (t := t) (n := n) (p := p) hT (by exact hz) x113 (fun x q => ⟨x, rfl, q⟩)) (fun o ho => ?_)
          obtain ⟨x114, rfl, dx114⟩ := ho
          show cw_X _ _ _ _ _ [cv_i x114] h0
          rw [hx113] at dx114
          refine ex_if0 oq_X12_signs_96 (t := 104) rfl rfl (fun (c115 : x114.toInt = 0) => ?_) (fun (c115 : ¬ (x114.toInt = 0)) => ?_)
          · replace dx114 := flag_n dx114 c115
            refine ex_al oq_X12_signs_104 rfl ?_
            refine ex_bi oq_X12_signs_105 (m := 45) (by decide) (fun x116 hx116 => ?_)
            refine ex_cv oq_X12_signs_107 (by decide) hT (k := 111) (d := 12) (as := [cv_i x116]) (stk := []) rfl rfl rfl rfl rfl rfl ⟨rfl, rfl⟩ (R := fun o => ∃ x : Int32, o = (some (cv_i x), h0) ∧ (x.toInt = 1 ∧ zk t n p = 4 ∧ zw t n p = x116.toInt ∨ x.toInt = 0 ∧ ¬ (zk t n p = 4 ∧ zw t n p = x116.toInt))) (rt_isSign (t := t) (n := n) (p := p) hT (by exact hz) x116 (fun x q => ⟨x, rfl, q⟩)) (fun o ho => ?_)
            obtain ⟨x117, rfl, dx117⟩ := ho
            show cw_X _ _ _ _ _ [cv_i x117] h0
            rw [hx116] at dx117
            refine ex_if0 oq_X12_signs_110 (t := 118) rfl rfl (fun (c118 : x117.toInt = 0) => ?_) (fun (c118 : ¬ (x117.toInt = 0)) => ?_)
            · replace dx117 := flag_n dx117 c118
              refine ex_al oq_X12_signs_118 rfl ?_
              refine ex_bi oq_X12_signs_119 (m := 42) (by decide) (fun x119 hx119 => ?_)
              refine ex_cv oq_X12_signs_121 (by decide) hT (k := 111) (d := 12) (as := [cv_i x119]) (stk := []) rfl rfl rfl rfl rfl rfl ⟨rfl, rfl⟩ (R := fun o => ∃ x : Int32, o = (some (cv_i x), h0) ∧ (x.toInt = 1 ∧ zk t n p = 4 ∧ zw t n p = x119.toInt ∨ x.toInt = 0 ∧ ¬ (zk t n p = 4 ∧ zw t n p = x119.toInt))) (rt_isSign (t := t) (n := n) (p := p) hT (by exact hz) x119 (fun x q => ⟨x, rfl, q⟩)) (fun o ho => ?_)
              obtain ⟨x120, rfl, dx120⟩ := ho
              show cw_X _ _ _ _ _ [cv_i x120] h0
              rw [hx119] at dx120
              refine ex_if0 oq_X12_signs_124 (t := 132) rfl rfl (fun (c121 : x120.toInt = 0) => ?_) (fun (c121 : ¬ (x120.toInt = 0)) => ?_)
              · replace dx120 := flag_n dx120 c121
                refine ex_al oq_X12_signs_132 rfl ?_
                refine ex_bi oq_X12_signs_133 (m := 47) (by decide) (fun x122 hx122 => ?_)
                refine ex_cv oq_X12_signs_135 (by decide) hT (k := 111) (d := 12) (as := [cv_i x122]) (stk := []) rfl rfl rfl rfl rfl rfl ⟨rfl, rfl⟩ (R := fun o => ∃ x : Int32, o = (some (cv_i x), h0) ∧ (x.toInt = 1 ∧ zk t n p = 4 ∧ zw t n p = x122.toInt ∨ x.toInt = 0 ∧ ¬ (zk t n p = 4 ∧ zw t n p = x122.toInt))) (rt_isSign (t := t) (n := n) (p := p) hT (by exact hz) x122 (fun x q => ⟨x, rfl, q⟩)) (fun o ho => ?_)
                obtain ⟨x123, rfl, dx123⟩ := ho
                show cw_X _ _ _ _ _ [cv_i x123] h0
                rw [hx122] at dx123
                refine ex_if0 oq_X12_signs_138 (t := 146) rfl rfl (fun (c124 : x123.toInt = 0) => ?_) (fun (c124 : ¬ (x123.toInt = 0)) => ?_)
                · replace dx123 := flag_n dx123 c124
                  refine ex_ic oq_X12_signs_146 (m := 0) (by decide) (fun x125 hx125 => ?_)
                  refine ex_isA oq_X12_signs_147 (fun L126 gL126_1 kL126 => ?_)
                  have gL126_0 : cv_get L126 0 = some (cv_r 111) := kL126 0 _ (by decide) (fun _ => rfl) rfl
                  exact sg_k ht hn9 hwr hpn hT Fh0 hz rfl rfl hF0 hno (k := x125) (by unfold zsk; (repeat' split) <;> omega) (zsk_b hw5) gL126_0 gL126_1 hQ
                · replace c124 : ¬ x123.toInt = 0 := by omega
                  obtain ⟨_, dx123, dx123b⟩ := isin_y dx123 c124
                  refine ex_bi oq_X12_signs_141 (m := 14) (by decide) (fun x127 hx127 => ?_)
                  refine ex_go oq_X12_signs_143 (t := 147) rfl rfl ?_
                  refine ex_isA oq_X12_signs_147 (fun L128 gL128_1 kL128 => ?_)
                  have gL128_0 : cv_get L128 0 = some (cv_r 111) := kL128 0 _ (by decide) (fun _ => rfl) rfl
                  exact sg_k ht hn9 hwr hpn hT Fh0 hz rfl rfl hF0 hno (k := x127) (by unfold zsk; (repeat' split) <;> omega) (zsk_b hw5) gL128_0 gL128_1 hQ
              · replace c121 : ¬ x120.toInt = 0 := by omega
                obtain ⟨_, dx120, dx120b⟩ := isin_y dx120 c121
                refine ex_bi oq_X12_signs_127 (m := 13) (by decide) (fun x129 hx129 => ?_)
                refine ex_go oq_X12_signs_129 (t := 147) rfl rfl ?_
                refine ex_isA oq_X12_signs_147 (fun L130 gL130_1 kL130 => ?_)
                have gL130_0 : cv_get L130 0 = some (cv_r 111) := kL130 0 _ (by decide) (fun _ => rfl) rfl
                exact sg_k ht hn9 hwr hpn hT Fh0 hz rfl rfl hF0 hno (k := x129) (by unfold zsk; (repeat' split) <;> omega) (zsk_b hw5) gL130_0 gL130_1 hQ
            · replace c118 : ¬ x117.toInt = 0 := by omega
              obtain ⟨_, dx117, dx117b⟩ := isin_y dx117 c118
              refine ex_bi oq_X12_signs_113 (m := 12) (by decide) (fun x131 hx131 => ?_)
              refine ex_go oq_X12_signs_115 (t := 147) rfl rfl ?_
              refine ex_isA oq_X12_signs_147 (fun L132 gL132_1 kL132 => ?_)
              have gL132_0 : cv_get L132 0 = some (cv_r 111) := kL132 0 _ (by decide) (fun _ => rfl) rfl
              exact sg_k ht hn9 hwr hpn hT Fh0 hz rfl rfl hF0 hno (k := x131) (by unfold zsk; (repeat' split) <;> omega) (zsk_b hw5) gL132_0 gL132_1 hQ
          · replace c115 : ¬ x114.toInt = 0 := by omega
            obtain ⟨_, dx114, dx114b⟩ := isin_y dx114 c115
            refine ex_bi oq_X12_signs_99 (m := 11) (by decide) (fun x133 hx133 => ?_)
            refine ex_go oq_X12_signs_101 (t := 147) rfl rfl ?_
            refine ex_isA oq_X12_signs_147 (fun L134 gL134_1 kL134 => ?_)
            have gL134_0 : cv_get L134 0 = some (cv_r 111) := kL134 0 _ (by decide) (fun _ => rfl) rfl
            exact sg_k ht hn9 hwr hpn hT Fh0 hz rfl rfl hF0 hno (k := x133) (by unfold zsk; (repeat' split) <;> omega) (zsk_b hw5) gL134_0 gL134_1 hQ
        · refine ex_ic oq_X12_signs_81 (m := 5) (by decide) (fun x135 hx135 => ?_)
          refine ex_al oq_X12_signs_82 rfl ?_
          obtain ⟨x136, ax136, rx136, lx136, ux136⟩ := fi_which hT
          refine ex_gf oq_X12_signs_83 hT (k := 111) (d := 12) rfl rfl ax136 ?_
          have wx136 : x136.toInt = zw t n p := rx136.symm.trans (hz.2.2.2.2 (by omega) (by omega))
          refine ex_add oq_X12_signs_86 (by omega) (fun x137 hx137 => ?_)
          refine ex_go oq_X12_signs_87 (t := 147) rfl rfl ?_
          refine ex_isA oq_X12_signs_147 (fun L138 gL138_1 kL138 => ?_)
          have gL138_0 : cv_get L138 0 = some (cv_r 111) := kL138 0 _ (by decide) (fun _ => rfl) rfl
          exact sg_k ht hn9 hwr hpn hT Fh0 hz rfl rfl hF0 hno (k := x137) (by unfold zsk; (repeat' split) <;> omega) (zsk_b hw5) gL138_0 gL138_1 hQ
      · replace c109 : ¬ x108.toInt = 0 := by omega
        obtain ⟨_, dx108, dx108b⟩ := isin_y dx108 c109
        refine ex_ic oq_X12_signs_69 (m := 4) (by decide) (fun x139 hx139 => ?_)
        refine ex_go oq_X12_signs_70 (t := 147) rfl rfl ?_
        refine ex_isA oq_X12_signs_147 (fun L140 gL140_1 kL140 => ?_)
        have gL140_0 : cv_get L140 0 = some (cv_r 111) := kL140 0 _ (by decide) (fun _ => rfl) rfl
        exact sg_k ht hn9 hwr hpn hT Fh0 hz rfl rfl hF0 hno (k := x139) (by unfold zsk; (repeat' split) <;> omega) (zsk_b hw5) gL140_0 gL140_1 hQ
    · replace c106 : ¬ x105.toInt = 0 := by omega
      obtain ⟨_, dx105, dx105b⟩ := isin_y dx105 c106
      refine ex_ic oq_X12_signs_56 (m := 3) (by decide) (fun x141 hx141 => ?_)
      refine ex_go oq_X12_signs_57 (t := 147) rfl rfl ?_
      refine ex_isA oq_X12_signs_147 (fun L142 gL142_1 kL142 => ?_)
      have gL142_0 : cv_get L142 0 = some (cv_r 111) := kL142 0 _ (by decide) (fun _ => rfl) rfl
      exact sg_k ht hn9 hwr hpn hT Fh0 hz rfl rfl hF0 hno (k := x141) (by unfold zsk; (repeat' split) <;> omega) (zsk_b hw5) gL142_0 gL142_1 hQ
  · replace c103 : ¬ x102.toInt = 0 := by omega
    obtain ⟨_, dx102, dx102b⟩ := isin_y dx102 c103
    refine ex_al oq_X12_signs_9 rfl ?_
    obtain ⟨x143, ax143, rx143, lx143, ux143⟩ := fi_brackets hT
    refine ex_gf oq_X12_signs_10 hT (k := 111) (d := 12) rfl rfl ax143 ?_
    have rx143 := (rx143.symm.trans hbr : x143.toInt = zc0 st)
    refine ex_if0 oq_X12_signs_13 (t := 47) rfl rfl (fun (c144 : x143.toInt ≤ 0) => ?_) (fun (c144 : ¬ (x143.toInt ≤ 0)) => ?_)
    · have hno : ¬ ((zk t n p = 4 ∧ zw t n p = 41) ∧ 0 < zc0 st) := fun q => by omega
      refine ex_al oq_X12_signs_47 rfl ?_
      refine ex_bi oq_X12_signs_48 (m := 21) (by decide) (fun x145 hx145 => ?_)
      refine ex_cv oq_X12_signs_50 (by decide) hT (k := 111) (d := 12) (as := [cv_i x145]) (stk := []) rfl rfl rfl rfl rfl rfl ⟨rfl, rfl⟩ (R := fun o => ∃ x : Int32, o = (some (cv_i x), h0) ∧ (x.toInt = 1 ∧ zk t n p = 1 ∧ zw t n p = x145.toInt ∨ x.toInt = 0 ∧ ¬ (zk t n p = 1 ∧ zw t n p = x145.toInt))) (rt_isKey (t := t) (n := n) (p := p) hT (by exact hz) x145 (fun x q => ⟨x, rfl, q⟩)) (fun o ho => ?_)
      obtain ⟨x146, rfl, dx146⟩ := ho
      show cw_X _ _ _ _ _ [cv_i x146] h0
      rw [hx145] at dx146
      refine ex_if0 oq_X12_signs_53 (t := 60) rfl rfl (fun (c147 : x146.toInt = 0) => ?_) (fun (c147 : ¬ (x146.toInt = 0)) => ?_)
      · replace dx146 := flag_n dx146 c147
        refine ex_al oq_X12_signs_60 rfl ?_
        refine ex_bi oq_X12_signs_61 (m := 22) (by decide) (fun x148 hx148 => ?_)
        refine ex_cv oq_X12_signs_63 (by decide) hT (k := 111) (d := 12) (as := [cv_i x148]) (stk := []) rfl rfl rfl rfl rfl rfl ⟨rfl, rfl⟩ (R := fun o => ∃ x : Int32, o = (some (cv_i x), h0) ∧ (x.toInt = 1 ∧ zk t n p = 1 ∧ zw t n p = x148.toInt ∨ x.toInt = 0 ∧ ¬ (zk t n p = 1 ∧ zw t n p = x148.toInt))) (rt_isKey (t := t) (n := n) (p := p) hT (by exact hz) x148 (fun x q => ⟨x, rfl, q⟩)) (fun o ho => ?_)
        obtain ⟨x149, rfl, dx149⟩ := ho
        show cw_X _ _ _ _ _ [cv_i x149] h0
        rw [hx148] at dx149
        refine ex_if0 oq_X12_signs_66 (t := 73) rfl rfl (fun (c150 : x149.toInt = 0) => ?_) (fun (c150 : ¬ (x149.toInt = 0)) => ?_)
        · replace dx149 := flag_n dx149 c150
          refine ex_al oq_X12_signs_73 rfl ?_
          obtain ⟨x151, ax151, rx151, lx151, ux151⟩ := fi_kind hT
          refine ex_gf oq_X12_signs_74 hT (k := 111) (d := 12) rfl rfl ax151 ?_
          have rx151 := (rx151.symm.trans z4 : x151.toInt = zk t n p)
          refine ex_ic oq_X12_signs_77 (m := 5) (by decide) (fun x152 hx152 => ?_)
          refine ex_if oq_X12_signs_78 (t := 90) rfl rfl (fun (c153 : ¬ x151.toInt = x152.toInt) => ?_) (fun (c153 : ¬ (¬ x151.toInt = x152.toInt)) => ?_)
          · refine ex_al oq_X12_signs_90 rfl ?_
            refine ex_bi oq_X12_signs_91 (m := 43) (by decide) (fun x154 hx154 => ?_)
            refine ex_cv oq_X12_signs_93 (by decide) hT (k := 111) (d := 12) (as := [cv_i x154]) (stk := []) rfl rfl rfl rfl rfl rfl ⟨rfl, rfl⟩ (R := fun o => ∃ x : Int32, o = (some (cv_i x), h0) ∧ (x.toInt = 1 ∧ zk t n p = 4 ∧ zw t n p = x154.toInt ∨ x.toInt = 0 ∧ ¬ (zk t n p = 4 ∧ zw t n p = x154.toInt))) (rt_isSign (t := t) (n := n) (p := p) hT (by exact hz) x154 (fun x q => ⟨x, rfl, q⟩)) (fun o ho => ?_)
            obtain ⟨x155, rfl, dx155⟩ := ho
            show cw_X _ _ _ _ _ [cv_i x155] h0
            rw [hx154] at dx155
            refine ex_if0 oq_X12_signs_96 (t := 104) rfl rfl (fun (c156 : x155.toInt = 0) => ?_) (fun (c156 : ¬ (x155.toInt = 0)) => ?_)
            · replace dx155 := flag_n dx155 c156
              refine ex_al oq_X12_signs_104 rfl ?_
              refine ex_bi oq_X12_signs_105 (m := 45) (by decide) (fun x157 hx157 => ?_)
              refine ex_cv oq_X12_signs_107 (by decide) hT (k := 111) (d := 12) (as := [cv_i x157]) (stk := []) rfl rfl rfl rfl rfl rfl ⟨rfl, rfl⟩ (R := fun o => ∃ x : Int32, o = (some (cv_i x), h0) ∧ (x.toInt = 1 ∧ zk t n p = 4 ∧ zw t n p = x157.toInt ∨ x.toInt = 0 ∧ ¬ (zk t n p = 4 ∧ zw t n p = x157.toInt))) (rt_isSign (t := t) (n := n) (p := p) hT (by exact hz) x157 (fun x q => ⟨x, rfl, q⟩)) (fun o ho => ?_)
              obtain ⟨x158, rfl, dx158⟩ := ho
              show cw_X _ _ _ _ _ [cv_i x158] h0
              rw [hx157] at dx158
              refine ex_if0 oq_X12_signs_110 (t := 118) rfl rfl (fun (c159 : x158.toInt = 0) => ?_) (fun (c159 : ¬ (x158.toInt = 0)) => ?_)
              · replace dx158 := flag_n dx158 c159
                refine ex_al oq_X12_signs_118 rfl ?_
                refine ex_bi oq_X12_signs_119 (m := 42) (by decide) (fun x160 hx160 => ?_)
                refine ex_cv oq_X12_signs_121 (by decide) hT (k := 111) (d := 12) (as := [cv_i x160]) (stk := []) rfl rfl rfl rfl rfl rfl ⟨rfl, rfl⟩ (R := fun o => ∃ x : Int32, o = (some (cv_i x), h0) ∧ (x.toInt = 1 ∧ zk t n p = 4 ∧ zw t n p = x160.toInt ∨ x.toInt = 0 ∧ ¬ (zk t n p = 4 ∧ zw t n p = x160.toInt))) (rt_isSign (t := t) (n := n) (p := p) hT (by exact hz) x160 (fun x q => ⟨x, rfl, q⟩)) (fun o ho => ?_)
                obtain ⟨x161, rfl, dx161⟩ := ho
                show cw_X _ _ _ _ _ [cv_i x161] h0
                rw [hx160] at dx161
                refine ex_if0 oq_X12_signs_124 (t := 132) rfl rfl (fun (c162 : x161.toInt = 0) => ?_) (fun (c162 : ¬ (x161.toInt = 0)) => ?_)
                · replace dx161 := flag_n dx161 c162
                  refine ex_al oq_X12_signs_132 rfl ?_
                  refine ex_bi oq_X12_signs_133 (m := 47) (by decide) (fun x163 hx163 => ?_)
                  refine ex_cv oq_X12_signs_135 (by decide) hT (k := 111) (d := 12) (as := [cv_i x163]) (stk := []) rfl rfl rfl rfl rfl rfl ⟨rfl, rfl⟩ (R := fun o => ∃ x : Int32, o = (some (cv_i x), h0) ∧ (x.toInt = 1 ∧ zk t n p = 4 ∧ zw t n p = x163.toInt ∨ x.toInt = 0 ∧ ¬ (zk t n p = 4 ∧ zw t n p = x163.toInt))) (rt_isSign (t := t) (n := n) (p := p) hT (by exact hz) x163 (fun x q => ⟨x, rfl, q⟩)) (fun o ho => ?_)
                  obtain ⟨x164, rfl, dx164⟩ := ho
                  show cw_X _ _ _ _ _ [cv_i x164] h0
                  rw [hx163] at dx164
                  refine ex_if0 oq_X12_signs_138 (t := 146) rfl rfl (fun (c165 : x164.toInt = 0) => ?_) (fun (c165 : ¬ (x164.toInt = 0)) => ?_)
                  · replace dx164 := flag_n dx164 c165
                    refine ex_ic oq_X12_signs_146 (m := 0) (by decide) (fun x166 hx166 => ?_)
                    refine ex_isA oq_X12_signs_147 (fun L167 gL167_1 kL167 => ?_)
                    have gL167_0 : cv_get L167 0 = some (cv_r 111) := kL167 0 _ (by decide) (fun _ => rfl) rfl
                    exact sg_k ht hn9 hwr hpn hT Fh0 hz rfl rfl hF0 hno (k := x166) (by unfold zsk; (repeat' split) <;> omega) (zsk_b hw5) gL167_0 gL167_1 hQ
                  · replace c165 : ¬ x164.toInt = 0 := by omega
                    obtain ⟨_, dx164, dx164b⟩ := isin_y dx164 c165
                    refine ex_bi oq_X12_signs_141 (m := 14) (by decide) (fun x168 hx168 => ?_)
                    refine ex_go oq_X12_signs_143 (t := 147) rfl rfl ?_
                    refine ex_isA oq_X12_signs_147 (fun L169 gL169_1 kL169 => ?_)
                    have gL169_0 : cv_get L169 0 = some (cv_r 111) := kL169 0 _ (by decide) (fun _ => rfl) rfl
                    exact sg_k ht hn9 hwr hpn hT Fh0 hz rfl rfl hF0 hno (k := x168) (by unfold zsk; (repeat' split) <;> omega) (zsk_b hw5) gL169_0 gL169_1 hQ
                · replace c162 : ¬ x161.toInt = 0 := by omega
                  obtain ⟨_, dx161, dx161b⟩ := isin_y dx161 c162
                  refine ex_bi oq_X12_signs_127 (m := 13) (by decide) (fun x170 hx170 => ?_)
                  refine ex_go oq_X12_signs_129 (t := 147) rfl rfl ?_
                  refine ex_isA oq_X12_signs_147 (fun L171 gL171_1 kL171 => ?_)
                  have gL171_0 : cv_get L171 0 = some (cv_r 111) := kL171 0 _ (by decide) (fun _ => rfl) rfl
                  exact sg_k ht hn9 hwr hpn hT Fh0 hz rfl rfl hF0 hno (k := x170) (by unfold zsk; (repeat' split) <;> omega) (zsk_b hw5) gL171_0 gL171_1 hQ
              · replace c159 : ¬ x158.toInt = 0 := by omega
                obtain ⟨_, dx158, dx158b⟩ := isin_y dx158 c159
                refine ex_bi oq_X12_signs_113 (m := 12) (by decide) (fun x172 hx172 => ?_)
                refine ex_go oq_X12_signs_115 (t := 147) rfl rfl ?_
                refine ex_isA oq_X12_signs_147 (fun L173 gL173_1 kL173 => ?_)
                have gL173_0 : cv_get L173 0 = some (cv_r 111) := kL173 0 _ (by decide) (fun _ => rfl) rfl
                exact sg_k ht hn9 hwr hpn hT Fh0 hz rfl rfl hF0 hno (k := x172) (by unfold zsk; (repeat' split) <;> omega) (zsk_b hw5) gL173_0 gL173_1 hQ
            · replace c156 : ¬ x155.toInt = 0 := by omega
              obtain ⟨_, dx155, dx155b⟩ := isin_y dx155 c156
              refine ex_bi oq_X12_signs_99 (m := 11) (by decide) (fun x174 hx174 => ?_)
              refine ex_go oq_X12_signs_101 (t := 147) rfl rfl ?_
              refine ex_isA oq_X12_signs_147 (fun L175 gL175_1 kL175 => ?_)
              have gL175_0 : cv_get L175 0 = some (cv_r 111) := kL175 0 _ (by decide) (fun _ => rfl) rfl
              exact sg_k ht hn9 hwr hpn hT Fh0 hz rfl rfl hF0 hno (k := x174) (by unfold zsk; (repeat' split) <;> omega) (zsk_b hw5) gL175_0 gL175_1 hQ
          · refine ex_ic oq_X12_signs_81 (m := 5) (by decide) (fun x176 hx176 => ?_)
            refine ex_al oq_X12_signs_82 rfl ?_
            obtain ⟨x177, ax177, rx177, lx177, ux177⟩ := fi_which hT
            refine ex_gf oq_X12_signs_83 hT (k := 111) (d := 12) rfl rfl ax177 ?_
            have wx177 : x177.toInt = zw t n p := rx177.symm.trans (hz.2.2.2.2 (by omega) (by omega))
            refine ex_add oq_X12_signs_86 (by omega) (fun x178 hx178 => ?_)
            refine ex_go oq_X12_signs_87 (t := 147) rfl rfl ?_
            refine ex_isA oq_X12_signs_147 (fun L179 gL179_1 kL179 => ?_)
            have gL179_0 : cv_get L179 0 = some (cv_r 111) := kL179 0 _ (by decide) (fun _ => rfl) rfl
            exact sg_k ht hn9 hwr hpn hT Fh0 hz rfl rfl hF0 hno (k := x178) (by unfold zsk; (repeat' split) <;> omega) (zsk_b hw5) gL179_0 gL179_1 hQ
        · replace c150 : ¬ x149.toInt = 0 := by omega
          obtain ⟨_, dx149, dx149b⟩ := isin_y dx149 c150
          refine ex_ic oq_X12_signs_69 (m := 4) (by decide) (fun x180 hx180 => ?_)
          refine ex_go oq_X12_signs_70 (t := 147) rfl rfl ?_
          refine ex_isA oq_X12_signs_147 (fun L181 gL181_1 kL181 => ?_)
          have gL181_0 : cv_get L181 0 = some (cv_r 111) := kL181 0 _ (by decide) (fun _ => rfl) rfl
          exact sg_k ht hn9 hwr hpn hT Fh0 hz rfl rfl hF0 hno (k := x180) (by unfold zsk; (repeat' split) <;> omega) (zsk_b hw5) gL181_0 gL181_1 hQ
      · replace c147 : ¬ x146.toInt = 0 := by omega
        obtain ⟨_, dx146, dx146b⟩ := isin_y dx146 c147
        refine ex_ic oq_X12_signs_56 (m := 3) (by decide) (fun x182 hx182 => ?_)
        refine ex_go oq_X12_signs_57 (t := 147) rfl rfl ?_
        refine ex_isA oq_X12_signs_147 (fun L183 gL183_1 kL183 => ?_)
        have gL183_0 : cv_get L183 0 = some (cv_r 111) := kL183 0 _ (by decide) (fun _ => rfl) rfl
        exact sg_k ht hn9 hwr hpn hT Fh0 hz rfl rfl hF0 hno (k := x182) (by unfold zsk; (repeat' split) <;> omega) (zsk_b hw5) gL183_0 gL183_1 hQ
    · obtain ⟨r, hr, hor⟩ := zbi_br ho (by omega)
      have hrc := zbi_c0 (l := 1) (by omega) (st := st)
      refine ex_al oq_X12_signs_16 rfl ?_
      refine ex_ic oq_X12_signs_17 (m := 1) (by decide) (fun x184 hx184 => ?_)
      have lpfh0 : x184.toInt = 1 := hx184
      refine ex_cv oq_X12_signs_18 (by decide) hT (k := 111) (d := 12) (as := [cv_i x184]) (stk := []) rfl rfl rfl rfl rfl rfl ⟨rfl, rfl⟩ (R := fun o => ∃ (hb : cv_H), o = (none, hb) ∧ cw_T G hb ∧ cw_Fr cw_Ds cw_sh mk_bz h0 hb ∧ ri_at hb 111 37 = (zbi 1 st).length ∧ ri_at hb 111 38 = zcb (zbi 1 st) + 1 ∧ ri_at hb 111 19 + zcb (zbi 1 st) + zcu (zbi 1 st) = kn) (rt_bind hT (by omega) (st := st) (kn := kn) (by omega) ho (zrow_eq hrw (fun i => rfl)) (by omega) (by omega) (by omega) (fun hb b1 b2 b3 b4 b5 => ⟨hb, rfl, b1, b2, by rw [lpfh0] at b3; exact b3, by rw [lpfh0] at b4; exact b4, by rw [lpfh0] at b5; exact b5⟩)) (fun o ho => ?_)
      obtain ⟨h185, rfl, Th185, Ch185, bh185, ch185, dh185⟩ := ho
      show cw_X _ _ _ _ _ [] h185
      have Fh185 : cw_Fr cw_Ds cw_sh mk_fm h0 h185 := cw_Fr_tr Fh0 (cw_Fr_mono (by decide +kernel) Ch185)
      have eh185_111_4 : ri_at h185 111 4 = ri_at h0 111 4 := ri_frf Ch185 (d := 12) rfl rfl (by decide +kernel)
      have eh185_111_5 : ri_at h185 111 5 = ri_at h0 111 5 := ri_frf Ch185 (d := 12) rfl rfl (by decide +kernel)
      have eh185_111_6 : ri_at h185 111 6 = (n : Int) := (ri_frf Ch185 (d := 12) rfl rfl (by decide +kernel)).trans z1
      have eh185_111_7 : ri_at h185 111 7 = ((zx t n p : Nat) : Int) := (ri_frf Ch185 (d := 12) rfl rfl (by decide +kernel)).trans z3
      have eh185_111_8 : ri_at h185 111 8 = zk t n p := (ri_frf Ch185 (d := 12) rfl rfl (by decide +kernel)).trans z4
      have eh185_111_10 : ri_at h185 111 10 = ((za t n p : Nat) : Int) := (ri_frf Ch185 (d := 12) rfl rfl (by decide +kernel)).trans z2
      have eh185_111_11 : ri_at h185 111 11 = ri_at h0 111 11 := ri_frf Ch185 (d := 12) rfl rfl (by decide +kernel)
      have eh185_111_40 : ri_at h185 111 40 = kn := (ri_frf Ch185 (d := 12) rfl rfl (by decide +kernel)).trans hct
      have eh185_111_39 : ri_at h185 111 39 = zc0 st := (ri_frf Ch185 (d := 12) rfl rfl (by decide +kernel)).trans hbr
      have eh185_111_41 : ri_at h185 111 41 = (0 : Int) := (ri_frf Ch185 (d := 12) rfl rfl (by decide +kernel)).trans hwn
      have eh185_111_42 : ri_at h185 111 42 = m := (ri_frf Ch185 (d := 12) rfl rfl (by decide +kernel)).trans hmn
      have Zh185 := zR_fr Ch185 hz (by decide +kernel)
      have rowh185 : zrow h185 128 (zbi 1 st) := zrow_bi (zrow_eq hrw (fun i => (ri_frr Ch185 (k := 128) (d := 67) rfl rfl (by decide +kernel))))
      have fr1 : zcb (zbi 1 st) = zcb r ∧ zcu (zbi 1 st) = zcu r ∧ zc0 (zbi 1 st) = 1 + zc0 r ∧ (zbi 1 st).length = r.length + 1 := by rw [hr]; simp [zcb, zcu, zc0]
      refine ex_al oq_X12_signs_21 rfl ?_
      refine ex_dup oq_X12_signs_22 rfl ?_
      obtain ⟨x186, ax186, rx186, lx186, ux186⟩ := fi_waits Th185
      refine ex_gf oq_X12_signs_23 Th185 (k := 111) (d := 12) rfl rfl ax186 ?_
      have rx186 := (rx186.symm.trans bh185 : x186.toInt = ((zbi 1 st).length : Int))
      refine ex_ic oq_X12_signs_26 (m := 1) (by decide) (fun x187 hx187 => ?_)
      refine ex_sub oq_X12_signs_27 (by omega) (fun x188 hx188 => ?_)
      refine ex_pfi oq_X12_signs_28 Th185 (k := 111) (d := 12) rfl rfl rfl (by omega) (by omega) (fun h189 Th189 wh189 => ?_)
      have Fh189 : cw_Fr cw_Ds cw_sh mk_fm h0 h189 := cw_Fr_tr Fh185 (cw_Fr_wrf wh189 (k := 111) (d := 12) rfl rfl (by decide +kernel))
      have eh189_111_4 : ri_at h189 111 4 = ri_at h0 111 4 := (ri_ne wh189 (by decide)).trans eh185_111_4
      clear eh185_111_4
      have eh189_111_5 : ri_at h189 111 5 = ri_at h0 111 5 := (ri_ne wh189 (by decide)).trans eh185_111_5
      clear eh185_111_5
      have eh189_111_6 : ri_at h189 111 6 = (n : Int) := (ri_ne wh189 (by decide)).trans eh185_111_6
      clear eh185_111_6
      have eh189_111_7 : ri_at h189 111 7 = ((zx t n p : Nat) : Int) := (ri_ne wh189 (by decide)).trans eh185_111_7
      clear eh185_111_7
      have eh189_111_8 : ri_at h189 111 8 = zk t n p := (ri_ne wh189 (by decide)).trans eh185_111_8
      clear eh185_111_8
      have eh189_111_10 : ri_at h189 111 10 = ((za t n p : Nat) : Int) := (ri_ne wh189 (by decide)).trans eh185_111_10
      clear eh185_111_10
      have eh189_111_11 : ri_at h189 111 11 = ri_at h0 111 11 := (ri_ne wh189 (by decide)).trans eh185_111_11
      clear eh185_111_11
      have eh189_111_37 : ri_at h189 111 37 = x188.toInt := ri_self wh189
      have eh189_111_38 : ri_at h189 111 38 = zcb (zbi 1 st) + 1 := (ri_ne wh189 (by decide)).trans ch185
      have eh189_111_19 : ri_at h189 111 19 = ri_at h185 111 19 := ri_ne wh189 (by decide)
      have eh189_111_40 : ri_at h189 111 40 = kn := (ri_ne wh189 (by decide)).trans eh185_111_40
      clear eh185_111_40
      have eh189_111_39 : ri_at h189 111 39 = zc0 st := (ri_ne wh189 (by decide)).trans eh185_111_39
      clear eh185_111_39
      have eh189_111_41 : ri_at h189 111 41 = (0 : Int) := (ri_ne wh189 (by decide)).trans eh185_111_41
      clear eh185_111_41
      have eh189_111_42 : ri_at h189 111 42 = m := (ri_ne wh189 (by decide)).trans eh185_111_42
      clear eh185_111_42
      have Zh189 := zR_wr wh189 Zh185 (.inr (by decide))
      refine ex_al oq_X12_signs_31 rfl ?_
      refine ex_dup oq_X12_signs_32 rfl ?_
      obtain ⟨x190, ax190, rx190, lx190, ux190⟩ := fi_brackets Th189
      refine ex_gf oq_X12_signs_33 Th189 (k := 111) (d := 12) rfl rfl ax190 ?_
      have rx190 := (rx190.symm.trans eh189_111_39 : x190.toInt = zc0 st)
      refine ex_ic oq_X12_signs_36 (m := 1) (by decide) (fun x191 hx191 => ?_)
      refine ex_sub oq_X12_signs_37 (by omega) (fun x192 hx192 => ?_)
      refine ex_pfi oq_X12_signs_38 Th189 (k := 111) (d := 12) rfl rfl rfl (by omega) (by omega) (fun h193 Th193 wh193 => ?_)
      have Fh193 : cw_Fr cw_Ds cw_sh mk_fm h0 h193 := cw_Fr_tr Fh189 (cw_Fr_wrf wh193 (k := 111) (d := 12) rfl rfl (by decide +kernel))
      have eh193_111_4 : ri_at h193 111 4 = ri_at h0 111 4 := (ri_ne wh193 (by decide)).trans eh189_111_4
      clear eh189_111_4
      have eh193_111_5 : ri_at h193 111 5 = ri_at h0 111 5 := (ri_ne wh193 (by decide)).trans eh189_111_5
      clear eh189_111_5
      have eh193_111_6 : ri_at h193 111 6 = (n : Int) := (ri_ne wh193 (by decide)).trans eh189_111_6
      clear eh189_111_6
      have eh193_111_7 : ri_at h193 111 7 = ((zx t n p : Nat) : Int) := (ri_ne wh193 (by decide)).trans eh189_111_7
      clear eh189_111_7
      have eh193_111_8 : ri_at h193 111 8 = zk t n p := (ri_ne wh193 (by decide)).trans eh189_111_8
      clear eh189_111_8
      have eh193_111_10 : ri_at h193 111 10 = ((za t n p : Nat) : Int) := (ri_ne wh193 (by decide)).trans eh189_111_10
      clear eh189_111_10
      have eh193_111_11 : ri_at h193 111 11 = ri_at h0 111 11 := (ri_ne wh193 (by decide)).trans eh189_111_11
      clear eh189_111_11
      have eh193_111_37 : ri_at h193 111 37 = x188.toInt := (ri_ne wh193 (by decide)).trans eh189_111_37
      clear eh189_111_37
      have eh193_111_38 : ri_at h193 111 38 = zcb (zbi 1 st) + 1 := (ri_ne wh193 (by decide)).trans eh189_111_38
      clear eh189_111_38
      have eh193_111_19 : ri_at h193 111 19 = ri_at h185 111 19 := (ri_ne wh193 (by decide)).trans eh189_111_19
      clear eh189_111_19
      have eh193_111_40 : ri_at h193 111 40 = kn := (ri_ne wh193 (by decide)).trans eh189_111_40
      clear eh189_111_40
      have eh193_111_39 : ri_at h193 111 39 = x192.toInt := ri_self wh193
      have eh193_111_41 : ri_at h193 111 41 = (0 : Int) := (ri_ne wh193 (by decide)).trans eh189_111_41
      clear eh189_111_41
      have eh193_111_42 : ri_at h193 111 42 = m := (ri_ne wh193 (by decide)).trans eh189_111_42
      clear eh189_111_42
      have Zh193 := zR_wr wh193 Zh189 (.inr (by decide))
      refine ex_al oq_X12_signs_41 rfl ?_
      refine ex_cv oq_X12_signs_42 (by decide) Th193 (k := 111) (d := 12) (as := []) (stk := []) rfl rfl rfl rfl rfl rfl ⟨rfl, rfl⟩ (R := fun o => ∃ hb : cv_H, o = (none, hb) ∧ cw_T G hb ∧ cw_Fr cw_Ds cw_sh kk_X12_token.2.2.2.2.2.1 h193 hb ∧ zR t n (zx t n p) hb) (rt_tok (t := t) (n := n) (p := (zx t n p)) (fun i hi => by rw [ht i hi, ← hA _ Fh193]) hn9 (fun i hi => by rw [hB _ Fh193]; exact hwr i hi) Th193 (zx_le (by omega)) (by omega) (by omega) (fun hb b1 b2 b3 => ⟨hb, rfl, b1, b2, b3⟩)) (fun o ho => ?_)
      obtain ⟨h194, rfl, Th194, Ch194, Zh194⟩ := ho
      show cw_X _ _ _ _ _ [] h194
      have Fh194 : cw_Fr cw_Ds cw_sh mk_fm h0 h194 := cw_Fr_tr Fh193 (cw_Fr_mono (by decide +kernel) Ch194)
      have eh194_111_4 : ri_at h194 111 4 = ri_at h0 111 4 := (ri_frf Ch194 (d := 12) rfl rfl (by decide +kernel)).trans eh193_111_4
      clear eh193_111_4
      have eh194_111_5 : ri_at h194 111 5 = ri_at h0 111 5 := (ri_frf Ch194 (d := 12) rfl rfl (by decide +kernel)).trans eh193_111_5
      clear eh193_111_5
      have eh194_111_11 : ri_at h194 111 11 = ri_at h0 111 11 := (ri_frf Ch194 (d := 12) rfl rfl (by decide +kernel)).trans eh193_111_11
      clear eh193_111_11
      have eh194_111_37 : ri_at h194 111 37 = x188.toInt := (ri_frf Ch194 (d := 12) rfl rfl (by decide +kernel)).trans eh193_111_37
      clear eh193_111_37
      have eh194_111_38 : ri_at h194 111 38 = zcb (zbi 1 st) + 1 := (ri_frf Ch194 (d := 12) rfl rfl (by decide +kernel)).trans eh193_111_38
      clear eh193_111_38
      have eh194_111_19 : ri_at h194 111 19 = ri_at h185 111 19 := (ri_frf Ch194 (d := 12) rfl rfl (by decide +kernel)).trans eh193_111_19
      clear eh193_111_19
      have eh194_111_40 : ri_at h194 111 40 = kn := (ri_frf Ch194 (d := 12) rfl rfl (by decide +kernel)).trans eh193_111_40
      clear eh193_111_40
      have eh194_111_39 : ri_at h194 111 39 = x192.toInt := (ri_frf Ch194 (d := 12) rfl rfl (by decide +kernel)).trans eh193_111_39
      clear eh193_111_39
      have eh194_111_41 : ri_at h194 111 41 = (0 : Int) := (ri_frf Ch194 (d := 12) rfl rfl (by decide +kernel)).trans eh193_111_41
      clear eh193_111_41
      have eh194_111_42 : ri_at h194 111 42 = m := (ri_frf Ch194 (d := 12) rfl rfl (by decide +kernel)).trans eh193_111_42
      clear eh193_111_42
      obtain ⟨yah194, ybh194, ych194, ydh194, -⟩ := id Zh194
      have zlh194 := zx_le (t := t) (n := n) (p := (zx t n p)) (by omega)
      clear eh193_111_6 eh193_111_10 eh193_111_7 eh193_111_8
      refine ex_ic oq_X12_signs_45 (m := 1) (by decide) (fun x195 hx195 => ?_)
      exact ex_retb oq_X12_signs_46 rfl (by omega) (by omega) (hQ x195 h194 Th194 Fh194 (.inl ⟨((zbi 1 st).tail, kn, 0, m), _, (by unfold zsg; rw [if_pos ⟨by omega, by omega⟩]), by omega, by omega, Zh194, by omega, by omega, (show zok (zbi 1 st).tail from by rw [hr]; exact hor), (show zrow _ 128 (zbi 1 st).tail from by rw [hr]; exact zrow_tail (a := 0) (st := r) (show zrow _ 128 (0 :: r) from by rw [← hr]; exact (zrow_eq rowh185 (fun i => ((ri_frr Ch194 (k := 128) (d := 67) rfl rfl (by decide +kernel)).trans ((ri_ne wh193 (.inl (by decide))).trans (ri_ne wh189 (.inl (by decide))))))))), by dsimp only; rw [hr]; simp only [List.tail_cons]; omega, by dsimp only; rw [hr]; simp only [List.tail_cons]; omega, by dsimp only; rw [hr]; simp only [List.tail_cons]; omega, by dsimp only; omega, by dsimp only; rw [hr]; simp only [List.tail_cons]; omega, by dsimp only; omega, by dsimp only; omega⟩))
end TZ
