/-! ===== a sign of a formula, with its knots: the reference ===== -/
section TZ
variable {G : Int} {X : cv_X} {Q : cv_O → Prop} {t : Nat → Int}
set_option maxHeartbeats 8000000 in
theorem sg_cK {h0 : cv_H} {n p : Nat} (ht : ∀ i, i < n → t i = ri_at h0 112 i) (hn9 : n ≤ 900) (hwr : ∀ i, i < 177 → ri_at h0 113 i = pp_words.getD i 0) (hpn : p ≤ n) {h : cv_H} (hT : cw_T G h) (Fh : cw_Fr cw_Ds cw_sh mk_fm h0 h) (Kh : zFK h0 h) (hz : zR t n p h) (hf4 : ri_at h 111 4 = ri_at h0 111 4) (hf5 : ri_at h 111 5 = ri_at h0 111 5) {st s1 : List Int} {kn m : Int} (hk64 : 0 ≤ kn ∧ kn ≤ 64) (hno : ¬ ((zk t n p = 4 ∧ zw t n p = 41) ∧ 0 < zc0 st)) (hs1 : zbi (if zrk (zsk (zk t n p) (zw t n p)) = 4 then 5 else zrk (zsk (zk t n p) (zw t n p))) st = s1) (ho : zok s1) (hrw : zrow h 128 s1) (hwa : ri_at h 111 37 = s1.length) (hhe : ri_at h 111 38 = zcb s1 + 1) (hkn : ri_at h 111 19 + zcb s1 + zcu s1 = kn) (hct : ri_at h 111 40 = kn) (hbr : ri_at h 111 39 = zc0 s1) (hwn : ri_at h 111 41 = 0) (hmn : ri_at h 111 42 = m) {V : Nat → Int × Int × Int} {f : Nat} {cs cs1 : List Int} (hd : zFd h V f cs1) (hc1 : zsC t n p st cs = cs1) {L : cv_L} {k : Int32} (hk : k.toInt = (zsk (zk t n p) (zw t n p))) (hk3 : 3 ≤ (zsk (zk t n p) (zw t n p)) ∧ (zsk (zk t n p) (zw t n p)) ≤ 14) (g0 : cv_get L 0 = some (cv_r 111)) (g1 : cv_get L 1 = some (cv_i k)) (hcp : ¬ (zrk (zsk (zk t n p) (zw t n p)) = 4 ∧ zrk (s1.headD 0) = 4)) (hQ : ∀ (x : Int32) h', cw_T G h' → cw_Fr cw_Ds cw_sh mk_fm h0 h' → zFK h0 h' → zRe t n h0 h' x (zsg t n st kn m p) (fun s => zFR h' s.1 s.2.1 s.2.2.1 s.2.2.2 ∧ zFd h' V f (zsC t n p st cs)) → Q (some (cv_i x), h')) : cw_X X 198 Q 217 L [] h := by
  obtain ⟨z1, z2, z3, z4, z5⟩ := id hz
  replace z5 := zhd_i z5
  have zxl := zx_le (t := t) hpn
  have hlen := zc_len ho
  obtain ⟨K, hK⟩ : ∃ K, ri_at h 111 19 = K := ⟨_, rfl⟩
  have hK0 : 0 ≤ K ∧ K ≤ 64 := by obtain ⟨y, _, y1, y2, y3⟩ := fi_knotsRead hT; omega
  rw [hK] at hkn
  have hb8 : zc0 s1 ≤ 8 := by obtain ⟨y, _, y1, y2, y3⟩ := fi_brackets hT; omega
  have hA : ∀ h, cw_Fr cw_Ds cw_sh mk_fm h0 h → ∀ i, ri_at h 112 i = ri_at h0 112 i := fun h F i => ri_frr F (k := 112) (d := 51) rfl rfl (by decide +kernel)
  have hB : ∀ h, cw_Fr cw_Ds cw_sh mk_fm h0 h → ∀ i, ri_at h 113 i = ri_at h0 113 i := fun h F i => ri_frr F (k := 113) (d := 52) rfl rfl (by decide +kernel)
  have f1 : zcb ((zsk (zk t n p) (zw t n p)) :: s1) = 1 + zcb s1 ∧ zcu ((zsk (zk t n p) (zw t n p)) :: s1) = zcu s1 ∧ zc0 ((zsk (zk t n p) (zw t n p)) :: s1) = zc0 s1 := by
    simp only [zcb, zcu, zc0]
    rw [if_pos (by omega), if_neg (by omega), if_neg (by omega)]
    omega
  refine ex_al oq_X12_signs_217 g0 ?_
  refine ex_cv oq_X12_signs_218 (by decide) hT (k := 111) (d := 12) (as := []) (stk := []) rfl rfl rfl rfl rfl rfl ⟨rfl, rfl⟩ (R := fun o => ∃ (x : Int32) (hb : cv_H), o = (some (cv_i x), hb) ∧ cw_T G hb ∧ cw_Fr cw_Ds cw_sh mk_cn h hb ∧ (x.toInt = 1 ∧ kn < 64 ∧ ri_at hb 111 40 = kn + 1 ∧ ri_at hb 111 4 = ri_at h 111 4 ∧ ri_at hb 111 5 = ri_at h 111 5 ∨ x.toInt = 0 ∧ kn = 64 ∧ ri_at hb 111 4 = 2 ∧ ri_at hb 111 5 = ri_at h 111 10)) (rt_isCounted hT hct (fun x hb b1 b2 b3 => ⟨x, hb, rfl, b1, b2, b3⟩)) (fun o ho => ?_)
  obtain ⟨x101, h102, rfl, Th102, Ch102, dx101⟩ := ho
  show cw_X _ _ _ _ _ [cv_i x101] h102
  have Fh102 : cw_Fr cw_Ds cw_sh mk_fm h0 h102 := cw_Fr_tr Fh (cw_Fr_mono (by decide +kernel) Ch102)
  have Kh102 := zFK_fr Ch102 (by decide +kernel) Kh
  have eh102_111_6 : ri_at h102 111 6 = (n : Int) := (ri_frf Ch102 (d := 12) rfl rfl (by decide +kernel)).trans z1
  have eh102_111_7 : ri_at h102 111 7 = ((zx t n p : Nat) : Int) := (ri_frf Ch102 (d := 12) rfl rfl (by decide +kernel)).trans z3
  have eh102_111_8 : ri_at h102 111 8 = zk t n p := (ri_frf Ch102 (d := 12) rfl rfl (by decide +kernel)).trans z4
  have eh102_111_10 : ri_at h102 111 10 = ((za t n p : Nat) : Int) := (ri_frf Ch102 (d := 12) rfl rfl (by decide +kernel)).trans z2
  have eh102_111_11 : ri_at h102 111 11 = ri_at h 111 11 := ri_frf Ch102 (d := 12) rfl rfl (by decide +kernel)
  have eh102_111_37 : ri_at h102 111 37 = (s1.length : Int) := (ri_frf Ch102 (d := 12) rfl rfl (by decide +kernel)).trans hwa
  have eh102_111_38 : ri_at h102 111 38 = zcb s1 + 1 := (ri_frf Ch102 (d := 12) rfl rfl (by decide +kernel)).trans hhe
  have eh102_111_19 : ri_at h102 111 19 = K := (ri_frf Ch102 (d := 12) rfl rfl (by decide +kernel)).trans hK
  have eh102_111_39 : ri_at h102 111 39 = zc0 s1 := (ri_frf Ch102 (d := 12) rfl rfl (by decide +kernel)).trans hbr
  have eh102_111_41 : ri_at h102 111 41 = (0 : Int) := (ri_frf Ch102 (d := 12) rfl rfl (by decide +kernel)).trans hwn
  have eh102_111_42 : ri_at h102 111 42 = m := (ri_frf Ch102 (d := 12) rfl rfl (by decide +kernel)).trans hmn
  have Zh102 := zR_fr Ch102 hz (by decide +kernel)
  refine ex_if0 oq_X12_signs_221 (t := 226) rfl rfl (fun (c103 : ¬ x101.toInt = 0) => ?_) (fun (c103 : ¬ (¬ x101.toInt = 0)) => ?_)
  · obtain ⟨_, kx101, bx101, fx101, gx101⟩ := cnt_y dx101 c103
    clear dx101
    replace fx101 := fx101.trans hf4
    replace gx101 := gx101.trans hf5
    refine ex_al oq_X12_signs_226 g0 ?_
    refine ex_il oq_X12_signs_227 g1 ?_
    have enh102 : (ri_at h102 111 37).toNat = (s1).length := by omega
    refine ex_cv oq_X12_signs_228 (by decide) Th102 (k := 111) (d := 12) (as := [cv_i k]) (stk := []) rfl rfl rfl rfl rfl rfl ⟨rfl, rfl⟩ (R := fun o => ∃ (hb : cv_H), o = (none, hb) ∧ cw_T G hb ∧ cw_Fr cw_Ds cw_sh mk_wf h102 hb ∧ ri_at hb 111 37 = (s1.length : Int) + 1 ∧ ri_at hb 128 (s1).length = k.toInt ∧ ∀ i, i ≠ (s1).length → ri_at hb 128 i = ri_at h102 128 i) (sp_waitsFor Th102 k (by omega) (fun hb b1 b2 b3 b4 b5 => ⟨hb, rfl, b1, b2, b3.trans (congrArg (· + 1) eh102_111_37), by rw [← enh102]; exact b4, by rw [← enh102]; exact b5⟩)) (fun o ho => ?_)
    obtain ⟨h104, rfl, Th104, Ch104, bh104, ch104, dh104⟩ := ho
    show cw_X _ _ _ _ _ [] h104
    have rowh104 : zrow h104 128 ((zsk (zk t n p) (zw t n p)) :: s1) := zrow_push (zrow_eq hrw (fun i => (ri_frr Ch102 (k := 128) (d := 67) rfl rfl (by decide +kernel)))) (by rw [ch104]; exact hk) dh104
    have Fh104 : cw_Fr cw_Ds cw_sh mk_fm h0 h104 := cw_Fr_tr Fh102 (cw_Fr_mono (by decide +kernel) Ch104)
    have Kh104 := zFK_fr Ch104 (by decide +kernel) Kh102
    have eh104_111_4 : ri_at h104 111 4 = ri_at h0 111 4 := (ri_frf Ch104 (d := 12) rfl rfl (by decide +kernel)).trans fx101
    have eh104_111_5 : ri_at h104 111 5 = ri_at h0 111 5 := (ri_frf Ch104 (d := 12) rfl rfl (by decide +kernel)).trans gx101
    have eh104_111_6 : ri_at h104 111 6 = (n : Int) := (ri_frf Ch104 (d := 12) rfl rfl (by decide +kernel)).trans eh102_111_6
    clear eh102_111_6
    have eh104_111_7 : ri_at h104 111 7 = ((zx t n p : Nat) : Int) := (ri_frf Ch104 (d := 12) rfl rfl (by decide +kernel)).trans eh102_111_7
    clear eh102_111_7
    have eh104_111_8 : ri_at h104 111 8 = zk t n p := (ri_frf Ch104 (d := 12) rfl rfl (by decide +kernel)).trans eh102_111_8
    clear eh102_111_8
    have eh104_111_10 : ri_at h104 111 10 = ((za t n p : Nat) : Int) := (ri_frf Ch104 (d := 12) rfl rfl (by decide +kernel)).trans eh102_111_10
    clear eh102_111_10
    have eh104_111_11 : ri_at h104 111 11 = ri_at h 111 11 := (ri_frf Ch104 (d := 12) rfl rfl (by decide +kernel)).trans eh102_111_11
    clear eh102_111_11
    have eh104_111_38 : ri_at h104 111 38 = zcb s1 + 1 := (ri_frf Ch104 (d := 12) rfl rfl (by decide +kernel)).trans eh102_111_38
    clear eh102_111_38
    have eh104_111_19 : ri_at h104 111 19 = K := (ri_frf Ch104 (d := 12) rfl rfl (by decide +kernel)).trans eh102_111_19
    clear eh102_111_19
    have eh104_111_40 : ri_at h104 111 40 = kn + 1 := (ri_frf Ch104 (d := 12) rfl rfl (by decide +kernel)).trans bx101
    have eh104_111_39 : ri_at h104 111 39 = zc0 s1 := (ri_frf Ch104 (d := 12) rfl rfl (by decide +kernel)).trans eh102_111_39
    clear eh102_111_39
    have eh104_111_41 : ri_at h104 111 41 = (0 : Int) := (ri_frf Ch104 (d := 12) rfl rfl (by decide +kernel)).trans eh102_111_41
    clear eh102_111_41
    have eh104_111_42 : ri_at h104 111 42 = m := (ri_frf Ch104 (d := 12) rfl rfl (by decide +kernel)).trans eh102_111_42
    clear eh102_111_42
    have Zh104 := zR_fr Ch104 Zh102 (by decide +kernel)
    refine ex_al oq_X12_signs_231 g0 ?_
    refine ex_ic oq_X12_signs_232 (m := 1) (by decide) (fun x105 hx105 => ?_)
    refine ex_pfb oq_X12_signs_233 Th104 (k := 111) (d := 12) rfl rfl rfl (by omega) (by omega) (fun h106 Th106 wh106 => ?_)
    have Fh106 : cw_Fr cw_Ds cw_sh mk_fm h0 h106 := cw_Fr_tr Fh104 (cw_Fr_wrf wh106 (k := 111) (d := 12) rfl rfl (by decide +kernel))
    have Kh106 := zFK_wr (k := 111) wh106 (Nat.zero_le _) Kh104
    have eh106_111_4 : ri_at h106 111 4 = ri_at h0 111 4 := (ri_ne wh106 (by decide)).trans eh104_111_4
    clear eh104_111_4
    have eh106_111_5 : ri_at h106 111 5 = ri_at h0 111 5 := (ri_ne wh106 (by decide)).trans eh104_111_5
    clear eh104_111_5
    have eh106_111_6 : ri_at h106 111 6 = (n : Int) := (ri_ne wh106 (by decide)).trans eh104_111_6
    clear eh104_111_6
    have eh106_111_7 : ri_at h106 111 7 = ((zx t n p : Nat) : Int) := (ri_ne wh106 (by decide)).trans eh104_111_7
    clear eh104_111_7
    have eh106_111_8 : ri_at h106 111 8 = zk t n p := (ri_ne wh106 (by decide)).trans eh104_111_8
    clear eh104_111_8
    have eh106_111_10 : ri_at h106 111 10 = ((za t n p : Nat) : Int) := (ri_ne wh106 (by decide)).trans eh104_111_10
    clear eh104_111_10
    have eh106_111_11 : ri_at h106 111 11 = ri_at h 111 11 := (ri_ne wh106 (by decide)).trans eh104_111_11
    clear eh104_111_11
    have eh106_111_37 : ri_at h106 111 37 = (s1.length : Int) + 1 := (ri_ne wh106 (by decide)).trans bh104
    have eh106_111_38 : ri_at h106 111 38 = zcb s1 + 1 := (ri_ne wh106 (by decide)).trans eh104_111_38
    clear eh104_111_38
    have eh106_111_19 : ri_at h106 111 19 = K := (ri_ne wh106 (by decide)).trans eh104_111_19
    clear eh104_111_19
    have eh106_111_40 : ri_at h106 111 40 = kn + 1 := (ri_ne wh106 (by decide)).trans eh104_111_40
    clear eh104_111_40
    have eh106_111_39 : ri_at h106 111 39 = zc0 s1 := (ri_ne wh106 (by decide)).trans eh104_111_39
    clear eh104_111_39
    have eh106_111_41 : ri_at h106 111 41 = x105.toInt := ri_self wh106
    have eh106_111_42 : ri_at h106 111 42 = m := (ri_ne wh106 (by decide)).trans eh104_111_42
    clear eh104_111_42
    have Zh106 := zR_wr wh106 Zh104 (.inr (by decide))
    refine ex_al oq_X12_signs_236 g0 ?_
    refine ex_il oq_X12_signs_237 g1 ?_
    refine ex_cs oq_X12_signs_238 (by decide) (as := [cv_i k]) (stk := [cv_r 111]) rfl rfl rfl ⟨rfl, rfl⟩ (R := fun o => ∃ x : Int32, o = (some (cv_i x), h106) ∧ x.toInt = zrk k.toInt) (rt_rank k (fun x q => ⟨x, rfl, q⟩)) (fun o ho => ?_)
    obtain ⟨x107, rfl, mx107⟩ := ho
    show cw_X _ _ _ _ _ [cv_i x107, cv_r 111] h106
    refine ex_ic oq_X12_signs_241 (m := 3) (by decide) (fun x108 hx108 => ?_)
    refine ex_if oq_X12_signs_242 (t := 249) rfl rfl (fun (c109 : x108.toInt ≤ x107.toInt) => ?_) (fun (c109 : ¬ (x108.toInt ≤ x107.toInt)) => ?_)
    · rw [hk] at mx107
      refine ex_ic oq_X12_signs_249 (m := 0) (by decide) (fun x110 hx110 => ?_)
      refine ex_pfb oq_X12_signs_250 Th106 (k := 111) (d := 12) rfl rfl rfl (by omega) (by omega) (fun h111 Th111 wh111 => ?_)
      have Fh111 : cw_Fr cw_Ds cw_sh mk_fm h0 h111 := cw_Fr_tr Fh106 (cw_Fr_wrf wh111 (k := 111) (d := 12) rfl rfl (by decide +kernel))
      have Kh111 := zFK_wr (k := 111) wh111 (Nat.zero_le _) Kh106
      have eh111_111_4 : ri_at h111 111 4 = ri_at h0 111 4 := (ri_ne wh111 (by decide)).trans eh106_111_4
      clear eh106_111_4
      have eh111_111_5 : ri_at h111 111 5 = ri_at h0 111 5 := (ri_ne wh111 (by decide)).trans eh106_111_5
      clear eh106_111_5
      have eh111_111_6 : ri_at h111 111 6 = (n : Int) := (ri_ne wh111 (by decide)).trans eh106_111_6
      clear eh106_111_6
      have eh111_111_7 : ri_at h111 111 7 = ((zx t n p : Nat) : Int) := (ri_ne wh111 (by decide)).trans eh106_111_7
      clear eh106_111_7
      have eh111_111_8 : ri_at h111 111 8 = zk t n p := (ri_ne wh111 (by decide)).trans eh106_111_8
      clear eh106_111_8
      have eh111_111_10 : ri_at h111 111 10 = ((za t n p : Nat) : Int) := (ri_ne wh111 (by decide)).trans eh106_111_10
      clear eh106_111_10
      have eh111_111_11 : ri_at h111 111 11 = ri_at h 111 11 := (ri_ne wh111 (by decide)).trans eh106_111_11
      clear eh106_111_11
      have eh111_111_37 : ri_at h111 111 37 = (s1.length : Int) + 1 := (ri_ne wh111 (by decide)).trans eh106_111_37
      clear eh106_111_37
      have eh111_111_38 : ri_at h111 111 38 = zcb s1 + 1 := (ri_ne wh111 (by decide)).trans eh106_111_38
      clear eh106_111_38
      have eh111_111_19 : ri_at h111 111 19 = K := (ri_ne wh111 (by decide)).trans eh106_111_19
      clear eh106_111_19
      have eh111_111_40 : ri_at h111 111 40 = kn + 1 := (ri_ne wh111 (by decide)).trans eh106_111_40
      clear eh106_111_40
      have eh111_111_39 : ri_at h111 111 39 = zc0 s1 := (ri_ne wh111 (by decide)).trans eh106_111_39
      clear eh106_111_39
      have eh111_111_41 : ri_at h111 111 41 = x105.toInt := (ri_ne wh111 (by decide)).trans eh106_111_41
      clear eh106_111_41
      have eh111_111_42 : ri_at h111 111 42 = x110.toInt := ri_self wh111
      have Zh111 := zR_wr wh111 Zh106 (.inr (by decide))
      refine ex_al oq_X12_signs_253 g0 ?_
      refine ex_cv oq_X12_signs_254 (by decide) Th111 (k := 111) (d := 12) (as := []) (stk := []) rfl rfl rfl rfl rfl rfl ⟨rfl, rfl⟩ (R := fun o => ∃ hb : cv_H, o = (none, hb) ∧ cw_T G hb ∧ cw_Fr cw_Ds cw_sh kk_X12_token.2.2.2.2.2.1 h111 hb ∧ zR t n (zx t n p) hb) (rt_tok (t := t) (n := n) (p := (zx t n p)) (fun i hi => by rw [ht i hi, ← hA _ Fh111]) hn9 (fun i hi => by rw [hB _ Fh111]; exact hwr i hi) Th111 (zx_le (by omega)) (by omega) (by omega) (fun hb b1 b2 b3 => ⟨hb, rfl, b1, b2, b3⟩)) (fun o ho => ?_)
      obtain ⟨h112, rfl, Th112, Ch112, Zh112⟩ := ho
      show cw_X _ _ _ _ _ [] h112
      have Fh112 : cw_Fr cw_Ds cw_sh mk_fm h0 h112 := cw_Fr_tr Fh111 (cw_Fr_mono (by decide +kernel) Ch112)
      have Kh112 := zFK_fr Ch112 (by decide +kernel) Kh111
      have eh112_111_4 : ri_at h112 111 4 = ri_at h0 111 4 := (ri_frf Ch112 (d := 12) rfl rfl (by decide +kernel)).trans eh111_111_4
      clear eh111_111_4
      have eh112_111_5 : ri_at h112 111 5 = ri_at h0 111 5 := (ri_frf Ch112 (d := 12) rfl rfl (by decide +kernel)).trans eh111_111_5
      clear eh111_111_5
      have eh112_111_11 : ri_at h112 111 11 = ri_at h 111 11 := (ri_frf Ch112 (d := 12) rfl rfl (by decide +kernel)).trans eh111_111_11
      clear eh111_111_11
      have eh112_111_37 : ri_at h112 111 37 = (s1.length : Int) + 1 := (ri_frf Ch112 (d := 12) rfl rfl (by decide +kernel)).trans eh111_111_37
      clear eh111_111_37
      have eh112_111_38 : ri_at h112 111 38 = zcb s1 + 1 := (ri_frf Ch112 (d := 12) rfl rfl (by decide +kernel)).trans eh111_111_38
      clear eh111_111_38
      have eh112_111_19 : ri_at h112 111 19 = K := (ri_frf Ch112 (d := 12) rfl rfl (by decide +kernel)).trans eh111_111_19
      clear eh111_111_19
      have eh112_111_40 : ri_at h112 111 40 = kn + 1 := (ri_frf Ch112 (d := 12) rfl rfl (by decide +kernel)).trans eh111_111_40
      clear eh111_111_40
      have eh112_111_39 : ri_at h112 111 39 = zc0 s1 := (ri_frf Ch112 (d := 12) rfl rfl (by decide +kernel)).trans eh111_111_39
      clear eh111_111_39
      have eh112_111_41 : ri_at h112 111 41 = x105.toInt := (ri_frf Ch112 (d := 12) rfl rfl (by decide +kernel)).trans eh111_111_41
      clear eh111_111_41
      have eh112_111_42 : ri_at h112 111 42 = x110.toInt := (ri_frf Ch112 (d := 12) rfl rfl (by decide +kernel)).trans eh111_111_42
      clear eh111_111_42
      obtain ⟨yah112, ybh112, ych112, ydh112, -⟩ := id Zh112
      have zlh112 := zx_le (t := t) (n := n) (p := (zx t n p)) (by omega)
      clear eh111_111_6 eh111_111_10 eh111_111_7 eh111_111_8
      refine ex_ic oq_X12_signs_257 (m := 1) (by decide) (fun x113 hx113 => ?_)
      exact ex_retb oq_X12_signs_258 rfl (by omega) (by omega) (hQ x113 h112 Th112 Fh112 Kh112 (.inl ⟨((zsk (zk t n p) (zw t n p)) :: s1, kn + 1, 1, if zrk (zsk (zk t n p) (zw t n p)) < 3 then 1 else 0), _, (by unfold zsg; rw [if_neg hno, if_neg (by omega), hs1, if_neg hcp, if_neg (by omega)]), by omega, by omega, Zh112, by omega, by omega, ⟨(show zok _ from ⟨by omega, ho⟩), (zrow_eq rowh104 (fun i => ((ri_frr Ch112 (k := 128) (d := 67) rfl rfl (by decide +kernel)).trans ((ri_ne wh111 (.inl (by decide))).trans (ri_ne wh106 (.inl (by decide))))))), by dsimp only; simp only [List.length_cons]; omega, by dsimp only; omega, by dsimp only; omega, by dsimp only; omega, by dsimp only; omega, by dsimp only; omega, by dsimp only; rw [if_neg (by omega)]; omega⟩, (hc1.symm ▸ (zFd_eq hd (fun i => ((ri_frr Ch112 (k := 125) (d := 64) rfl rfl (by decide +kernel)).trans ((ri_ne wh111 (.inl (by decide))).trans ((ri_ne wh106 (.inl (by decide))).trans ((ri_frr Ch104 (k := 125) (d := 64) rfl rfl (by decide +kernel)).trans (ri_frr Ch102 (k := 125) (d := 64) rfl rfl (by decide +kernel))))))) (fun i => ((ri_frr Ch112 (k := 126) (d := 65) rfl rfl (by decide +kernel)).trans ((ri_ne wh111 (.inl (by decide))).trans ((ri_ne wh106 (.inl (by decide))).trans ((ri_frr Ch104 (k := 126) (d := 65) rfl rfl (by decide +kernel)).trans (ri_frr Ch102 (k := 126) (d := 65) rfl rfl (by decide +kernel))))))) (fun i => ((ri_frr Ch112 (k := 127) (d := 66) rfl rfl (by decide +kernel)).trans ((ri_ne wh111 (.inl (by decide))).trans ((ri_ne wh106 (.inl (by decide))).trans ((ri_frr Ch104 (k := 127) (d := 66) rfl rfl (by decide +kernel)).trans (ri_frr Ch102 (k := 127) (d := 66) rfl rfl (by decide +kernel))))))) (fun i => ((ri_frr Ch112 (k := 129) (d := 68) rfl rfl (by decide +kernel)).trans ((ri_ne wh111 (.inl (by decide))).trans ((ri_ne wh106 (.inl (by decide))).trans ((ri_frr Ch104 (k := 129) (d := 68) rfl rfl (by decide +kernel)).trans (ri_frr Ch102 (k := 129) (d := 68) rfl rfl (by decide +kernel))))))) ((ri_frf Ch112 (k := 111) (d := 12) (i := 38) rfl rfl (by decide +kernel)).trans ((ri_ne wh111 (by decide)).trans ((ri_ne wh106 (by decide)).trans ((ri_frf Ch104 (k := 111) (d := 12) (i := 38) rfl rfl (by decide +kernel)).trans (ri_frf Ch102 (k := 111) (d := 12) (i := 38) rfl rfl (by decide +kernel)))))) ((ri_frf Ch112 (k := 111) (d := 12) (i := 19) rfl rfl (by decide +kernel)).trans ((ri_ne wh111 (by decide)).trans ((ri_ne wh106 (by decide)).trans ((ri_frf Ch104 (k := 111) (d := 12) (i := 19) rfl rfl (by decide +kernel)).trans (ri_frf Ch102 (k := 111) (d := 12) (i := 19) rfl rfl (by decide +kernel))))))))⟩))
    · rw [hk] at mx107
      refine ex_ic oq_X12_signs_245 (m := 1) (by decide) (fun x114 hx114 => ?_)
      refine ex_go oq_X12_signs_246 (t := 250) rfl rfl ?_
      refine ex_pfb oq_X12_signs_250 Th106 (k := 111) (d := 12) rfl rfl rfl (by omega) (by omega) (fun h115 Th115 wh115 => ?_)
      have Fh115 : cw_Fr cw_Ds cw_sh mk_fm h0 h115 := cw_Fr_tr Fh106 (cw_Fr_wrf wh115 (k := 111) (d := 12) rfl rfl (by decide +kernel))
      have Kh115 := zFK_wr (k := 111) wh115 (Nat.zero_le _) Kh106
      have eh115_111_4 : ri_at h115 111 4 = ri_at h0 111 4 := (ri_ne wh115 (by decide)).trans eh106_111_4
      clear eh106_111_4
      have eh115_111_5 : ri_at h115 111 5 = ri_at h0 111 5 := (ri_ne wh115 (by decide)).trans eh106_111_5
      clear eh106_111_5
      have eh115_111_6 : ri_at h115 111 6 = (n : Int) := (ri_ne wh115 (by decide)).trans eh106_111_6
      clear eh106_111_6
      have eh115_111_7 : ri_at h115 111 7 = ((zx t n p : Nat) : Int) := (ri_ne wh115 (by decide)).trans eh106_111_7
      clear eh106_111_7
      have eh115_111_8 : ri_at h115 111 8 = zk t n p := (ri_ne wh115 (by decide)).trans eh106_111_8
      clear eh106_111_8
      have eh115_111_10 : ri_at h115 111 10 = ((za t n p : Nat) : Int) := (ri_ne wh115 (by decide)).trans eh106_111_10
      clear eh106_111_10
      have eh115_111_11 : ri_at h115 111 11 = ri_at h 111 11 := (ri_ne wh115 (by decide)).trans eh106_111_11
      clear eh106_111_11
      have eh115_111_37 : ri_at h115 111 37 = (s1.length : Int) + 1 := (ri_ne wh115 (by decide)).trans eh106_111_37
      clear eh106_111_37
      have eh115_111_38 : ri_at h115 111 38 = zcb s1 + 1 := (ri_ne wh115 (by decide)).trans eh106_111_38
      clear eh106_111_38
      have eh115_111_19 : ri_at h115 111 19 = K := (ri_ne wh115 (by decide)).trans eh106_111_19
      clear eh106_111_19
      have eh115_111_40 : ri_at h115 111 40 = kn + 1 := (ri_ne wh115 (by decide)).trans eh106_111_40
      clear eh106_111_40
      have eh115_111_39 : ri_at h115 111 39 = zc0 s1 := (ri_ne wh115 (by decide)).trans eh106_111_39
      clear eh106_111_39
      have eh115_111_41 : ri_at h115 111 41 = x105.toInt := (ri_ne wh115 (by decide)).trans eh106_111_41
      clear eh106_111_41
      have eh115_111_42 : ri_at h115 111 42 = x114.toInt := ri_self wh115
      have Zh115 := zR_wr wh115 Zh106 (.inr (by decide))
      refine ex_al oq_X12_signs_253 g0 ?_
      refine ex_cv oq_X12_signs_254 (by decide) Th115 (k := 111) (d := 12) (as := []) (stk := []) rfl rfl rfl rfl rfl rfl ⟨rfl, rfl⟩ (R := fun o => ∃ hb : cv_H, o = (none, hb) ∧ cw_T G hb ∧ cw_Fr cw_Ds cw_sh kk_X12_token.2.2.2.2.2.1 h115 hb ∧ zR t n (zx t n p) hb) (rt_tok (t := t) (n := n) (p := (zx t n p)) (fun i hi => by rw [ht i hi, ← hA _ Fh115]) hn9 (fun i hi => by rw [hB _ Fh115]; exact hwr i hi) Th115 (zx_le (by omega)) (by omega) (by omega) (fun hb b1 b2 b3 => ⟨hb, rfl, b1, b2, b3⟩)) (fun o ho => ?_)
      obtain ⟨h116, rfl, Th116, Ch116, Zh116⟩ := ho
      show cw_X _ _ _ _ _ [] h116
      have Fh116 : cw_Fr cw_Ds cw_sh mk_fm h0 h116 := cw_Fr_tr Fh115 (cw_Fr_mono (by decide +kernel) Ch116)
      have Kh116 := zFK_fr Ch116 (by decide +kernel) Kh115
      have eh116_111_4 : ri_at h116 111 4 = ri_at h0 111 4 := (ri_frf Ch116 (d := 12) rfl rfl (by decide +kernel)).trans eh115_111_4
      clear eh115_111_4
      have eh116_111_5 : ri_at h116 111 5 = ri_at h0 111 5 := (ri_frf Ch116 (d := 12) rfl rfl (by decide +kernel)).trans eh115_111_5
      clear eh115_111_5
      have eh116_111_11 : ri_at h116 111 11 = ri_at h 111 11 := (ri_frf Ch116 (d := 12) rfl rfl (by decide +kernel)).trans eh115_111_11
      clear eh115_111_11
      have eh116_111_37 : ri_at h116 111 37 = (s1.length : Int) + 1 := (ri_frf Ch116 (d := 12) rfl rfl (by decide +kernel)).trans eh115_111_37
      clear eh115_111_37
      have eh116_111_38 : ri_at h116 111 38 = zcb s1 + 1 := (ri_frf Ch116 (d := 12) rfl rfl (by decide +kernel)).trans eh115_111_38
      clear eh115_111_38
      have eh116_111_19 : ri_at h116 111 19 = K := (ri_frf Ch116 (d := 12) rfl rfl (by decide +kernel)).trans eh115_111_19
      clear eh115_111_19
      have eh116_111_40 : ri_at h116 111 40 = kn + 1 := (ri_frf Ch116 (d := 12) rfl rfl (by decide +kernel)).trans eh115_111_40
      clear eh115_111_40
      have eh116_111_39 : ri_at h116 111 39 = zc0 s1 := (ri_frf Ch116 (d := 12) rfl rfl (by decide +kernel)).trans eh115_111_39
      clear eh115_111_39
      have eh116_111_41 : ri_at h116 111 41 = x105.toInt := (ri_frf Ch116 (d := 12) rfl rfl (by decide +kernel)).trans eh115_111_41
      clear eh115_111_41
      have eh116_111_42 : ri_at h116 111 42 = x114.toInt := (ri_frf Ch116 (d := 12) rfl rfl (by decide +kernel)).trans eh115_111_42
      clear eh115_111_42
      obtain ⟨yah116, ybh116, ych116, ydh116, -⟩ := id Zh116
      have zlh116 := zx_le (t := t) (n := n) (p := (zx t n p)) (by omega)
      clear eh115_111_6 eh115_111_10 eh115_111_7 eh115_111_8
      refine ex_ic oq_X12_signs_257 (m := 1) (by decide) (fun x117 hx117 => ?_)
      exact ex_retb oq_X12_signs_258 rfl (by omega) (by omega) (hQ x117 h116 Th116 Fh116 Kh116 (.inl ⟨((zsk (zk t n p) (zw t n p)) :: s1, kn + 1, 1, if zrk (zsk (zk t n p) (zw t n p)) < 3 then 1 else 0), _, (by unfold zsg; rw [if_neg hno, if_neg (by omega), hs1, if_neg hcp, if_neg (by omega)]), by omega, by omega, Zh116, by omega, by omega, ⟨(show zok _ from ⟨by omega, ho⟩), (zrow_eq rowh104 (fun i => ((ri_frr Ch116 (k := 128) (d := 67) rfl rfl (by decide +kernel)).trans ((ri_ne wh115 (.inl (by decide))).trans (ri_ne wh106 (.inl (by decide))))))), by dsimp only; simp only [List.length_cons]; omega, by dsimp only; omega, by dsimp only; omega, by dsimp only; omega, by dsimp only; omega, by dsimp only; omega, by dsimp only; rw [if_pos (by omega)]; omega⟩, (hc1.symm ▸ (zFd_eq hd (fun i => ((ri_frr Ch116 (k := 125) (d := 64) rfl rfl (by decide +kernel)).trans ((ri_ne wh115 (.inl (by decide))).trans ((ri_ne wh106 (.inl (by decide))).trans ((ri_frr Ch104 (k := 125) (d := 64) rfl rfl (by decide +kernel)).trans (ri_frr Ch102 (k := 125) (d := 64) rfl rfl (by decide +kernel))))))) (fun i => ((ri_frr Ch116 (k := 126) (d := 65) rfl rfl (by decide +kernel)).trans ((ri_ne wh115 (.inl (by decide))).trans ((ri_ne wh106 (.inl (by decide))).trans ((ri_frr Ch104 (k := 126) (d := 65) rfl rfl (by decide +kernel)).trans (ri_frr Ch102 (k := 126) (d := 65) rfl rfl (by decide +kernel))))))) (fun i => ((ri_frr Ch116 (k := 127) (d := 66) rfl rfl (by decide +kernel)).trans ((ri_ne wh115 (.inl (by decide))).trans ((ri_ne wh106 (.inl (by decide))).trans ((ri_frr Ch104 (k := 127) (d := 66) rfl rfl (by decide +kernel)).trans (ri_frr Ch102 (k := 127) (d := 66) rfl rfl (by decide +kernel))))))) (fun i => ((ri_frr Ch116 (k := 129) (d := 68) rfl rfl (by decide +kernel)).trans ((ri_ne wh115 (.inl (by decide))).trans ((ri_ne wh106 (.inl (by decide))).trans ((ri_frr Ch104 (k := 129) (d := 68) rfl rfl (by decide +kernel)).trans (ri_frr Ch102 (k := 129) (d := 68) rfl rfl (by decide +kernel))))))) ((ri_frf Ch116 (k := 111) (d := 12) (i := 38) rfl rfl (by decide +kernel)).trans ((ri_ne wh115 (by decide)).trans ((ri_ne wh106 (by decide)).trans ((ri_frf Ch104 (k := 111) (d := 12) (i := 38) rfl rfl (by decide +kernel)).trans (ri_frf Ch102 (k := 111) (d := 12) (i := 38) rfl rfl (by decide +kernel)))))) ((ri_frf Ch116 (k := 111) (d := 12) (i := 19) rfl rfl (by decide +kernel)).trans ((ri_ne wh115 (by decide)).trans ((ri_ne wh106 (by decide)).trans ((ri_frf Ch104 (k := 111) (d := 12) (i := 19) rfl rfl (by decide +kernel)).trans (ri_frf Ch102 (k := 111) (d := 12) (i := 19) rfl rfl (by decide +kernel))))))))⟩))
  · replace c103 : x101.toInt = 0 := by omega
    obtain ⟨kx101, fx101, gx101⟩ := cnt_n dx101 c103
    clear dx101
    refine ex_ic oq_X12_signs_224 (m := 0) (by decide) (fun x118 hx118 => ?_)
    exact ex_retb oq_X12_signs_225 rfl (by omega) (by omega) (hQ x118 h102 Th102 Fh102 Kh102 (.inr ⟨_, _, (by unfold zsg; rw [if_neg hno, if_neg (by omega), hs1, if_neg hcp, if_pos (by omega)]), by omega, by omega, by omega, by decide⟩))
set_option maxHeartbeats 8000000 in
theorem sg_bK {h0 : cv_H} {n p : Nat} (ht : ∀ i, i < n → t i = ri_at h0 112 i) (hn9 : n ≤ 900) (hwr : ∀ i, i < 177 → ri_at h0 113 i = pp_words.getD i 0) (hpn : p ≤ n) {h : cv_H} (hT : cw_T G h) (Fh : cw_Fr cw_Ds cw_sh mk_fm h0 h) (Kh : zFK h0 h) (hz : zR t n p h) (hf4 : ri_at h 111 4 = ri_at h0 111 4) (hf5 : ri_at h 111 5 = ri_at h0 111 5) {st s1 : List Int} {kn m : Int} (hk64 : 0 ≤ kn ∧ kn ≤ 64) (hno : ¬ ((zk t n p = 4 ∧ zw t n p = 41) ∧ 0 < zc0 st)) (hs1 : zbi (if zrk (zsk (zk t n p) (zw t n p)) = 4 then 5 else zrk (zsk (zk t n p) (zw t n p))) st = s1) (ho : zok s1) (hrw : zrow h 128 s1) (hwa : ri_at h 111 37 = s1.length) (hhe : ri_at h 111 38 = zcb s1 + 1) (hkn : ri_at h 111 19 + zcb s1 + zcu s1 = kn) (hct : ri_at h 111 40 = kn) (hbr : ri_at h 111 39 = zc0 s1) (hwn : ri_at h 111 41 = 0) (hmn : ri_at h 111 42 = m) {V : Nat → Int × Int × Int} {f : Nat} {cs cs1 : List Int} (hd : zFd h V f cs1) (hc1 : zsC t n p st cs = cs1) {L : cv_L} {k : Int32} (hk : k.toInt = (zsk (zk t n p) (zw t n p))) (hk3 : 3 ≤ (zsk (zk t n p) (zw t n p)) ∧ (zsk (zk t n p) (zw t n p)) ≤ 14) (g0 : cv_get L 0 = some (cv_r 111)) (g1 : cv_get L 1 = some (cv_i k)) (hQ : ∀ (x : Int32) h', cw_T G h' → cw_Fr cw_Ds cw_sh mk_fm h0 h' → zFK h0 h' → zRe t n h0 h' x (zsg t n st kn m p) (fun s => zFR h' s.1 s.2.1 s.2.2.1 s.2.2.2 ∧ zFd h' V f (zsC t n p st cs)) → Q (some (cv_i x), h')) : cw_X X 198 Q 178 L [] h := by
  have hkn0 := hkn
  obtain ⟨z1, z2, z3, z4, z5⟩ := id hz
  replace z5 := zhd_i z5
  have zxl := zx_le (t := t) hpn
  have hlen := zc_len ho
  obtain ⟨K, hK⟩ : ∃ K, ri_at h 111 19 = K := ⟨_, rfl⟩
  have hK0 : 0 ≤ K ∧ K ≤ 64 := by obtain ⟨y, _, y1, y2, y3⟩ := fi_knotsRead hT; omega
  rw [hK] at hkn
  have hb8 : zc0 s1 ≤ 8 := by obtain ⟨y, _, y1, y2, y3⟩ := fi_brackets hT; omega
  have hA : ∀ h, cw_Fr cw_Ds cw_sh mk_fm h0 h → ∀ i, ri_at h 112 i = ri_at h0 112 i := fun h F i => ri_frr F (k := 112) (d := 51) rfl rfl (by decide +kernel)
  have hB : ∀ h, cw_Fr cw_Ds cw_sh mk_fm h0 h → ∀ i, ri_at h 113 i = ri_at h0 113 i := fun h F i => ri_frr F (k := 113) (d := 52) rfl rfl (by decide +kernel)
  refine ex_il oq_X12_signs_178 g1 ?_
  refine ex_cs oq_X12_signs_179 (by decide) (as := [cv_i k]) (stk := []) rfl rfl rfl ⟨rfl, rfl⟩ (R := fun o => ∃ x : Int32, o = (some (cv_i x), h) ∧ x.toInt = zrk k.toInt) (rt_rank k (fun x q => ⟨x, rfl, q⟩)) (fun o ho => ?_)
  obtain ⟨x101, rfl, mx101⟩ := ho
  show cw_X _ _ _ _ _ [cv_i x101] h
  refine ex_ic oq_X12_signs_182 (m := 4) (by decide) (fun x102 hx102 => ?_)
  refine ex_if oq_X12_signs_183 (t := 217) rfl rfl (fun (c103 : ¬ x101.toInt = x102.toInt) => ?_) (fun (c103 : ¬ (¬ x101.toInt = x102.toInt)) => ?_)
  · rw [hk] at mx101
    exact sg_cK ht hn9 hwr hpn hT Fh Kh hz hf4 hf5 hk64 hno hs1 ho hrw hwa hhe hkn0 hct hbr hwn hmn hd hc1 hk hk3 g0 g1 (fun q => by omega) hQ
  · rw [hk] at mx101
    refine ex_al oq_X12_signs_186 g0 ?_
    obtain ⟨x104, ax104, rx104, lx104, ux104⟩ := fi_waits hT
    refine ex_gf oq_X12_signs_187 hT (k := 111) (d := 12) rfl rfl ax104 ?_
    have rx104 := (rx104.symm.trans hwa : x104.toInt = (s1.length : Int))
    refine ex_if0 oq_X12_signs_190 (t := 217) rfl rfl (fun (c105 : x104.toInt ≤ 0) => ?_) (fun (c105 : ¬ (x104.toInt ≤ 0)) => ?_)
    · exact sg_cK ht hn9 hwr hpn hT Fh Kh hz hf4 hf5 hk64 hno hs1 ho hrw hwa hhe hkn0 hct hbr hwn hmn hd hc1 hk hk3 g0 g1 (fun q => by rw [show s1 = [] from List.length_eq_zero_iff.mp (by omega)] at q; exact absurd q.2 (by decide)) hQ
    · refine ex_al oq_X12_signs_193 g0 ?_
      refine ex_gf oq_X12_signs_194 hT (k := 111) (d := 12) rfl rfl (fr_wait hT) ?_
      refine ex_al oq_X12_signs_197 g0 ?_
      obtain ⟨x106, ax106, rx106, lx106, ux106⟩ := fi_waits hT
      refine ex_gf oq_X12_signs_198 hT (k := 111) (d := 12) rfl rfl ax106 ?_
      have rx106 := (rx106.symm.trans hwa : x106.toInt = (s1.length : Int))
      refine ex_ic oq_X12_signs_201 (m := 1) (by decide) (fun x107 hx107 => ?_)
      refine ex_sub oq_X12_signs_202 (by omega) (fun x108 hx108 => ?_)
      refine ex_ia1 oq_X12_signs_203 hT (k := 128) (d := 67) (j := s1.length - 1) rfl rfl (by omega) (by omega) (fun x109 hx109 lx109 ux109 => ?_)
      have htp : x109.toInt = s1.headD 0 := by
        cases s1 with
        | nil => simp only [List.length_nil] at hwa; omega
        | cons a s2 => exact hx109.symm.trans (zrow_top hrw)
      refine ex_cs oq_X12_signs_204 (by decide) (as := [cv_i x109]) (stk := []) rfl rfl rfl ⟨rfl, rfl⟩ (R := fun o => ∃ x : Int32, o = (some (cv_i x), h) ∧ x.toInt = zrk x109.toInt) (rt_rank x109 (fun x q => ⟨x, rfl, q⟩)) (fun o ho => ?_)
      obtain ⟨x110, rfl, mx110⟩ := ho
      show cw_X _ _ _ _ _ [cv_i x110] h
      refine ex_ic oq_X12_signs_207 (m := 4) (by decide) (fun x111 hx111 => ?_)
      refine ex_if oq_X12_signs_208 (t := 217) rfl rfl (fun (c112 : ¬ x110.toInt = x111.toInt) => ?_) (fun (c112 : ¬ (¬ x110.toInt = x111.toInt)) => ?_)
      · exact sg_cK ht hn9 hwr hpn hT Fh Kh hz hf4 hf5 hk64 hno hs1 ho hrw hwa hhe hkn0 hct hbr hwn hmn hd hc1 hk hk3 g0 g1 (fun q => by rw [← htp] at q; omega) hQ
      · refine ex_al oq_X12_signs_211 g0 ?_
        refine ex_ic oq_X12_signs_212 (m := 1) (by decide) (fun x113 hx113 => ?_)
        refine ex_cv oq_X12_signs_213 (by decide) hT (k := 111) (d := 12) (as := [cv_i x113]) (stk := []) rfl rfl rfl rfl rfl rfl ⟨rfl, rfl⟩ (R := fun o => ∃ (x : Int32) (hb : cv_H), o = (some (cv_i x), hb) ∧ cw_T G hb ∧ cw_Fr cw_Ds cw_sh kk_X12_wrong.2.2.2.2.2.1 h hb ∧ x.toInt = 0 ∧ ri_at hb 111 4 = x113.toInt ∧ ri_at hb 111 5 = ri_at h 111 10) (rt_wrong hT x113 (fun x hb b1 b2 b3 b4 b5 => ⟨x, hb, rfl, b1, b2, b3, b4, b5⟩)) (fun o ho => ?_)
        obtain ⟨x114, h115, rfl, Th115, Ch115, zh115, fh115, ph115⟩ := ho
        show cw_X _ _ _ _ _ [cv_i x114] h115
        have Fh115 : cw_Fr cw_Ds cw_sh mk_fm h0 h115 := cw_Fr_tr Fh (cw_Fr_mono (by decide +kernel) Ch115)
        have Kh115 := zFK_fr Ch115 (by decide +kernel) Kh
        exact ex_retb oq_X12_signs_216 rfl (by omega) (by omega) (hQ x114 h115 Th115 Fh115 Kh115 (.inr ⟨_, _, (by unfold zsg; rw [if_neg hno, if_neg (by omega), hs1, if_pos ⟨by omega, by rw [← htp]; omega⟩]), by omega, by omega, by omega, by decide⟩))
set_option maxHeartbeats 8000000 in
theorem sg_kK {h0 : cv_H} {n p : Nat} (ht : ∀ i, i < n → t i = ri_at h0 112 i) (hn9 : n ≤ 900) (hwr : ∀ i, i < 177 → ri_at h0 113 i = pp_words.getD i 0) (hpn : p ≤ n) {h : cv_H} (hT : cw_T G h) (Fh : cw_Fr cw_Ds cw_sh mk_fm h0 h) (Kh : zFK h0 h) (hz : zR t n p h) (hf4 : ri_at h 111 4 = ri_at h0 111 4) (hf5 : ri_at h 111 5 = ri_at h0 111 5) {st : List Int} {kn m : Int} (hF : zFR h st kn 0 m) {V : Nat → Int × Int × Int} {f : Nat} {cs : List Int} (hd : zFd h V f cs) (hno : ¬ ((zk t n p = 4 ∧ zw t n p = 41) ∧ 0 < zc0 st)) {L : cv_L} {k : Int32} (hk : k.toInt = (zsk (zk t n p) (zw t n p))) (hk3 : (zsk (zk t n p) (zw t n p)) = 0 ∨ 3 ≤ (zsk (zk t n p) (zw t n p)) ∧ (zsk (zk t n p) (zw t n p)) ≤ 14) (g0 : cv_get L 0 = some (cv_r 111)) (g1 : cv_get L 1 = some (cv_i k)) (hQ : ∀ (x : Int32) h', cw_T G h' → cw_Fr cw_Ds cw_sh mk_fm h0 h' → zFK h0 h' → zRe t n h0 h' x (zsg t n st kn m p) (fun s => zFR h' s.1 s.2.1 s.2.2.1 s.2.2.2 ∧ zFd h' V f (zsC t n p st cs)) → Q (some (cv_i x), h')) : cw_X X 198 Q 148 L [] h := by
  obtain ⟨z1, z2, z3, z4, z5⟩ := id hz
  replace z5 := zhd_i z5
  have zxl := zx_le (t := t) hpn
  obtain ⟨ho, hrw, hwa, hhe, hkn, hct, hbr, hwn, hmn⟩ := hF
  have hlen := zc_len ho
  have hk64 : 0 ≤ kn ∧ kn ≤ 64 := by obtain ⟨y, _, y1, y2, y3⟩ := fi_counted hT; omega
  have hb8 : zc0 st ≤ 8 := by obtain ⟨y, _, y1, y2, y3⟩ := fi_brackets hT; omega
  have hm01 : 0 ≤ m ∧ m ≤ 1 := by obtain ⟨y, _, y1, y2, y3⟩ := fi_mayNot hT; omega
  obtain ⟨K, hK⟩ : ∃ K, ri_at h 111 19 = K := ⟨_, rfl⟩
  have hK0 : 0 ≤ K ∧ K ≤ 64 := by obtain ⟨y, _, y1, y2, y3⟩ := fi_knotsRead hT; omega
  rw [hK] at hkn
  have hA : ∀ h, cw_Fr cw_Ds cw_sh mk_fm h0 h → ∀ i, ri_at h 112 i = ri_at h0 112 i := fun h F i => ri_frr F (k := 112) (d := 51) rfl rfl (by decide +kernel)
  have hB : ∀ h, cw_Fr cw_Ds cw_sh mk_fm h0 h → ∀ i, ri_at h 113 i = ri_at h0 113 i := fun h F i => ri_frr F (k := 113) (d := 52) rfl rfl (by decide +kernel)
  refine ex_il oq_X12_signs_148 g1 ?_
  refine ex_if0 oq_X12_signs_149 (t := 158) rfl rfl (fun (c101 : ¬ k.toInt = 0) => ?_) (fun (c101 : ¬ (¬ k.toInt = 0)) => ?_)
  · refine ex_al oq_X12_signs_158 g0 ?_
    refine ex_il oq_X12_signs_159 g1 ?_
    refine ex_cs oq_X12_signs_160 (by decide) (as := [cv_i k]) (stk := [cv_r 111]) rfl rfl rfl ⟨rfl, rfl⟩ (R := fun o => ∃ x : Int32, o = (some (cv_i x), h) ∧ x.toInt = zrk k.toInt) (rt_rank k (fun x q => ⟨x, rfl, q⟩)) (fun o ho => ?_)
    obtain ⟨x102, rfl, mx102⟩ := ho
    show cw_X _ _ _ _ _ [cv_i x102, cv_r 111] h
    refine ex_ic oq_X12_signs_163 (m := 4) (by decide) (fun x103 hx103 => ?_)
    refine ex_if oq_X12_signs_164 (t := 171) rfl rfl (fun (c104 : ¬ x102.toInt = x103.toInt) => ?_) (fun (c104 : ¬ (¬ x102.toInt = x103.toInt)) => ?_)
    · rw [hk] at mx102
      refine ex_il oq_X12_signs_171 g1 ?_
      refine ex_cs oq_X12_signs_172 (by decide) (as := [cv_i k]) (stk := [cv_r 111]) rfl rfl rfl ⟨rfl, rfl⟩ (R := fun o => ∃ x : Int32, o = (some (cv_i x), h) ∧ x.toInt = zrk k.toInt) (rt_rank k (fun x q => ⟨x, rfl, q⟩)) (fun o ho => ?_)
      obtain ⟨x105, rfl, mx105⟩ := ho
      show cw_X _ _ _ _ _ [cv_i x105, cv_r 111] h
      have rb2 := zrk_b (k := (zsk (zk t n p) (zw t n p)))
      have lpfh : x105.toInt = (zrk (zsk (zk t n p) (zw t n p))) := (by rw [mx105, hk])
      refine ex_cv oq_X12_signs_175 (by decide) hT (k := 111) (d := 12) (as := [cv_i x105]) (stk := []) rfl rfl rfl rfl rfl rfl ⟨rfl, rfl⟩ (R := fun o => ∃ (hb : cv_H), o = (none, hb) ∧ cw_T G hb ∧ cw_Fr cw_Ds cw_sh mk_bz h hb ∧ zFK h hb ∧ ri_at hb 111 37 = (zbi (zrk (zsk (zk t n p) (zw t n p))) st).length ∧ ri_at hb 111 38 = zcb (zbi (zrk (zsk (zk t n p) (zw t n p))) st) + 1 ∧ ri_at hb 111 19 + zcb (zbi (zrk (zsk (zk t n p) (zw t n p))) st) + zcu (zbi (zrk (zsk (zk t n p) (zw t n p))) st) = kn ∧ zFd hb V f (cs ++ (zbp (zrk (zsk (zk t n p) (zw t n p))) st).map zsi)) (rt_bindK hT (by omega) (st := st) (kn := kn) (by omega) ho (zrow_eq hrw (fun i => rfl)) (by omega) (by omega) (by omega) (f := f) (cs := cs) hd (fun hb b1 b2 bk b3 b4 b5 b6 => ⟨hb, rfl, b1, b2, bk, by rw [lpfh] at b3; exact b3, by rw [lpfh] at b4; exact b4, by rw [lpfh] at b5; exact b5, by rw [lpfh] at b6; exact b6⟩)) (fun o ho => ?_)
      obtain ⟨h106, rfl, Th106, Ch106, kh106, bh106, ch106, dh106, fdh106⟩ := ho
      show cw_X _ _ _ _ _ [] h106
      have Fh106 : cw_Fr cw_Ds cw_sh mk_fm h0 h106 := cw_Fr_tr Fh (cw_Fr_mono (by decide +kernel) Ch106)
      have Kh106 := zFK_tr Kh kh106
      have eh106_111_4 : ri_at h106 111 4 = ri_at h0 111 4 := (ri_frf Ch106 (d := 12) rfl rfl (by decide +kernel)).trans hf4
      have eh106_111_5 : ri_at h106 111 5 = ri_at h0 111 5 := (ri_frf Ch106 (d := 12) rfl rfl (by decide +kernel)).trans hf5
      have eh106_111_6 : ri_at h106 111 6 = (n : Int) := (ri_frf Ch106 (d := 12) rfl rfl (by decide +kernel)).trans z1
      have eh106_111_7 : ri_at h106 111 7 = ((zx t n p : Nat) : Int) := (ri_frf Ch106 (d := 12) rfl rfl (by decide +kernel)).trans z3
      have eh106_111_8 : ri_at h106 111 8 = zk t n p := (ri_frf Ch106 (d := 12) rfl rfl (by decide +kernel)).trans z4
      have eh106_111_10 : ri_at h106 111 10 = ((za t n p : Nat) : Int) := (ri_frf Ch106 (d := 12) rfl rfl (by decide +kernel)).trans z2
      have eh106_111_11 : ri_at h106 111 11 = ri_at h 111 11 := ri_frf Ch106 (d := 12) rfl rfl (by decide +kernel)
      have eh106_111_40 : ri_at h106 111 40 = kn := (ri_frf Ch106 (d := 12) rfl rfl (by decide +kernel)).trans hct
      have eh106_111_39 : ri_at h106 111 39 = zc0 st := (ri_frf Ch106 (d := 12) rfl rfl (by decide +kernel)).trans hbr
      have eh106_111_41 : ri_at h106 111 41 = (0 : Int) := (ri_frf Ch106 (d := 12) rfl rfl (by decide +kernel)).trans hwn
      have eh106_111_42 : ri_at h106 111 42 = m := (ri_frf Ch106 (d := 12) rfl rfl (by decide +kernel)).trans hmn
      have Zh106 := zR_fr Ch106 hz (by decide +kernel)
      have rowh106 : zrow h106 128 (zbi (zrk (zsk (zk t n p) (zw t n p))) st) := zrow_bi (zrow_eq hrw (fun i => (ri_frr Ch106 (k := 128) (d := 67) rfl rfl (by decide +kernel))))
      exact sg_bK ht hn9 hwr hpn Th106 Fh106 Kh106 Zh106 eh106_111_4 eh106_111_5 hk64 hno (by rw [if_neg (by omega)]) (zbi_ok ho) rowh106 (by omega) (by omega) dh106 (by omega) (by rw [zbi_c0 (by omega)]; omega) (by omega) (by omega) fdh106 (by unfold zsC; rw [if_neg hno, if_neg (by omega)]) hk (by omega) g0 g1 hQ
    · rw [hk] at mx102
      refine ex_ic oq_X12_signs_167 (m := 5) (by decide) (fun x107 hx107 => ?_)
      refine ex_go oq_X12_signs_168 (t := 175) rfl rfl ?_
      have lpfh : x107.toInt = 5 := hx107
      refine ex_cv oq_X12_signs_175 (by decide) hT (k := 111) (d := 12) (as := [cv_i x107]) (stk := []) rfl rfl rfl rfl rfl rfl ⟨rfl, rfl⟩ (R := fun o => ∃ (hb : cv_H), o = (none, hb) ∧ cw_T G hb ∧ cw_Fr cw_Ds cw_sh mk_bz h hb ∧ zFK h hb ∧ ri_at hb 111 37 = (zbi 5 st).length ∧ ri_at hb 111 38 = zcb (zbi 5 st) + 1 ∧ ri_at hb 111 19 + zcb (zbi 5 st) + zcu (zbi 5 st) = kn ∧ zFd hb V f (cs ++ (zbp 5 st).map zsi)) (rt_bindK hT (by omega) (st := st) (kn := kn) (by omega) ho (zrow_eq hrw (fun i => rfl)) (by omega) (by omega) (by omega) (f := f) (cs := cs) hd (fun hb b1 b2 bk b3 b4 b5 b6 => ⟨hb, rfl, b1, b2, bk, by rw [lpfh] at b3; exact b3, by rw [lpfh] at b4; exact b4, by rw [lpfh] at b5; exact b5, by rw [lpfh] at b6; exact b6⟩)) (fun o ho => ?_)
      obtain ⟨h108, rfl, Th108, Ch108, kh108, bh108, ch108, dh108, fdh108⟩ := ho
      show cw_X _ _ _ _ _ [] h108
      have Fh108 : cw_Fr cw_Ds cw_sh mk_fm h0 h108 := cw_Fr_tr Fh (cw_Fr_mono (by decide +kernel) Ch108)
      have Kh108 := zFK_tr Kh kh108
      have eh108_111_4 : ri_at h108 111 4 = ri_at h0 111 4 := (ri_frf Ch108 (d := 12) rfl rfl (by decide +kernel)).trans hf4
      have eh108_111_5 : ri_at h108 111 5 = ri_at h0 111 5 := (ri_frf Ch108 (d := 12) rfl rfl (by decide +kernel)).trans hf5
      have eh108_111_6 : ri_at h108 111 6 = (n : Int) := (ri_frf Ch108 (d := 12) rfl rfl (by decide +kernel)).trans z1
      have eh108_111_7 : ri_at h108 111 7 = ((zx t n p : Nat) : Int) := (ri_frf Ch108 (d := 12) rfl rfl (by decide +kernel)).trans z3
      have eh108_111_8 : ri_at h108 111 8 = zk t n p := (ri_frf Ch108 (d := 12) rfl rfl (by decide +kernel)).trans z4
      have eh108_111_10 : ri_at h108 111 10 = ((za t n p : Nat) : Int) := (ri_frf Ch108 (d := 12) rfl rfl (by decide +kernel)).trans z2
      have eh108_111_11 : ri_at h108 111 11 = ri_at h 111 11 := ri_frf Ch108 (d := 12) rfl rfl (by decide +kernel)
      have eh108_111_40 : ri_at h108 111 40 = kn := (ri_frf Ch108 (d := 12) rfl rfl (by decide +kernel)).trans hct
      have eh108_111_39 : ri_at h108 111 39 = zc0 st := (ri_frf Ch108 (d := 12) rfl rfl (by decide +kernel)).trans hbr
      have eh108_111_41 : ri_at h108 111 41 = (0 : Int) := (ri_frf Ch108 (d := 12) rfl rfl (by decide +kernel)).trans hwn
      have eh108_111_42 : ri_at h108 111 42 = m := (ri_frf Ch108 (d := 12) rfl rfl (by decide +kernel)).trans hmn
      have Zh108 := zR_fr Ch108 hz (by decide +kernel)
      have rowh108 : zrow h108 128 (zbi 5 st) := zrow_bi (zrow_eq hrw (fun i => (ri_frr Ch108 (k := 128) (d := 67) rfl rfl (by decide +kernel))))
      exact sg_bK ht hn9 hwr hpn Th108 Fh108 Kh108 Zh108 eh108_111_4 eh108_111_5 hk64 hno (by rw [if_pos (by omega)]) (zbi_ok ho) rowh108 (by omega) (by omega) dh108 (by omega) (by rw [zbi_c0 (by omega)]; omega) (by omega) (by omega) fdh108 (by unfold zsC; rw [if_neg hno, if_pos (by omega)]) hk (by omega) g0 g1 hQ
  · replace c101 : k.toInt = 0 := by omega
    refine ex_al oq_X12_signs_152 g0 ?_
    refine ex_ic oq_X12_signs_153 (m := 1) (by decide) (fun x109 hx109 => ?_)
    refine ex_cv oq_X12_signs_154 (by decide) hT (k := 111) (d := 12) (as := [cv_i x109]) (stk := []) rfl rfl rfl rfl rfl rfl ⟨rfl, rfl⟩ (R := fun o => ∃ (x : Int32) (hb : cv_H), o = (some (cv_i x), hb) ∧ cw_T G hb ∧ cw_Fr cw_Ds cw_sh kk_X12_wrong.2.2.2.2.2.1 h hb ∧ x.toInt = 0 ∧ ri_at hb 111 4 = x109.toInt ∧ ri_at hb 111 5 = ri_at h 111 10) (rt_wrong hT x109 (fun x hb b1 b2 b3 b4 b5 => ⟨x, hb, rfl, b1, b2, b3, b4, b5⟩)) (fun o ho => ?_)
    obtain ⟨x110, h111, rfl, Th111, Ch111, zh111, fh111, ph111⟩ := ho
    show cw_X _ _ _ _ _ [cv_i x110] h111
    have Fh111 : cw_Fr cw_Ds cw_sh mk_fm h0 h111 := cw_Fr_tr Fh (cw_Fr_mono (by decide +kernel) Ch111)
    have Kh111 := zFK_fr Ch111 (by decide +kernel) Kh
    exact ex_retb oq_X12_signs_157 rfl (by omega) (by omega) (hQ x110 h111 Th111 Fh111 Kh111 (.inr ⟨_, _, (by unfold zsg; rw [if_neg hno, if_pos (by omega)]), by omega, by omega, by omega, by decide⟩))
set_option maxHeartbeats 8000000 in
theorem rt_signsK {h0 : cv_H} {n p : Nat} (ht : ∀ i, i < n → t i = ri_at h0 112 i) (hn9 : n ≤ 900) (hT : cw_T G h0) (hwr : ∀ i, i < 177 → ri_at h0 113 i = pp_words.getD i 0) (hpn : p ≤ n) (hz : zR t n p h0) {st : List Int} {kn m : Int} (hF : zFR h0 st kn 0 m) {V : Nat → Int × Int × Int} {f : Nat} {cs : List Int} (hd : zFd h0 V f cs) (hw5 : zk t n p = 5 → 0 ≤ zw t n p ∧ zw t n p ≤ 5) (hQ : ∀ (x : Int32) h', cw_T G h' → cw_Fr cw_Ds cw_sh mk_fm h0 h' → zFK h0 h' → zRe t n h0 h' x (zsg t n st kn m p) (fun s => zFR h' s.1 s.2.1 s.2.2.1 s.2.2.2 ∧ zFd h' V f (zsC t n p st cs)) → Q (some (cv_i x), h')) : cw_X X 198 Q 0 (cv_ent 0 [cv_r 111]) [] h0 := by
  have hF0 := hF
  have Fh0 : cw_Fr cw_Ds cw_sh mk_fm h0 h0 := cw_Fr_refl
  have Kh0 : zFK h0 h0 := zFK_0
  have zxl := zx_le (t := t) hpn
  obtain ⟨z1, z2, z3, z4, z5⟩ := id hz
  replace z5 := zhd_i z5
  have hA : ∀ h, cw_Fr cw_Ds cw_sh mk_fm h0 h → ∀ i, ri_at h 112 i = ri_at h0 112 i := fun h F i => ri_frr F (k := 112) (d := 51) rfl rfl (by decide +kernel)
  have hB : ∀ h, cw_Fr cw_Ds cw_sh mk_fm h0 h → ∀ i, ri_at h 113 i = ri_at h0 113 i := fun h F i => ri_frr F (k := 113) (d := 52) rfl rfl (by decide +kernel)
  obtain ⟨ho, hrw, hwa, hhe, hkn, hct, hbr, hwn, hmn⟩ := hF
  have hlen := zc_len ho
  have hk64 : 0 ≤ kn ∧ kn ≤ 64 := by obtain ⟨y, _, y1, y2, y3⟩ := fi_counted hT; omega
  have hb8 : zc0 st ≤ 8 := by obtain ⟨y, _, y1, y2, y3⟩ := fi_brackets hT; omega
  have hm01 : 0 ≤ m ∧ m ≤ 1 := by obtain ⟨y, _, y1, y2, y3⟩ := fi_mayNot hT; omega
  obtain ⟨K, hK⟩ : ∃ K, ri_at h0 111 19 = K := ⟨_, rfl⟩
  have hK0 : 0 ≤ K ∧ K ≤ 64 := by obtain ⟨y, _, y1, y2, y3⟩ := fi_knotsRead hT; omega
  rw [hK] at hkn
  refine ex_al oq_X12_signs_0 rfl ?_
  refine ex_bi oq_X12_signs_1 (m := 41) (by decide) (fun x101 hx101 => ?_)
  refine ex_cv oq_X12_signs_3 (by decide) hT (k := 111) (d := 12) (as := [cv_i x101]) (stk := []) rfl rfl rfl rfl rfl rfl ⟨rfl, rfl⟩ (R := fun o => ∃ x : Int32, o = (some (cv_i x), h0) ∧ (x.toInt = 1 ∧ zk t n p = 4 ∧ zw t n p = x101.toInt ∨ x.toInt = 0 ∧ ¬ (zk t n p = 4 ∧ zw t n p = x101.toInt))) (rt_isSign (t := t) (n := n) (p := p) hT (by exact hz) x101 (fun x q => ⟨x, rfl, q⟩)) (fun o ho => ?_)
  obtain ⟨x102, rfl, dx102⟩ := ho
  show cw_X _ _ _ _ _ [cv_i x102] h0
  rw [hx101] at dx102
  refine ex_if0 oq_X12_signs_6 (t := 47) rfl rfl (fun (c103 : x102.toInt = 0) => ?_) (fun (c103 : ¬ (x102.toInt = 0)) => ?_)
  · replace dx102 := flag_n dx102 c103
    have hno : ¬ ((zk t n p = 4 ∧ zw t n p = 41) ∧ 0 < zc0 st) := fun q => dx102 q.1
    refine ex_al oq_X12_signs_47 rfl ?_
    refine ex_bi oq_X12_signs_48 (m := 21) (by decide) (fun x104 hx104 => ?_)
    refine ex_cv oq_X12_signs_50 (by decide) hT (k := 111) (d := 12) (as := [cv_i x104]) (stk := []) rfl rfl rfl rfl rfl rfl ⟨rfl, rfl⟩ (R := fun o => ∃ x : Int32, o = (some (cv_i x), h0) ∧ (x.toInt = 1 ∧ zk t n p = 1 ∧ zw t n p = x104.toInt ∨ x.toInt = 0 ∧ ¬ (zk t n p = 1 ∧ zw t n p = x104.toInt))) (rt_isKey (t := t) (n := n) (p := p) hT (by exact hz) x104 (fun x q => ⟨x, rfl, q⟩)) (fun o ho => ?_)
    obtain ⟨x105, rfl, dx105⟩ := ho
    show cw_X _ _ _ _ _ [cv_i x105] h0
    rw [hx104] at dx105
    refine ex_if0 oq_X12_signs_53 (t := 60) rfl rfl (fun (c106 : x105.toInt = 0) => ?_) (fun (c106 : ¬ (x105.toInt = 0)) => ?_)
    · replace dx105 := flag_n dx105 c106
      refine ex_al oq_X12_signs_60 rfl ?_
      refine ex_bi oq_X12_signs_61 (m := 22) (by decide) (fun x107 hx107 => ?_)
      refine ex_cv oq_X12_signs_63 (by decide) hT (k := 111) (d := 12) (as := [cv_i x107]) (stk := []) rfl rfl rfl rfl rfl rfl ⟨rfl, rfl⟩ (R := fun o => ∃ x : Int32, o = (some (cv_i x), h0) ∧ (x.toInt = 1 ∧ zk t n p = 1 ∧ zw t n p = x107.toInt ∨ x.toInt = 0 ∧ ¬ (zk t n p = 1 ∧ zw t n p = x107.toInt))) (rt_isKey (t := t) (n := n) (p := p) hT (by exact hz) x107 (fun x q => ⟨x, rfl, q⟩)) (fun o ho => ?_)
      obtain ⟨x108, rfl, dx108⟩ := ho
      show cw_X _ _ _ _ _ [cv_i x108] h0
      rw [hx107] at dx108
      refine ex_if0 oq_X12_signs_66 (t := 73) rfl rfl (fun (c109 : x108.toInt = 0) => ?_) (fun (c109 : ¬ (x108.toInt = 0)) => ?_)
      · replace dx108 := flag_n dx108 c109
        refine ex_al oq_X12_signs_73 rfl ?_
        obtain ⟨x110, ax110, rx110, lx110, ux110⟩ := fi_kind hT
        refine ex_gf oq_X12_signs_74 hT (k := 111) (d := 12) rfl rfl ax110 ?_
        have rx110 := (rx110.symm.trans z4 : x110.toInt = zk t n p)
        refine ex_ic oq_X12_signs_77 (m := 5) (by decide) (fun x111 hx111 => ?_)
        refine ex_if oq_X12_signs_78 (t := 90) rfl rfl (fun (c112 : ¬ x110.toInt = x111.toInt) => ?_) (fun (c112 : ¬ (¬ x110.toInt = x111.toInt)) => ?_)
        · refine ex_al oq_X12_signs_90 rfl ?_
          refine ex_bi oq_X12_signs_91 (m := 43) (by decide) (fun x113 hx113 => ?_)
          refine ex_cv oq_X12_signs_93 (by decide) hT (k := 111) (d := 12) (as := [cv_i x113]) (stk := []) rfl rfl rfl rfl rfl rfl ⟨rfl, rfl⟩ (R := fun o => ∃ x : Int32, o = (some (cv_i x), h0) ∧ (x.toInt = 1 ∧ zk t n p = 4 ∧ zw t n p = x113.toInt ∨ x.toInt = 0 ∧ ¬ (zk t n p = 4 ∧ zw t n p = x113.toInt))) (rt_isSign (t := t) (n := n) (p := p) hT (by exact hz) x113 (fun x q => ⟨x, rfl, q⟩)) (fun o ho => ?_)
          obtain ⟨x114, rfl, dx114⟩ := ho
          show cw_X _ _ _ _ _ [cv_i x114] h0
          rw [hx113] at dx114
          refine ex_if0 oq_X12_signs_96 (t := 104) rfl rfl (fun (c115 : x114.toInt = 0) => ?_) (fun (c115 : ¬ (x114.toInt = 0)) => ?_)
          · replace dx114 := flag_n dx114 c115
            refine ex_al oq_X12_signs_104 rfl ?_
            refine ex_bi oq_X12_signs_105 (m := 45) (by decide) (fun x116 hx116 => ?_)
            refine ex_cv oq_X12_signs_107 (by decide) hT (k := 111) (d := 12) (as := [cv_i x116]) (stk := []) rfl rfl rfl rfl rfl rfl ⟨rfl, rfl⟩ (R := fun o => ∃ x : Int32, o = (some (cv_i x), h0) ∧ (x.toInt = 1 ∧ zk t n p = 4 ∧ zw t n p = x116.toInt ∨ x.toInt = 0 ∧ ¬ (zk t n p = 4 ∧ zw t n p = x116.toInt))) (rt_isSign (t := t) (n := n) (p := p) hT (by exact hz) x116 (fun x q => ⟨x, rfl, q⟩)) (fun o ho => ?_)
            obtain ⟨x117, rfl, dx117⟩ := ho
            show cw_X _ _ _ _ _ [cv_i x117] h0
            rw [hx116] at dx117
            refine ex_if0 oq_X12_signs_110 (t := 118) rfl rfl (fun (c118 : x117.toInt = 0) => ?_) (fun (c118 : ¬ (x117.toInt = 0)) => ?_)
            · replace dx117 := flag_n dx117 c118
              refine ex_al oq_X12_signs_118 rfl ?_
              refine ex_bi oq_X12_signs_119 (m := 42) (by decide) (fun x119 hx119 => ?_)
              refine ex_cv oq_X12_signs_121 (by decide) hT (k := 111) (d := 12) (as := [cv_i x119]) (stk := []) rfl rfl rfl rfl rfl rfl ⟨rfl, rfl⟩ (R := fun o => ∃ x : Int32, o = (some (cv_i x), h0) ∧ (x.toInt = 1 ∧ zk t n p = 4 ∧ zw t n p = x119.toInt ∨ x.toInt = 0 ∧ ¬ (zk t n p = 4 ∧ zw t n p = x119.toInt))) (rt_isSign (t := t) (n := n) (p := p) hT (by exact hz) x119 (fun x q => ⟨x, rfl, q⟩)) (fun o ho => ?_)
              obtain ⟨x120, rfl, dx120⟩ := ho
              show cw_X _ _ _ _ _ [cv_i x120] h0
              rw [hx119] at dx120
              refine ex_if0 oq_X12_signs_124 (t := 132) rfl rfl (fun (c121 : x120.toInt = 0) => ?_) (fun (c121 : ¬ (x120.toInt = 0)) => ?_)
              · replace dx120 := flag_n dx120 c121
                refine ex_al oq_X12_signs_132 rfl ?_
                refine ex_bi oq_X12_signs_133 (m := 47) (by decide) (fun x122 hx122 => ?_)
                refine ex_cv oq_X12_signs_135 (by decide) hT (k := 111) (d := 12) (as := [cv_i x122]) (stk := []) rfl rfl rfl rfl rfl rfl ⟨rfl, rfl⟩ (R := fun o => ∃ x : Int32, o = (some (cv_i x), h0) ∧ (x.toInt = 1 ∧ zk t n p = 4 ∧ zw t n p = x122.toInt ∨ x.toInt = 0 ∧ ¬ (zk t n p = 4 ∧ zw t n p = x122.toInt))) (rt_isSign (t := t) (n := n) (p := p) hT (by exact hz) x122 (fun x q => ⟨x, rfl, q⟩)) (fun o ho => ?_)
                obtain ⟨x123, rfl, dx123⟩ := ho
                show cw_X _ _ _ _ _ [cv_i x123] h0
                rw [hx122] at dx123
                refine ex_if0 oq_X12_signs_138 (t := 146) rfl rfl (fun (c124 : x123.toInt = 0) => ?_) (fun (c124 : ¬ (x123.toInt = 0)) => ?_)
                · replace dx123 := flag_n dx123 c124
                  refine ex_ic oq_X12_signs_146 (m := 0) (by decide) (fun x125 hx125 => ?_)
                  refine ex_isA oq_X12_signs_147 (fun L126 gL126_1 kL126 => ?_)
                  have gL126_0 : cv_get L126 0 = some (cv_r 111) := kL126 0 _ (by decide) (fun _ => rfl) rfl
                  exact sg_kK ht hn9 hwr hpn hT Fh0 Kh0 hz rfl rfl hF0 hd hno (k := x125) (by unfold zsk; (repeat' split) <;> omega) (zsk_b hw5) gL126_0 gL126_1 hQ
                · replace c124 : ¬ x123.toInt = 0 := by omega
                  obtain ⟨_, dx123, dx123b⟩ := isin_y dx123 c124
                  refine ex_bi oq_X12_signs_141 (m := 14) (by decide) (fun x127 hx127 => ?_)
                  refine ex_go oq_X12_signs_143 (t := 147) rfl rfl ?_
                  refine ex_isA oq_X12_signs_147 (fun L128 gL128_1 kL128 => ?_)
                  have gL128_0 : cv_get L128 0 = some (cv_r 111) := kL128 0 _ (by decide) (fun _ => rfl) rfl
                  exact sg_kK ht hn9 hwr hpn hT Fh0 Kh0 hz rfl rfl hF0 hd hno (k := x127) (by unfold zsk; (repeat' split) <;> omega) (zsk_b hw5) gL128_0 gL128_1 hQ
              · replace c121 : ¬ x120.toInt = 0 := by omega
                obtain ⟨_, dx120, dx120b⟩ := isin_y dx120 c121
                refine ex_bi oq_X12_signs_127 (m := 13) (by decide) (fun x129 hx129 => ?_)
                refine ex_go oq_X12_signs_129 (t := 147) rfl rfl ?_
                refine ex_isA oq_X12_signs_147 (fun L130 gL130_1 kL130 => ?_)
                have gL130_0 : cv_get L130 0 = some (cv_r 111) := kL130 0 _ (by decide) (fun _ => rfl) rfl
                exact sg_kK ht hn9 hwr hpn hT Fh0 Kh0 hz rfl rfl hF0 hd hno (k := x129) (by unfold zsk; (repeat' split) <;> omega) (zsk_b hw5) gL130_0 gL130_1 hQ
            · replace c118 : ¬ x117.toInt = 0 := by omega
              obtain ⟨_, dx117, dx117b⟩ := isin_y dx117 c118
              refine ex_bi oq_X12_signs_113 (m := 12) (by decide) (fun x131 hx131 => ?_)
              refine ex_go oq_X12_signs_115 (t := 147) rfl rfl ?_
              refine ex_isA oq_X12_signs_147 (fun L132 gL132_1 kL132 => ?_)
              have gL132_0 : cv_get L132 0 = some (cv_r 111) := kL132 0 _ (by decide) (fun _ => rfl) rfl
              exact sg_kK ht hn9 hwr hpn hT Fh0 Kh0 hz rfl rfl hF0 hd hno (k := x131) (by unfold zsk; (repeat' split) <;> omega) (zsk_b hw5) gL132_0 gL132_1 hQ
          · replace c115 : ¬ x114.toInt = 0 := by omega
            obtain ⟨_, dx114, dx114b⟩ := isin_y dx114 c115
            refine ex_bi oq_X12_signs_99 (m := 11) (by decide) (fun x133 hx133 => ?_)
            refine ex_go oq_X12_signs_101 (t := 147) rfl rfl ?_
            refine ex_isA oq_X12_signs_147 (fun L134 gL134_1 kL134 => ?_)
            have gL134_0 : cv_get L134 0 = some (cv_r 111) := kL134 0 _ (by decide) (fun _ => rfl) rfl
            exact sg_kK ht hn9 hwr hpn hT Fh0 Kh0 hz rfl rfl hF0 hd hno (k := x133) (by unfold zsk; (repeat' split) <;> omega) (zsk_b hw5) gL134_0 gL134_1 hQ
        · refine ex_ic oq_X12_signs_81 (m := 5) (by decide) (fun x135 hx135 => ?_)
          refine ex_al oq_X12_signs_82 rfl ?_
          obtain ⟨x136, ax136, rx136, lx136, ux136⟩ := fi_which hT
          refine ex_gf oq_X12_signs_83 hT (k := 111) (d := 12) rfl rfl ax136 ?_
          have wx136 : x136.toInt = zw t n p := rx136.symm.trans (hz.2.2.2.2 (by omega) (by omega))
          refine ex_add oq_X12_signs_86 (by omega) (fun x137 hx137 => ?_)
          refine ex_go oq_X12_signs_87 (t := 147) rfl rfl ?_
          refine ex_isA oq_X12_signs_147 (fun L138 gL138_1 kL138 => ?_)
          have gL138_0 : cv_get L138 0 = some (cv_r 111) := kL138 0 _ (by decide) (fun _ => rfl) rfl
          exact sg_kK ht hn9 hwr hpn hT Fh0 Kh0 hz rfl rfl hF0 hd hno (k := x137) (by unfold zsk; (repeat' split) <;> omega) (zsk_b hw5) gL138_0 gL138_1 hQ
      · replace c109 : ¬ x108.toInt = 0 := by omega
        obtain ⟨_, dx108, dx108b⟩ := isin_y dx108 c109
        refine ex_ic oq_X12_signs_69 (m := 4) (by decide) (fun x139 hx139 => ?_)
        refine ex_go oq_X12_signs_70 (t := 147) rfl rfl ?_
        refine ex_isA oq_X12_signs_147 (fun L140 gL140_1 kL140 => ?_)
        have gL140_0 : cv_get L140 0 = some (cv_r 111) := kL140 0 _ (by decide) (fun _ => rfl) rfl
        exact sg_kK ht hn9 hwr hpn hT Fh0 Kh0 hz rfl rfl hF0 hd hno (k := x139) (by unfold zsk; (repeat' split) <;> omega) (zsk_b hw5) gL140_0 gL140_1 hQ
    · replace c106 : ¬ x105.toInt = 0 := by omega
      obtain ⟨_, dx105, dx105b⟩ := isin_y dx105 c106
      refine ex_ic oq_X12_signs_56 (m := 3) (by decide) (fun x141 hx141 => ?_)
      refine ex_go oq_X12_signs_57 (t := 147) rfl rfl ?_
      refine ex_isA oq_X12_signs_147 (fun L142 gL142_1 kL142 => ?_)
      have gL142_0 : cv_get L142 0 = some (cv_r 111) := kL142 0 _ (by decide) (fun _ => rfl) rfl
      exact sg_kK ht hn9 hwr hpn hT Fh0 Kh0 hz rfl rfl hF0 hd hno (k := x141) (by unfold zsk; (repeat' split) <;> omega) (zsk_b hw5) gL142_0 gL142_1 hQ
  · replace c103 : ¬ x102.toInt = 0 := by omega
    obtain ⟨_, dx102, dx102b⟩ := isin_y dx102 c103
    refine ex_al oq_X12_signs_9 rfl ?_
    obtain ⟨x143, ax143, rx143, lx143, ux143⟩ := fi_brackets hT
    refine ex_gf oq_X12_signs_10 hT (k := 111) (d := 12) rfl rfl ax143 ?_
    have rx143 := (rx143.symm.trans hbr : x143.toInt = zc0 st)
    refine ex_if0 oq_X12_signs_13 (t := 47) rfl rfl (fun (c144 : x143.toInt ≤ 0) => ?_) (fun (c144 : ¬ (x143.toInt ≤ 0)) => ?_)
    · have hno : ¬ ((zk t n p = 4 ∧ zw t n p = 41) ∧ 0 < zc0 st) := fun q => by omega
      refine ex_al oq_X12_signs_47 rfl ?_
      refine ex_bi oq_X12_signs_48 (m := 21) (by decide) (fun x145 hx145 => ?_)
      refine ex_cv oq_X12_signs_50 (by decide) hT (k := 111) (d := 12) (as := [cv_i x145]) (stk := []) rfl rfl rfl rfl rfl rfl ⟨rfl, rfl⟩ (R := fun o => ∃ x : Int32, o = (some (cv_i x), h0) ∧ (x.toInt = 1 ∧ zk t n p = 1 ∧ zw t n p = x145.toInt ∨ x.toInt = 0 ∧ ¬ (zk t n p = 1 ∧ zw t n p = x145.toInt))) (rt_isKey (t := t) (n := n) (p := p) hT (by exact hz) x145 (fun x q => ⟨x, rfl, q⟩)) (fun o ho => ?_)
      obtain ⟨x146, rfl, dx146⟩ := ho
      show cw_X _ _ _ _ _ [cv_i x146] h0
      rw [hx145] at dx146
      refine ex_if0 oq_X12_signs_53 (t := 60) rfl rfl (fun (c147 : x146.toInt = 0) => ?_) (fun (c147 : ¬ (x146.toInt = 0)) => ?_)
      · replace dx146 := flag_n dx146 c147
        refine ex_al oq_X12_signs_60 rfl ?_
        refine ex_bi oq_X12_signs_61 (m := 22) (by decide) (fun x148 hx148 => ?_)
        refine ex_cv oq_X12_signs_63 (by decide) hT (k := 111) (d := 12) (as := [cv_i x148]) (stk := []) rfl rfl rfl rfl rfl rfl ⟨rfl, rfl⟩ (R := fun o => ∃ x : Int32, o = (some (cv_i x), h0) ∧ (x.toInt = 1 ∧ zk t n p = 1 ∧ zw t n p = x148.toInt ∨ x.toInt = 0 ∧ ¬ (zk t n p = 1 ∧ zw t n p = x148.toInt))) (rt_isKey (t := t) (n := n) (p := p) hT (by exact hz) x148 (fun x q => ⟨x, rfl, q⟩)) (fun o ho => ?_)
        obtain ⟨x149, rfl, dx149⟩ := ho
        show cw_X _ _ _ _ _ [cv_i x149] h0
        rw [hx148] at dx149
        refine ex_if0 oq_X12_signs_66 (t := 73) rfl rfl (fun (c150 : x149.toInt = 0) => ?_) (fun (c150 : ¬ (x149.toInt = 0)) => ?_)
        · replace dx149 := flag_n dx149 c150
          refine ex_al oq_X12_signs_73 rfl ?_
          obtain ⟨x151, ax151, rx151, lx151, ux151⟩ := fi_kind hT
          refine ex_gf oq_X12_signs_74 hT (k := 111) (d := 12) rfl rfl ax151 ?_
          have rx151 := (rx151.symm.trans z4 : x151.toInt = zk t n p)
          refine ex_ic oq_X12_signs_77 (m := 5) (by decide) (fun x152 hx152 => ?_)
          refine ex_if oq_X12_signs_78 (t := 90) rfl rfl (fun (c153 : ¬ x151.toInt = x152.toInt) => ?_) (fun (c153 : ¬ (¬ x151.toInt = x152.toInt)) => ?_)
          · refine ex_al oq_X12_signs_90 rfl ?_
            refine ex_bi oq_X12_signs_91 (m := 43) (by decide) (fun x154 hx154 => ?_)
            refine ex_cv oq_X12_signs_93 (by decide) hT (k := 111) (d := 12) (as := [cv_i x154]) (stk := []) rfl rfl rfl rfl rfl rfl ⟨rfl, rfl⟩ (R := fun o => ∃ x : Int32, o = (some (cv_i x), h0) ∧ (x.toInt = 1 ∧ zk t n p = 4 ∧ zw t n p = x154.toInt ∨ x.toInt = 0 ∧ ¬ (zk t n p = 4 ∧ zw t n p = x154.toInt))) (rt_isSign (t := t) (n := n) (p := p) hT (by exact hz) x154 (fun x q => ⟨x, rfl, q⟩)) (fun o ho => ?_)
            obtain ⟨x155, rfl, dx155⟩ := ho
            show cw_X _ _ _ _ _ [cv_i x155] h0
            rw [hx154] at dx155
            refine ex_if0 oq_X12_signs_96 (t := 104) rfl rfl (fun (c156 : x155.toInt = 0) => ?_) (fun (c156 : ¬ (x155.toInt = 0)) => ?_)
            · replace dx155 := flag_n dx155 c156
              refine ex_al oq_X12_signs_104 rfl ?_
              refine ex_bi oq_X12_signs_105 (m := 45) (by decide) (fun x157 hx157 => ?_)
              refine ex_cv oq_X12_signs_107 (by decide) hT (k := 111) (d := 12) (as := [cv_i x157]) (stk := []) rfl rfl rfl rfl rfl rfl ⟨rfl, rfl⟩ (R := fun o => ∃ x : Int32, o = (some (cv_i x), h0) ∧ (x.toInt = 1 ∧ zk t n p = 4 ∧ zw t n p = x157.toInt ∨ x.toInt = 0 ∧ ¬ (zk t n p = 4 ∧ zw t n p = x157.toInt))) (rt_isSign (t := t) (n := n) (p := p) hT (by exact hz) x157 (fun x q => ⟨x, rfl, q⟩)) (fun o ho => ?_)
              obtain ⟨x158, rfl, dx158⟩ := ho
              show cw_X _ _ _ _ _ [cv_i x158] h0
              rw [hx157] at dx158
              refine ex_if0 oq_X12_signs_110 (t := 118) rfl rfl (fun (c159 : x158.toInt = 0) => ?_) (fun (c159 : ¬ (x158.toInt = 0)) => ?_)
              · replace dx158 := flag_n dx158 c159
                refine ex_al oq_X12_signs_118 rfl ?_
                refine ex_bi oq_X12_signs_119 (m := 42) (by decide) (fun x160 hx160 => ?_)
                refine ex_cv oq_X12_signs_121 (by decide) hT (k := 111) (d := 12) (as := [cv_i x160]) (stk := []) rfl rfl rfl rfl rfl rfl ⟨rfl, rfl⟩ (R := fun o => ∃ x : Int32, o = (some (cv_i x), h0) ∧ (x.toInt = 1 ∧ zk t n p = 4 ∧ zw t n p = x160.toInt ∨ x.toInt = 0 ∧ ¬ (zk t n p = 4 ∧ zw t n p = x160.toInt))) (rt_isSign (t := t) (n := n) (p := p) hT (by exact hz) x160 (fun x q => ⟨x, rfl, q⟩)) (fun o ho => ?_)
                obtain ⟨x161, rfl, dx161⟩ := ho
                show cw_X _ _ _ _ _ [cv_i x161] h0
                rw [hx160] at dx161
                refine ex_if0 oq_X12_signs_124 (t := 132) rfl rfl (fun (c162 : x161.toInt = 0) => ?_) (fun (c162 : ¬ (x161.toInt = 0)) => ?_)
                · replace dx161 := flag_n dx161 c162
                  refine ex_al oq_X12_signs_132 rfl ?_
                  refine ex_bi oq_X12_signs_133 (m := 47) (by decide) (fun x163 hx163 => ?_)
                  refine ex_cv oq_X12_signs_135 (by decide) hT (k := 111) (d := 12) (as := [cv_i x163]) (stk := []) rfl rfl rfl rfl rfl rfl ⟨rfl, rfl⟩ (R := fun o => ∃ x : Int32, o = (some (cv_i x), h0) ∧ (x.toInt = 1 ∧ zk t n p = 4 ∧ zw t n p = x163.toInt ∨ x.toInt = 0 ∧ ¬ (zk t n p = 4 ∧ zw t n p = x163.toInt))) (rt_isSign (t := t) (n := n) (p := p) hT (by exact hz) x163 (fun x q => ⟨x, rfl, q⟩)) (fun o ho => ?_)
                  obtain ⟨x164, rfl, dx164⟩ := ho
                  show cw_X _ _ _ _ _ [cv_i x164] h0
                  rw [hx163] at dx164
                  refine ex_if0 oq_X12_signs_138 (t := 146) rfl rfl (fun (c165 : x164.toInt = 0) => ?_) (fun (c165 : ¬ (x164.toInt = 0)) => ?_)
                  · replace dx164 := flag_n dx164 c165
                    refine ex_ic oq_X12_signs_146 (m := 0) (by decide) (fun x166 hx166 => ?_)
                    refine ex_isA oq_X12_signs_147 (fun L167 gL167_1 kL167 => ?_)
                    have gL167_0 : cv_get L167 0 = some (cv_r 111) := kL167 0 _ (by decide) (fun _ => rfl) rfl
                    exact sg_kK ht hn9 hwr hpn hT Fh0 Kh0 hz rfl rfl hF0 hd hno (k := x166) (by unfold zsk; (repeat' split) <;> omega) (zsk_b hw5) gL167_0 gL167_1 hQ
                  · replace c165 : ¬ x164.toInt = 0 := by omega
                    obtain ⟨_, dx164, dx164b⟩ := isin_y dx164 c165
                    refine ex_bi oq_X12_signs_141 (m := 14) (by decide) (fun x168 hx168 => ?_)
                    refine ex_go oq_X12_signs_143 (t := 147) rfl rfl ?_
                    refine ex_isA oq_X12_signs_147 (fun L169 gL169_1 kL169 => ?_)
                    have gL169_0 : cv_get L169 0 = some (cv_r 111) := kL169 0 _ (by decide) (fun _ => rfl) rfl
                    exact sg_kK ht hn9 hwr hpn hT Fh0 Kh0 hz rfl rfl hF0 hd hno (k := x168) (by unfold zsk; (repeat' split) <;> omega) (zsk_b hw5) gL169_0 gL169_1 hQ
                · replace c162 : ¬ x161.toInt = 0 := by omega
                  obtain ⟨_, dx161, dx161b⟩ := isin_y dx161 c162
                  refine ex_bi oq_X12_signs_127 (m := 13) (by decide) (fun x170 hx170 => ?_)
                  refine ex_go oq_X12_signs_129 (t := 147) rfl rfl ?_
                  refine ex_isA oq_X12_signs_147 (fun L171 gL171_1 kL171 => ?_)
                  have gL171_0 : cv_get L171 0 = some (cv_r 111) := kL171 0 _ (by decide) (fun _ => rfl) rfl
                  exact sg_kK ht hn9 hwr hpn hT Fh0 Kh0 hz rfl rfl hF0 hd hno (k := x170) (by unfold zsk; (repeat' split) <;> omega) (zsk_b hw5) gL171_0 gL171_1 hQ
              · replace c159 : ¬ x158.toInt = 0 := by omega
                obtain ⟨_, dx158, dx158b⟩ := isin_y dx158 c159
                refine ex_bi oq_X12_signs_113 (m := 12) (by decide) (fun x172 hx172 => ?_)
                refine ex_go oq_X12_signs_115 (t := 147) rfl rfl ?_
                refine ex_isA oq_X12_signs_147 (fun L173 gL173_1 kL173 => ?_)
                have gL173_0 : cv_get L173 0 = some (cv_r 111) := kL173 0 _ (by decide) (fun _ => rfl) rfl
                exact sg_kK ht hn9 hwr hpn hT Fh0 Kh0 hz rfl rfl hF0 hd hno (k := x172) (by unfold zsk; (repeat' split) <;> omega) (zsk_b hw5) gL173_0 gL173_1 hQ
            · replace c156 : ¬ x155.toInt = 0 := by omega
              obtain ⟨_, dx155, dx155b⟩ := isin_y dx155 c156
              refine ex_bi oq_X12_signs_99 (m := 11) (by decide) (fun x174 hx174 => ?_)
              refine ex_go oq_X12_signs_101 (t := 147) rfl rfl ?_
              refine ex_isA oq_X12_signs_147 (fun L175 gL175_1 kL175 => ?_)
              have gL175_0 : cv_get L175 0 = some (cv_r 111) := kL175 0 _ (by decide) (fun _ => rfl) rfl
              exact sg_kK ht hn9 hwr hpn hT Fh0 Kh0 hz rfl rfl hF0 hd hno (k := x174) (by unfold zsk; (repeat' split) <;> omega) (zsk_b hw5) gL175_0 gL175_1 hQ
          · refine ex_ic oq_X12_signs_81 (m := 5) (by decide) (fun x176 hx176 => ?_)
            refine ex_al oq_X12_signs_82 rfl ?_
            obtain ⟨x177, ax177, rx177, lx177, ux177⟩ := fi_which hT
            refine ex_gf oq_X12_signs_83 hT (k := 111) (d := 12) rfl rfl ax177 ?_
            have wx177 : x177.toInt = zw t n p := rx177.symm.trans (hz.2.2.2.2 (by omega) (by omega))
            refine ex_add oq_X12_signs_86 (by omega) (fun x178 hx178 => ?_)
            refine ex_go oq_X12_signs_87 (t := 147) rfl rfl ?_
            refine ex_isA oq_X12_signs_147 (fun L179 gL179_1 kL179 => ?_)
            have gL179_0 : cv_get L179 0 = some (cv_r 111) := kL179 0 _ (by decide) (fun _ => rfl) rfl
            exact sg_kK ht hn9 hwr hpn hT Fh0 Kh0 hz rfl rfl hF0 hd hno (k := x178) (by unfold zsk; (repeat' split) <;> omega) (zsk_b hw5) gL179_0 gL179_1 hQ
        · replace c150 : ¬ x149.toInt = 0 := by omega
          obtain ⟨_, dx149, dx149b⟩ := isin_y dx149 c150
          refine ex_ic oq_X12_signs_69 (m := 4) (by decide) (fun x180 hx180 => ?_)
          refine ex_go oq_X12_signs_70 (t := 147) rfl rfl ?_
          refine ex_isA oq_X12_signs_147 (fun L181 gL181_1 kL181 => ?_)
          have gL181_0 : cv_get L181 0 = some (cv_r 111) := kL181 0 _ (by decide) (fun _ => rfl) rfl
          exact sg_kK ht hn9 hwr hpn hT Fh0 Kh0 hz rfl rfl hF0 hd hno (k := x180) (by unfold zsk; (repeat' split) <;> omega) (zsk_b hw5) gL181_0 gL181_1 hQ
      · replace c147 : ¬ x146.toInt = 0 := by omega
        obtain ⟨_, dx146, dx146b⟩ := isin_y dx146 c147
        refine ex_ic oq_X12_signs_56 (m := 3) (by decide) (fun x182 hx182 => ?_)
        refine ex_go oq_X12_signs_57 (t := 147) rfl rfl ?_
        refine ex_isA oq_X12_signs_147 (fun L183 gL183_1 kL183 => ?_)
        have gL183_0 : cv_get L183 0 = some (cv_r 111) := kL183 0 _ (by decide) (fun _ => rfl) rfl
        exact sg_kK ht hn9 hwr hpn hT Fh0 Kh0 hz rfl rfl hF0 hd hno (k := x182) (by unfold zsk; (repeat' split) <;> omega) (zsk_b hw5) gL183_0 gL183_1 hQ
    · obtain ⟨r, hr, hor⟩ := zbi_br ho (by omega)
      have hrc := zbi_c0 (l := 1) (by omega) (st := st)
      refine ex_al oq_X12_signs_16 rfl ?_
      refine ex_ic oq_X12_signs_17 (m := 1) (by decide) (fun x184 hx184 => ?_)
      have lpfh0 : x184.toInt = 1 := hx184
      refine ex_cv oq_X12_signs_18 (by decide) hT (k := 111) (d := 12) (as := [cv_i x184]) (stk := []) rfl rfl rfl rfl rfl rfl ⟨rfl, rfl⟩ (R := fun o => ∃ (hb : cv_H), o = (none, hb) ∧ cw_T G hb ∧ cw_Fr cw_Ds cw_sh mk_bz h0 hb ∧ zFK h0 hb ∧ ri_at hb 111 37 = (zbi 1 st).length ∧ ri_at hb 111 38 = zcb (zbi 1 st) + 1 ∧ ri_at hb 111 19 + zcb (zbi 1 st) + zcu (zbi 1 st) = kn ∧ zFd hb V f (cs ++ (zbp 1 st).map zsi)) (rt_bindK hT (by omega) (st := st) (kn := kn) (by omega) ho (zrow_eq hrw (fun i => rfl)) (by omega) (by omega) (by omega) (f := f) (cs := cs) hd (fun hb b1 b2 bk b3 b4 b5 b6 => ⟨hb, rfl, b1, b2, bk, by rw [lpfh0] at b3; exact b3, by rw [lpfh0] at b4; exact b4, by rw [lpfh0] at b5; exact b5, by rw [lpfh0] at b6; exact b6⟩)) (fun o ho => ?_)
      obtain ⟨h185, rfl, Th185, Ch185, kh185, bh185, ch185, dh185, fdh185⟩ := ho
      show cw_X _ _ _ _ _ [] h185
      have Fh185 : cw_Fr cw_Ds cw_sh mk_fm h0 h185 := cw_Fr_tr Fh0 (cw_Fr_mono (by decide +kernel) Ch185)
      have Kh185 := zFK_tr Kh0 kh185
      have eh185_111_4 : ri_at h185 111 4 = ri_at h0 111 4 := ri_frf Ch185 (d := 12) rfl rfl (by decide +kernel)
      have eh185_111_5 : ri_at h185 111 5 = ri_at h0 111 5 := ri_frf Ch185 (d := 12) rfl rfl (by decide +kernel)
      have eh185_111_6 : ri_at h185 111 6 = (n : Int) := (ri_frf Ch185 (d := 12) rfl rfl (by decide +kernel)).trans z1
      have eh185_111_7 : ri_at h185 111 7 = ((zx t n p : Nat) : Int) := (ri_frf Ch185 (d := 12) rfl rfl (by decide +kernel)).trans z3
      have eh185_111_8 : ri_at h185 111 8 = zk t n p := (ri_frf Ch185 (d := 12) rfl rfl (by decide +kernel)).trans z4
      have eh185_111_10 : ri_at h185 111 10 = ((za t n p : Nat) : Int) := (ri_frf Ch185 (d := 12) rfl rfl (by decide +kernel)).trans z2
      have eh185_111_11 : ri_at h185 111 11 = ri_at h0 111 11 := ri_frf Ch185 (d := 12) rfl rfl (by decide +kernel)
      have eh185_111_40 : ri_at h185 111 40 = kn := (ri_frf Ch185 (d := 12) rfl rfl (by decide +kernel)).trans hct
      have eh185_111_39 : ri_at h185 111 39 = zc0 st := (ri_frf Ch185 (d := 12) rfl rfl (by decide +kernel)).trans hbr
      have eh185_111_41 : ri_at h185 111 41 = (0 : Int) := (ri_frf Ch185 (d := 12) rfl rfl (by decide +kernel)).trans hwn
      have eh185_111_42 : ri_at h185 111 42 = m := (ri_frf Ch185 (d := 12) rfl rfl (by decide +kernel)).trans hmn
      have Zh185 := zR_fr Ch185 hz (by decide +kernel)
      have rowh185 : zrow h185 128 (zbi 1 st) := zrow_bi (zrow_eq hrw (fun i => (ri_frr Ch185 (k := 128) (d := 67) rfl rfl (by decide +kernel))))
      have fr1 : zcb (zbi 1 st) = zcb r ∧ zcu (zbi 1 st) = zcu r ∧ zc0 (zbi 1 st) = 1 + zc0 r ∧ (zbi 1 st).length = r.length + 1 := by rw [hr]; simp [zcb, zcu, zc0]
      refine ex_al oq_X12_signs_21 rfl ?_
      refine ex_dup oq_X12_signs_22 rfl ?_
      obtain ⟨x186, ax186, rx186, lx186, ux186⟩ := fi_waits Th185
      refine ex_gf oq_X12_signs_23 Th185 (k := 111) (d := 12) rfl rfl ax186 ?_
      have rx186 := (rx186.symm.trans bh185 : x186.toInt = ((zbi 1 st).length : Int))
      refine ex_ic oq_X12_signs_26 (m := 1) (by decide) (fun x187 hx187 => ?_)
      refine ex_sub oq_X12_signs_27 (by omega) (fun x188 hx188 => ?_)
      refine ex_pfi oq_X12_signs_28 Th185 (k := 111) (d := 12) rfl rfl rfl (by omega) (by omega) (fun h189 Th189 wh189 => ?_)
      have Fh189 : cw_Fr cw_Ds cw_sh mk_fm h0 h189 := cw_Fr_tr Fh185 (cw_Fr_wrf wh189 (k := 111) (d := 12) rfl rfl (by decide +kernel))
      have Kh189 := zFK_wr (k := 111) wh189 (Nat.zero_le _) Kh185
      have eh189_111_4 : ri_at h189 111 4 = ri_at h0 111 4 := (ri_ne wh189 (by decide)).trans eh185_111_4
      clear eh185_111_4
      have eh189_111_5 : ri_at h189 111 5 = ri_at h0 111 5 := (ri_ne wh189 (by decide)).trans eh185_111_5
      clear eh185_111_5
      have eh189_111_6 : ri_at h189 111 6 = (n : Int) := (ri_ne wh189 (by decide)).trans eh185_111_6
      clear eh185_111_6
      have eh189_111_7 : ri_at h189 111 7 = ((zx t n p : Nat) : Int) := (ri_ne wh189 (by decide)).trans eh185_111_7
      clear eh185_111_7
      have eh189_111_8 : ri_at h189 111 8 = zk t n p := (ri_ne wh189 (by decide)).trans eh185_111_8
      clear eh185_111_8
      have eh189_111_10 : ri_at h189 111 10 = ((za t n p : Nat) : Int) := (ri_ne wh189 (by decide)).trans eh185_111_10
      clear eh185_111_10
      have eh189_111_11 : ri_at h189 111 11 = ri_at h0 111 11 := (ri_ne wh189 (by decide)).trans eh185_111_11
      clear eh185_111_11
      have eh189_111_37 : ri_at h189 111 37 = x188.toInt := ri_self wh189
      have eh189_111_38 : ri_at h189 111 38 = zcb (zbi 1 st) + 1 := (ri_ne wh189 (by decide)).trans ch185
      have eh189_111_19 : ri_at h189 111 19 = ri_at h185 111 19 := ri_ne wh189 (by decide)
      have eh189_111_40 : ri_at h189 111 40 = kn := (ri_ne wh189 (by decide)).trans eh185_111_40
      clear eh185_111_40
      have eh189_111_39 : ri_at h189 111 39 = zc0 st := (ri_ne wh189 (by decide)).trans eh185_111_39
      clear eh185_111_39
      have eh189_111_41 : ri_at h189 111 41 = (0 : Int) := (ri_ne wh189 (by decide)).trans eh185_111_41
      clear eh185_111_41
      have eh189_111_42 : ri_at h189 111 42 = m := (ri_ne wh189 (by decide)).trans eh185_111_42
      clear eh185_111_42
      have Zh189 := zR_wr wh189 Zh185 (.inr (by decide))
      refine ex_al oq_X12_signs_31 rfl ?_
      refine ex_dup oq_X12_signs_32 rfl ?_
      obtain ⟨x190, ax190, rx190, lx190, ux190⟩ := fi_brackets Th189
      refine ex_gf oq_X12_signs_33 Th189 (k := 111) (d := 12) rfl rfl ax190 ?_
      have rx190 := (rx190.symm.trans eh189_111_39 : x190.toInt = zc0 st)
      refine ex_ic oq_X12_signs_36 (m := 1) (by decide) (fun x191 hx191 => ?_)
      refine ex_sub oq_X12_signs_37 (by omega) (fun x192 hx192 => ?_)
      refine ex_pfi oq_X12_signs_38 Th189 (k := 111) (d := 12) rfl rfl rfl (by omega) (by omega) (fun h193 Th193 wh193 => ?_)
      have Fh193 : cw_Fr cw_Ds cw_sh mk_fm h0 h193 := cw_Fr_tr Fh189 (cw_Fr_wrf wh193 (k := 111) (d := 12) rfl rfl (by decide +kernel))
      have Kh193 := zFK_wr (k := 111) wh193 (Nat.zero_le _) Kh189
      have eh193_111_4 : ri_at h193 111 4 = ri_at h0 111 4 := (ri_ne wh193 (by decide)).trans eh189_111_4
      clear eh189_111_4
      have eh193_111_5 : ri_at h193 111 5 = ri_at h0 111 5 := (ri_ne wh193 (by decide)).trans eh189_111_5
      clear eh189_111_5
      have eh193_111_6 : ri_at h193 111 6 = (n : Int) := (ri_ne wh193 (by decide)).trans eh189_111_6
      clear eh189_111_6
      have eh193_111_7 : ri_at h193 111 7 = ((zx t n p : Nat) : Int) := (ri_ne wh193 (by decide)).trans eh189_111_7
      clear eh189_111_7
      have eh193_111_8 : ri_at h193 111 8 = zk t n p := (ri_ne wh193 (by decide)).trans eh189_111_8
      clear eh189_111_8
      have eh193_111_10 : ri_at h193 111 10 = ((za t n p : Nat) : Int) := (ri_ne wh193 (by decide)).trans eh189_111_10
      clear eh189_111_10
      have eh193_111_11 : ri_at h193 111 11 = ri_at h0 111 11 := (ri_ne wh193 (by decide)).trans eh189_111_11
      clear eh189_111_11
      have eh193_111_37 : ri_at h193 111 37 = x188.toInt := (ri_ne wh193 (by decide)).trans eh189_111_37
      clear eh189_111_37
      have eh193_111_38 : ri_at h193 111 38 = zcb (zbi 1 st) + 1 := (ri_ne wh193 (by decide)).trans eh189_111_38
      clear eh189_111_38
      have eh193_111_19 : ri_at h193 111 19 = ri_at h185 111 19 := (ri_ne wh193 (by decide)).trans eh189_111_19
      clear eh189_111_19
      have eh193_111_40 : ri_at h193 111 40 = kn := (ri_ne wh193 (by decide)).trans eh189_111_40
      clear eh189_111_40
      have eh193_111_39 : ri_at h193 111 39 = x192.toInt := ri_self wh193
      have eh193_111_41 : ri_at h193 111 41 = (0 : Int) := (ri_ne wh193 (by decide)).trans eh189_111_41
      clear eh189_111_41
      have eh193_111_42 : ri_at h193 111 42 = m := (ri_ne wh193 (by decide)).trans eh189_111_42
      clear eh189_111_42
      have Zh193 := zR_wr wh193 Zh189 (.inr (by decide))
      refine ex_al oq_X12_signs_41 rfl ?_
      refine ex_cv oq_X12_signs_42 (by decide) Th193 (k := 111) (d := 12) (as := []) (stk := []) rfl rfl rfl rfl rfl rfl ⟨rfl, rfl⟩ (R := fun o => ∃ hb : cv_H, o = (none, hb) ∧ cw_T G hb ∧ cw_Fr cw_Ds cw_sh kk_X12_token.2.2.2.2.2.1 h193 hb ∧ zR t n (zx t n p) hb) (rt_tok (t := t) (n := n) (p := (zx t n p)) (fun i hi => by rw [ht i hi, ← hA _ Fh193]) hn9 (fun i hi => by rw [hB _ Fh193]; exact hwr i hi) Th193 (zx_le (by omega)) (by omega) (by omega) (fun hb b1 b2 b3 => ⟨hb, rfl, b1, b2, b3⟩)) (fun o ho => ?_)
      obtain ⟨h194, rfl, Th194, Ch194, Zh194⟩ := ho
      show cw_X _ _ _ _ _ [] h194
      have Fh194 : cw_Fr cw_Ds cw_sh mk_fm h0 h194 := cw_Fr_tr Fh193 (cw_Fr_mono (by decide +kernel) Ch194)
      have Kh194 := zFK_fr Ch194 (by decide +kernel) Kh193
      have eh194_111_4 : ri_at h194 111 4 = ri_at h0 111 4 := (ri_frf Ch194 (d := 12) rfl rfl (by decide +kernel)).trans eh193_111_4
      clear eh193_111_4
      have eh194_111_5 : ri_at h194 111 5 = ri_at h0 111 5 := (ri_frf Ch194 (d := 12) rfl rfl (by decide +kernel)).trans eh193_111_5
      clear eh193_111_5
      have eh194_111_11 : ri_at h194 111 11 = ri_at h0 111 11 := (ri_frf Ch194 (d := 12) rfl rfl (by decide +kernel)).trans eh193_111_11
      clear eh193_111_11
      have eh194_111_37 : ri_at h194 111 37 = x188.toInt := (ri_frf Ch194 (d := 12) rfl rfl (by decide +kernel)).trans eh193_111_37
      clear eh193_111_37
      have eh194_111_38 : ri_at h194 111 38 = zcb (zbi 1 st) + 1 := (ri_frf Ch194 (d := 12) rfl rfl (by decide +kernel)).trans eh193_111_38
      clear eh193_111_38
      have eh194_111_19 : ri_at h194 111 19 = ri_at h185 111 19 := (ri_frf Ch194 (d := 12) rfl rfl (by decide +kernel)).trans eh193_111_19
      clear eh193_111_19
      have eh194_111_40 : ri_at h194 111 40 = kn := (ri_frf Ch194 (d := 12) rfl rfl (by decide +kernel)).trans eh193_111_40
      clear eh193_111_40
      have eh194_111_39 : ri_at h194 111 39 = x192.toInt := (ri_frf Ch194 (d := 12) rfl rfl (by decide +kernel)).trans eh193_111_39
      clear eh193_111_39
      have eh194_111_41 : ri_at h194 111 41 = (0 : Int) := (ri_frf Ch194 (d := 12) rfl rfl (by decide +kernel)).trans eh193_111_41
      clear eh193_111_41
      have eh194_111_42 : ri_at h194 111 42 = m := (ri_frf Ch194 (d := 12) rfl rfl (by decide +kernel)).trans eh193_111_42
      clear eh193_111_42
      obtain ⟨yah194, ybh194, ych194, ydh194, -⟩ := id Zh194
      have zlh194 := zx_le (t := t) (n := n) (p := (zx t n p)) (by omega)
      clear eh193_111_6 eh193_111_10 eh193_111_7 eh193_111_8
      refine ex_ic oq_X12_signs_45 (m := 1) (by decide) (fun x195 hx195 => ?_)
      exact ex_retb oq_X12_signs_46 rfl (by omega) (by omega) (hQ x195 h194 Th194 Fh194 Kh194 (.inl ⟨((zbi 1 st).tail, kn, 0, m), _, (by unfold zsg; rw [if_pos ⟨by omega, by omega⟩]), by omega, by omega, Zh194, by omega, by omega, ⟨(show zok (zbi 1 st).tail from by rw [hr]; exact hor), (show zrow _ 128 (zbi 1 st).tail from by rw [hr]; exact zrow_tail (a := 0) (st := r) (show zrow _ 128 (0 :: r) from by rw [← hr]; exact (zrow_eq rowh185 (fun i => ((ri_frr Ch194 (k := 128) (d := 67) rfl rfl (by decide +kernel)).trans ((ri_ne wh193 (.inl (by decide))).trans (ri_ne wh189 (.inl (by decide))))))))), by dsimp only; rw [hr]; simp only [List.tail_cons]; omega, by dsimp only; rw [hr]; simp only [List.tail_cons]; omega, by dsimp only; rw [hr]; simp only [List.tail_cons]; omega, by dsimp only; omega, by dsimp only; rw [hr]; simp only [List.tail_cons]; omega, by dsimp only; omega, by dsimp only; omega⟩, (by unfold zsC; rw [if_pos ⟨by omega, by omega⟩]; exact (zFd_eq fdh185 (fun i => ((ri_frr Ch194 (k := 125) (d := 64) rfl rfl (by decide +kernel)).trans ((ri_ne wh193 (.inl (by decide))).trans (ri_ne wh189 (.inl (by decide)))))) (fun i => ((ri_frr Ch194 (k := 126) (d := 65) rfl rfl (by decide +kernel)).trans ((ri_ne wh193 (.inl (by decide))).trans (ri_ne wh189 (.inl (by decide)))))) (fun i => ((ri_frr Ch194 (k := 127) (d := 66) rfl rfl (by decide +kernel)).trans ((ri_ne wh193 (.inl (by decide))).trans (ri_ne wh189 (.inl (by decide)))))) (fun i => ((ri_frr Ch194 (k := 129) (d := 68) rfl rfl (by decide +kernel)).trans ((ri_ne wh193 (.inl (by decide))).trans (ri_ne wh189 (.inl (by decide)))))) ((ri_frf Ch194 (k := 111) (d := 12) (i := 38) rfl rfl (by decide +kernel)).trans ((ri_ne wh193 (by decide)).trans (ri_ne wh189 (by decide)))) ((ri_frf Ch194 (k := 111) (d := 12) (i := 19) rfl rfl (by decide +kernel)).trans ((ri_ne wh193 (by decide)).trans (ri_ne wh189 (by decide))))))⟩))
end TZ
/-! ===== formulas, a line on a law, with their knots: the reference ===== -/
theorem zsg_z {t : Nat → Int} {n p : Nat} {st : List Int} {kn m : Int} {s : zF4} {q : Nat} (e : zsg t n st kn m p = .inr (s, q)) : zsk (zk t n p) (zw t n p) ≠ 0 ∨ 0 < zc0 st := by
  by_cases c : 0 < zc0 st
  · exact .inr c
  · refine .inl (fun h => ?_)
    unfold zsg at e
    rw [if_neg (fun q => c q.2), if_pos h] at e
    cases e
/-- a law's knots and where they lie -/
def zLW (t : Nat → Int) (n p : Nat) (V : Nat → Int × Int × Int) (fb : Nat) (kn k' : Int) (h h' : cv_H) : Prop := zKV h' V fb (zfD t n 901 [] kn 1 1 (zx t n (zx t n p)) [] 0).1 ∧ (fb : Int) + (zfD t n 901 [] kn 1 1 (zx t n (zx t n p)) [] 0).1.length = k' ∧ ri_at h' 115 (4 + (zw t n (zx t n p) - 5).toNat) = kn ∧ ri_at h' 116 (4 + (zw t n (zx t n p) - 5).toNat) = k' ∧ (∀ i, i ≠ 4 + (zw t n (zx t n p) - 5).toNat → ri_at h' 115 i = ri_at h 115 i ∧ ri_at h' 116 i = ri_at h 116 i) ∧ (zkS fb [] (zfD t n 901 [] kn 1 1 (zx t n (zx t n p)) [] 0).1).length = 1
section TZ
variable {G : Int} {X : cv_X} {Q : cv_O → Prop} {t : Nat → Int}
set_option maxHeartbeats 8000000 in
theorem sm_lpK {h0 : cv_H} {n : Nat} {V : Nat → Int × Int × Int} {fb : Nat} {C : List Int} (ht : ∀ i, i < n → t i = ri_at h0 112 i) (hn9 : n ≤ 900) (hwr : ∀ i, i < 177 → ri_at h0 113 i = pp_words.getD i 0) (hw5 : ∀ p, p ≤ n → zk t n p = 5 → 0 ≤ zw t n p ∧ zw t n p ≤ 5) {S : (Int × Nat) ⊕ (Int × Nat)} (hQ : ∀ (x : Int32) h', cw_T G h' → cw_Fr cw_Ds cw_sh mk_fm h0 h' → zFK h0 h' → zRe t n h0 h' x S (fun kn' => ri_at h' 111 19 = kn' ∧ ri_at h' 111 40 = kn' ∧ zFd h' V fb C ∧ (zkS fb [] C).length = 1) → Q (some (cv_i x), h')) :
    ∀ (f : Nat) (st : List Int) (kn w m : Int) (p : Nat) (h : cv_H) (L : cv_L), n - p < f → p ≤ n → zfm t n f st kn w m p = S → cw_T G h → cw_Fr cw_Ds cw_sh mk_fm h0 h → zFK h0 h → zR t n p h → ri_at h 111 4 = ri_at h0 111 4 → ri_at h 111 5 = ri_at h0 111 5 → zFR h st kn w m → (w = 0 ∨ w = 1) → ∀ (cs : List Int) (nm : Nat), (zfD t n f st kn w m p cs nm).1 = C → zFd h V fb cs → cv_get L 0 = some (cv_r 111) → cw_X X 199 Q 25 L [] h := by
  intro f
  induction f with
  | zero => intro st kn w m p h L hf; omega
  | succ f ih =>
    intro st kn w m p h L hf hpn hst hT Fh Kh hz hf4 hf5 hF hw01 cs nm hcs hd g0
    have zxl := zx_le (t := t) hpn
    obtain ⟨z1, z2, z3, z4, z5⟩ := id hz
    replace z5 := zhd_i z5
    obtain ⟨ho, hrw, hwa, hhe, hkn, hct, hbr, hwn, hmn⟩ := hF
    have hlen := zc_len ho
    have hk64 : 0 ≤ kn ∧ kn ≤ 64 := by obtain ⟨y, _, y1, y2, y3⟩ := fi_counted hT; omega
    have hb8 : zc0 st ≤ 8 := by obtain ⟨y, _, y1, y2, y3⟩ := fi_brackets hT; omega
    have hm01 : 0 ≤ m ∧ m ≤ 1 := by obtain ⟨y, _, y1, y2, y3⟩ := fi_mayNot hT; omega
    obtain ⟨K, hK⟩ : ∃ K, ri_at h 111 19 = K := ⟨_, rfl⟩
    have hK0 : 0 ≤ K ∧ K ≤ 64 := by obtain ⟨y, _, y1, y2, y3⟩ := fi_knotsRead hT; omega
    rw [hK] at hkn
    have hA : ∀ h, cw_Fr cw_Ds cw_sh mk_fm h0 h → ∀ i, ri_at h 112 i = ri_at h0 112 i := fun h F i => ri_frr F (k := 112) (d := 51) rfl rfl (by decide +kernel)
    have hB : ∀ h, cw_Fr cw_Ds cw_sh mk_fm h0 h → ∀ i, ri_at h 113 i = ri_at h0 113 i := fun h F i => ri_frr F (k := 113) (d := 52) rfl rfl (by decide +kernel)
    refine ex_al oq_X12_sumRead_25 g0 ?_
    refine ex_bi oq_X12_sumRead_26 (m := 59) (by decide) (fun x101 hx101 => ?_)
    refine ex_cv oq_X12_sumRead_28 (by decide) hT (k := 111) (d := 12) (as := [cv_i x101]) (stk := []) rfl rfl rfl rfl rfl rfl ⟨rfl, rfl⟩ (R := fun o => ∃ x : Int32, o = (some (cv_i x), h) ∧ (x.toInt = 1 ∧ zk t n p = 4 ∧ zw t n p = x101.toInt ∨ x.toInt = 0 ∧ ¬ (zk t n p = 4 ∧ zw t n p = x101.toInt))) (rt_isSign (t := t) (n := n) (p := p) hT (by exact hz) x101 (fun x q => ⟨x, rfl, q⟩)) (fun o ho => ?_)
    obtain ⟨x102, rfl, dx102⟩ := ho
    show cw_X _ _ _ _ _ [cv_i x102] h
    rw [hx101] at dx102
    refine ex_if0 oq_X12_sumRead_31 (t := 48) rfl rfl (fun (c103 : x102.toInt = 0) => ?_) (fun (c103 : ¬ (x102.toInt = 0)) => ?_)
    · replace dx102 := flag_n dx102 c103
      have hnd : ¬ ((zk t n p = 4 ∧ zw t n p = 59) ∧ w = 0 ∧ zc0 st = 0) := fun q => dx102 q.1
      refine ex_al oq_X12_sumRead_48 g0 ?_
      obtain ⟨x104, ax104, rx104, lx104, ux104⟩ := fi_wants hT
      refine ex_gf oq_X12_sumRead_49 hT (k := 111) (d := 12) rfl rfl ax104 ?_
      have rx104 := (rx104.symm.trans hwn : x104.toInt = w)
      refine ex_if0 oq_X12_sumRead_52 (t := 65) rfl rfl (fun (c105 : x104.toInt = 0) => ?_) (fun (c105 : ¬ (x104.toInt = 0)) => ?_)
      · refine ex_al oq_X12_sumRead_65 g0 ?_
        refine ex_cv oq_X12_sumRead_66 (by decide) hT (k := 111) (d := 12) (as := []) (stk := []) rfl rfl rfl rfl rfl rfl ⟨rfl, rfl⟩ (R := fun o => ∃ (x : Int32) (hb : cv_H), o = (some (cv_i x), hb) ∧ cw_T G hb ∧ cw_Fr cw_Ds cw_sh mk_fm h hb ∧ zFK h hb ∧ zRe t n h hb x (zsg t n st kn m p) (fun s => zFR hb s.1 s.2.1 s.2.2.1 s.2.2.2 ∧ zFd hb V fb (zsC t n p st cs))) (rt_signsK (t := t) (n := n) (p := p) (fun i hi => by rw [ht i hi, ← hA _ Fh]) hn9 hT (fun i hi => by rw [hB _ Fh]; exact hwr i hi) (by omega) hz (st := st) (kn := kn) (m := m) ⟨ho, (zrow_eq hrw (fun i => rfl)), by omega, by omega, by omega, by omega, by omega, by omega, by omega⟩ hd (hw5 p hpn) (fun x hb b1 b2 bk b3 => ⟨x, hb, rfl, b1, b2, bk, b3⟩)) (fun o ho => ?_)
        obtain ⟨x106, h107, rfl, Th107, Ch107, kh107, dx106⟩ := ho
        show cw_X _ _ _ _ _ [cv_i x106] h107
        have Fh107 : cw_Fr cw_Ds cw_sh mk_fm h0 h107 := cw_Fr_tr Fh (cw_Fr_mono (by decide +kernel) Ch107)
        have Kh107 := zFK_tr Kh kh107
        refine ex_if0 oq_X12_sumRead_69 (t := 25) rfl rfl (fun (c108 : ¬ x106.toInt = 0) => ?_) (fun (c108 : ¬ (¬ x106.toInt = 0)) => ?_)
        · obtain ⟨v1, q1, e1_1, e1_2, ax106, Zh107, e1_5, e1_6, e1_7⟩ := zRe_yes dx106 c108
          clear dx106 c108
          replace e1_5 := e1_5.trans hf4
          replace e1_6 := e1_6.trans hf5
          obtain ⟨yah107, ybh107, ych107, ydh107, -⟩ := id Zh107
          have zlh107 := zx_le (t := t) (n := n) (p := q1) (by omega)
          have hge := zsg_ge hpn e1_1
          exact ih _ _ _ _ q1 h107 L (by omega) (by omega) (by rw [← hst, zfm_s, if_neg hnd, if_neg (by omega), zb2_r e1_1]) Th107 Fh107 Kh107 Zh107 e1_5 e1_6 e1_7.1 (by have := e1_7.1.2.2.2.2.2.2.2.1; obtain ⟨y, _, y1, y2, y3⟩ := fi_wants Th107; omega) _ (nm) (by rw [← hcs, zfD_s, if_neg (fun q => by have := zsg_z e1_1; omega), if_neg (by omega), zo_r e1_1]) e1_7.2 g0
        · replace c108 : x106.toInt = 0 := by omega
          obtain ⟨fc2, fa2, e2_1, ax106, e2_3, e2_4, e2_5⟩ := zRe_no dx106 c108
          clear dx106
          refine ex_ic oq_X12_sumRead_72 (m := 0) (by decide) (fun x109 hx109 => ?_)
          exact ex_retb oq_X12_sumRead_73 rfl (by omega) (by omega) (hQ x109 h107 Th107 Fh107 Kh107 (.inr ⟨_, _, (by rw [← hst, zfm_s, if_neg hnd, if_neg (by omega), zb2_l e2_1]), by omega, by omega, by omega, by omega⟩))
      · replace c105 : ¬ x104.toInt = 0 := by omega
        refine ex_al oq_X12_sumRead_55 g0 ?_
        refine ex_cv oq_X12_sumRead_56 (by decide) hT (k := 111) (d := 12) (as := []) (stk := []) rfl rfl rfl rfl rfl rfl ⟨rfl, rfl⟩ (R := fun o => ∃ (x : Int32) (hb : cv_H), o = (some (cv_i x), hb) ∧ cw_T G hb ∧ cw_Fr cw_Ds cw_sh mk_fm h hb ∧ zFK h hb ∧ zRe t n h hb x (zlf t n st kn m p) (fun s => zFR hb s.1 s.2.1 s.2.2.1 s.2.2.2 ∧ zFd hb V fb (zlC t n p cs))) (rt_leafReadK (t := t) (n := n) (p := p) (fun i hi => by rw [ht i hi, ← hA _ Fh]) hn9 hT (fun i hi => by rw [hB _ Fh]; exact hwr i hi) (by omega) hz (st := st) (kn := kn) (m := m) ⟨ho, (zrow_eq hrw (fun i => rfl)), by omega, by omega, by omega, by omega, by omega, by omega, by omega⟩ hd (fun x hb b1 b2 bk b3 => ⟨x, hb, rfl, b1, b2, bk, b3⟩)) (fun o ho => ?_)
        obtain ⟨x110, h111, rfl, Th111, Ch111, kh111, dx110⟩ := ho
        show cw_X _ _ _ _ _ [cv_i x110] h111
        have Fh111 : cw_Fr cw_Ds cw_sh mk_fm h0 h111 := cw_Fr_tr Fh (cw_Fr_mono (by decide +kernel) Ch111)
        have Kh111 := zFK_tr Kh kh111
        refine ex_if0 oq_X12_sumRead_59 (t := 72) rfl rfl (fun (c112 : x110.toInt = 0) => ?_) (fun (c112 : ¬ (x110.toInt = 0)) => ?_)
        · obtain ⟨fc3, fa3, e3_1, ax110, e3_3, e3_4, e3_5⟩ := zRe_no dx110 c112
          clear dx110
          refine ex_ic oq_X12_sumRead_72 (m := 0) (by decide) (fun x113 hx113 => ?_)
          exact ex_retb oq_X12_sumRead_73 rfl (by omega) (by omega) (hQ x113 h111 Th111 Fh111 Kh111 (.inr ⟨_, _, (by rw [← hst, zfm_s, if_neg hnd, if_pos (by omega), zb2_l e3_1]), by omega, by omega, by omega, by omega⟩))
        · replace c112 : ¬ x110.toInt = 0 := by omega
          obtain ⟨v4, q4, e4_1, e4_2, ax110, Zh111, e4_5, e4_6, e4_7⟩ := zRe_yes dx110 c112
          clear dx110 c112
          replace e4_5 := e4_5.trans hf4
          replace e4_6 := e4_6.trans hf5
          obtain ⟨yah111, ybh111, ych111, ydh111, -⟩ := id Zh111
          have zlh111 := zx_le (t := t) (n := n) (p := q4) (by omega)
          refine ex_go oq_X12_sumRead_62 (t := 25) rfl rfl ?_
          have hge := zlf_ge hpn e4_1
          exact ih _ _ _ _ q4 h111 L (by omega) (by omega) (by rw [← hst, zfm_s, if_neg hnd, if_pos (by omega), zb2_r e4_1]) Th111 Fh111 Kh111 Zh111 e4_5 e4_6 e4_7.1 (by have := e4_7.1.2.2.2.2.2.2.2.1; obtain ⟨y, _, y1, y2, y3⟩ := fi_wants Th111; omega) _ (zlN t n p nm) (by rw [← hcs, zfD_s, if_neg (by omega), if_pos (by omega), zo_r e4_1]) e4_7.2 g0
    · replace c103 : ¬ x102.toInt = 0 := by omega
      obtain ⟨_, dx102, dx102b⟩ := isin_y dx102 c103
      refine ex_al oq_X12_sumRead_34 g0 ?_
      obtain ⟨x114, ax114, rx114, lx114, ux114⟩ := fi_wants hT
      refine ex_gf oq_X12_sumRead_35 hT (k := 111) (d := 12) rfl rfl ax114 ?_
      have rx114 := (rx114.symm.trans hwn : x114.toInt = w)
      refine ex_if0 oq_X12_sumRead_38 (t := 48) rfl rfl (fun (c115 : ¬ x114.toInt = 0) => ?_) (fun (c115 : ¬ (¬ x114.toInt = 0)) => ?_)
      · have hnd : ¬ ((zk t n p = 4 ∧ zw t n p = 59) ∧ w = 0 ∧ zc0 st = 0) := fun q => by omega
        refine ex_al oq_X12_sumRead_48 g0 ?_
        obtain ⟨x116, ax116, rx116, lx116, ux116⟩ := fi_wants hT
        refine ex_gf oq_X12_sumRead_49 hT (k := 111) (d := 12) rfl rfl ax116 ?_
        have rx116 := (rx116.symm.trans hwn : x116.toInt = w)
        refine ex_if0 oq_X12_sumRead_52 (t := 65) rfl rfl (fun (c117 : x116.toInt = 0) => ?_) (fun (c117 : ¬ (x116.toInt = 0)) => ?_)
        · refine ex_al oq_X12_sumRead_65 g0 ?_
          refine ex_cv oq_X12_sumRead_66 (by decide) hT (k := 111) (d := 12) (as := []) (stk := []) rfl rfl rfl rfl rfl rfl ⟨rfl, rfl⟩ (R := fun o => ∃ (x : Int32) (hb : cv_H), o = (some (cv_i x), hb) ∧ cw_T G hb ∧ cw_Fr cw_Ds cw_sh mk_fm h hb ∧ zFK h hb ∧ zRe t n h hb x (zsg t n st kn m p) (fun s => zFR hb s.1 s.2.1 s.2.2.1 s.2.2.2 ∧ zFd hb V fb (zsC t n p st cs))) (rt_signsK (t := t) (n := n) (p := p) (fun i hi => by rw [ht i hi, ← hA _ Fh]) hn9 hT (fun i hi => by rw [hB _ Fh]; exact hwr i hi) (by omega) hz (st := st) (kn := kn) (m := m) ⟨ho, (zrow_eq hrw (fun i => rfl)), by omega, by omega, by omega, by omega, by omega, by omega, by omega⟩ hd (hw5 p hpn) (fun x hb b1 b2 bk b3 => ⟨x, hb, rfl, b1, b2, bk, b3⟩)) (fun o ho => ?_)
          obtain ⟨x118, h119, rfl, Th119, Ch119, kh119, dx118⟩ := ho
          show cw_X _ _ _ _ _ [cv_i x118] h119
          have Fh119 : cw_Fr cw_Ds cw_sh mk_fm h0 h119 := cw_Fr_tr Fh (cw_Fr_mono (by decide +kernel) Ch119)
          have Kh119 := zFK_tr Kh kh119
          refine ex_if0 oq_X12_sumRead_69 (t := 25) rfl rfl (fun (c120 : ¬ x118.toInt = 0) => ?_) (fun (c120 : ¬ (¬ x118.toInt = 0)) => ?_)
          · obtain ⟨v5, q5, e5_1, e5_2, ax118, Zh119, e5_5, e5_6, e5_7⟩ := zRe_yes dx118 c120
            clear dx118 c120
            replace e5_5 := e5_5.trans hf4
            replace e5_6 := e5_6.trans hf5
            obtain ⟨yah119, ybh119, ych119, ydh119, -⟩ := id Zh119
            have zlh119 := zx_le (t := t) (n := n) (p := q5) (by omega)
            have hge := zsg_ge hpn e5_1
            exact ih _ _ _ _ q5 h119 L (by omega) (by omega) (by rw [← hst, zfm_s, if_neg hnd, if_neg (by omega), zb2_r e5_1]) Th119 Fh119 Kh119 Zh119 e5_5 e5_6 e5_7.1 (by have := e5_7.1.2.2.2.2.2.2.2.1; obtain ⟨y, _, y1, y2, y3⟩ := fi_wants Th119; omega) _ (nm) (by rw [← hcs, zfD_s, if_neg (fun q => by have := zsg_z e5_1; omega), if_neg (by omega), zo_r e5_1]) e5_7.2 g0
          · replace c120 : x118.toInt = 0 := by omega
            obtain ⟨fc6, fa6, e6_1, ax118, e6_3, e6_4, e6_5⟩ := zRe_no dx118 c120
            clear dx118
            refine ex_ic oq_X12_sumRead_72 (m := 0) (by decide) (fun x121 hx121 => ?_)
            exact ex_retb oq_X12_sumRead_73 rfl (by omega) (by omega) (hQ x121 h119 Th119 Fh119 Kh119 (.inr ⟨_, _, (by rw [← hst, zfm_s, if_neg hnd, if_neg (by omega), zb2_l e6_1]), by omega, by omega, by omega, by omega⟩))
        · replace c117 : ¬ x116.toInt = 0 := by omega
          refine ex_al oq_X12_sumRead_55 g0 ?_
          refine ex_cv oq_X12_sumRead_56 (by decide) hT (k := 111) (d := 12) (as := []) (stk := []) rfl rfl rfl rfl rfl rfl ⟨rfl, rfl⟩ (R := fun o => ∃ (x : Int32) (hb : cv_H), o = (some (cv_i x), hb) ∧ cw_T G hb ∧ cw_Fr cw_Ds cw_sh mk_fm h hb ∧ zFK h hb ∧ zRe t n h hb x (zlf t n st kn m p) (fun s => zFR hb s.1 s.2.1 s.2.2.1 s.2.2.2 ∧ zFd hb V fb (zlC t n p cs))) (rt_leafReadK (t := t) (n := n) (p := p) (fun i hi => by rw [ht i hi, ← hA _ Fh]) hn9 hT (fun i hi => by rw [hB _ Fh]; exact hwr i hi) (by omega) hz (st := st) (kn := kn) (m := m) ⟨ho, (zrow_eq hrw (fun i => rfl)), by omega, by omega, by omega, by omega, by omega, by omega, by omega⟩ hd (fun x hb b1 b2 bk b3 => ⟨x, hb, rfl, b1, b2, bk, b3⟩)) (fun o ho => ?_)
          obtain ⟨x122, h123, rfl, Th123, Ch123, kh123, dx122⟩ := ho
          show cw_X _ _ _ _ _ [cv_i x122] h123
          have Fh123 : cw_Fr cw_Ds cw_sh mk_fm h0 h123 := cw_Fr_tr Fh (cw_Fr_mono (by decide +kernel) Ch123)
          have Kh123 := zFK_tr Kh kh123
          refine ex_if0 oq_X12_sumRead_59 (t := 72) rfl rfl (fun (c124 : x122.toInt = 0) => ?_) (fun (c124 : ¬ (x122.toInt = 0)) => ?_)
          · obtain ⟨fc7, fa7, e7_1, ax122, e7_3, e7_4, e7_5⟩ := zRe_no dx122 c124
            clear dx122
            refine ex_ic oq_X12_sumRead_72 (m := 0) (by decide) (fun x125 hx125 => ?_)
            exact ex_retb oq_X12_sumRead_73 rfl (by omega) (by omega) (hQ x125 h123 Th123 Fh123 Kh123 (.inr ⟨_, _, (by rw [← hst, zfm_s, if_neg hnd, if_pos (by omega), zb2_l e7_1]), by omega, by omega, by omega, by omega⟩))
          · replace c124 : ¬ x122.toInt = 0 := by omega
            obtain ⟨v8, q8, e8_1, e8_2, ax122, Zh123, e8_5, e8_6, e8_7⟩ := zRe_yes dx122 c124
            clear dx122 c124
            replace e8_5 := e8_5.trans hf4
            replace e8_6 := e8_6.trans hf5
            obtain ⟨yah123, ybh123, ych123, ydh123, -⟩ := id Zh123
            have zlh123 := zx_le (t := t) (n := n) (p := q8) (by omega)
            refine ex_go oq_X12_sumRead_62 (t := 25) rfl rfl ?_
            have hge := zlf_ge hpn e8_1
            exact ih _ _ _ _ q8 h123 L (by omega) (by omega) (by rw [← hst, zfm_s, if_neg hnd, if_pos (by omega), zb2_r e8_1]) Th123 Fh123 Kh123 Zh123 e8_5 e8_6 e8_7.1 (by have := e8_7.1.2.2.2.2.2.2.2.1; obtain ⟨y, _, y1, y2, y3⟩ := fi_wants Th123; omega) _ (zlN t n p nm) (by rw [← hcs, zfD_s, if_neg (by omega), if_pos (by omega), zo_r e8_1]) e8_7.2 g0
      · replace c115 : x114.toInt = 0 := by omega
        refine ex_al oq_X12_sumRead_41 g0 ?_
        obtain ⟨x126, ax126, rx126, lx126, ux126⟩ := fi_brackets hT
        refine ex_gf oq_X12_sumRead_42 hT (k := 111) (d := 12) rfl rfl ax126 ?_
        have rx126 := (rx126.symm.trans hbr : x126.toInt = zc0 st)
        refine ex_if0 oq_X12_sumRead_45 (t := 74) rfl rfl (fun (c127 : x126.toInt ≤ 0) => ?_) (fun (c127 : ¬ (x126.toInt ≤ 0)) => ?_)
        · refine ex_al oq_X12_sumRead_74 g0 ?_
          refine ex_ic oq_X12_sumRead_75 (m := 1) (by decide) (fun x128 hx128 => ?_)
          have lpfh : x128.toInt = 1 := hx128
          refine ex_cv oq_X12_sumRead_76 (by decide) hT (k := 111) (d := 12) (as := [cv_i x128]) (stk := []) rfl rfl rfl rfl rfl rfl ⟨rfl, rfl⟩ (R := fun o => ∃ (hb : cv_H), o = (none, hb) ∧ cw_T G hb ∧ cw_Fr cw_Ds cw_sh mk_bz h hb ∧ zFK h hb ∧ ri_at hb 111 37 = (zbi 1 st).length ∧ ri_at hb 111 38 = zcb (zbi 1 st) + 1 ∧ ri_at hb 111 19 + zcb (zbi 1 st) + zcu (zbi 1 st) = kn ∧ zFd hb V fb (cs ++ (zbp 1 st).map zsi)) (rt_bindK hT (by omega) (st := st) (kn := kn) (by omega) ho (zrow_eq hrw (fun i => rfl)) (by omega) (by omega) (by omega) (f := fb) (cs := cs) hd (fun hb b1 b2 bk b3 b4 b5 b6 => ⟨hb, rfl, b1, b2, bk, by rw [lpfh] at b3; exact b3, by rw [lpfh] at b4; exact b4, by rw [lpfh] at b5; exact b5, by rw [lpfh] at b6; exact b6⟩)) (fun o ho => ?_)
          obtain ⟨h129, rfl, Th129, Ch129, kh129, bh129, ch129, dh129, fdh129⟩ := ho
          show cw_X _ _ _ _ _ [] h129
          have Fh129 : cw_Fr cw_Ds cw_sh mk_fm h0 h129 := cw_Fr_tr Fh (cw_Fr_mono (by decide +kernel) Ch129)
          have Kh129 := zFK_tr Kh kh129
          have eh129_111_4 : ri_at h129 111 4 = ri_at h0 111 4 := (ri_frf Ch129 (d := 12) rfl rfl (by decide +kernel)).trans hf4
          have eh129_111_5 : ri_at h129 111 5 = ri_at h0 111 5 := (ri_frf Ch129 (d := 12) rfl rfl (by decide +kernel)).trans hf5
          have eh129_111_6 : ri_at h129 111 6 = (n : Int) := (ri_frf Ch129 (d := 12) rfl rfl (by decide +kernel)).trans z1
          have eh129_111_7 : ri_at h129 111 7 = ((zx t n p : Nat) : Int) := (ri_frf Ch129 (d := 12) rfl rfl (by decide +kernel)).trans z3
          have eh129_111_8 : ri_at h129 111 8 = zk t n p := (ri_frf Ch129 (d := 12) rfl rfl (by decide +kernel)).trans z4
          have eh129_111_10 : ri_at h129 111 10 = ((za t n p : Nat) : Int) := (ri_frf Ch129 (d := 12) rfl rfl (by decide +kernel)).trans z2
          have eh129_111_11 : ri_at h129 111 11 = ri_at h 111 11 := ri_frf Ch129 (d := 12) rfl rfl (by decide +kernel)
          have eh129_111_40 : ri_at h129 111 40 = kn := (ri_frf Ch129 (d := 12) rfl rfl (by decide +kernel)).trans hct
          have eh129_111_39 : ri_at h129 111 39 = zc0 st := (ri_frf Ch129 (d := 12) rfl rfl (by decide +kernel)).trans hbr
          have eh129_111_41 : ri_at h129 111 41 = w := (ri_frf Ch129 (d := 12) rfl rfl (by decide +kernel)).trans hwn
          have eh129_111_42 : ri_at h129 111 42 = m := (ri_frf Ch129 (d := 12) rfl rfl (by decide +kernel)).trans hmn
          have Zh129 := zR_fr Ch129 hz (by decide +kernel)
          have rowh129 : zrow h129 128 (zbi 1 st) := zrow_bi (zrow_eq hrw (fun i => (ri_frr Ch129 (k := 128) (d := 67) rfl rfl (by decide +kernel))))
          refine ex_ic oq_X12_sumRead_79 (m := 1) (by decide) (fun x130 hx130 => ?_)
          exact ex_retb oq_X12_sumRead_80 rfl (by omega) (by omega) (hQ x130 h129 Th129 Fh129 Kh129 (.inl ⟨_, _, (by rw [← hst, zfm_s, if_pos ⟨by omega, by omega, by omega⟩]), by omega, by omega, Zh129, by omega, by omega, by have := zbi_e ho (by omega); rw [this] at dh129; simp only [zcb, zcu] at dh129; omega, by omega, by rw [← hcs, zfD_s, if_pos ⟨by unfold zsk; (repeat' split) <;> omega, by omega, by omega⟩]; exact ⟨fdh129, by have q3 := fdh129.2.2.1; have q4 := zbi_e ho (by omega); have q5 := ch129; rw [q4] at q5; simp only [zcb] at q5; show (zkS fb [] (cs ++ (zbp 1 st).map zsi)).length = 1; omega⟩⟩))
        · have hnd : ¬ ((zk t n p = 4 ∧ zw t n p = 59) ∧ w = 0 ∧ zc0 st = 0) := fun q => by omega
          refine ex_al oq_X12_sumRead_48 g0 ?_
          obtain ⟨x131, ax131, rx131, lx131, ux131⟩ := fi_wants hT
          refine ex_gf oq_X12_sumRead_49 hT (k := 111) (d := 12) rfl rfl ax131 ?_
          have rx131 := (rx131.symm.trans hwn : x131.toInt = w)
          refine ex_if0 oq_X12_sumRead_52 (t := 65) rfl rfl (fun (c132 : x131.toInt = 0) => ?_) (fun (c132 : ¬ (x131.toInt = 0)) => ?_)
          · refine ex_al oq_X12_sumRead_65 g0 ?_
            refine ex_cv oq_X12_sumRead_66 (by decide) hT (k := 111) (d := 12) (as := []) (stk := []) rfl rfl rfl rfl rfl rfl ⟨rfl, rfl⟩ (R := fun o => ∃ (x : Int32) (hb : cv_H), o = (some (cv_i x), hb) ∧ cw_T G hb ∧ cw_Fr cw_Ds cw_sh mk_fm h hb ∧ zFK h hb ∧ zRe t n h hb x (zsg t n st kn m p) (fun s => zFR hb s.1 s.2.1 s.2.2.1 s.2.2.2 ∧ zFd hb V fb (zsC t n p st cs))) (rt_signsK (t := t) (n := n) (p := p) (fun i hi => by rw [ht i hi, ← hA _ Fh]) hn9 hT (fun i hi => by rw [hB _ Fh]; exact hwr i hi) (by omega) hz (st := st) (kn := kn) (m := m) ⟨ho, (zrow_eq hrw (fun i => rfl)), by omega, by omega, by omega, by omega, by omega, by omega, by omega⟩ hd (hw5 p hpn) (fun x hb b1 b2 bk b3 => ⟨x, hb, rfl, b1, b2, bk, b3⟩)) (fun o ho => ?_)
            obtain ⟨x133, h134, rfl, Th134, Ch134, kh134, dx133⟩ := ho
            show cw_X _ _ _ _ _ [cv_i x133] h134
            have Fh134 : cw_Fr cw_Ds cw_sh mk_fm h0 h134 := cw_Fr_tr Fh (cw_Fr_mono (by decide +kernel) Ch134)
            have Kh134 := zFK_tr Kh kh134
            refine ex_if0 oq_X12_sumRead_69 (t := 25) rfl rfl (fun (c135 : ¬ x133.toInt = 0) => ?_) (fun (c135 : ¬ (¬ x133.toInt = 0)) => ?_)
            · obtain ⟨v9, q9, e9_1, e9_2, ax133, Zh134, e9_5, e9_6, e9_7⟩ := zRe_yes dx133 c135
              clear dx133 c135
              replace e9_5 := e9_5.trans hf4
              replace e9_6 := e9_6.trans hf5
              obtain ⟨yah134, ybh134, ych134, ydh134, -⟩ := id Zh134
              have zlh134 := zx_le (t := t) (n := n) (p := q9) (by omega)
              have hge := zsg_ge hpn e9_1
              exact ih _ _ _ _ q9 h134 L (by omega) (by omega) (by rw [← hst, zfm_s, if_neg hnd, if_neg (by omega), zb2_r e9_1]) Th134 Fh134 Kh134 Zh134 e9_5 e9_6 e9_7.1 (by have := e9_7.1.2.2.2.2.2.2.2.1; obtain ⟨y, _, y1, y2, y3⟩ := fi_wants Th134; omega) _ (nm) (by rw [← hcs, zfD_s, if_neg (fun q => by have := zsg_z e9_1; omega), if_neg (by omega), zo_r e9_1]) e9_7.2 g0
            · replace c135 : x133.toInt = 0 := by omega
              obtain ⟨fc10, fa10, e10_1, ax133, e10_3, e10_4, e10_5⟩ := zRe_no dx133 c135
              clear dx133
              refine ex_ic oq_X12_sumRead_72 (m := 0) (by decide) (fun x136 hx136 => ?_)
              exact ex_retb oq_X12_sumRead_73 rfl (by omega) (by omega) (hQ x136 h134 Th134 Fh134 Kh134 (.inr ⟨_, _, (by rw [← hst, zfm_s, if_neg hnd, if_neg (by omega), zb2_l e10_1]), by omega, by omega, by omega, by omega⟩))
          · replace c132 : ¬ x131.toInt = 0 := by omega
            refine ex_al oq_X12_sumRead_55 g0 ?_
            refine ex_cv oq_X12_sumRead_56 (by decide) hT (k := 111) (d := 12) (as := []) (stk := []) rfl rfl rfl rfl rfl rfl ⟨rfl, rfl⟩ (R := fun o => ∃ (x : Int32) (hb : cv_H), o = (some (cv_i x), hb) ∧ cw_T G hb ∧ cw_Fr cw_Ds cw_sh mk_fm h hb ∧ zFK h hb ∧ zRe t n h hb x (zlf t n st kn m p) (fun s => zFR hb s.1 s.2.1 s.2.2.1 s.2.2.2 ∧ zFd hb V fb (zlC t n p cs))) (rt_leafReadK (t := t) (n := n) (p := p) (fun i hi => by rw [ht i hi, ← hA _ Fh]) hn9 hT (fun i hi => by rw [hB _ Fh]; exact hwr i hi) (by omega) hz (st := st) (kn := kn) (m := m) ⟨ho, (zrow_eq hrw (fun i => rfl)), by omega, by omega, by omega, by omega, by omega, by omega, by omega⟩ hd (fun x hb b1 b2 bk b3 => ⟨x, hb, rfl, b1, b2, bk, b3⟩)) (fun o ho => ?_)
            obtain ⟨x137, h138, rfl, Th138, Ch138, kh138, dx137⟩ := ho
            show cw_X _ _ _ _ _ [cv_i x137] h138
            have Fh138 : cw_Fr cw_Ds cw_sh mk_fm h0 h138 := cw_Fr_tr Fh (cw_Fr_mono (by decide +kernel) Ch138)
            have Kh138 := zFK_tr Kh kh138
            refine ex_if0 oq_X12_sumRead_59 (t := 72) rfl rfl (fun (c139 : x137.toInt = 0) => ?_) (fun (c139 : ¬ (x137.toInt = 0)) => ?_)
            · obtain ⟨fc11, fa11, e11_1, ax137, e11_3, e11_4, e11_5⟩ := zRe_no dx137 c139
              clear dx137
              refine ex_ic oq_X12_sumRead_72 (m := 0) (by decide) (fun x140 hx140 => ?_)
              exact ex_retb oq_X12_sumRead_73 rfl (by omega) (by omega) (hQ x140 h138 Th138 Fh138 Kh138 (.inr ⟨_, _, (by rw [← hst, zfm_s, if_neg hnd, if_pos (by omega), zb2_l e11_1]), by omega, by omega, by omega, by omega⟩))
            · replace c139 : ¬ x137.toInt = 0 := by omega
              obtain ⟨v12, q12, e12_1, e12_2, ax137, Zh138, e12_5, e12_6, e12_7⟩ := zRe_yes dx137 c139
              clear dx137 c139
              replace e12_5 := e12_5.trans hf4
              replace e12_6 := e12_6.trans hf5
              obtain ⟨yah138, ybh138, ych138, ydh138, -⟩ := id Zh138
              have zlh138 := zx_le (t := t) (n := n) (p := q12) (by omega)
              refine ex_go oq_X12_sumRead_62 (t := 25) rfl rfl ?_
              have hge := zlf_ge hpn e12_1
              exact ih _ _ _ _ q12 h138 L (by omega) (by omega) (by rw [← hst, zfm_s, if_neg hnd, if_pos (by omega), zb2_r e12_1]) Th138 Fh138 Kh138 Zh138 e12_5 e12_6 e12_7.1 (by have := e12_7.1.2.2.2.2.2.2.2.1; obtain ⟨y, _, y1, y2, y3⟩ := fi_wants Th138; omega) _ (zlN t n p nm) (by rw [← hcs, zfD_s, if_neg (by omega), if_pos (by omega), zo_r e12_1]) e12_7.2 g0
theorem rt_sumReadK {h0 : cv_H} {n p : Nat} (ht : ∀ i, i < n → t i = ri_at h0 112 i) (hn9 : n ≤ 900) (hT : cw_T G h0) (hwr : ∀ i, i < 177 → ri_at h0 113 i = pp_words.getD i 0) (hpn : p ≤ n) (hz : zR t n p h0) (hw5 : ∀ p, p ≤ n → zk t n p = 5 → 0 ≤ zw t n p ∧ zw t n p ≤ 5) {kn : Int} (hkn : ri_at h0 111 19 = kn) (hct : ri_at h0 111 40 = kn) {V : Nat → Int × Int × Int} {fb : Nat} (hfb : (fb : Int) = kn) (hV : ∀ i, i < fb → ri_at h0 125 (64 + i) = (V i).1 ∧ ri_at h0 126 (64 + i) = (V i).2.1 ∧ ri_at h0 127 (64 + i) = (V i).2.2) (hQ : ∀ (x : Int32) h', cw_T G h' → cw_Fr cw_Ds cw_sh mk_fm h0 h' → zFK h0 h' → zRe t n h0 h' x (zfm t n 901 [] kn 1 1 p) (fun kn' => ri_at h' 111 19 = kn' ∧ ri_at h' 111 40 = kn' ∧ zFd h' V fb (zfD t n 901 [] kn 1 1 p [] 0).1 ∧ (zkS fb [] (zfD t n 901 [] kn 1 1 p [] 0).1).length = 1) → Q (some (cv_i x), h')) : cw_X X 199 Q 0 (cv_ent 0 [cv_r 111]) [] h0 := by
  have Fh0 : cw_Fr cw_Ds cw_sh mk_fm h0 h0 := cw_Fr_refl
  have Kh0 : zFK h0 h0 := zFK_0
  have zxl := zx_le (t := t) hpn
  obtain ⟨z1, z2, z3, z4, z5⟩ := id hz
  replace z5 := zhd_i z5
  have hA : ∀ h, cw_Fr cw_Ds cw_sh mk_fm h0 h → ∀ i, ri_at h 112 i = ri_at h0 112 i := fun h F i => ri_frr F (k := 112) (d := 51) rfl rfl (by decide +kernel)
  have hB : ∀ h, cw_Fr cw_Ds cw_sh mk_fm h0 h → ∀ i, ri_at h 113 i = ri_at h0 113 i := fun h F i => ri_frr F (k := 113) (d := 52) rfl rfl (by decide +kernel)
  refine ex_al oq_X12_sumRead_0 rfl ?_
  refine ex_ic oq_X12_sumRead_1 (m := 0) (by decide) (fun x101 hx101 => ?_)
  refine ex_pfi oq_X12_sumRead_2 hT (k := 111) (d := 12) rfl rfl rfl (by omega) (by omega) (fun h102 Th102 wh102 => ?_)
  have Fh102 : cw_Fr cw_Ds cw_sh mk_fm h0 h102 := cw_Fr_tr Fh0 (cw_Fr_wrf wh102 (k := 111) (d := 12) rfl rfl (by decide +kernel))
  have Kh102 := zFK_wr (k := 111) wh102 (Nat.zero_le _) Kh0
  have eh102_111_4 : ri_at h102 111 4 = ri_at h0 111 4 := ri_ne wh102 (by decide)
  have eh102_111_5 : ri_at h102 111 5 = ri_at h0 111 5 := ri_ne wh102 (by decide)
  have eh102_111_6 : ri_at h102 111 6 = (n : Int) := (ri_ne wh102 (by decide)).trans z1
  have eh102_111_7 : ri_at h102 111 7 = ((zx t n p : Nat) : Int) := (ri_ne wh102 (by decide)).trans z3
  have eh102_111_8 : ri_at h102 111 8 = zk t n p := (ri_ne wh102 (by decide)).trans z4
  have eh102_111_10 : ri_at h102 111 10 = ((za t n p : Nat) : Int) := (ri_ne wh102 (by decide)).trans z2
  have eh102_111_11 : ri_at h102 111 11 = ri_at h0 111 11 := ri_ne wh102 (by decide)
  have eh102_111_37 : ri_at h102 111 37 = x101.toInt := ri_self wh102
  have eh102_111_38 : ri_at h102 111 38 = ri_at h0 111 38 := ri_ne wh102 (by decide)
  have eh102_111_19 : ri_at h102 111 19 = kn := (ri_ne wh102 (by decide)).trans hkn
  have eh102_111_40 : ri_at h102 111 40 = kn := (ri_ne wh102 (by decide)).trans hct
  have eh102_111_39 : ri_at h102 111 39 = ri_at h0 111 39 := ri_ne wh102 (by decide)
  have eh102_111_41 : ri_at h102 111 41 = ri_at h0 111 41 := ri_ne wh102 (by decide)
  have eh102_111_42 : ri_at h102 111 42 = ri_at h0 111 42 := ri_ne wh102 (by decide)
  have Zh102 := zR_wr wh102 hz (.inr (by decide))
  refine ex_al oq_X12_sumRead_5 rfl ?_
  refine ex_ic oq_X12_sumRead_6 (m := 0) (by decide) (fun x103 hx103 => ?_)
  refine ex_pfi oq_X12_sumRead_7 Th102 (k := 111) (d := 12) rfl rfl rfl (by omega) (by omega) (fun h104 Th104 wh104 => ?_)
  have Fh104 : cw_Fr cw_Ds cw_sh mk_fm h0 h104 := cw_Fr_tr Fh102 (cw_Fr_wrf wh104 (k := 111) (d := 12) rfl rfl (by decide +kernel))
  have Kh104 := zFK_wr (k := 111) wh104 (Nat.zero_le _) Kh102
  have eh104_111_4 : ri_at h104 111 4 = ri_at h0 111 4 := (ri_ne wh104 (by decide)).trans eh102_111_4
  clear eh102_111_4
  have eh104_111_5 : ri_at h104 111 5 = ri_at h0 111 5 := (ri_ne wh104 (by decide)).trans eh102_111_5
  clear eh102_111_5
  have eh104_111_6 : ri_at h104 111 6 = (n : Int) := (ri_ne wh104 (by decide)).trans eh102_111_6
  clear eh102_111_6
  have eh104_111_7 : ri_at h104 111 7 = ((zx t n p : Nat) : Int) := (ri_ne wh104 (by decide)).trans eh102_111_7
  clear eh102_111_7
  have eh104_111_8 : ri_at h104 111 8 = zk t n p := (ri_ne wh104 (by decide)).trans eh102_111_8
  clear eh102_111_8
  have eh104_111_10 : ri_at h104 111 10 = ((za t n p : Nat) : Int) := (ri_ne wh104 (by decide)).trans eh102_111_10
  clear eh102_111_10
  have eh104_111_11 : ri_at h104 111 11 = ri_at h0 111 11 := (ri_ne wh104 (by decide)).trans eh102_111_11
  clear eh102_111_11
  have eh104_111_37 : ri_at h104 111 37 = x101.toInt := (ri_ne wh104 (by decide)).trans eh102_111_37
  clear eh102_111_37
  have eh104_111_38 : ri_at h104 111 38 = x103.toInt := ri_self wh104
  have eh104_111_19 : ri_at h104 111 19 = kn := (ri_ne wh104 (by decide)).trans eh102_111_19
  clear eh102_111_19
  have eh104_111_40 : ri_at h104 111 40 = kn := (ri_ne wh104 (by decide)).trans eh102_111_40
  clear eh102_111_40
  have eh104_111_39 : ri_at h104 111 39 = ri_at h0 111 39 := (ri_ne wh104 (by decide)).trans eh102_111_39
  clear eh102_111_39
  have eh104_111_41 : ri_at h104 111 41 = ri_at h0 111 41 := (ri_ne wh104 (by decide)).trans eh102_111_41
  clear eh102_111_41
  have eh104_111_42 : ri_at h104 111 42 = ri_at h0 111 42 := (ri_ne wh104 (by decide)).trans eh102_111_42
  clear eh102_111_42
  have Zh104 := zR_wr wh104 Zh102 (.inr (by decide))
  refine ex_al oq_X12_sumRead_10 rfl ?_
  refine ex_ic oq_X12_sumRead_11 (m := 0) (by decide) (fun x105 hx105 => ?_)
  refine ex_pfi oq_X12_sumRead_12 Th104 (k := 111) (d := 12) rfl rfl rfl (by omega) (by omega) (fun h106 Th106 wh106 => ?_)
  have Fh106 : cw_Fr cw_Ds cw_sh mk_fm h0 h106 := cw_Fr_tr Fh104 (cw_Fr_wrf wh106 (k := 111) (d := 12) rfl rfl (by decide +kernel))
  have Kh106 := zFK_wr (k := 111) wh106 (Nat.zero_le _) Kh104
  have eh106_111_4 : ri_at h106 111 4 = ri_at h0 111 4 := (ri_ne wh106 (by decide)).trans eh104_111_4
  clear eh104_111_4
  have eh106_111_5 : ri_at h106 111 5 = ri_at h0 111 5 := (ri_ne wh106 (by decide)).trans eh104_111_5
  clear eh104_111_5
  have eh106_111_6 : ri_at h106 111 6 = (n : Int) := (ri_ne wh106 (by decide)).trans eh104_111_6
  clear eh104_111_6
  have eh106_111_7 : ri_at h106 111 7 = ((zx t n p : Nat) : Int) := (ri_ne wh106 (by decide)).trans eh104_111_7
  clear eh104_111_7
  have eh106_111_8 : ri_at h106 111 8 = zk t n p := (ri_ne wh106 (by decide)).trans eh104_111_8
  clear eh104_111_8
  have eh106_111_10 : ri_at h106 111 10 = ((za t n p : Nat) : Int) := (ri_ne wh106 (by decide)).trans eh104_111_10
  clear eh104_111_10
  have eh106_111_11 : ri_at h106 111 11 = ri_at h0 111 11 := (ri_ne wh106 (by decide)).trans eh104_111_11
  clear eh104_111_11
  have eh106_111_37 : ri_at h106 111 37 = x101.toInt := (ri_ne wh106 (by decide)).trans eh104_111_37
  clear eh104_111_37
  have eh106_111_38 : ri_at h106 111 38 = x103.toInt := (ri_ne wh106 (by decide)).trans eh104_111_38
  clear eh104_111_38
  have eh106_111_19 : ri_at h106 111 19 = kn := (ri_ne wh106 (by decide)).trans eh104_111_19
  clear eh104_111_19
  have eh106_111_40 : ri_at h106 111 40 = kn := (ri_ne wh106 (by decide)).trans eh104_111_40
  clear eh104_111_40
  have eh106_111_39 : ri_at h106 111 39 = x105.toInt := ri_self wh106
  have eh106_111_41 : ri_at h106 111 41 = ri_at h0 111 41 := (ri_ne wh106 (by decide)).trans eh104_111_41
  clear eh104_111_41
  have eh106_111_42 : ri_at h106 111 42 = ri_at h0 111 42 := (ri_ne wh106 (by decide)).trans eh104_111_42
  clear eh104_111_42
  have Zh106 := zR_wr wh106 Zh104 (.inr (by decide))
  refine ex_al oq_X12_sumRead_15 rfl ?_
  refine ex_ic oq_X12_sumRead_16 (m := 1) (by decide) (fun x107 hx107 => ?_)
  refine ex_pfb oq_X12_sumRead_17 Th106 (k := 111) (d := 12) rfl rfl rfl (by omega) (by omega) (fun h108 Th108 wh108 => ?_)
  have Fh108 : cw_Fr cw_Ds cw_sh mk_fm h0 h108 := cw_Fr_tr Fh106 (cw_Fr_wrf wh108 (k := 111) (d := 12) rfl rfl (by decide +kernel))
  have Kh108 := zFK_wr (k := 111) wh108 (Nat.zero_le _) Kh106
  have eh108_111_4 : ri_at h108 111 4 = ri_at h0 111 4 := (ri_ne wh108 (by decide)).trans eh106_111_4
  clear eh106_111_4
  have eh108_111_5 : ri_at h108 111 5 = ri_at h0 111 5 := (ri_ne wh108 (by decide)).trans eh106_111_5
  clear eh106_111_5
  have eh108_111_6 : ri_at h108 111 6 = (n : Int) := (ri_ne wh108 (by decide)).trans eh106_111_6
  clear eh106_111_6
  have eh108_111_7 : ri_at h108 111 7 = ((zx t n p : Nat) : Int) := (ri_ne wh108 (by decide)).trans eh106_111_7
  clear eh106_111_7
  have eh108_111_8 : ri_at h108 111 8 = zk t n p := (ri_ne wh108 (by decide)).trans eh106_111_8
  clear eh106_111_8
  have eh108_111_10 : ri_at h108 111 10 = ((za t n p : Nat) : Int) := (ri_ne wh108 (by decide)).trans eh106_111_10
  clear eh106_111_10
  have eh108_111_11 : ri_at h108 111 11 = ri_at h0 111 11 := (ri_ne wh108 (by decide)).trans eh106_111_11
  clear eh106_111_11
  have eh108_111_37 : ri_at h108 111 37 = x101.toInt := (ri_ne wh108 (by decide)).trans eh106_111_37
  clear eh106_111_37
  have eh108_111_38 : ri_at h108 111 38 = x103.toInt := (ri_ne wh108 (by decide)).trans eh106_111_38
  clear eh106_111_38
  have eh108_111_19 : ri_at h108 111 19 = kn := (ri_ne wh108 (by decide)).trans eh106_111_19
  clear eh106_111_19
  have eh108_111_40 : ri_at h108 111 40 = kn := (ri_ne wh108 (by decide)).trans eh106_111_40
  clear eh106_111_40
  have eh108_111_39 : ri_at h108 111 39 = x105.toInt := (ri_ne wh108 (by decide)).trans eh106_111_39
  clear eh106_111_39
  have eh108_111_41 : ri_at h108 111 41 = x107.toInt := ri_self wh108
  have eh108_111_42 : ri_at h108 111 42 = ri_at h0 111 42 := (ri_ne wh108 (by decide)).trans eh106_111_42
  clear eh106_111_42
  have Zh108 := zR_wr wh108 Zh106 (.inr (by decide))
  refine ex_al oq_X12_sumRead_20 rfl ?_
  refine ex_ic oq_X12_sumRead_21 (m := 1) (by decide) (fun x109 hx109 => ?_)
  refine ex_pfb oq_X12_sumRead_22 Th108 (k := 111) (d := 12) rfl rfl rfl (by omega) (by omega) (fun h110 Th110 wh110 => ?_)
  have Fh110 : cw_Fr cw_Ds cw_sh mk_fm h0 h110 := cw_Fr_tr Fh108 (cw_Fr_wrf wh110 (k := 111) (d := 12) rfl rfl (by decide +kernel))
  have Kh110 := zFK_wr (k := 111) wh110 (Nat.zero_le _) Kh108
  have eh110_111_4 : ri_at h110 111 4 = ri_at h0 111 4 := (ri_ne wh110 (by decide)).trans eh108_111_4
  clear eh108_111_4
  have eh110_111_5 : ri_at h110 111 5 = ri_at h0 111 5 := (ri_ne wh110 (by decide)).trans eh108_111_5
  clear eh108_111_5
  have eh110_111_6 : ri_at h110 111 6 = (n : Int) := (ri_ne wh110 (by decide)).trans eh108_111_6
  clear eh108_111_6
  have eh110_111_7 : ri_at h110 111 7 = ((zx t n p : Nat) : Int) := (ri_ne wh110 (by decide)).trans eh108_111_7
  clear eh108_111_7
  have eh110_111_8 : ri_at h110 111 8 = zk t n p := (ri_ne wh110 (by decide)).trans eh108_111_8
  clear eh108_111_8
  have eh110_111_10 : ri_at h110 111 10 = ((za t n p : Nat) : Int) := (ri_ne wh110 (by decide)).trans eh108_111_10
  clear eh108_111_10
  have eh110_111_11 : ri_at h110 111 11 = ri_at h0 111 11 := (ri_ne wh110 (by decide)).trans eh108_111_11
  clear eh108_111_11
  have eh110_111_37 : ri_at h110 111 37 = x101.toInt := (ri_ne wh110 (by decide)).trans eh108_111_37
  clear eh108_111_37
  have eh110_111_38 : ri_at h110 111 38 = x103.toInt := (ri_ne wh110 (by decide)).trans eh108_111_38
  clear eh108_111_38
  have eh110_111_19 : ri_at h110 111 19 = kn := (ri_ne wh110 (by decide)).trans eh108_111_19
  clear eh108_111_19
  have eh110_111_40 : ri_at h110 111 40 = kn := (ri_ne wh110 (by decide)).trans eh108_111_40
  clear eh108_111_40
  have eh110_111_39 : ri_at h110 111 39 = x105.toInt := (ri_ne wh110 (by decide)).trans eh108_111_39
  clear eh108_111_39
  have eh110_111_41 : ri_at h110 111 41 = x107.toInt := (ri_ne wh110 (by decide)).trans eh108_111_41
  clear eh108_111_41
  have eh110_111_42 : ri_at h110 111 42 = x109.toInt := ri_self wh110
  have Zh110 := zR_wr wh110 Zh108 (.inr (by decide))
  exact sm_lpK ht hn9 hwr hw5 hQ 901 [] kn 1 1 p h110 _ (by omega) hpn rfl Th110 Fh110 Kh110 Zh110 eh110_111_4 eh110_111_5 ⟨trivial, fun i hi => absurd hi (by simp), by simp only [List.length_nil]; omega, by simp only [zcb]; omega, by simp only [zcb, zcu]; omega, by omega, by simp only [zc0]; omega, by omega, by omega⟩ (.inr rfl) [] 0 rfl ⟨⟨trivial, fun i hi => ⟨(((ri_ne wh110 (.inl (by decide))).trans ((ri_ne wh108 (.inl (by decide))).trans ((ri_ne wh106 (.inl (by decide))).trans ((ri_ne wh104 (.inl (by decide))).trans (ri_ne wh102 (.inl (by decide)))))))).trans (hV i hi).1, (((ri_ne wh110 (.inl (by decide))).trans ((ri_ne wh108 (.inl (by decide))).trans ((ri_ne wh106 (.inl (by decide))).trans ((ri_ne wh104 (.inl (by decide))).trans (ri_ne wh102 (.inl (by decide)))))))).trans (hV i hi).2.1, (((ri_ne wh110 (.inl (by decide))).trans ((ri_ne wh108 (.inl (by decide))).trans ((ri_ne wh106 (.inl (by decide))).trans ((ri_ne wh104 (.inl (by decide))).trans (ri_ne wh102 (.inl (by decide)))))))).trans (hV i hi).2.2⟩⟩, fun i hi => absurd hi (by simp [zkS]), by show ((0 : Nat) : Int) = _; omega, by rw [List.length_nil]; omega⟩ rfl
set_option maxHeartbeats 8000000 in
theorem rt_lawLineK {h0 : cv_H} {n p : Nat} (ht : ∀ i, i < n → t i = ri_at h0 112 i) (hn9 : n ≤ 900) (hT : cw_T G h0) (hwr : ∀ i, i < 177 → ri_at h0 113 i = pp_words.getD i 0) (hpn : p ≤ n) (hz : zR t n p h0) (hw5 : ∀ p, p ≤ n → zk t n p = 5 → 0 ≤ zw t n p ∧ zw t n p ≤ 5) {kn : Int} (hkn : ri_at h0 111 19 = kn) (hct : ri_at h0 111 40 = kn) {lt : Int → Int} (hlt : ∀ i : Int, 0 ≤ i ∧ i ≤ 3 → lt i = ri_at h0 117 (4 + i.toNat)) {V : Nat → Int × Int × Int} {fb : Nat} (hfb : (fb : Int) = kn) (hV : ∀ i, i < fb → ri_at h0 125 (64 + i) = (V i).1 ∧ ri_at h0 126 (64 + i) = (V i).2.1 ∧ ri_at h0 127 (64 + i) = (V i).2.2) (hQ : ∀ (x : Int32) h', cw_T G h' → cw_Fr cw_Ds cw_sh mk_ll h0 h' → zFK h0 h' → zRe t n h0 h' x (zll t n lt kn p) (fun s => ri_at h' 111 19 = s.2 ∧ ri_at h' 111 40 = s.2 ∧ (∀ i : Int, 0 ≤ i ∧ i ≤ 3 → (if i = s.1 then 1 else lt i) = ri_at h' 117 (4 + i.toNat)) ∧ zLW t n p V fb kn s.2 h0 h') → Q (some (cv_i x), h')) : cw_X X 177 Q 0 (cv_ent 0 [cv_r 111]) [] h0 := by
  have Fh0 : cw_Fr cw_Ds cw_sh mk_ll h0 h0 := cw_Fr_refl
  have Kh0 : zFK h0 h0 := zFK_0
  have zxl := zx_le (t := t) hpn
  obtain ⟨z1, z2, z3, z4, z5⟩ := id hz
  replace z5 := zhd_i z5
  have hA : ∀ h, cw_Fr cw_Ds cw_sh mk_ll h0 h → ∀ i, ri_at h 112 i = ri_at h0 112 i := fun h F i => ri_frr F (k := 112) (d := 51) rfl rfl (by decide +kernel)
  have hB : ∀ h, cw_Fr cw_Ds cw_sh mk_ll h0 h → ∀ i, ri_at h 113 i = ri_at h0 113 i := fun h F i => ri_frr F (k := 113) (d := 52) rfl rfl (by decide +kernel)
  have zxl2 := zx_le (t := t) zxl
  refine ex_al oq_X12_lawLine_0 rfl ?_
  refine ex_cv oq_X12_lawLine_1 (by decide) hT (k := 111) (d := 12) (as := []) (stk := []) rfl rfl rfl rfl rfl rfl ⟨rfl, rfl⟩ (R := fun o => ∃ hb : cv_H, o = (none, hb) ∧ cw_T G hb ∧ cw_Fr cw_Ds cw_sh kk_X12_token.2.2.2.2.2.1 h0 hb ∧ zR t n (zx t n p) hb) (rt_tok (t := t) (n := n) (p := (zx t n p)) (fun i hi => by rw [ht i hi, ← hA _ Fh0]) hn9 (fun i hi => by rw [hB _ Fh0]; exact hwr i hi) hT (zx_le (by omega)) (by omega) (by omega) (fun hb b1 b2 b3 => ⟨hb, rfl, b1, b2, b3⟩)) (fun o ho => ?_)
  obtain ⟨h101, rfl, Th101, Ch101, Zh101⟩ := ho
  show cw_X _ _ _ _ _ [] h101
  have Fh101 : cw_Fr cw_Ds cw_sh mk_ll h0 h101 := cw_Fr_tr Fh0 (cw_Fr_mono (by decide +kernel) Ch101)
  have Kh101 := zFK_fr Ch101 (by decide +kernel) Kh0
  have eh101_111_4 : ri_at h101 111 4 = ri_at h0 111 4 := ri_frf Ch101 (d := 12) rfl rfl (by decide +kernel)
  have eh101_111_5 : ri_at h101 111 5 = ri_at h0 111 5 := ri_frf Ch101 (d := 12) rfl rfl (by decide +kernel)
  have eh101_111_11 : ri_at h101 111 11 = ri_at h0 111 11 := ri_frf Ch101 (d := 12) rfl rfl (by decide +kernel)
  have eh101_111_19 : ri_at h101 111 19 = kn := (ri_frf Ch101 (d := 12) rfl rfl (by decide +kernel)).trans hkn
  have eh101_111_40 : ri_at h101 111 40 = kn := (ri_frf Ch101 (d := 12) rfl rfl (by decide +kernel)).trans hct
  obtain ⟨yah101, ybh101, ych101, ydh101, -⟩ := id Zh101
  have zlh101 := zx_le (t := t) (n := n) (p := (zx t n p)) (by omega)
  refine ex_al oq_X12_lawLine_4 rfl ?_
  obtain ⟨x102, ax102, rx102, lx102, ux102⟩ := fi_kind Th101
  refine ex_gf oq_X12_lawLine_5 Th101 (k := 111) (d := 12) rfl rfl ax102 ?_
  have rx102 := (rx102.symm.trans ydh101 : x102.toInt = zk t n (zx t n p))
  refine ex_ic oq_X12_lawLine_8 (m := 1) (by decide) (fun x103 hx103 => ?_)
  refine ex_if oq_X12_lawLine_9 (t := 25) rfl rfl (fun (c104 : ¬ x102.toInt = x103.toInt) => ?_) (fun (c104 : ¬ (¬ x102.toInt = x103.toInt)) => ?_)
  · refine ex_al oq_X12_lawLine_25 rfl ?_
    refine ex_ic oq_X12_lawLine_26 (m := 1) (by decide) (fun x105 hx105 => ?_)
    refine ex_cv oq_X12_lawLine_27 (by decide) Th101 (k := 111) (d := 12) (as := [cv_i x105]) (stk := []) rfl rfl rfl rfl rfl rfl ⟨rfl, rfl⟩ (R := fun o => ∃ (x : Int32) (hb : cv_H), o = (some (cv_i x), hb) ∧ cw_T G hb ∧ cw_Fr cw_Ds cw_sh kk_X12_wrong.2.2.2.2.2.1 h101 hb ∧ x.toInt = 0 ∧ ri_at hb 111 4 = x105.toInt ∧ ri_at hb 111 5 = ri_at h101 111 10) (rt_wrong Th101 x105 (fun x hb b1 b2 b3 b4 b5 => ⟨x, hb, rfl, b1, b2, b3, b4, b5⟩)) (fun o ho => ?_)
    obtain ⟨x106, h107, rfl, Th107, Ch107, zh107, fh107, ph107⟩ := ho
    show cw_X _ _ _ _ _ [cv_i x106] h107
    have Fh107 : cw_Fr cw_Ds cw_sh mk_ll h0 h107 := cw_Fr_tr Fh101 (cw_Fr_mono (by decide +kernel) Ch107)
    have Kh107 := zFK_fr Ch107 (by decide +kernel) Kh101
    exact ex_retb oq_X12_lawLine_30 rfl (by omega) (by omega) (hQ x106 h107 Th107 Fh107 Kh107 (.inr ⟨_, _, (by unfold zll; rw [if_neg (by omega)]), by omega, by omega, by omega, by decide⟩))
  · refine ex_al oq_X12_lawLine_12 rfl ?_
    obtain ⟨x108, ax108, rx108, lx108, ux108⟩ := fi_which Th101
    refine ex_gf oq_X12_lawLine_13 Th101 (k := 111) (d := 12) rfl rfl ax108 ?_
    have wx108 : x108.toInt = zw t n (zx t n p) := rx108.symm.trans (Zh101.2.2.2.2 (by omega) (by omega))
    refine ex_ic oq_X12_lawLine_16 (m := 5) (by decide) (fun x109 hx109 => ?_)
    refine ex_bi oq_X12_lawLine_17 (m := 8) (by decide) (fun x110 hx110 => ?_)
    refine ex_cs oq_X12_lawLine_19 (by decide) (as := [cv_i x108, cv_i x109, cv_i x110]) (stk := []) rfl rfl rfl ⟨rfl, rfl⟩ (R := fun o => ∃ x : Int32, o = (some (cv_i x), h101) ∧ (x.toInt = 1 ∧ x109.toInt ≤ x108.toInt ∧ x108.toInt ≤ x110.toInt ∨ x.toInt = 0 ∧ (x108.toInt < x109.toInt ∨ x110.toInt < x108.toInt))) (rt_isIn x108 x109 x110 (fun x q => ⟨x, rfl, q⟩)) (fun o ho => ?_)
    obtain ⟨x111, rfl, dx111⟩ := ho
    show cw_X _ _ _ _ _ [cv_i x111] h101
    refine ex_if0 oq_X12_lawLine_22 (t := 31) rfl rfl (fun (c112 : ¬ x111.toInt = 0) => ?_) (fun (c112 : ¬ (¬ x111.toInt = 0)) => ?_)
    · obtain ⟨_, dx111, dx111b⟩ := isin_y dx111 c112
      refine ex_ic oq_X12_lawLine_31 (m := 4) (by decide) (fun x113 hx113 => ?_)
      refine ex_al oq_X12_lawLine_32 rfl ?_
      obtain ⟨x114, ax114, rx114, lx114, ux114⟩ := fi_which Th101
      refine ex_gf oq_X12_lawLine_33 Th101 (k := 111) (d := 12) rfl rfl ax114 ?_
      have wx114 : x114.toInt = zw t n (zx t n p) := rx114.symm.trans (Zh101.2.2.2.2 (by omega) (by omega))
      refine ex_add oq_X12_lawLine_36 (by omega) (fun x115 hx115 => ?_)
      refine ex_ic oq_X12_lawLine_37 (m := 5) (by decide) (fun x116 hx116 => ?_)
      refine ex_sub oq_X12_lawLine_38 (by omega) (fun x117 hx117 => ?_)
      refine ex_isA oq_X12_lawLine_39 (fun L118 gL118_1 kL118 => ?_)
      have gL118_0 : cv_get L118 0 = some (cv_r 111) := kL118 0 _ (by decide) (fun _ => rfl) rfl
      refine ex_al oq_X12_lawLine_40 gL118_0 ?_
      refine ex_gf oq_X12_lawLine_41 Th101 (k := 111) (d := 12) rfl rfl (fr_lawTold Th101) ?_
      refine ex_il oq_X12_lawLine_44 gL118_1 ?_
      refine ex_ba1 oq_X12_lawLine_45 Th101 (k := 117) (d := 56) (j := 4 + (zw t n (zx t n p) - 5).toNat) rfl rfl rfl (by omega) (by omega) (fun x119 hx119 lx119 ux119 => ?_)
      have ax119 : x119.toInt = ri_at h0 117 (4 + (zw t n (zx t n p) - 5).toNat) := hx119.symm.trans ((ri_frr Ch101 (k := 117) (d := 56) rfl rfl (by decide +kernel)))
      refine ex_if0 oq_X12_lawLine_46 (t := 55) rfl rfl (fun (c120 : x119.toInt = 0) => ?_) (fun (c120 : ¬ (x119.toInt = 0)) => ?_)
      · refine ex_al oq_X12_lawLine_55 gL118_0 ?_
        refine ex_gf oq_X12_lawLine_56 Th101 (k := 111) (d := 12) rfl rfl (fr_lawTold Th101) ?_
        refine ex_il oq_X12_lawLine_59 gL118_1 ?_
        refine ex_ic oq_X12_lawLine_60 (m := 1) (by decide) (fun x121 hx121 => ?_)
        refine ex_bw2 oq_X12_lawLine_61 Th101 (k := 117) (d := 56) (j := 4 + (zw t n (zx t n p) - 5).toNat) rfl rfl (by omega) (by omega) ⟨by omega, by omega⟩ (fun h122 Th122 wh122 => ?_)
        have Fh122 : cw_Fr cw_Ds cw_sh mk_ll h0 h122 := cw_Fr_tr Fh101 (cw_Fr_wrr wh122 (k := 117) (d := 56) rfl rfl (by decide +kernel))
        have Kh122 := zFK_wr (k := 117) wh122 ((by show 4 ≤ _; omega)) Kh101
        have eh122_111_4 : ri_at h122 111 4 = ri_at h0 111 4 := (ri_ne wh122 (.inl (by decide))).trans eh101_111_4
        clear eh101_111_4
        have eh122_111_5 : ri_at h122 111 5 = ri_at h0 111 5 := (ri_ne wh122 (.inl (by decide))).trans eh101_111_5
        clear eh101_111_5
        have eh122_111_6 : ri_at h122 111 6 = (n : Int) := (ri_ne wh122 (.inl (by decide))).trans yah101
        have eh122_111_7 : ri_at h122 111 7 = ((zx t n (zx t n p) : Nat) : Int) := (ri_ne wh122 (.inl (by decide))).trans ych101
        have eh122_111_8 : ri_at h122 111 8 = zk t n (zx t n p) := (ri_ne wh122 (.inl (by decide))).trans ydh101
        have eh122_111_10 : ri_at h122 111 10 = ((za t n (zx t n p) : Nat) : Int) := (ri_ne wh122 (.inl (by decide))).trans ybh101
        have eh122_111_11 : ri_at h122 111 11 = ri_at h0 111 11 := (ri_ne wh122 (.inl (by decide))).trans eh101_111_11
        clear eh101_111_11
        have eh122_111_19 : ri_at h122 111 19 = kn := (ri_ne wh122 (.inl (by decide))).trans eh101_111_19
        clear eh101_111_19
        have eh122_111_40 : ri_at h122 111 40 = kn := (ri_ne wh122 (.inl (by decide))).trans eh101_111_40
        clear eh101_111_40
        have Zh122 := zR_wr wh122 Zh101 (.inl (by decide))
        refine ex_al oq_X12_lawLine_62 gL118_0 ?_
        refine ex_cv oq_X12_lawLine_63 (by decide) Th122 (k := 111) (d := 12) (as := []) (stk := []) rfl rfl rfl rfl rfl rfl ⟨rfl, rfl⟩ (R := fun o => ∃ hb : cv_H, o = (none, hb) ∧ cw_T G hb ∧ cw_Fr cw_Ds cw_sh kk_X12_token.2.2.2.2.2.1 h122 hb ∧ zR t n (zx t n (zx t n p)) hb) (rt_tok (t := t) (n := n) (p := (zx t n (zx t n p))) (fun i hi => by rw [ht i hi, ← hA _ Fh122]) hn9 (fun i hi => by rw [hB _ Fh122]; exact hwr i hi) Th122 (zx_le (by omega)) (by omega) (by omega) (fun hb b1 b2 b3 => ⟨hb, rfl, b1, b2, b3⟩)) (fun o ho => ?_)
        obtain ⟨h123, rfl, Th123, Ch123, Zh123⟩ := ho
        show cw_X _ _ _ _ _ [] h123
        have Fh123 : cw_Fr cw_Ds cw_sh mk_ll h0 h123 := cw_Fr_tr Fh122 (cw_Fr_mono (by decide +kernel) Ch123)
        have Kh123 := zFK_fr Ch123 (by decide +kernel) Kh122
        have eh123_111_4 : ri_at h123 111 4 = ri_at h0 111 4 := (ri_frf Ch123 (d := 12) rfl rfl (by decide +kernel)).trans eh122_111_4
        clear eh122_111_4
        have eh123_111_5 : ri_at h123 111 5 = ri_at h0 111 5 := (ri_frf Ch123 (d := 12) rfl rfl (by decide +kernel)).trans eh122_111_5
        clear eh122_111_5
        have eh123_111_11 : ri_at h123 111 11 = ri_at h0 111 11 := (ri_frf Ch123 (d := 12) rfl rfl (by decide +kernel)).trans eh122_111_11
        clear eh122_111_11
        have eh123_111_19 : ri_at h123 111 19 = kn := (ri_frf Ch123 (d := 12) rfl rfl (by decide +kernel)).trans eh122_111_19
        clear eh122_111_19
        have eh123_111_40 : ri_at h123 111 40 = kn := (ri_frf Ch123 (d := 12) rfl rfl (by decide +kernel)).trans eh122_111_40
        clear eh122_111_40
        obtain ⟨yah123, ybh123, ych123, ydh123, -⟩ := id Zh123
        have zlh123 := zx_le (t := t) (n := n) (p := (zx t n (zx t n p))) (by omega)
        clear eh122_111_6 eh122_111_10 eh122_111_7 eh122_111_8
        refine ex_al oq_X12_lawLine_66 gL118_0 ?_
        refine ex_gf oq_X12_lawLine_67 Th123 (k := 111) (d := 12) rfl rfl (fr_lawFirst Th123) ?_
        refine ex_il oq_X12_lawLine_70 gL118_1 ?_
        refine ex_al oq_X12_lawLine_71 gL118_0 ?_
        obtain ⟨x124, ax124, rx124, lx124, ux124⟩ := fi_knotsRead Th123
        refine ex_gf oq_X12_lawLine_72 Th123 (k := 111) (d := 12) rfl rfl ax124 ?_
        have rx124 := (rx124.symm.trans eh123_111_19 : x124.toInt = kn)
        refine ex_iw1 oq_X12_lawLine_75 Th123 (k := 115) (d := 54) (j := 4 + (zw t n (zx t n p) - 5).toNat) rfl rfl (by omega) (by omega) ⟨by omega, by omega⟩ (fun h125 Th125 wh125 => ?_)
        have Fh125 : cw_Fr cw_Ds cw_sh mk_ll h0 h125 := cw_Fr_tr Fh123 (cw_Fr_wrr wh125 (k := 115) (d := 54) rfl rfl (by decide +kernel))
        have Kh125 := zFK_wr (k := 115) wh125 ((by show 4 ≤ _; omega)) Kh123
        have eh125_111_4 : ri_at h125 111 4 = ri_at h0 111 4 := (ri_ne wh125 (.inl (by decide))).trans eh123_111_4
        clear eh123_111_4
        have eh125_111_5 : ri_at h125 111 5 = ri_at h0 111 5 := (ri_ne wh125 (.inl (by decide))).trans eh123_111_5
        clear eh123_111_5
        have eh125_111_6 : ri_at h125 111 6 = (n : Int) := (ri_ne wh125 (.inl (by decide))).trans yah123
        have eh125_111_7 : ri_at h125 111 7 = ((zx t n (zx t n (zx t n p)) : Nat) : Int) := (ri_ne wh125 (.inl (by decide))).trans ych123
        have eh125_111_8 : ri_at h125 111 8 = zk t n (zx t n (zx t n p)) := (ri_ne wh125 (.inl (by decide))).trans ydh123
        have eh125_111_10 : ri_at h125 111 10 = ((za t n (zx t n (zx t n p)) : Nat) : Int) := (ri_ne wh125 (.inl (by decide))).trans ybh123
        have eh125_111_11 : ri_at h125 111 11 = ri_at h0 111 11 := (ri_ne wh125 (.inl (by decide))).trans eh123_111_11
        clear eh123_111_11
        have eh125_111_19 : ri_at h125 111 19 = kn := (ri_ne wh125 (.inl (by decide))).trans eh123_111_19
        clear eh123_111_19
        have eh125_111_40 : ri_at h125 111 40 = kn := (ri_ne wh125 (.inl (by decide))).trans eh123_111_40
        clear eh123_111_40
        have Zh125 := zR_wr wh125 Zh123 (.inl (by decide))
        refine ex_al oq_X12_lawLine_76 gL118_0 ?_
        have fa4 := eh125_111_4
        have fa5 := eh125_111_5
        refine ex_cv oq_X12_lawLine_77 (by decide) Th125 (k := 111) (d := 12) (as := []) (stk := []) rfl rfl rfl rfl rfl rfl ⟨rfl, rfl⟩ (R := fun o => ∃ (x : Int32) (hb : cv_H), o = (some (cv_i x), hb) ∧ cw_T G hb ∧ cw_Fr cw_Ds cw_sh mk_fm h125 hb ∧ zFK h125 hb ∧ zRe t n h125 hb x (zfm t n 901 [] kn 1 1 (zx t n (zx t n p))) (fun kn' => ri_at hb 111 19 = kn' ∧ ri_at hb 111 40 = kn' ∧ zFd hb V fb (zfD t n 901 [] kn 1 1 (zx t n (zx t n p)) [] 0).1 ∧ (zkS fb [] (zfD t n 901 [] kn 1 1 (zx t n (zx t n p)) [] 0).1).length = 1)) (rt_sumReadK (t := t) (n := n) (p := (zx t n (zx t n p))) (fun i hi => by rw [ht i hi, ← hA _ Fh125]) hn9 Th125 (fun i hi => by rw [hB _ Fh125]; exact hwr i hi) (by omega) Zh125 hw5 (kn := kn) (by omega) (by omega) hfb (fun i hi => ⟨(((ri_ne wh125 (.inl (by decide))).trans ((ri_frr Ch123 (k := 125) (d := 64) rfl rfl (by decide +kernel)).trans ((ri_ne wh122 (.inl (by decide))).trans (ri_frr Ch101 (k := 125) (d := 64) rfl rfl (by decide +kernel)))))).trans (hV i hi).1, (((ri_ne wh125 (.inl (by decide))).trans ((ri_frr Ch123 (k := 126) (d := 65) rfl rfl (by decide +kernel)).trans ((ri_ne wh122 (.inl (by decide))).trans (ri_frr Ch101 (k := 126) (d := 65) rfl rfl (by decide +kernel)))))).trans (hV i hi).2.1, (((ri_ne wh125 (.inl (by decide))).trans ((ri_frr Ch123 (k := 127) (d := 66) rfl rfl (by decide +kernel)).trans ((ri_ne wh122 (.inl (by decide))).trans (ri_frr Ch101 (k := 127) (d := 66) rfl rfl (by decide +kernel)))))).trans (hV i hi).2.2⟩) (fun x hb b1 b2 bk b3 => ⟨x, hb, rfl, b1, b2, bk, b3⟩)) (fun o ho => ?_)
        obtain ⟨x126, h127, rfl, Th127, Ch127, kh127, dx126⟩ := ho
        show cw_X _ _ _ _ _ [cv_i x126] h127
        have Fh127 : cw_Fr cw_Ds cw_sh mk_ll h0 h127 := cw_Fr_tr Fh125 (cw_Fr_mono (by decide +kernel) Ch127)
        have Kh127 := zFK_tr Kh125 kh127
        refine ex_isA oq_X12_lawLine_80 (fun L128 gL128_2 kL128 => ?_)
        have gL128_1 : cv_get L128 1 = some (cv_i x117) := kL128 1 _ (by decide) (fun _ => rfl) gL118_1
        have gL128_0 : cv_get L128 0 = some (cv_r 111) := kL128 0 _ (by decide) (fun q => absurd q (by decide)) gL118_0
        refine ex_al oq_X12_lawLine_81 gL128_0 ?_
        refine ex_gf oq_X12_lawLine_82 Th127 (k := 111) (d := 12) rfl rfl (fr_lawLast Th127) ?_
        refine ex_il oq_X12_lawLine_85 gL128_1 ?_
        refine ex_al oq_X12_lawLine_86 gL128_0 ?_
        obtain ⟨x129, ax129, rx129, lx129, ux129⟩ := fi_knotsRead Th127
        refine ex_gf oq_X12_lawLine_87 Th127 (k := 111) (d := 12) rfl rfl ax129 ?_
        refine ex_iw1 oq_X12_lawLine_90 Th127 (k := 116) (d := 55) (j := 4 + (zw t n (zx t n p) - 5).toNat) rfl rfl (by omega) (by omega) ⟨by omega, by omega⟩ (fun h130 Th130 wh130 => ?_)
        have Fh130 : cw_Fr cw_Ds cw_sh mk_ll h0 h130 := cw_Fr_tr Fh127 (cw_Fr_wrr wh130 (k := 116) (d := 55) rfl rfl (by decide +kernel))
        have Kh130 := zFK_wr (k := 116) wh130 ((by show 4 ≤ _; omega)) Kh127
        refine ex_il oq_X12_lawLine_91 gL128_2 ?_
        have hx01 : 0 ≤ x126.toInt ∧ x126.toInt ≤ 1 := by rcases dx126 with ⟨v, q, e1, e2, e3, _⟩ | ⟨f, a, e1, e2, _⟩ <;> omega
        have hlw : ∀ i, ri_at h130 117 i = ri_at h122 117 i := fun i => ((ri_ne wh130 (.inl (by decide))).trans ((ri_frr Ch127 (k := 117) (d := 56) rfl rfl (by decide +kernel)).trans ((ri_ne wh125 (.inl (by decide))).trans (ri_frr Ch123 (k := 117) (d := 56) rfl rfl (by decide +kernel)))))
        have hl0 : ∀ i, ri_at h101 117 i = ri_at h0 117 i := fun i => (ri_frr Ch101 (k := 117) (d := 56) rfl rfl (by decide +kernel))
        refine ex_retb oq_X12_lawLine_92 rfl hx01.1 hx01.2 (hQ x126 h130 Th130 Fh130 Kh130 ?_)
        rcases dx126 with ⟨v, q, e1, e2, e3, e4, e5, e6, e7⟩ | ⟨f, a, e1, e2, e3, e4, e5⟩
        · exact .inl ⟨_, _, (by unfold zll; rw [if_pos (by omega), if_pos (by rw [hlt _ (by omega)]; omega), zb2_r e1]), e2, e3, zR_wr wh130 e4 (.inl (by decide)), (ri_ne wh130 (.inl (by decide))).trans (e5.trans fa4), (ri_ne wh130 (.inl (by decide))).trans (e6.trans fa5), (ri_ne wh130 (.inl (by decide))).trans e7.1, (ri_ne wh130 (.inl (by decide))).trans e7.2.1, fun i hi => lt_set (i := i) hi wh122 hl0 hlw hlt (by omega) (by omega), ⟨zKV_eq e7.2.2.1.1 (fun j _ => ⟨(ri_ne wh130 (.inl (by decide))), (ri_ne wh130 (.inl (by decide))), (ri_ne wh130 (.inl (by decide)))⟩), by have := e7.2.2.1.2.2.2; have := e7.1; omega, (((ri_ne wh130 (.inl (by decide))).trans ((ri_frr Ch127 (k := 115) (d := 54) rfl rfl (by decide +kernel)).trans (ri_self wh125)))).trans (by omega), ((ri_self wh130)).trans (by have := e7.1; omega), fun i hi => ⟨((ri_ne wh130 (.inl (by decide))).trans ((ri_frr Ch127 (k := 115) (d := 54) rfl rfl (by decide +kernel)).trans ((ri_ne wh125 (.inr (by omega))).trans ((ri_frr Ch123 (k := 115) (d := 54) rfl rfl (by decide +kernel)).trans ((ri_ne wh122 (.inl (by decide))).trans (ri_frr Ch101 (k := 115) (d := 54) rfl rfl (by decide +kernel))))))), ((ri_ne wh130 (.inr (by omega))).trans ((ri_frr Ch127 (k := 116) (d := 55) rfl rfl (by decide +kernel)).trans ((ri_ne wh125 (.inl (by decide))).trans ((ri_frr Ch123 (k := 116) (d := 55) rfl rfl (by decide +kernel)).trans ((ri_ne wh122 (.inl (by decide))).trans (ri_frr Ch101 (k := 116) (d := 55) rfl rfl (by decide +kernel)))))))⟩, e7.2.2.2⟩⟩
        · exact .inr ⟨_, _, (by unfold zll; rw [if_pos (by omega), if_pos (by rw [hlt _ (by omega)]; omega), zb2_l e1]), e2, (ri_ne wh130 (.inl (by decide))).trans e3, (ri_ne wh130 (.inl (by decide))).trans e4, e5⟩
      · replace c120 : ¬ x119.toInt = 0 := by omega
        refine ex_al oq_X12_lawLine_49 gL118_0 ?_
        refine ex_ic oq_X12_lawLine_50 (m := 3) (by decide) (fun x131 hx131 => ?_)
        refine ex_cv oq_X12_lawLine_51 (by decide) Th101 (k := 111) (d := 12) (as := [cv_i x131]) (stk := []) rfl rfl rfl rfl rfl rfl ⟨rfl, rfl⟩ (R := fun o => ∃ (x : Int32) (hb : cv_H), o = (some (cv_i x), hb) ∧ cw_T G hb ∧ cw_Fr cw_Ds cw_sh kk_X12_wrong.2.2.2.2.2.1 h101 hb ∧ x.toInt = 0 ∧ ri_at hb 111 4 = x131.toInt ∧ ri_at hb 111 5 = ri_at h101 111 10) (rt_wrong Th101 x131 (fun x hb b1 b2 b3 b4 b5 => ⟨x, hb, rfl, b1, b2, b3, b4, b5⟩)) (fun o ho => ?_)
        obtain ⟨x132, h133, rfl, Th133, Ch133, zh133, fh133, ph133⟩ := ho
        show cw_X _ _ _ _ _ [cv_i x132] h133
        have Fh133 : cw_Fr cw_Ds cw_sh mk_ll h0 h133 := cw_Fr_tr Fh101 (cw_Fr_mono (by decide +kernel) Ch133)
        have Kh133 := zFK_fr Ch133 (by decide +kernel) Kh101
        exact ex_retb oq_X12_lawLine_54 rfl (by omega) (by omega) (hQ x132 h133 Th133 Fh133 Kh133 (.inr ⟨_, _, (by unfold zll; rw [if_pos (by omega), if_neg (by rw [hlt _ (by omega)]; omega)]), by omega, by omega, by omega, by decide⟩))
    · replace c112 : x111.toInt = 0 := by omega
      replace dx111 := isin_n dx111 c112
      refine ex_al oq_X12_lawLine_25 rfl ?_
      refine ex_ic oq_X12_lawLine_26 (m := 1) (by decide) (fun x134 hx134 => ?_)
      refine ex_cv oq_X12_lawLine_27 (by decide) Th101 (k := 111) (d := 12) (as := [cv_i x134]) (stk := []) rfl rfl rfl rfl rfl rfl ⟨rfl, rfl⟩ (R := fun o => ∃ (x : Int32) (hb : cv_H), o = (some (cv_i x), hb) ∧ cw_T G hb ∧ cw_Fr cw_Ds cw_sh kk_X12_wrong.2.2.2.2.2.1 h101 hb ∧ x.toInt = 0 ∧ ri_at hb 111 4 = x134.toInt ∧ ri_at hb 111 5 = ri_at h101 111 10) (rt_wrong Th101 x134 (fun x hb b1 b2 b3 b4 b5 => ⟨x, hb, rfl, b1, b2, b3, b4, b5⟩)) (fun o ho => ?_)
      obtain ⟨x135, h136, rfl, Th136, Ch136, zh136, fh136, ph136⟩ := ho
      show cw_X _ _ _ _ _ [cv_i x135] h136
      have Fh136 : cw_Fr cw_Ds cw_sh mk_ll h0 h136 := cw_Fr_tr Fh101 (cw_Fr_mono (by decide +kernel) Ch136)
      have Kh136 := zFK_fr Ch136 (by decide +kernel) Kh101
      exact ex_retb oq_X12_lawLine_30 rfl (by omega) (by omega) (hQ x135 h136 Th136 Fh136 Kh136 (.inr ⟨_, _, (by unfold zll; rw [if_neg (by omega)]), by omega, by omega, by omega, by decide⟩))
end TZ
