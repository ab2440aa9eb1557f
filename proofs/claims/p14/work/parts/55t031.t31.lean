/-! ===== a formula, a law: the class ===== -/
def mk_fi : Nat := 0x10000000000000000000000000000000000000000000000000000000000000000000000000000000000000000000000000000000000000000000000000000000000000000000000000000000000000000000000000000000000000000000000000000000000000000000000000000000000000000000000000000000000000000000100000000000000000000000000000000000000000000000000000000000000000000000000000000000000000000000000000000000000000000000000000000000000000000000000000000000000000000000000000000000000000000000000000078000000000000000000000000000000000000000c0000000000000000000000000000000000000000000000000000000000000000000000000000007c
/-- a formula as the class ends it: at the first word that is no sign -/
def zfc (t : Nat → Int) (n : Nat) : Nat → List Int → Int → Int → Int → Nat → (Int × Nat) ⊕ (Int × Nat)
  | 0, _, kn, _, _, p => .inr (kn, p)
  | u + 1, st, kn, w, m, p => if zsk (zk t n p) (zw t n p) = 0 ∧ w = 0 ∧ zc0 st = 0 then .inr (kn, p) else
    zb2 (if w = 1 then zlf t n st kn m p else zsg t n st kn m p) fun s q => zfc t n u s.1 s.2.1 s.2.2.1 s.2.2.2 q
theorem zfc_s {t : Nat → Int} {n u : Nat} {st : List Int} {kn w m : Int} {p : Nat} : zfc t n (u + 1) st kn w m p = if zsk (zk t n p) (zw t n p) = 0 ∧ w = 0 ∧ zc0 st = 0 then .inr (kn, p) else
    zb2 (if w = 1 then zlf t n st kn m p else zsg t n st kn m p) fun s q => zfc t n u s.1 s.2.1 s.2.2.1 s.2.2.2 q := rfl
theorem zc0_p : ∀ st : List Int, 0 ≤ zc0 st
  | [] => Int.le_refl 0
  | a :: st => by
    have := zc0_p st
    unfold zc0
    split <;> omega
theorem zfc_fm {t : Nat → Int} {n : Nat} {β : Type} {R : Int → Nat → (Int × Nat) ⊕ β} : ∀ (u : Nat) (st : List Int) (kn w m : Int) (p : Nat), 0 ≤ zc0 st → (zb2 (zfm t n u st kn w m p) fun k q => if zk t n q = 4 ∧ zw t n q = 59 then R k q else .inl (1, za t n q)) = zb2 (zfc t n u st kn w m p) fun k q => if zk t n q = 4 ∧ zw t n q = 59 then R k q else .inl (1, za t n q)
  | 0, st, kn, w, m, p, _ => rfl
  | u + 1, st, kn, w, m, p, h0 => by
    rw [zfm_s, zfc_s]
    by_cases c1 : (zk t n p = 4 ∧ zw t n p = 59) ∧ w = 0 ∧ zc0 st = 0
    · have z0 : zsk (zk t n p) (zw t n p) = 0 := by
        unfold zsk
        rw [if_neg (by omega), if_neg (by omega), if_neg (by omega), if_neg (by omega), if_neg (by omega), if_neg (by omega), if_neg (by omega)]
      rw [if_pos c1, if_pos ⟨z0, c1.2⟩]
    · rw [if_neg c1]
      by_cases c2 : zsk (zk t n p) (zw t n p) = 0 ∧ w = 0 ∧ zc0 st = 0
      · rw [if_pos c2, if_neg (by omega)]
        have e : zsg t n st kn m p = .inl (1, za t n p) := by
          unfold zsg
          rw [if_neg (by omega), if_pos c2.1]
        rw [e, zb2_l rfl, zb2_l rfl, zb2_r rfl, if_neg (fun q => c1 ⟨q, c2.2⟩)]
      · rw [if_neg c2]
        have ho : ∀ s q, (if w = 1 then zlf t n st kn m p else zsg t n st kn m p) = .inr (s, q) → 0 ≤ zc0 s.1 := fun s q e => zc0_p s.1
        cases e : (if w = 1 then zlf t n st kn m p else zsg t n st kn m p) with
        | inl x => rfl
        | inr x =>
          obtain ⟨s, q⟩ := x
          exact zfc_fm u _ _ _ _ _ (ho s q e)
theorem zlf_k {t : Nat → Int} {n p : Nat} {st : List Int} {kn m : Int} {s : zF4} {q : Nat} (e : zlf t n st kn m p = .inr (s, q)) : kn ≤ s.2.1 ∧ (s.2.2.1 = 0 → kn < s.2.1) := by
  unfold zlf at e
  (repeat' split at e) <;> cases e <;> dsimp only <;> omega
theorem zsg_k {t : Nat → Int} {n p : Nat} {st : List Int} {kn m : Int} {s : zF4} {q : Nat} (e : zsg t n st kn m p = .inr (s, q)) : kn ≤ s.2.1 := by
  unfold zsg at e
  by_cases c1 : (zk t n p = 4 ∧ zw t n p = 41) ∧ 0 < zc0 st
  · rw [if_pos c1] at e; cases e; exact Int.le_refl _
  · rw [if_neg c1] at e
    have e := ifl (ifl (ifl e))
    cases e
    dsimp only
    omega
theorem zlf_w {t : Nat → Int} {n p : Nat} {st : List Int} {kn m : Int} {s : zF4} {q : Nat} (e : zlf t n st kn m p = .inr (s, q)) : s.2.2.1 = 0 ∨ s.2.2.1 = 1 := by
  unfold zlf at e
  (repeat' split at e) <;> cases e <;> dsimp only <;> omega
theorem zfc_k {t : Nat → Int} {n : Nat} : ∀ (u : Nat) (st : List Int) (kn w m : Int) (p : Nat) (k : Int) (q : Nat), n < u + p → p ≤ n → zfc t n u st kn w m p = .inr (k, q) → kn ≤ k ∧ (w = 1 → kn < k)
  | 0, st, kn, w, m, p, k, q, h1, h2, e => by omega
  | u + 1, st, kn, w, m, p, k, q, h1, h2, e => by
    rw [zfc_s] at e
    by_cases c : zsk (zk t n p) (zw t n p) = 0 ∧ w = 0 ∧ zc0 st = 0
    · rw [if_pos c] at e
      cases e
      omega
    · rw [if_neg c] at e
      obtain ⟨s, q1, e1, e2⟩ := zb2_e e
      by_cases w1 : w = 1
      · rw [if_pos w1] at e1
        have a1 := zlf_k e1
        have a2 := zlf_ge h2 e1
        have a3 := zfc_k u _ _ _ _ _ _ _ (by omega) a2.2 e2
        by_cases s0 : s.2.2.1 = 1
        · exact ⟨by omega, fun _ => by have := a3.2 s0; omega⟩
        · refine ⟨by omega, fun _ => ?_⟩
          have := zlf_w e1
          omega
      · rw [if_neg w1] at e1
        have a1 := zsg_k e1
        have a2 := zsg_ge h2 e1
        have a3 := zfc_k u _ _ _ _ _ _ _ (by omega) a2.2 e2
        exact ⟨by omega, fun q => absurd q w1⟩
def zFx (t : Nat → Int) (n b : Nat) (E : (Int × Nat) ⊕ (Int × Nat)) (x : Int) (h : cv_H) : Prop := (∃ k q, E = .inr (k, q) ∧ x = 0 ∧ zCs t n (.inr q) h ∧ ri_at h b 2 = k ∧ ri_at h b 3 = k ∧ k ≤ 64) ∨ (∃ c q, E = .inl (c, za t n q) ∧ x = c ∧ 1 ≤ c ∧ zCs t n (.inr q) h)
theorem zFC_fr {b m : Nat} {h h' : cv_H} {st : List Int} {kn w m' : Int} (hb4 : cw_sh[b]? = some 4) (C : cw_Fr cw_Ds cw_sh m h h') (q : (!cw_bit m 0 2 && !cw_bit m 0 3 && !cw_bit m 0 5 && !cw_bit m 0 6 && !cw_bit m 4 2 && !cw_bit m 4 3 && !(cw_bit m 16 0 || cw_bit m 16 1)) = true) (hF : zFC b h st kn w m') : zFC b h' st kn w m' := by
  simp only [Bool.and_eq_true, Bool.not_eq_true'] at q
  obtain ⟨⟨⟨⟨⟨⟨q1, q2⟩, q3⟩, q4⟩, q5⟩, q6⟩, q7⟩ := q
  obtain ⟨a1, a2, a3, a4, a5, a6, a7, a8, a9, a10, a11⟩ := hF
  refine ⟨a1, zrow_eq a2 (fun i => ri_frr C (k := 54) (d := 16) rfl rfl q7), ?_, ?_, ?_, ?_, ?_, ?_, ?_, a10, a11⟩
  · rw [ri_frf C (k := 53) (d := 0) rfl rfl q1]; exact a3
  · rw [ri_frf C (k := 53) (d := 0) rfl rfl q2]; exact a4
  · rw [ri_frf C (k := 53) (d := 0) rfl rfl q3]; exact a5
  · rw [ri_frf C (k := 53) (d := 0) rfl rfl q4]; exact a6
  · rw [ri_frf C (k := b) (d := 4) hb4 rfl q5]; exact a7
  · rw [ri_frf C (k := b) (d := 4) hb4 rfl q6]; exact a8
  · rw [ri_frf C (k := b) (d := 4) hb4 rfl q5]; exact a9
section TZ
variable {G : Int} {X : cv_X} {Q : cv_O → Prop} {t : Nat → Int}
theorem oq_X0_readInto_0 : cw_ho 1 0 (.aload_n 0) 1 0 0 0 := rfl
theorem oq_X0_readInto_1 : cw_ho 1 1 (.aload_n 1) 1 0 0 0 := rfl
theorem oq_X0_readInto_2 : cw_ho 1 2 (.putfield 19) 3 0 7 4 := rfl
theorem oq_X0_readInto_5 : cw_ho 1 5 (.aload_n 0) 1 0 0 0 := rfl
theorem oq_X0_readInto_6 : cw_ho 1 6 (.iconst 0) 1 0 0 0 := rfl
theorem oq_X0_readInto_7 : cw_ho 1 7 (.putfield 23) 3 0 2 0 := rfl
theorem oq_X0_readInto_10 : cw_ho 1 10 (.aload_n 0) 1 0 0 0 := rfl
theorem oq_X0_readInto_11 : cw_ho 1 11 (.iconst 0) 1 0 0 0 := rfl
theorem oq_X0_readInto_12 : cw_ho 1 12 (.putfield 27) 3 0 3 0 := rfl
theorem oq_X0_readInto_15 : cw_ho 1 15 (.aload_n 0) 1 0 0 0 := rfl
theorem oq_X0_readInto_16 : cw_ho 1 16 (.iconst 0) 1 0 0 0 := rfl
theorem oq_X0_readInto_17 : cw_ho 1 17 (.putfield 30) 3 0 4 0 := rfl
theorem oq_X0_readInto_20 : cw_ho 1 20 (.aload_n 0) 1 0 0 0 := rfl
theorem oq_X0_readInto_21 : cw_ho 1 21 (.iconst 1) 1 0 0 0 := rfl
theorem oq_X0_readInto_22 : cw_ho 1 22 (.putfield 33) 3 0 5 2 := rfl
theorem oq_X0_readInto_25 : cw_ho 1 25 (.aload_n 0) 1 0 0 0 := rfl
theorem oq_X0_readInto_26 : cw_ho 1 26 (.iconst 1) 1 0 0 0 := rfl
theorem oq_X0_readInto_27 : cw_ho 1 27 (.putfield 37) 3 0 6 2 := rfl
theorem oq_X0_readInto_30 : cw_ho 1 30 (.iconst 0) 1 0 0 0 := rfl
theorem oq_X0_readInto_31 : cw_ho 1 31 (.istore_n 2) 1 0 0 0 := rfl
theorem oq_X0_readInto_32 : cw_ho 1 32 (.iload_n 2) 1 0 0 0 := rfl
theorem oq_X0_readInto_33 : cw_ho 1 33 (.sipush 900) 3 0 0 0 := rfl
theorem oq_X0_readInto_36 : cw_ho 1 36 (.if_icmp .gt 70) 3 0 0 0 := rfl
theorem oq_X0_readInto_39 : cw_ho 1 39 (.aload_n 0) 1 0 0 0 := rfl
theorem oq_X0_readInto_40 : cw_ho 1 40 (.getfield 33) 3 0 5 2 := rfl
theorem oq_X0_readInto_43 : cw_ho 1 43 (.ifCond .ne 25) 3 0 0 0 := rfl
theorem oq_X0_readInto_46 : cw_ho 1 46 (.aload_n 0) 1 0 0 0 := rfl
theorem oq_X0_readInto_47 : cw_ho 1 47 (.getfield 27) 3 0 3 0 := rfl
theorem oq_X0_readInto_50 : cw_ho 1 50 (.ifCond .ne 18) 3 0 0 0 := rfl
theorem oq_X0_readInto_53 : cw_ho 1 53 (.aload_n 0) 1 0 0 0 := rfl
theorem oq_X0_readInto_54 : cw_ho 1 54 (.invokevirtual 40) 3 7 0 0 := rfl
theorem oq_X0_readInto_57 : cw_ho 1 57 (.iconst (-1)) 1 0 0 0 := rfl
theorem oq_X0_readInto_58 : cw_ho 1 58 (.if_icmp .ne 10) 3 0 0 0 := rfl
theorem oq_X0_readInto_61 : cw_ho 1 61 (.aload_n 0) 1 0 0 0 := rfl
theorem oq_X0_readInto_62 : cw_ho 1 62 (.iconst 0) 1 0 0 0 := rfl
theorem oq_X0_readInto_63 : cw_ho 1 63 (.invokevirtual 44) 3 12 1 0 := rfl
theorem oq_X0_readInto_66 : cw_ho 1 66 (.iconst 0) 1 0 0 0 := rfl
theorem oq_X0_readInto_67 : cw_ho 1 67 (.ireturn) 1 0 0 0 := rfl
theorem oq_X0_readInto_68 : cw_ho 1 68 (.aload_n 0) 1 0 0 0 := rfl
theorem oq_X0_readInto_69 : cw_ho 1 69 (.getfield 33) 3 0 5 2 := rfl
theorem oq_X0_readInto_72 : cw_ho 1 72 (.ifCond .eq 10) 3 0 0 0 := rfl
theorem oq_X0_readInto_75 : cw_ho 1 75 (.aload_n 0) 1 0 0 0 := rfl
theorem oq_X0_readInto_76 : cw_ho 1 76 (.invokevirtual 48) 3 2 0 0 := rfl
theorem oq_X0_readInto_79 : cw_ho 1 79 (.goto 7) 3 0 0 0 := rfl
theorem oq_X0_readInto_82 : cw_ho 1 82 (.aload_n 0) 1 0 0 0 := rfl
theorem oq_X0_readInto_83 : cw_ho 1 83 (.invokevirtual 51) 3 6 0 0 := rfl
theorem oq_X0_readInto_86 : cw_ho 1 86 (.istore_n 3) 1 0 0 0 := rfl
theorem oq_X0_readInto_87 : cw_ho 1 87 (.iload_n 3) 1 0 0 0 := rfl
theorem oq_X0_readInto_88 : cw_ho 1 88 (.ifCond .eq 5) 3 0 0 0 := rfl
theorem oq_X0_readInto_91 : cw_ho 1 91 (.iload_n 3) 1 0 0 0 := rfl
theorem oq_X0_readInto_92 : cw_ho 1 92 (.ireturn) 1 0 0 0 := rfl
theorem oq_X0_readInto_93 : cw_ho 1 93 (.aload_n 0) 1 0 0 0 := rfl
theorem oq_X0_readInto_94 : cw_ho 1 94 (.getfield 15) 3 0 0 4 := rfl
theorem oq_X0_readInto_97 : cw_ho 1 97 (.invokevirtual 54) 3 78 0 6 := rfl
theorem oq_X0_readInto_100 : cw_ho 1 100 (.iinc 2 1) 3 0 0 0 := rfl
theorem oq_X0_readInto_103 : cw_ho 1 103 (.goto (-71)) 3 0 0 0 := rfl
set_option maxHeartbeats 8000000 in
theorem ri_lp {h0 : cv_H} {n : Nat} (ht : ∀ i, t i = ri_at h0 1 i % 256) (hwd : ∀ i, i < 34 → ri_at h0 52 i = tz_wc.getD i 0) (hn9 : n ≤ 900)  {b : Nat} (hb4 : cw_sh[b]? = some 4) (hp7 : cw_at h0 53 7 = some (cv_r b)) {E : (Int × Nat) ⊕ (Int × Nat)} (hQ : ∀ (x : Int32) h', cw_T G h' → cw_Fr cw_Ds cw_sh mk_fi h0 h' → zFx t n b (E) x.toInt h' → Q (some (cv_i x), h')) :
    ∀ (u i : Nat) (L : cv_L) (I : Int32) (st : List Int) (kn w m : Int) (p : Nat) (h : cv_H), i + u = 901 → cw_T G h → cw_Fr cw_Ds cw_sh mk_fi h0 h → zCs t n (.inr p) h → zFC b h st kn w m → n < u + p → zfc t n u st kn w m p = E → I.toInt = i → cv_get L 0 = some (cv_r 53) → cv_get L 2 = some (cv_i I) → cw_X X 1 Q 32 L [] h := by
  have Fh0 : cw_Fr cw_Ds cw_sh mk_fi h0 h0 := cw_Fr_refl
  have hP7 : ∀ h, cw_Fr cw_Ds cw_sh mk_fi h0 h → cw_at h 53 7 = some (cv_r b) := fun h F => (F.2 53 0 7 rfl (by decide +kernel)).trans hp7
  have hA : ∀ h, cw_Fr cw_Ds cw_sh mk_fi h0 h → ∀ i, ri_at h 1 i = ri_at h0 1 i := fun h F i => ri_frr F (k := 1) (d := 13) rfl rfl (by decide +kernel)
  have hB : ∀ h, cw_Fr cw_Ds cw_sh mk_fi h0 h → ∀ i, ri_at h 52 i = ri_at h0 52 i := fun h F i => ri_frr F (k := 52) (d := 43) rfl rfl (by decide +kernel)
  intro u
  induction u with
  | zero =>
    intro i L I st kn w m p h hiu hT Fh hS hF hnp hE hI g0 g2
    have := hS.1
    exfalso
    omega
  | succ u ih =>
    intro i L I st kn w m p h hiu hT Fh hS hF hnp hE hI g0 g2
    have hpn := hS.1
    have hm01 : 0 ≤ m ∧ m ≤ 1 := by
      obtain ⟨x, -, r1, r2, r3⟩ := ri_fld (k := 53) (d := 0) (f := 6) hT rfl rfl rfl
      have := hF.2.2.2.2.2.1
      dsimp only at r2 r3
      omega
    have hw01 : w = 0 ∨ w = 1 := by
      obtain ⟨x, -, r1, r2, r3⟩ := ri_fld (k := 53) (d := 0) (f := 5) hT rfl rfl rfl
      have := hF.2.2.2.2.1
      dsimp only at r2 r3
      omega
    rcases hw01 with hw0 | hw1
    · subst hw0
      obtain ⟨ho, hrw, hhc, hop, hwv, hmn, hco, hkn, hc0, hk64, hb8⟩ := id hF
      have hzl := zc_len ho
      refine ex_il oq_X0_readInto_32 g2 ?_
      refine ex_si oq_X0_readInto_33 (m := 900) (by decide) (fun x301 hx301 => ?_)
      refine ex_if oq_X0_readInto_36 (t := 106) rfl rfl (fun (c302 : x301.toInt < I.toInt) => ?_) (fun (c302 : ¬ (x301.toInt < I.toInt)) => ?_)
      · exfalso; omega
      · refine ex_al oq_X0_readInto_39 g0 ?_
        obtain ⟨x303, ax303, rx303, lx303, ux303⟩ := ri_fld (k := 53) (d := 0) (f := 5) hT rfl rfl rfl
        try dsimp only at lx303 ux303
        refine ex_gf oq_X0_readInto_40 hT (k := 53) (d := 0) rfl rfl ax303 ?_
        have rx303 := (rx303.symm.trans hwv : x303.toInt = (0 : Int))
        refine ex_if0 oq_X0_readInto_43 (t := 68) rfl rfl (fun (c304 : ¬ x303.toInt = 0) => ?_) (fun (c304 : ¬ (¬ x303.toInt = 0)) => ?_)
        · exfalso; omega
        · refine ex_al oq_X0_readInto_46 g0 ?_
          obtain ⟨x305, ax305, rx305, lx305, ux305⟩ := ri_fld (k := 53) (d := 0) (f := 3) hT rfl rfl rfl
          try dsimp only at lx305 ux305
          refine ex_gf oq_X0_readInto_47 hT (k := 53) (d := 0) rfl rfl ax305 ?_
          clear lx305 ux305
          have rx305 := (rx305.symm.trans hop : x305.toInt = zc0 st)
          refine ex_if0 oq_X0_readInto_50 (t := 68) rfl rfl (fun (c306 : ¬ x305.toInt = 0) => ?_) (fun (c306 : ¬ (¬ x305.toInt = 0)) => ?_)
          · refine ex_al oq_X0_readInto_68 g0 ?_
            obtain ⟨x307, ax307, rx307, lx307, ux307⟩ := ri_fld (k := 53) (d := 0) (f := 5) hT rfl rfl rfl
            try dsimp only at lx307 ux307
            refine ex_gf oq_X0_readInto_69 hT (k := 53) (d := 0) rfl rfl ax307 ?_
            have rx307 := (rx307.symm.trans hwv : x307.toInt = (0 : Int))
            refine ex_if0 oq_X0_readInto_72 (t := 82) rfl rfl (fun (c308 : x307.toInt = 0) => ?_) (fun (c308 : ¬ (x307.toInt = 0)) => ?_)
            · refine ex_al oq_X0_readInto_82 g0 ?_
              refine ex_cv oq_X0_readInto_83 (by decide) hT (k := 53) (d := 0) (as := []) (stk := []) rfl rfl rfl rfl rfl rfl ⟨rfl, rfl⟩ (R := fun o => ∃ (x : Int32) (hb : cv_H), o = (some (cv_i x), hb) ∧ cw_T G hb ∧ cw_Fr cw_Ds cw_sh kk_X0_readJoint.2.2.2.2.2.1 h hb ∧ zCs t n (.inr p) hb ∧ zFe t n p (zsg t n st kn m p) x.toInt (fun s => zFC b hb s.1 s.2.1 s.2.2.1 s.2.2.2)) (ct_readJoint (t := t) (n := n) hb4 (hP7 _ Fh) hT hS hF (fun x hb b1 b2 b3 b4 => ⟨x, hb, rfl, b1, b2, b3, b4⟩)) (fun o ho => ?_)
              obtain ⟨x309, h310, rfl, Th310, Ch310, Sh310, dx309⟩ := ho
              show cw_X _ _ _ _ _ [cv_i x309] h310
              have Fh310 : cw_Fr cw_Ds cw_sh mk_fi h0 h310 := cw_Fr_tr Fh (cw_Fr_mono (by decide +kernel) Ch310)
              refine ex_isA oq_X0_readInto_86 (fun L311 gL311_3 kL311 => ?_)
              have gL311_0 : cv_get L311 0 = some (cv_r 53) := kL311 0 _ (by decide) (fun q => absurd q (by decide)) g0
              have gL311_2 : cv_get L311 2 = some (cv_i I) := kL311 2 _ (by decide) (fun _ => rfl) g2
              refine ex_il oq_X0_readInto_87 gL311_3 ?_
              refine ex_if0 oq_X0_readInto_88 (t := 93) rfl rfl (fun (c312 : x309.toInt = 0) => ?_) (fun (c312 : ¬ (x309.toInt = 0)) => ?_)
              · refine ex_al oq_X0_readInto_93 gL311_0 ?_
                refine ex_gf oq_X0_readInto_94 Th310 (k := 53) (d := 0) rfl rfl (ri_ref (k := 53) (k' := 51) (d := 0) (f := 0) Th310 rfl rfl rfl (by decide) (ri_uniq (by decide +kernel))) ?_
                refine ex_cv oq_X0_readInto_97 (by decide) Th310 (k := 51) (d := 6) (as := []) (stk := []) rfl rfl rfl rfl rfl rfl ⟨rfl, rfl⟩ (R := fun o => ∃ hb : cv_H, o = (none, hb) ∧ cw_T G hb ∧ cw_Fr cw_Ds cw_sh kk_X6_step.2.2.2.2.2.1 h310 hb ∧ zCs t n (.inr (zx t n p)) hb) (ct_stepC (t := t) (n := n) (p := p) (fun i => by rw [ht, ← hA _ Fh310]) (fun i hi => by rw [hB _ Fh310]; exact hwd i hi) hn9 Th310 Sh310 (fun hb b1 b2 b3 => ⟨hb, rfl, b1, b2, b3⟩)) (fun o ho => ?_)
                obtain ⟨h313, rfl, Th313, Ch313, Sh313⟩ := ho
                show cw_X _ _ _ _ _ [] h313
                have Fh313 : cw_Fr cw_Ds cw_sh mk_fi h0 h313 := cw_Fr_tr Fh310 (cw_Fr_mono (by decide +kernel) Ch313)
                have eh313_53_5 : ri_at h313 53 5 = ri_at h310 53 5 := ri_frf Ch313 (k := 53) (d := 0) rfl rfl (by decide +kernel)
                have eh313_53_3 : ri_at h313 53 3 = ri_at h310 53 3 := ri_frf Ch313 (k := 53) (d := 0) rfl rfl (by decide +kernel)
                obtain ⟨pnh313, yah313, ybh313, ych313, ydh313, yfh313⟩ := zCs_at Sh313
                obtain ⟨kch313, ykh313⟩ : ∃ k, ri_at h313 51 4 = k := ⟨_, rfl⟩
                obtain ⟨vch313, yvh313⟩ : ∃ k, ri_at h313 51 6 = k := ⟨_, rfl⟩
                rw [ykh313, yvh313] at ydh313
                replace ydh313 := zhd_i ydh313
                have zlh313 := zx_le (t := t) (n := n) (p := (zx t n p)) (by omega)
                refine ex_incA oq_X0_readInto_100 (v := I) (m := 1) gL311_2 (by decide) (by omega) (fun L315 x314 hx314 gL315_2 kL315 => ?_)
                have gL315_3 : cv_get L315 3 = some (cv_i x309) := kL315 3 _ (by decide) (fun q => absurd q (by decide)) gL311_3
                have gL315_0 : cv_get L315 0 = some (cv_r 53) := kL315 0 _ (by decide) (fun q => absurd q (by decide)) gL311_0
                refine ex_go oq_X0_readInto_103 (t := 32) rfl rfl ?_
                rcases dx309 with ⟨s, e1, e2, e3⟩ | ⟨c, e1, e2, e3⟩
                · rw [zfc_s, if_neg (fun e => by omega), if_neg (by decide), zb2_r e1] at hE
                  have hge := zsg_ge hS.1 e1
                  exact ih (i + 1) L315 x314 s.1 s.2.1 s.2.2.1 s.2.2.2 (zx t n p) h313 (by omega) Th313 Fh313 Sh313 (zFC_fr hb4 Ch313 (by decide +kernel) e3) (by omega) hE (by omega) gL315_0 gL315_2
                · exfalso; omega
              · refine ex_il oq_X0_readInto_91 gL311_3 ?_
                rcases dx309 with ⟨s, e1, e2, e3⟩ | ⟨c, e1, e2, e3⟩
                · exfalso; omega
                · rw [zfc_s, if_neg (fun e => by omega), if_neg (by decide), zb2_l e1] at hE
                  exact ex_reti oq_X0_readInto_92 rfl (hQ x309 h310 Th310 Fh310 (.inr ⟨c, p, hE.symm, by omega, e3, Sh310⟩))
            · exfalso; omega
          · refine ex_al oq_X0_readInto_53 g0 ?_
            obtain ⟨pnh, yah, ybh, ych, ydh, yfh⟩ := zCs_at hS
            obtain ⟨kch, ykh⟩ : ∃ k, ri_at h 51 4 = k := ⟨_, rfl⟩
            obtain ⟨vch, yvh⟩ : ∃ k, ri_at h 51 6 = k := ⟨_, rfl⟩
            rw [ykh, yvh] at ydh
            replace ydh := zhd_i ydh
            have zlh := zx_le (t := t) (n := n) (p := p) (by omega)
            refine ex_cv oq_X0_readInto_54 (by decide) hT (k := 53) (d := 0) (as := []) (stk := []) rfl rfl rfl rfl rfl rfl ⟨rfl, rfl⟩ (R := fun o => ∃ x : Int32, o = (some (cv_i x), h) ∧ x.toInt = zsv (zk t n p) (zw t n p)) (ct_signOf hT ykh yvh (show tz_rel _ _ _ _ from ydh) (fun x q => ⟨x, rfl, q⟩)) (fun o ho => ?_)
            obtain ⟨x316, rfl, qx316⟩ := ho
            show cw_X _ _ _ _ _ [cv_i x316] h
            refine ex_ic oq_X0_readInto_57 (m := (-1)) (by decide) (fun x317 hx317 => ?_)
            refine ex_if oq_X0_readInto_58 (t := 68) rfl rfl (fun (c318 : ¬ x316.toInt = x317.toInt) => ?_) (fun (c318 : ¬ (¬ x316.toInt = x317.toInt)) => ?_)
            · have hs0 : ¬ zsk (zk t n p) (zw t n p) = 0 := by intro q; unfold zsv at qx316; rw [if_pos q] at qx316; omega
              refine ex_al oq_X0_readInto_68 g0 ?_
              obtain ⟨x319, ax319, rx319, lx319, ux319⟩ := ri_fld (k := 53) (d := 0) (f := 5) hT rfl rfl rfl
              try dsimp only at lx319 ux319
              refine ex_gf oq_X0_readInto_69 hT (k := 53) (d := 0) rfl rfl ax319 ?_
              have rx319 := (rx319.symm.trans hwv : x319.toInt = (0 : Int))
              refine ex_if0 oq_X0_readInto_72 (t := 82) rfl rfl (fun (c320 : x319.toInt = 0) => ?_) (fun (c320 : ¬ (x319.toInt = 0)) => ?_)
              · refine ex_al oq_X0_readInto_82 g0 ?_
                refine ex_cv oq_X0_readInto_83 (by decide) hT (k := 53) (d := 0) (as := []) (stk := []) rfl rfl rfl rfl rfl rfl ⟨rfl, rfl⟩ (R := fun o => ∃ (x : Int32) (hb : cv_H), o = (some (cv_i x), hb) ∧ cw_T G hb ∧ cw_Fr cw_Ds cw_sh kk_X0_readJoint.2.2.2.2.2.1 h hb ∧ zCs t n (.inr p) hb ∧ zFe t n p (zsg t n st kn m p) x.toInt (fun s => zFC b hb s.1 s.2.1 s.2.2.1 s.2.2.2)) (ct_readJoint (t := t) (n := n) hb4 (hP7 _ Fh) hT hS hF (fun x hb b1 b2 b3 b4 => ⟨x, hb, rfl, b1, b2, b3, b4⟩)) (fun o ho => ?_)
                obtain ⟨x321, h322, rfl, Th322, Ch322, Sh322, dx321⟩ := ho
                show cw_X _ _ _ _ _ [cv_i x321] h322
                have Fh322 : cw_Fr cw_Ds cw_sh mk_fi h0 h322 := cw_Fr_tr Fh (cw_Fr_mono (by decide +kernel) Ch322)
                refine ex_isA oq_X0_readInto_86 (fun L323 gL323_3 kL323 => ?_)
                have gL323_0 : cv_get L323 0 = some (cv_r 53) := kL323 0 _ (by decide) (fun q => absurd q (by decide)) g0
                have gL323_2 : cv_get L323 2 = some (cv_i I) := kL323 2 _ (by decide) (fun _ => rfl) g2
                refine ex_il oq_X0_readInto_87 gL323_3 ?_
                refine ex_if0 oq_X0_readInto_88 (t := 93) rfl rfl (fun (c324 : x321.toInt = 0) => ?_) (fun (c324 : ¬ (x321.toInt = 0)) => ?_)
                · refine ex_al oq_X0_readInto_93 gL323_0 ?_
                  refine ex_gf oq_X0_readInto_94 Th322 (k := 53) (d := 0) rfl rfl (ri_ref (k := 53) (k' := 51) (d := 0) (f := 0) Th322 rfl rfl rfl (by decide) (ri_uniq (by decide +kernel))) ?_
                  refine ex_cv oq_X0_readInto_97 (by decide) Th322 (k := 51) (d := 6) (as := []) (stk := []) rfl rfl rfl rfl rfl rfl ⟨rfl, rfl⟩ (R := fun o => ∃ hb : cv_H, o = (none, hb) ∧ cw_T G hb ∧ cw_Fr cw_Ds cw_sh kk_X6_step.2.2.2.2.2.1 h322 hb ∧ zCs t n (.inr (zx t n p)) hb) (ct_stepC (t := t) (n := n) (p := p) (fun i => by rw [ht, ← hA _ Fh322]) (fun i hi => by rw [hB _ Fh322]; exact hwd i hi) hn9 Th322 Sh322 (fun hb b1 b2 b3 => ⟨hb, rfl, b1, b2, b3⟩)) (fun o ho => ?_)
                  obtain ⟨h325, rfl, Th325, Ch325, Sh325⟩ := ho
                  show cw_X _ _ _ _ _ [] h325
                  have Fh325 : cw_Fr cw_Ds cw_sh mk_fi h0 h325 := cw_Fr_tr Fh322 (cw_Fr_mono (by decide +kernel) Ch325)
                  have eh325_53_5 : ri_at h325 53 5 = ri_at h322 53 5 := ri_frf Ch325 (k := 53) (d := 0) rfl rfl (by decide +kernel)
                  have eh325_53_3 : ri_at h325 53 3 = ri_at h322 53 3 := ri_frf Ch325 (k := 53) (d := 0) rfl rfl (by decide +kernel)
                  clear yah ybh ych ykh yvh yfh
                  obtain ⟨pnh325, yah325, ybh325, ych325, ydh325, yfh325⟩ := zCs_at Sh325
                  obtain ⟨kch325, ykh325⟩ : ∃ k, ri_at h325 51 4 = k := ⟨_, rfl⟩
                  obtain ⟨vch325, yvh325⟩ : ∃ k, ri_at h325 51 6 = k := ⟨_, rfl⟩
                  rw [ykh325, yvh325] at ydh325
                  replace ydh325 := zhd_i ydh325
                  have zlh325 := zx_le (t := t) (n := n) (p := (zx t n p)) (by omega)
                  refine ex_incA oq_X0_readInto_100 (v := I) (m := 1) gL323_2 (by decide) (by omega) (fun L327 x326 hx326 gL327_2 kL327 => ?_)
                  have gL327_3 : cv_get L327 3 = some (cv_i x321) := kL327 3 _ (by decide) (fun q => absurd q (by decide)) gL323_3
                  have gL327_0 : cv_get L327 0 = some (cv_r 53) := kL327 0 _ (by decide) (fun q => absurd q (by decide)) gL323_0
                  refine ex_go oq_X0_readInto_103 (t := 32) rfl rfl ?_
                  rcases dx321 with ⟨s, e1, e2, e3⟩ | ⟨c, e1, e2, e3⟩
                  · rw [zfc_s, if_neg (fun e => hs0 e.1), if_neg (by decide), zb2_r e1] at hE
                    have hge := zsg_ge hS.1 e1
                    exact ih (i + 1) L327 x326 s.1 s.2.1 s.2.2.1 s.2.2.2 (zx t n p) h325 (by omega) Th325 Fh325 Sh325 (zFC_fr hb4 Ch325 (by decide +kernel) e3) (by omega) hE (by omega) gL327_0 gL327_2
                  · exfalso; omega
                · refine ex_il oq_X0_readInto_91 gL323_3 ?_
                  rcases dx321 with ⟨s, e1, e2, e3⟩ | ⟨c, e1, e2, e3⟩
                  · exfalso; omega
                  · rw [zfc_s, if_neg (fun e => hs0 e.1), if_neg (by decide), zb2_l e1] at hE
                    exact ex_reti oq_X0_readInto_92 rfl (hQ x321 h322 Th322 Fh322 (.inr ⟨c, p, hE.symm, by omega, e3, Sh322⟩))
              · exfalso; omega
            · refine ex_al oq_X0_readInto_61 g0 ?_
              refine ex_ic oq_X0_readInto_62 (m := 0) (by decide) (fun x328 hx328 => ?_)
              have hlh329 : (if x328.toInt = 0 then 1 else x328.toInt) = 1 := by split <;> omega
              refine ex_cv oq_X0_readInto_63 (by decide) hT (k := 53) (d := 0) (as := [cv_i x328]) (stk := []) rfl rfl rfl rfl rfl rfl ⟨rfl, rfl⟩ (R := fun o => ∃ hb : cv_H, o = (none, hb) ∧ cw_T G hb ∧ cw_Fr cw_Ds cw_sh kk_X0_release.2.2.2.2.2.1 h hb ∧ ri_at hb b 2 + zcb (zbi 1 st) + zcu (zbi 1 st) = kn) (ct_release hb4 (hP7 _ Fh) (R := x328) (kn := kn) (st := st) hT hk64 (by omega) ho hrw hhc hco hc0 (by omega) (fun hb b1 b2 b3 b4 b5 b6 => by rw [hlh329] at b5; exact ⟨hb, rfl, b1, b2, b5⟩)) (fun o hox => ?_)
              obtain ⟨h329, rfl, Th329, Ch329, sh329⟩ := hox
              show cw_X _ _ _ _ _ [] h329
              have Fh329 : cw_Fr cw_Ds cw_sh mk_fi h0 h329 := cw_Fr_tr Fh (cw_Fr_mono (by decide +kernel) Ch329)
              have Sh329 := zCs_fr Ch329 (by decide +kernel) hS
              have kh329 : ri_at h329 b 3 = kn := (ri_frf Ch329 (k := b) (d := 4) hb4 rfl (by decide +kernel)).trans hkn
              refine ex_ic oq_X0_readInto_66 (m := 0) (by decide) (fun x330 hx330 => ?_)
              have hs0 : zsk (zk t n p) (zw t n p) = 0 := by
                by_cases q : zsk (zk t n p) (zw t n p) = 0
                · exact q
                · exfalso; unfold zsv at qx316; rw [if_neg q] at qx316; have := zsi_p (a := zsk (zk t n p) (zw t n p)) (by have := zsk_ok (show tz_rel _ _ _ _ from ydh); omega); omega
              rw [zbi_e ho (by omega)] at sh329
              rw [zfc_s, if_pos ⟨hs0, by omega, by omega⟩] at hE
              have s2h329 : ri_at h329 b 2 = kn := by have e1 : zcb ([] : List Int) = 0 := rfl; have e2 : zcu ([] : List Int) = 0 := rfl; omega
              exact ex_reti oq_X0_readInto_67 rfl (hQ x330 h329 Th329 Fh329 (.inl ⟨kn, p, hE.symm, by omega, Sh329, s2h329, kh329, hk64⟩))
    · subst hw1
      obtain ⟨ho, hrw, hhc, hop, hwv, hmn, hco, hkn, hc0, hk64, hb8⟩ := id hF
      have hzl := zc_len ho
      refine ex_il oq_X0_readInto_32 g2 ?_
      refine ex_si oq_X0_readInto_33 (m := 900) (by decide) (fun x101 hx101 => ?_)
      refine ex_if oq_X0_readInto_36 (t := 106) rfl rfl (fun (c102 : x101.toInt < I.toInt) => ?_) (fun (c102 : ¬ (x101.toInt < I.toInt)) => ?_)
      · exfalso; omega
      · refine ex_al oq_X0_readInto_39 g0 ?_
        obtain ⟨x103, ax103, rx103, lx103, ux103⟩ := ri_fld (k := 53) (d := 0) (f := 5) hT rfl rfl rfl
        try dsimp only at lx103 ux103
        refine ex_gf oq_X0_readInto_40 hT (k := 53) (d := 0) rfl rfl ax103 ?_
        have rx103 := (rx103.symm.trans hwv : x103.toInt = (1 : Int))
        refine ex_if0 oq_X0_readInto_43 (t := 68) rfl rfl (fun (c104 : ¬ x103.toInt = 0) => ?_) (fun (c104 : ¬ (¬ x103.toInt = 0)) => ?_)
        · refine ex_al oq_X0_readInto_68 g0 ?_
          obtain ⟨x105, ax105, rx105, lx105, ux105⟩ := ri_fld (k := 53) (d := 0) (f := 5) hT rfl rfl rfl
          try dsimp only at lx105 ux105
          refine ex_gf oq_X0_readInto_69 hT (k := 53) (d := 0) rfl rfl ax105 ?_
          have rx105 := (rx105.symm.trans hwv : x105.toInt = (1 : Int))
          refine ex_if0 oq_X0_readInto_72 (t := 82) rfl rfl (fun (c106 : x105.toInt = 0) => ?_) (fun (c106 : ¬ (x105.toInt = 0)) => ?_)
          · exfalso; omega
          · refine ex_al oq_X0_readInto_75 g0 ?_
            refine ex_cv oq_X0_readInto_76 (by decide) hT (k := 53) (d := 0) (as := []) (stk := []) rfl rfl rfl rfl rfl rfl ⟨rfl, rfl⟩ (R := fun o => ∃ (x : Int32) (hb : cv_H), o = (some (cv_i x), hb) ∧ cw_T G hb ∧ cw_Fr cw_Ds cw_sh kk_X0_readValue.2.2.2.2.2.1 h hb ∧ zCs t n (.inr p) hb ∧ zFe t n p (zlf t n st kn m p) x.toInt (fun s => zFC b hb s.1 s.2.1 s.2.2.1 s.2.2.2)) (ct_readValue (t := t) (n := n) hb4 (hP7 _ Fh) hT hS hF hm01 (fun x hb b1 b2 b3 b4 => ⟨x, hb, rfl, b1, b2, b3, b4⟩)) (fun o ho => ?_)
            obtain ⟨x107, h108, rfl, Th108, Ch108, Sh108, dx107⟩ := ho
            show cw_X _ _ _ _ _ [cv_i x107] h108
            have Fh108 : cw_Fr cw_Ds cw_sh mk_fi h0 h108 := cw_Fr_tr Fh (cw_Fr_mono (by decide +kernel) Ch108)
            refine ex_go oq_X0_readInto_79 (t := 86) rfl rfl ?_
            refine ex_isA oq_X0_readInto_86 (fun L109 gL109_3 kL109 => ?_)
            have gL109_0 : cv_get L109 0 = some (cv_r 53) := kL109 0 _ (by decide) (fun q => absurd q (by decide)) g0
            have gL109_2 : cv_get L109 2 = some (cv_i I) := kL109 2 _ (by decide) (fun _ => rfl) g2
            refine ex_il oq_X0_readInto_87 gL109_3 ?_
            refine ex_if0 oq_X0_readInto_88 (t := 93) rfl rfl (fun (c110 : x107.toInt = 0) => ?_) (fun (c110 : ¬ (x107.toInt = 0)) => ?_)
            · refine ex_al oq_X0_readInto_93 gL109_0 ?_
              refine ex_gf oq_X0_readInto_94 Th108 (k := 53) (d := 0) rfl rfl (ri_ref (k := 53) (k' := 51) (d := 0) (f := 0) Th108 rfl rfl rfl (by decide) (ri_uniq (by decide +kernel))) ?_
              refine ex_cv oq_X0_readInto_97 (by decide) Th108 (k := 51) (d := 6) (as := []) (stk := []) rfl rfl rfl rfl rfl rfl ⟨rfl, rfl⟩ (R := fun o => ∃ hb : cv_H, o = (none, hb) ∧ cw_T G hb ∧ cw_Fr cw_Ds cw_sh kk_X6_step.2.2.2.2.2.1 h108 hb ∧ zCs t n (.inr (zx t n p)) hb) (ct_stepC (t := t) (n := n) (p := p) (fun i => by rw [ht, ← hA _ Fh108]) (fun i hi => by rw [hB _ Fh108]; exact hwd i hi) hn9 Th108 Sh108 (fun hb b1 b2 b3 => ⟨hb, rfl, b1, b2, b3⟩)) (fun o ho => ?_)
              obtain ⟨h111, rfl, Th111, Ch111, Sh111⟩ := ho
              show cw_X _ _ _ _ _ [] h111
              have Fh111 : cw_Fr cw_Ds cw_sh mk_fi h0 h111 := cw_Fr_tr Fh108 (cw_Fr_mono (by decide +kernel) Ch111)
              have eh111_53_5 : ri_at h111 53 5 = ri_at h108 53 5 := ri_frf Ch111 (k := 53) (d := 0) rfl rfl (by decide +kernel)
              have eh111_53_3 : ri_at h111 53 3 = ri_at h108 53 3 := ri_frf Ch111 (k := 53) (d := 0) rfl rfl (by decide +kernel)
              obtain ⟨pnh111, yah111, ybh111, ych111, ydh111, yfh111⟩ := zCs_at Sh111
              obtain ⟨kch111, ykh111⟩ : ∃ k, ri_at h111 51 4 = k := ⟨_, rfl⟩
              obtain ⟨vch111, yvh111⟩ : ∃ k, ri_at h111 51 6 = k := ⟨_, rfl⟩
              rw [ykh111, yvh111] at ydh111
              replace ydh111 := zhd_i ydh111
              have zlh111 := zx_le (t := t) (n := n) (p := (zx t n p)) (by omega)
              refine ex_incA oq_X0_readInto_100 (v := I) (m := 1) gL109_2 (by decide) (by omega) (fun L113 x112 hx112 gL113_2 kL113 => ?_)
              have gL113_3 : cv_get L113 3 = some (cv_i x107) := kL113 3 _ (by decide) (fun q => absurd q (by decide)) gL109_3
              have gL113_0 : cv_get L113 0 = some (cv_r 53) := kL113 0 _ (by decide) (fun q => absurd q (by decide)) gL109_0
              refine ex_go oq_X0_readInto_103 (t := 32) rfl rfl ?_
              rcases dx107 with ⟨s, e1, e2, e3⟩ | ⟨c, e1, e2, e3⟩
              · rw [zfc_s, if_neg (fun e => absurd e.2.1 (by decide)), if_pos rfl, zb2_r e1] at hE
                have hge := zlf_ge hS.1 e1
                exact ih (i + 1) L113 x112 s.1 s.2.1 s.2.2.1 s.2.2.2 (zx t n p) h111 (by omega) Th111 Fh111 Sh111 (zFC_fr hb4 Ch111 (by decide +kernel) e3) (by omega) hE (by omega) gL113_0 gL113_2
              · exfalso; omega
            · refine ex_il oq_X0_readInto_91 gL109_3 ?_
              rcases dx107 with ⟨s, e1, e2, e3⟩ | ⟨c, e1, e2, e3⟩
              · exfalso; omega
              · rw [zfc_s, if_neg (fun e => absurd e.2.1 (by decide)), if_pos rfl, zb2_l e1] at hE
                exact ex_reti oq_X0_readInto_92 rfl (hQ x107 h108 Th108 Fh108 (.inr ⟨c, p, hE.symm, by omega, e3, Sh108⟩))
        · exfalso; omega
theorem ct_readInto {h0 : cv_H} {n p : Nat} (ht : ∀ i, t i = ri_at h0 1 i % 256) (hwd : ∀ i, i < 34 → ri_at h0 52 i = tz_wc.getD i 0) (hn9 : n ≤ 900) (hT : cw_T G h0) {b : Nat} (hb4 : cw_sh[b]? = some 4) {kn : Int} (hS : zCs t n (.inr p) h0) (hco : ri_at h0 b 2 = kn) (hkn : ri_at h0 b 3 = kn) (hk0 : 0 ≤ kn) (hk64 : kn ≤ 64) (hQ : ∀ (x : Int32) h', cw_T G h' → cw_Fr cw_Ds cw_sh kk_X0_readInto.2.2.2.2.2.1 h0 h' → zFx t n b (zfc t n 901 [] kn 1 1 p) x.toInt h' → Q (some (cv_i x), h')) : cw_X X 1 Q 0 (cv_ent 0 [cv_r 53, cv_r b]) [] h0 := by
  have Fh0 : cw_Fr cw_Ds cw_sh kk_X0_readInto.2.2.2.2.2.1 h0 h0 := cw_Fr_refl
  refine ex_al oq_X0_readInto_0 rfl ?_
  refine ex_al oq_X0_readInto_1 rfl ?_
  refine ex_pfr oq_X0_readInto_2 hT (k := 53) (d := 0) (v := b) rfl rfl rfl (by decide) hb4 rfl (fun h501 Th501 wh501 => ?_)
  have Fh501 : cw_Fr cw_Ds cw_sh kk_X0_readInto.2.2.2.2.2.1 h0 h501 := cw_Fr_tr Fh0 (cw_Fr_wrf wh501 (k := 53) (d := 0) rfl rfl (by decide +kernel))
  have eh501_53_2 : ri_at h501 53 2 = ri_at h0 53 2 := ri_ne wh501 (.inr (by decide))
  have eh501_53_3 : ri_at h501 53 3 = ri_at h0 53 3 := ri_ne wh501 (.inr (by decide))
  have eh501_53_5 : ri_at h501 53 5 = ri_at h0 53 5 := ri_ne wh501 (.inr (by decide))
  have eh501_53_6 : ri_at h501 53 6 = ri_at h0 53 6 := ri_ne wh501 (.inr (by decide))
  have eh501_b_2 : ri_at h501 b 2 = kn := (ri_ne wh501 (.inl (cw_kne (k := b) (d := 4) (k' := 53) (d' := 0) hb4 rfl (by decide)))).trans hco
  have eh501_b_3 : ri_at h501 b 3 = kn := (ri_ne wh501 (.inl (cw_kne (k := b) (d := 4) (k' := 53) (d' := 0) hb4 rfl (by decide)))).trans hkn
  have Sh501 := zCs_wr (d := 0) (k := 53) wh501 rfl hS (.inl ⟨by decide, by decide⟩)
  refine ex_al oq_X0_readInto_5 rfl ?_
  refine ex_ic oq_X0_readInto_6 (m := 0) (by decide) (fun x502 hx502 => ?_)
  refine ex_pfi oq_X0_readInto_7 Th501 (k := 53) (d := 0) rfl rfl rfl (cw_i32 _).1 (cw_i32 _).2 (fun h503 Th503 wh503 => ?_)
  have Fh503 : cw_Fr cw_Ds cw_sh kk_X0_readInto.2.2.2.2.2.1 h0 h503 := cw_Fr_tr Fh501 (cw_Fr_wrf wh503 (k := 53) (d := 0) rfl rfl (by decide +kernel))
  have eh503_53_2 : ri_at h503 53 2 = x502.toInt := ri_self wh503
  have eh503_53_3 : ri_at h503 53 3 = ri_at h0 53 3 := (ri_ne wh503 (.inr (by decide))).trans eh501_53_3
  clear eh501_53_3
  have eh503_53_5 : ri_at h503 53 5 = ri_at h0 53 5 := (ri_ne wh503 (.inr (by decide))).trans eh501_53_5
  clear eh501_53_5
  have eh503_53_6 : ri_at h503 53 6 = ri_at h0 53 6 := (ri_ne wh503 (.inr (by decide))).trans eh501_53_6
  clear eh501_53_6
  have eh503_b_2 : ri_at h503 b 2 = kn := (ri_ne wh503 (.inl (cw_kne (k := b) (d := 4) (k' := 53) (d' := 0) hb4 rfl (by decide)))).trans eh501_b_2
  clear eh501_b_2
  have eh503_b_3 : ri_at h503 b 3 = kn := (ri_ne wh503 (.inl (cw_kne (k := b) (d := 4) (k' := 53) (d' := 0) hb4 rfl (by decide)))).trans eh501_b_3
  clear eh501_b_3
  have Sh503 := zCs_wr (d := 0) (k := 53) wh503 rfl Sh501 (.inl ⟨by decide, by decide⟩)
  refine ex_al oq_X0_readInto_10 rfl ?_
  refine ex_ic oq_X0_readInto_11 (m := 0) (by decide) (fun x504 hx504 => ?_)
  refine ex_pfi oq_X0_readInto_12 Th503 (k := 53) (d := 0) rfl rfl rfl (cw_i32 _).1 (cw_i32 _).2 (fun h505 Th505 wh505 => ?_)
  have Fh505 : cw_Fr cw_Ds cw_sh kk_X0_readInto.2.2.2.2.2.1 h0 h505 := cw_Fr_tr Fh503 (cw_Fr_wrf wh505 (k := 53) (d := 0) rfl rfl (by decide +kernel))
  have eh505_53_2 : ri_at h505 53 2 = x502.toInt := (ri_ne wh505 (.inr (by decide))).trans eh503_53_2
  clear eh503_53_2
  have eh505_53_3 : ri_at h505 53 3 = x504.toInt := ri_self wh505
  have eh505_53_5 : ri_at h505 53 5 = ri_at h0 53 5 := (ri_ne wh505 (.inr (by decide))).trans eh503_53_5
  clear eh503_53_5
  have eh505_53_6 : ri_at h505 53 6 = ri_at h0 53 6 := (ri_ne wh505 (.inr (by decide))).trans eh503_53_6
  clear eh503_53_6
  have eh505_b_2 : ri_at h505 b 2 = kn := (ri_ne wh505 (.inl (cw_kne (k := b) (d := 4) (k' := 53) (d' := 0) hb4 rfl (by decide)))).trans eh503_b_2
  clear eh503_b_2
  have eh505_b_3 : ri_at h505 b 3 = kn := (ri_ne wh505 (.inl (cw_kne (k := b) (d := 4) (k' := 53) (d' := 0) hb4 rfl (by decide)))).trans eh503_b_3
  clear eh503_b_3
  have Sh505 := zCs_wr (d := 0) (k := 53) wh505 rfl Sh503 (.inl ⟨by decide, by decide⟩)
  refine ex_al oq_X0_readInto_15 rfl ?_
  refine ex_ic oq_X0_readInto_16 (m := 0) (by decide) (fun x506 hx506 => ?_)
  refine ex_pfi oq_X0_readInto_17 Th505 (k := 53) (d := 0) rfl rfl rfl (cw_i32 _).1 (cw_i32 _).2 (fun h507 Th507 wh507 => ?_)
  have Fh507 : cw_Fr cw_Ds cw_sh kk_X0_readInto.2.2.2.2.2.1 h0 h507 := cw_Fr_tr Fh505 (cw_Fr_wrf wh507 (k := 53) (d := 0) rfl rfl (by decide +kernel))
  have eh507_53_2 : ri_at h507 53 2 = x502.toInt := (ri_ne wh507 (.inr (by decide))).trans eh505_53_2
  clear eh505_53_2
  have eh507_53_3 : ri_at h507 53 3 = x504.toInt := (ri_ne wh507 (.inr (by decide))).trans eh505_53_3
  clear eh505_53_3
  have eh507_53_5 : ri_at h507 53 5 = ri_at h0 53 5 := (ri_ne wh507 (.inr (by decide))).trans eh505_53_5
  clear eh505_53_5
  have eh507_53_6 : ri_at h507 53 6 = ri_at h0 53 6 := (ri_ne wh507 (.inr (by decide))).trans eh505_53_6
  clear eh505_53_6
  have eh507_b_2 : ri_at h507 b 2 = kn := (ri_ne wh507 (.inl (cw_kne (k := b) (d := 4) (k' := 53) (d' := 0) hb4 rfl (by decide)))).trans eh505_b_2
  clear eh505_b_2
  have eh507_b_3 : ri_at h507 b 3 = kn := (ri_ne wh507 (.inl (cw_kne (k := b) (d := 4) (k' := 53) (d' := 0) hb4 rfl (by decide)))).trans eh505_b_3
  clear eh505_b_3
  have Sh507 := zCs_wr (d := 0) (k := 53) wh507 rfl Sh505 (.inl ⟨by decide, by decide⟩)
  refine ex_al oq_X0_readInto_20 rfl ?_
  refine ex_ic oq_X0_readInto_21 (m := 1) (by decide) (fun x508 hx508 => ?_)
  refine ex_pfb oq_X0_readInto_22 Th507 (k := 53) (d := 0) rfl rfl rfl (by omega) (by omega) (fun h509 Th509 wh509 => ?_)
  have Fh509 : cw_Fr cw_Ds cw_sh kk_X0_readInto.2.2.2.2.2.1 h0 h509 := cw_Fr_tr Fh507 (cw_Fr_wrf wh509 (k := 53) (d := 0) rfl rfl (by decide +kernel))
  have eh509_53_2 : ri_at h509 53 2 = x502.toInt := (ri_ne wh509 (.inr (by decide))).trans eh507_53_2
  clear eh507_53_2
  have eh509_53_3 : ri_at h509 53 3 = x504.toInt := (ri_ne wh509 (.inr (by decide))).trans eh507_53_3
  clear eh507_53_3
  have eh509_53_5 : ri_at h509 53 5 = x508.toInt := ri_self wh509
  have eh509_53_6 : ri_at h509 53 6 = ri_at h0 53 6 := (ri_ne wh509 (.inr (by decide))).trans eh507_53_6
  clear eh507_53_6
  have eh509_b_2 : ri_at h509 b 2 = kn := (ri_ne wh509 (.inl (cw_kne (k := b) (d := 4) (k' := 53) (d' := 0) hb4 rfl (by decide)))).trans eh507_b_2
  clear eh507_b_2
  have eh509_b_3 : ri_at h509 b 3 = kn := (ri_ne wh509 (.inl (cw_kne (k := b) (d := 4) (k' := 53) (d' := 0) hb4 rfl (by decide)))).trans eh507_b_3
  clear eh507_b_3
  have Sh509 := zCs_wr (d := 0) (k := 53) wh509 rfl Sh507 (.inl ⟨by decide, by decide⟩)
  refine ex_al oq_X0_readInto_25 rfl ?_
  refine ex_ic oq_X0_readInto_26 (m := 1) (by decide) (fun x510 hx510 => ?_)
  refine ex_pfb oq_X0_readInto_27 Th509 (k := 53) (d := 0) rfl rfl rfl (by omega) (by omega) (fun h511 Th511 wh511 => ?_)
  have Fh511 : cw_Fr cw_Ds cw_sh kk_X0_readInto.2.2.2.2.2.1 h0 h511 := cw_Fr_tr Fh509 (cw_Fr_wrf wh511 (k := 53) (d := 0) rfl rfl (by decide +kernel))
  have eh511_53_2 : ri_at h511 53 2 = x502.toInt := (ri_ne wh511 (.inr (by decide))).trans eh509_53_2
  clear eh509_53_2
  have eh511_53_3 : ri_at h511 53 3 = x504.toInt := (ri_ne wh511 (.inr (by decide))).trans eh509_53_3
  clear eh509_53_3
  have eh511_53_5 : ri_at h511 53 5 = x508.toInt := (ri_ne wh511 (.inr (by decide))).trans eh509_53_5
  clear eh509_53_5
  have eh511_53_6 : ri_at h511 53 6 = x510.toInt := ri_self wh511
  have eh511_b_2 : ri_at h511 b 2 = kn := (ri_ne wh511 (.inl (cw_kne (k := b) (d := 4) (k' := 53) (d' := 0) hb4 rfl (by decide)))).trans eh509_b_2
  clear eh509_b_2
  have eh511_b_3 : ri_at h511 b 3 = kn := (ri_ne wh511 (.inl (cw_kne (k := b) (d := 4) (k' := 53) (d' := 0) hb4 rfl (by decide)))).trans eh509_b_3
  clear eh509_b_3
  have Sh511 := zCs_wr (d := 0) (k := 53) wh511 rfl Sh509 (.inl ⟨by decide, by decide⟩)
  refine ex_ic oq_X0_readInto_30 (m := 0) (by decide) (fun x512 hx512 => ?_)
  refine ex_isA oq_X0_readInto_31 (fun L513 gL513_2 kL513 => ?_)
  have gL513_0 : cv_get L513 0 = some (cv_r 53) := kL513 0 _ (by decide) (fun q => absurd q (by decide)) rfl
  have gL513_1 : cv_get L513 1 = some (cv_r b) := kL513 1 _ (by decide) (fun _ => rfl) rfl
  have p7 : cw_at h511 53 7 = some (cv_r b) := ((wh511.2.1 53 7 (.inr (by decide))).trans ((wh509.2.1 53 7 (.inr (by decide))).trans ((wh507.2.1 53 7 (.inr (by decide))).trans ((wh505.2.1 53 7 (.inr (by decide))).trans ((wh503.2.1 53 7 (.inr (by decide))).trans wh501.1)))))
  have hA2 : ∀ i, ri_at h511 1 i = ri_at h0 1 i := fun i => ri_frr Fh511 (k := 1) (d := 13) rfl rfl (by decide +kernel)
  have hB2 : ∀ i, ri_at h511 52 i = ri_at h0 52 i := fun i => ri_frr Fh511 (k := 52) (d := 43) rfl rfl (by decide +kernel)
  exact ri_lp (h0 := h511) (fun i => by rw [ht, ← hA2]) (fun i hi => by rw [hB2]; exact hwd i hi) hn9 hb4 p7 (fun x h' c1 c2 c3 => hQ x h' c1 (cw_Fr_tr Fh511 (cw_Fr_mono (by decide +kernel) c2)) c3) 901 0 L513 x512 [] kn 1 1 p h511 (by omega) Th511 cw_Fr_refl Sh511 ⟨trivial, fun i hi => absurd hi (Nat.not_lt_zero i), by show _ = (0 : Int); omega, by show _ = (0 : Int); omega, by omega, by omega, by show _ + (0 : Int) + 0 = _; omega, by omega, by omega, by omega, by show (0 : Int) ≤ 8; decide⟩ (by have := hS.1; omega) rfl (by omega) gL513_0 gL513_2
end TZ
