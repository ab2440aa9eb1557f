/-! ===== both sides hold what the text told ===== -/
def zTT (d : zDt) (e : Nat → Int) (g : Nat) : Nat → Int := fun j => if j = 15 then e g else d.2 (16 + g) j
theorem zTT_n {d : zDt} {e : Nat → Int} {g j : Nat} (h : j ≠ 15) : zTT d e g j = d.2 (16 + g) j := if_neg h
def zTf (d : zDt) : Nat → Int := fun j => if j < 12 then d.2 1 j else 0
/-- a law's signs -/
def zTl (d : zDt) (l : Nat) : List Int := ((d.1 2).drop (d.2 3 l).toNat).take ((d.2 4 l).toNat - (d.2 3 l).toNat)
def zTL (s : zSg) (d : zDt) (l : Nat) : Option (List Int) := if s.2.1 (l : Int) = 1 then some (zTl d l) else none
section TW
variable {s : zSg} {d : zDt} {e : Nat → Int} {h : cv_H} {b : Nat}
theorem zTR_g (a : zDg d) {g : Nat} (hg : g < 4) : gTR (zTT d e g) := by
  obtain ⟨hh, r, ⟨t0, t1, t2, t3, t5, t6, t7, t8, t9, t10, t11, t12, t13⟩, -, u⟩ := a g hg
  refine ⟨t0, ?_, t2, ?_, t5, t6, t7, t8, t9, t10, t11, t12, t13, u⟩
  · show 24 ≤ d.2 (16 + g) 1 ∧ d.2 (16 + g) 1 ≤ 72
    omega
  · show 0 ≤ d.2 (16 + g) 3 ∧ d.2 (16 + g) 3 < d.2 (16 + g) 4 ∧ d.2 (16 + g) 4 ≤ d.2 (16 + g) 1
    omega
theorem zPD_T (a : zDR s d) : zPD s.2.2.2.1.length s.2.2.2.2.2.length (zTT d e) (zTf d) (d.1 14) (d.1 15) := by
  obtain ⟨⟨⟨w0, w1, w2, w3⟩, l1, l2, l3⟩, a2, a3, a4, a5, a6⟩ := a
  refine ⟨l1, l3, fun g hg => zTR_g a4 (by omega), fun j => ?_, fun c => ?_, fun c hc => (a3 c hc).2.1⟩
  · unfold zTf
    by_cases c : j < 12
    · rw [if_pos c]; have := a5 j c; omega
    · rw [if_neg c]; omega
  · by_cases q : c < s.2.2.2.2.2.length
    · exact (a3 c q).2.2
    · rw [List.getD_eq_getElem?_getD, List.getElem?_eq_none (by omega)]
      exact ⟨by decide, by decide⟩
theorem zTl_len {l a b : Nat} (e1 : d.2 3 l = a) (e2 : d.2 4 l = b) (h2 : a ≤ b) (h3 : b ≤ (d.1 2).length) : (zTl d l).length = b - a := by
  unfold zTl
  rw [e1, e2, List.length_take, List.length_drop]
  omega
theorem zTl_e {l a b : Nat} (e1 : d.2 3 l = a) (e2 : d.2 4 l = b) : zTl d l = ((d.1 2).drop a).take (b - a) := by
  unfold zTl
  rw [e1, e2]
  rfl
theorem zTl_get {l a b m : Nat} (e1 : d.2 3 l = a) (e2 : d.2 4 l = b) (hm : m < b - a) : (zTl d l).getD m 0 = (d.1 2).getD (a + m) 0 := by
  rw [zTl_e e1 e2, List.getD_eq_getElem?_getD, List.getD_eq_getElem?_getD, List.getElem?_take_of_lt hm, List.getElem?_drop]
/-- the reference's laws -/
theorem zRL_T (a : zRW 0 h s d) (r : zDR s d) (hk : s.2.2.1 ≤ 64) {l : Nat} (hl : l < 4) (ht : s.2.1 (l : Int) = 1 ∨ s.2.1 (l : Int) = 0) (e7 : ri_at h 117 l = s.2.1 (l : Int)) : zRL h l (zTL s d l) ∧ (s.2.1 (l : Int) = 1 → zWf (zTl d l)) := by
  unfold zTL
  obtain ⟨-, -, -, -, -, a6⟩ := a
  obtain ⟨-, -, -, -, -, r6⟩ := r
  rcases ht with q | q
  · rw [if_pos q]
    obtain ⟨x, y, c1, c2, c3, c4, c5, c6, c7, c8⟩ := a6.2 l hl q
    obtain ⟨x', y', nm, d1, d2, d3, d4, d5, d6⟩ := r6 l hl q
    have ex : x' = x := by omega
    have ey : y' = y := by omega
    subst ex ey
    rw [← zTl_e c1 c2] at c7 c8 d6
    have hln : (zTl d l).length = y' - x' := by rw [zTl_e c1 c2, List.length_take, List.length_drop]; omega
    have w : zWf (zTl d l) := zWf_K c7 c8 d6.1
    have k1 := a6.1
    rw [show 4 * 0 + l = l from by omega] at c5 c6
    exact ⟨⟨e7.trans q, w, x', c5, c6.trans (by rw [hln]; omega), by rw [hln]; omega, c7⟩, fun _ => w⟩
  · rw [if_neg (by omega)]
    exact ⟨e7.trans q, fun q2 => by omega⟩
theorem zRD_T (a : zRW 0 h s d) (r : zDR s d) (hk : s.2.2.1 ≤ 64) (ht : ∀ l : Nat, l < 4 → s.2.1 (l : Int) = 1 ∨ s.2.1 (l : Int) = 0) (e7 : ∀ l : Nat, l < 4 → ri_at h 117 l = s.2.1 (l : Int)) (e12 : ri_at h 111 12 = s.2.2.2.1.length) (e14 : ri_at h 111 14 = s.2.2.2.2.2.length) : zRD h s.2.2.2.1.length s.2.2.2.2.2.length (zTT d e) (zTf d) (zTL s d) (d.1 14) (d.1 15) := by
  refine ⟨e12, e14, fun g hg j hj => ?_, fun j hj => ?_, fun l hl => (zRL_T a r hk hl (ht l hl) (e7 l hl)).1, fun c hc => ?_, fun c hc => ?_⟩
  · rw [zTT_n (by omega)]
    have q := (a.2.2.2.2.1 g hg).1 j hj
    rwa [show 64 * 0 + 16 * g + j = 16 * g + j from by omega] at q
  · unfold zTf
    rw [if_pos hj]
    have q := a.2.2.2.1 j hj
    rwa [show 12 * 0 + j = j from by omega] at q
  · have q := (a.2.2.1 c hc).2.1
    rwa [show 18 * 0 + 3 * c + 1 = 3 * c + 1 from by omega] at q
  · have q := (a.2.2.1 c hc).2.2
    rwa [show 18 * 0 + 3 * c + 2 = 3 * c + 2 from by omega] at q
/-- the works that the reference holds -/
def zRS (h : cv_H) (nw : Nat) (wc wk wn : Nat → Int) : Prop := ri_at h 111 13 = nw ∧ ∀ w, w < nw → ri_at h 122 (3 * w) = wc w ∧ ri_at h 122 (3 * w + 1) = wk w ∧ ri_at h 122 (3 * w + 2) = wn w
theorem zRS_T (a : zRW 0 h s d) (e13 : ri_at h 111 13 = s.2.2.2.2.1.length) : zRS h s.2.2.2.2.1.length (fun w => (d.1 9).getD w 0) (fun w => (d.1 10).getD w 0) (fun w => (d.1 11).getD w 0) := by
  refine ⟨e13, fun w hw => ?_⟩
  have q := a.2.1 w hw
  rw [show 18 * 0 + 3 * w = 3 * w from by omega] at q
  exact q
/-- the class's laws and gates -/
theorem zKH_T (a : zWD b h s d) (c : zSC b h s) (r : zDR s d) (hw : ∀ l : Nat, l < 4 → s.2.1 (l : Int) = 1 → zWf (zTl d l)) (he : ∀ g, g < 4 → ri_at h (b + 16 + 2 * g) 15 = e g) : zKH h b s.2.2.2.1.length s.2.2.2.2.2.length (zTT d e) (zTf d) (zTL s d) (d.1 14) (d.1 15) := by
  obtain ⟨c3, clt, ckn, cg, cw, cc, cto⟩ := c
  obtain ⟨wl, ⟨wr1, wr⟩, ⟨wf1, wf⟩, wt, wu⟩ := a
  obtain ⟨⟨⟨w0, w1, w2, w3⟩, l1, l2, l3⟩, r2, r3, r4, r5, r6⟩ := r
  refine ⟨cg.1, cc.1, fun g hg j hj => ?_, fun j hj => ?_, fun l hl => ?_, fun k hk => ?_, fun k hk => ?_⟩
  · obtain ⟨⟨t1, t2⟩, t3⟩ := wt g (by omega)
    by_cases q : j = 15
    · subst q; exact (he g (by omega)).trans (if_pos rfl).symm
    rw [zTT_n q]
    by_cases q2 : j = 14
    · subst q2; exact t3
    · exact t1 j (by omega)
  · unfold zTf
    rw [if_pos hj]
    exact wf1 j hj
  · unfold zTL
    rcases clt l hl with ⟨q, q2⟩ | ⟨q, q2⟩
    · rw [if_pos q]
      obtain ⟨x, y, nm, d1, d2, d3, d4, d5, d6⟩ := r6 l hl q
      have hln : (zTl d l).length = y - x := by rw [zTl_e d1 d2, List.length_take, List.length_drop]; omega
      rw [← zTl_e d1 d2] at d6
      have m0 := wr 2 (by decide)
      have k1 := ckn.1
      have k2 := ckn.2.2.2
      refine ⟨hw l hl q, x, nm, (wf 3 (by decide) l hl).trans d1, ((wf 4 (by decide) l hl).trans d2).trans (by rw [hln]; omega), by rw [hln]; omega, fun m hm => ?_, (wf 5 (by decide) l hl).trans d3, d6.2.1, d6.2.2⟩
      rw [hln] at hm
      rw [zTl_get d1 d2 hm]
      have q3 := m0 (x + m) (by omega)
      rwa [Nat.zero_add] at q3
    · rw [if_neg (by omega)]
      exact q2
  · have q := wr 14 (by decide) k (by omega)
    rwa [Nat.zero_add] at q
  · have q := wr 15 (by decide) k (by omega)
    rwa [Nat.zero_add] at q
theorem zKS_T (a : zWD b h s d) (c : zSC b h s) : zKS h b s.2.2.2.2.1.length (fun w => (d.1 9).getD w 0) (fun w => (d.1 10).getD w 0) (fun w => (d.1 11).getD w 0) := by
  obtain ⟨⟨⟨w1, w2, w3⟩, -⟩, ⟨-, wr⟩, -⟩ := a
  refine ⟨c.2.2.2.2.1.1, fun w hw => ?_⟩
  have q9 := wr 9 (by decide) w (by omega)
  have q10 := wr 10 (by decide) w (by omega)
  have q11 := wr 11 (by decide) w (by omega)
  rw [Nat.zero_add] at q9 q10 q11
  exact ⟨q9, q10, q11⟩
/-- pointers of a plan -/
theorem zPM_P (a : zPM b h) : zKP h b ∧ zKQ h b := ⟨⟨a.1 0 (by decide), a.1 1 (by decide), a.1 4 (by decide), a.1 5 (by decide), a.1 6 (by decide), a.1 17 (by decide), a.1 18 (by decide)⟩, a.1 7 (by decide), a.1 11 (by decide), a.1 12 (by decide), a.1 13 (by decide), a.2⟩
/-- gates begun: in range, the same on both sides -/
theorem gBg_G {T : Nat → Int} (rT : gTR T) {m0 m1 m2 : Int} (h0 : 0 ≤ m0 ∧ m0 ≤ 6000) (h1 : 0 ≤ m1 ∧ m1 ≤ 6000) (h2 : 0 ≤ m2 ∧ m2 ≤ 6000) : gGR (gBegin T m0 m1 m2) := by
  obtain ⟨t0, t1, t2, t3, t5, t6, t7, t8, t9, t10, t11, t12, t13, t14⟩ := rT
  refine ⟨?_, ?_, ?_, ?_, ?_, t9, ?_, ?_, ?_, ?_, t14, h0, h1, h2, t5, t6⟩
  · show (0 : Int) ≤ 0 ∧ (0 : Int) ≤ 1000000; omega
  · show (0 : Int) ≤ 0 ∧ (0 : Int) ≤ 1000000; omega
  · show (0 : Int) ≤ 0 ∧ (0 : Int) ≤ 1000000; omega
  · show (-300000000 : Int) ≤ 0 ∧ (0 : Int) ≤ 300000000; omega
  · show 0 ≤ T 7 ∧ T 7 ≤ 1000; omega
  · show (0 : Int) ≤ 0 ∧ (0 : Int) ≤ 100; omega
  · show (0 : Int) ≤ 0 ∧ (0 : Int) ≤ 10000; omega
  · show 0 ≤ T 12 ∧ T 12 ≤ 300; omega
  · show (0 : Int) ≤ 0 ∧ (0 : Int) < 64; omega
theorem gBg_C {T : Nat → Int} {dk dv : List Int} {n : Nat} : zCA dk dv n (gBegin T (zMs dk dv (T 14).toNat 0 n) (zMs dk dv (T 14).toNat 1 n) (zMs dk dv (T 14).toNat 2 n)) := ⟨rfl, rfl, rfl⟩
theorem gBg_B {T : Nat → Int} {m0 m1 m2 : Int} {j : Nat} (hj : j < 11) : zBg T j = gBegin T m0 m1 m2 (zni j) := by
  rcases (by omega : j = 0 ∨ j = 1 ∨ j = 2 ∨ j = 3 ∨ j = 4 ∨ j = 5 ∨ j = 6 ∨ j = 7 ∨ j = 8 ∨ j = 9 ∨ j = 10) with rfl | rfl | rfl | rfl | rfl | rfl | rfl | rfl | rfl | rfl | rfl <;> rfl
end TW
