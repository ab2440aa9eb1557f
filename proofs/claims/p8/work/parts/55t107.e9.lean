/-! ===== what both sides hold between calls ===== -/
abbrev zPp : Type := zSg × zDt × (Nat → Int)
abbrev zQs : Type := Int × (Nat → Nat → Int) × (Nat × (Nat → Nat) × (Nat → Nat → Int)) × Int × (Nat → Nat → Int)
abbrev zng (p : zPp) : Nat := p.1.2.2.2.1.length
abbrev znw (p : zPp) : Nat := p.1.2.2.2.2.1.length
abbrev znc (p : zPp) : Nat := p.1.2.2.2.2.2.length
abbrev zpT (p : zPp) : Nat → Nat → Int := zTT p.2.1 p.2.2
def zpw (p : zPp) (o : Nat) (w : Nat) : Int := (p.2.1.1 o).getD w 0
/-- from which of a gate's numbers on both sides are held to be the same -/
def zlo4 : Nat := 4
def zEq (a b : Nat → Int) : Prop := ∀ j, zlo4 ≤ j → j ≤ 16 → a j = b j
theorem zEq_0 {a : Nat → Int} : zEq a a := fun _ _ _ => rfl
theorem zEq_s {a b : Nat → Int} (h : zEq a b) : zEq b a := fun j p q => (h j p q).symm
theorem zEq_t {a b c : Nat → Int} (h : zEq a b) (k : zEq b c) : zEq a c := fun j p q => (h j p q).trans (k j p q)
/-- a gate as it may be -/
def zGd (p : zPp) (γ : Nat → Int) : Prop := gGR γ ∧ zCA (p.2.1.1 14) (p.2.1.1 15) (znc p) γ ∧ zTk γ
def zGo (p : zPp) (q : zQs) : Prop := (zDR p.1 p.2.1 ∧ (∀ l : Nat, l < 4 → p.1.2.1 (l : Int) = 1 ∨ p.1.2.1 (l : Int) = 0) ∧ (∀ l : Nat, l < 4 → p.1.2.1 (l : Int) = 1 → zWf (zTl p.2.1 l)) ∧ 0 ≤ p.1.2.2.1 ∧ p.1.2.2.1 ≤ 64) ∧ (0 ≤ q.1 ∧ q.1 ≤ 2000) ∧ (∀ g, g < zng p → zGd p (q.2.1 g)) ∧ (q.2.2.1.1 ≤ 20 ∧ ∀ i, i < q.2.2.1.1 → q.2.2.1.2.1 i < zng p ∧ zGd p (q.2.2.1.2.2 i)) ∧ (q.2.2.2.1 = -1 ∨ (0 ≤ q.2.2.2.1 ∧ q.2.2.2.1 ≤ 2000) ∧ ∀ g, g < zng p → zGd p (q.2.2.2.2 g))
/-- the plan that the class holds -/
def zCp (h : cv_H) (b : Nat) (p : zPp) : Prop := (b = 2 ∨ b = 26) ∧ cw_at h 0 2 = some (cv_r b) ∧ cw_at h 0 3 = some (cv_r (28 - b)) ∧ zKH h b (zng p) (znc p) (zpT p) (zTf p.2.1) (zTL p.1 p.2.1) (p.2.1.1 14) (p.2.1.1 15) ∧ zKS h b (znw p) (zpw p 9) (zpw p 10) (zpw p 11) ∧ ri_at h b 3 = p.1.2.2.1 ∧ (∀ g, g < zng p → ∀ j, j < 9 → ri_at h (b + 16 + 2 * g + 1) j = p.2.1.2 (16 + g) (16 + j)) ∧ ∀ c, c < znc p → ri_at h (b + 13) c = zpw p 13 c
def zCd (h : cv_H) (ng b : Nat) (q : zQs) : Prop := ∃ (Bf : Nat → Nat) (γc υc ιc : Nat → Nat → Int), zKG h b ng (fun g => 103 + 2 * g) γc ∧ (∀ g, g < ng → zEq (γc g) (q.2.1 g)) ∧ zUB h Bf ∧ zUS h b q.2.2.1.1 Bf q.2.2.1.2.1 υc ∧ (∀ i, i < q.2.2.1.1 → zEq (υc i) (q.2.2.1.2.2 i)) ∧ ri_at h 0 8 = q.1 ∧ ri_at h 0 10 = q.2.2.2.1 ∧ (¬ q.2.2.2.1 = -1 → ∀ g, g < ng → zGV h (104 + 2 * g) (ιc g) ∧ cw_at h (104 + 2 * g) 0 = some (cv_r (b + 16 + 2 * g)) ∧ zEq (ιc g) (q.2.2.2.2 g))
/-- which cell is behind which -/
def zCz (h : cv_H) : Prop := ef_fok ec_TF h ∧ ef_rok ec_TR h ∧ zKC h ∧ zPM 2 h ∧ zPM 26 h
def zCE (h : cv_H) (p : zPp) (q : zQs) : Prop := zCz h ∧ ∃ b, zCp h b p ∧ zCd h (zng p) b q
/-- the reference's -/
def zRp (h : cv_H) (p : zPp) : Prop := zRD h (zng p) (znc p) (zpT p) (zTf p.2.1) (zTL p.1 p.2.1) (p.2.1.1 14) (p.2.1.1 15) ∧ zRS h (znw p) (zpw p 9) (zpw p 10) (zpw p 11) ∧ ri_at h 111 15 = p.1.2.2.1 ∧ (∀ g, g < zng p → ∀ j, j < 9 → ri_at h 120 (9 * g + j) = p.2.1.2 (16 + g) (16 + j)) ∧ ∀ c, c < znc p → ri_at h 124 (3 * c) = zpw p 13 c
def zRq (h : cv_H) (ng : Nat) (q : zQs) : Prop := zSS h ng q.2.1 ∧ ri_at h 111 43 = q.1 ∧ zRU h q.2.2.1.1 q.2.2.1.2.1 q.2.2.1.2.2 ∧ (q.2.2.2.1 = -1 ∧ ri_at h 111 66 = 0 ∨ ¬ q.2.2.2.1 = -1 ∧ ri_at h 111 66 = 1 ∧ ri_at h 111 67 = q.2.2.2.1 ∧ ∀ g, g < ng → ∀ j, j < 11 → ri_at h 148 (16 * g + j) = q.2.2.2.2 g (zni j))
def zRQ (h : cv_H) (p : zPp) (q : zQs) : Prop := zRp h p ∧ zRq h (zng p) q
def zNo (h : cv_H) : Prop := ri_at h 86 9 = ri_at h 111 52 ∧ ri_at h 86 10 = ri_at h 111 53
/-- both hold the same -/
def zST (h : cv_H) : Prop := zNo h ∧ ∃ p q, zGo p q ∧ zCE h p q ∧ zRQ h p q
section FR
variable {h h' : cv_H} {b ng : Nat} {p : zPp} {q : zQs}
theorem zGV_a {K : Nat} {γ : Nat → Int} (e : ∀ i, cw_at h' K i = cw_at h K i) (g : zGV h K γ) : zGV h' K γ := fun j hj => (ri_eq (e j)).trans (g j hj)
/-- cells of the class that hold a plan -/
theorem zCp_e (e0 : ∀ i, i = 2 ∨ i = 3 → cw_at h' 0 i = cw_at h 0 i) (e1 : ∀ k i, b ≤ k → k < b + 24 → cw_at h' k i = cw_at h k i) (hng : zng p ≤ 4) (a : zCp h b p) : zCp h' b p := by
  obtain ⟨a1, a2, a3, ⟨k1, k2, k3, k4, k5, k6, k7⟩, ⟨s1, s2⟩, a6, a7, a8⟩ := a
  have r : ∀ k i, b ≤ k → k < b + 24 → ri_at h' k i = ri_at h k i := fun k i u v => ri_eq (e1 k i u v)
  refine ⟨a1, (e0 2 (.inl rfl)).trans a2, (e0 3 (.inr rfl)).trans a3, ⟨(r b 9 (by omega) (by omega)).trans k1, (r b 19 (by omega) (by omega)).trans k2, fun g hg j hj => (r _ j (by omega) (by omega)).trans (k3 g hg j hj), fun j hj => (r _ j (by omega) (by omega)).trans (k4 j hj), fun l hl => zLw_eq (k5 l hl) (fun k i hk => r k i (by omega) (by omega)), fun c hc => (r _ c (by omega) (by omega)).trans (k6 c hc), fun c hc => (r _ c (by omega) (by omega)).trans (k7 c hc)⟩, ⟨(r b 14 (by omega) (by omega)).trans s1, fun w hw => ⟨(r _ w (by omega) (by omega)).trans (s2 w hw).1, (r _ w (by omega) (by omega)).trans (s2 w hw).2.1, (r _ w (by omega) (by omega)).trans (s2 w hw).2.2⟩⟩, (r b 3 (by omega) (by omega)).trans a6, fun g hg j hj => (r _ j (by omega) (by omega)).trans (a7 g hg j hj), fun c hc => (r _ c (by omega) (by omega)).trans (a8 c hc)⟩
theorem zUB_a {Bf : Nat → Nat} (e : ∀ k i, 61 ≤ k → k ≤ 85 → cw_at h' k i = cw_at h k i) (a : zUB h Bf) : zUB h' Bf := ⟨fun i hi => ⟨(e 64 i (by omega) (by omega)).trans (a.1 i hi).1, (a.1 i hi).2⟩, a.2⟩
theorem zUS_a {m : Nat} {Bf ν : Nat → Nat} {υ : Nat → Nat → Int} (e : ∀ k i, 61 ≤ k → k ≤ 85 → cw_at h' k i = cw_at h k i) (B : zUB h Bf) (a : zUS h b m Bf ν υ) : zUS h' b m Bf ν υ := by
  refine ⟨(ri_eq (e 63 2 (by omega) (by omega))).trans a.1, a.2.1, fun i hi => ?_⟩
  have s := a.2.2 i hi
  have bi := B.1 i (by have := a.2.1; omega)
  exact ⟨(ri_eq (e 65 i (by omega) (by omega))).trans s.1, zGV_a (fun j => e _ j (by omega) (by omega)) s.2.1, (e _ 0 (by omega) (by omega)).trans s.2.2⟩
theorem zCd_e (e0 : ∀ i, i = 8 ∨ i = 10 → cw_at h' 0 i = cw_at h 0 i) (e1 : ∀ k i, 61 ≤ k → k ≤ 85 → cw_at h' k i = cw_at h k i) (e2 : ∀ k i, 103 ≤ k → k ≤ 110 → cw_at h' k i = cw_at h k i) (hng : ng ≤ 4) (a : zCd h ng b q) : zCd h' ng b q := by
  obtain ⟨Bf, γc, υc, ιc, a1, a2, a3, a4, a5, a6, a7, a8⟩ := a
  refine ⟨Bf, γc, υc, ιc, fun g hg => ⟨zGV_a (fun j => e2 (103 + 2 * g) j (by omega) (by omega)) (a1 g hg).1, (e2 (103 + 2 * g) 0 (by omega) (by omega)).trans (a1 g hg).2⟩, a2, zUB_a e1 a3, zUS_a e1 a3 a4, a5, (ri_eq (e0 8 (.inl rfl))).trans a6, (ri_eq (e0 10 (.inr rfl))).trans a7, fun c g hg => ?_⟩
  obtain ⟨c1, c2, c3⟩ := a8 c g hg
  exact ⟨zGV_a (fun j => e2 _ j (by omega) (by omega)) c1, (e2 _ 0 (by omega) (by omega)).trans c2, c3⟩
theorem zRp_e (e1 : ∀ k i, 114 ≤ k → k ≤ 127 → cw_at h' k i = cw_at h k i) (e0 : ∀ i, i = 12 ∨ i = 13 ∨ i = 14 ∨ i = 15 → cw_at h' 111 i = cw_at h 111 i) (a : zRp h p) : zRp h' p := by
  obtain ⟨a1, ⟨s1, s2⟩, a3, a4, a5⟩ := a
  have r : ∀ k i, 114 ≤ k → k ≤ 127 → ri_at h' k i = ri_at h k i := fun k i u v => ri_eq (e1 k i u v)
  exact ⟨zRD_eq a1 (fun k i hk => r k i (by omega) (by omega)) (ri_eq (e0 12 (by omega))) (ri_eq (e0 14 (by omega))), ⟨(ri_eq (e0 13 (by omega))).trans s1, fun w hw => ⟨(r 122 _ (by omega) (by omega)).trans (s2 w hw).1, (r 122 _ (by omega) (by omega)).trans (s2 w hw).2.1, (r 122 _ (by omega) (by omega)).trans (s2 w hw).2.2⟩⟩, (ri_eq (e0 15 (by omega))).trans a3, fun g hg j hj => (r 120 _ (by omega) (by omega)).trans (a4 g hg j hj), fun c hc => (r 124 _ (by omega) (by omega)).trans (a5 c hc)⟩
theorem zRq_e (e1 : ∀ i, cw_at h' 130 i = cw_at h 130 i) (e2 : ∀ i, cw_at h' 135 i = cw_at h 135 i) (e3 : ∀ i, cw_at h' 148 i = cw_at h 148 i) (e0 : ∀ i, i = 43 ∨ i = 50 ∨ i = 66 ∨ i = 67 → cw_at h' 111 i = cw_at h 111 i) (a : zRq h ng q) : zRq h' ng q := by
  obtain ⟨a1, a2, ⟨u1, u2, u3⟩, a4⟩ := a
  refine ⟨fun g hg j hj => (ri_eq (e1 _)).trans (a1 g hg j hj), (ri_eq (e0 43 (by omega))).trans a2, ⟨(ri_eq (e0 50 (by omega))).trans u1, u2, fun i hi => ⟨(ri_eq (e2 _)).trans (u3 i hi).1, fun j hj => (ri_eq (e2 _)).trans ((u3 i hi).2 j hj)⟩⟩, ?_⟩
  rcases a4 with ⟨c1, c2⟩ | ⟨c1, c2, c3, c4⟩
  · exact .inl ⟨c1, (ri_eq (e0 66 (by omega))).trans c2⟩
  · exact .inr ⟨c1, (ri_eq (e0 66 (by omega))).trans c2, (ri_eq (e0 67 (by omega))).trans c3, fun g hg j hj => (ri_eq (e3 _)).trans (c4 g hg j hj)⟩
theorem zGo_g (a : zGo p q) : zng p ≤ 4 ∧ znw p ≤ 6 ∧ znc p ≤ 6 := a.1.1.1.2
/-- the other side's cells are left alone -/
theorem zCE_r (e : ∀ k i, k < 111 → cw_at h' k i = cw_at h k i) (hng : zng p ≤ 4) (a : zCE h p q) : zCE h' p q := by
  obtain ⟨⟨r1, r2, r3, r4, r5⟩, b, b1, b2⟩ := a
  have hb := b1.1
  have cF : ec_TF.all (fun t => Nat.ble (t.1 + 1) 111) = true := by decide
  have cR : ec_TR.all (fun t => Nat.ble (t.1 + 1) 111) = true := by decide
  refine ⟨⟨ef_fok_e (fun t ht => e _ _ (by have := List.all_eq_true.mp cF t ht; rw [Nat.ble_eq] at this; omega)) r1, ef_rok_e (fun t ht i => e _ _ (by have := List.all_eq_true.mp cR t ht; rw [Nat.ble_eq] at this; omega)) r2, fun g hg => ⟨(e _ _ (by decide)).trans (r3 g hg).1, (e _ _ (by decide)).trans (r3 g hg).2⟩, ⟨fun i hi => (e _ _ (by decide)).trans (r4.1 i hi), fun i hi => (e _ _ (by decide)).trans (r4.2 i hi)⟩, ⟨fun i hi => (e _ _ (by decide)).trans (r5.1 i hi), fun i hi => (e _ _ (by decide)).trans (r5.2 i hi)⟩⟩, b, zCp_e (fun i _ => e 0 i (by decide)) (fun k i u v => e k i (by omega)) hng b1, zCd_e (fun i _ => e 0 i (by decide)) (fun k i u v => e k i (by omega)) (fun k i u v => e k i (by omega)) hng b2⟩
theorem zRQ_c (e : ∀ k i, 111 ≤ k → k < 149 → cw_at h' k i = cw_at h k i) (a : zRQ h p q) : zRQ h' p q := ⟨zRp_e (fun k i u v => e k i (by omega) (by omega)) (fun i _ => e 111 i (by decide) (by decide)) a.1, zRq_e (fun i => e 130 i (by decide) (by decide)) (fun i => e 135 i (by decide) (by decide)) (fun i => e 148 i (by decide) (by decide)) (fun i _ => e 111 i (by decide) (by decide)) a.2⟩
theorem zST_e (e : ∀ k i, k < 149 → cw_at h' k i = cw_at h k i) (a : zST h) : zST h' := by
  obtain ⟨n, p, q, a1, a2, a3⟩ := a
  exact ⟨⟨(ri_eq (e 86 9 (by decide))).trans (n.1.trans (ri_eq (e 111 52 (by decide))).symm), (ri_eq (e 86 10 (by decide))).trans (n.2.trans (ri_eq (e 111 53 (by decide))).symm)⟩, p, q, a1, zCE_r (fun k i u => e k i (by omega)) (zGo_g a1).1 a2, zRQ_c (fun k i _ u => e k i u) a3⟩
end FR
/-- frames by masks: what is not of a side's kinds -/
theorem sh_c {k : Nat} (h : k < 111) : ∃ d, cw_sh[k]? = some d ∧ (d ≤ 11 ∨ 13 ≤ d ∧ d ≤ 50) := by
  have c : ∀ i : Fin 111, (match cw_sh[i.1]? with | some d => Nat.ble d 11 || (Nat.ble 13 d && Nat.ble d 50) | none => false) = true := by decide +kernel
  have q := c ⟨k, h⟩
  dsimp only at q
  split at q
  · rename_i d hd
    simp only [Bool.or_eq_true, Bool.and_eq_true, Nat.ble_eq] at q
    exact ⟨d, hd, q⟩
  · cases q
theorem sh_r {k : Nat} (h : 111 ≤ k) (h2 : k < 149) : ∃ d, cw_sh[k]? = some d ∧ (d = 12 ∨ 51 ≤ d ∧ d ≤ 87) := by
  have c : ∀ i : Fin 38, (match cw_sh[111 + i.1]? with | some d => d == 12 || (Nat.ble 51 d && Nat.ble d 87) | none => false) = true := by decide +kernel
  have q := c ⟨k - 111, by omega⟩
  dsimp only at q
  rw [show 111 + (k - 111) = k from by omega] at q
  split at q
  · rename_i d hd
    simp only [Bool.or_eq_true, Bool.and_eq_true, Nat.ble_eq, beq_iff_eq] at q
    exact ⟨d, hd, q⟩
  · cases q
