/-! ===== what holds of the fresh objects ===== -/
def fb_tg (G : Int) (t : Nat) (z : Int) : Bool := (t == 0) || ((t == 3) && decide (z = G))
theorem fb_tg_ok {G : Int} {t : Nat} {z : Int} (h : fb_tg G t z = true) : cw_tg G t z := by
  unfold fb_tg at h
  simp only [Bool.or_eq_true, Bool.and_eq_true, beq_iff_eq, decide_eq_true_eq] at h
  rcases h with rfl | ⟨rfl, rfl⟩
  · exact cw_tg0
  · exact ⟨fun h => absurd h (by omega), fun h => absurd h (by omega), fun _ => rfl, fun h => absurd h (by omega)⟩
def fb_ga (G : Int) (sh : List Nat) (a : cw_A) (v : cv_V) : Bool := match a, v with
  | .inl w, .inl x => decide (w.1 ≤ x.toInt) && (decide (x.toInt ≤ w.2.1) && fb_tg G w.2.2 x.toInt)
  | .inr (.inl w), .inr (.inl x) => decide (w.1 ≤ x.toInt) && (decide (x.toInt ≤ w.2.1) && fb_tg G w.2.2 x.toInt)
  | .inr (.inr d), .inr (.inr (.inl (some k))) => decide (d < 1000) && decide (sh[k]? = some d)
  | _, _ => false
theorem fb_ga_ok {G : Int} {sh : List Nat} {a : cw_A} {v : cv_V} (h : fb_ga G sh a v = true) : cw_ga G sh a v := by
  unfold fb_ga at h
  split at h
  · rename_i w x
    simp only [Bool.and_eq_true, decide_eq_true_eq] at h
    exact ⟨x, rfl, h.1, h.2.1, fb_tg_ok h.2.2⟩
  · rename_i w x
    simp only [Bool.and_eq_true, decide_eq_true_eq] at h
    exact ⟨x, rfl, h.1, h.2.1, fb_tg_ok h.2.2⟩
  · rename_i d k
    simp only [Bool.and_eq_true, decide_eq_true_eq] at h
    exact .inl ⟨h.1, k, rfl, h.2⟩
  · cases h
def fb_cell (Ds : List cw_D) (sh : List Nat) (G : Int) (h : cv_H) (k d : Nat) : Bool := match Ds[d]?, h[k]? with
  | some (.inl (t, n, p, rs)), some (.inl (t', xs)) => (t' == t) && ((xs.length == n) && (List.range n).all (fun i => match xs[i]?, rs[i % p]? with
      | some x, some r => decide (r.1 ≤ x.toInt) && decide (x.toInt ≤ r.2)
      | _, _ => false))
  | some (.inr (.inl n)), some (.inr (.inl xs)) => xs.length == n
  | some (.inr (.inr (.inl (t, n, d')))), some (.inr (.inr (.inl (t', xs)))) => (t' == t) && ((xs.length == n) && xs.all (fun o => match o with
      | some k' => decide (sh[k']? = some d')
      | none => false))
  | some (.inr (.inr (.inr (ci, fs)))), some (.inr (.inr (.inr (ci', vs)))) => (ci' == ci) && ((vs.length == fs.length) && (List.range fs.length).all (fun i => match fs[i]?, vs[i]? with
      | some a, some v => fb_ga G sh a v
      | _, _ => false))
  | _, _ => false
theorem fb_cell_ok {Ds : List cw_D} {sh : List Nat} {G : Int} {h : cv_H} {k d : Nat} (q : fb_cell Ds sh G h k d = true) : cw_cell Ds sh G h k d := by
  unfold fb_cell at q
  unfold cw_cell
  split at q
  · rename_i t n p rs t' xs hD hk
    simp only [Bool.and_eq_true, beq_iff_eq] at q
    obtain ⟨rfl, rfl, q3⟩ := q
    rw [hD]
    refine ⟨xs, hk, rfl, fun i x hx => ?_⟩
    have hlt := (List.getElem?_eq_some_iff.mp hx).1
    have := List.all_eq_true.mp q3 i (List.mem_range.mpr hlt)
    rw [hx] at this
    split at this
    · rename_i x' r hx' hr
      cases hx'
      simp only [Bool.and_eq_true, decide_eq_true_eq] at this
      exact ⟨r, hr, this.1, this.2⟩
    · cases this
  · rename_i n xs hD hk
    simp only [beq_iff_eq] at q
    rw [hD]
    exact ⟨xs, hk, q⟩
  · rename_i t n d' t' xs hD hk
    simp only [Bool.and_eq_true, beq_iff_eq] at q
    obtain ⟨rfl, rfl, q3⟩ := q
    rw [hD]
    refine ⟨xs, hk, rfl, fun i o ho => ?_⟩
    have := List.all_eq_true.mp q3 o (List.mem_of_getElem? ho)
    split at this
    · rename_i k'
      exact ⟨k', rfl, of_decide_eq_true this⟩
    · cases this
  · rename_i ci fs ci' vs hD hk
    simp only [Bool.and_eq_true, beq_iff_eq] at q
    obtain ⟨rfl, q2, q3⟩ := q
    rw [hD]
    refine ⟨vs, hk, q2, fun i a ha => ?_⟩
    have hlt := (List.getElem?_eq_some_iff.mp ha).1
    have := List.all_eq_true.mp q3 i (List.mem_range.mpr hlt)
    rw [ha] at this
    split at this
    · rename_i a' v ha' hv
      cases ha'
      exact ⟨v, hv, fb_ga_ok this⟩
    · cases this
  · cases q
def hp_3 : cv_H := hp_c ++ hp_d ++ [cv_cl [0]]
def fb_all : Bool := (List.range 149).all (fun k => match cw_sh[k]? with
  | some d => fb_cell cw_Ds cw_sh 0 hp_3 k d
  | none => false)
set_option maxRecDepth 1000000 in
theorem fb_run : fb_all = true := by decide +kernel
theorem fb_T : cw_T 0 hp_3 := by
  intro k d hk
  have hl : cw_sh.length = 149 := by decide +kernel
  have hlt := (List.getElem?_eq_some_iff.mp hk).1
  have := List.all_eq_true.mp fb_run k (List.mem_range.mpr (by omega))
  rw [hk] at this
  exact fb_cell_ok this
set_option maxRecDepth 1000000 in
theorem fb_PP : cw_PP 0 hp_3 := by
  unfold cw_PP
  have hz : ∀ k, k < 128 → ri_at hp_3 125 k = 0 := by decide +kernel
  refine ⟨by decide +kernel, by decide +kernel, fun k hk => ⟨fun q => absurd q (by rw [hz k hk]; decide), fun q => absurd (hz k hk) q, fun q => absurd (hz k hk) q⟩, by decide +kernel, by decide +kernel, by decide +kernel, by decide +kernel⟩
set_option maxRecDepth 1000000 in
theorem fb_149 : hp_3[149]? = some (cv_cl [0]) := by
  have h1 : (match hp_3[149]? with
    | some c => cv_cb c (cv_cl [0])
    | none => false) = true := by decide +kernel
  split at h1
  · rename_i c hc
    rw [hc, cv_cb_ok h1]
  · cases h1
set_option maxRecDepth 1000000 in
theorem fb_PM2 : zPM 2 hp_3 := by
  refine ⟨by decide +kernel, ?_⟩
  have e0 : cw_at hp_3 8 0 = some (cv_r 18) := by decide +kernel
  have e1 : cw_at hp_3 8 1 = some (cv_r 20) := by decide +kernel
  have e2 : cw_at hp_3 8 2 = some (cv_r 22) := by decide +kernel
  have e3 : cw_at hp_3 8 3 = some (cv_r 24) := by decide +kernel
  intro i hi
  match i, hi with
  | 0, _ => exact e0
  | 1, _ => exact e1
  | 2, _ => exact e2
  | 3, _ => exact e3
set_option maxRecDepth 1000000 in
theorem fb_PM26 : zPM 26 hp_3 := by
  refine ⟨by decide +kernel, ?_⟩
  have e0 : cw_at hp_3 32 0 = some (cv_r 42) := by decide +kernel
  have e1 : cw_at hp_3 32 1 = some (cv_r 44) := by decide +kernel
  have e2 : cw_at hp_3 32 2 = some (cv_r 46) := by decide +kernel
  have e3 : cw_at hp_3 32 3 = some (cv_r 48) := by decide +kernel
  intro i hi
  match i, hi with
  | 0, _ => exact e0
  | 1, _ => exact e1
  | 2, _ => exact e2
  | 3, _ => exact e3
set_option maxRecDepth 1000000 in
theorem fb_rok {R : ef_U} (b : R.all (fun t => match hp_3[t.1]? with
    | some (.inr (.inr (.inl (_, xs)))) => xs.all (fun o => match o with
      | some c => t.2.contains c
      | none => false)
    | _ => false) = true) : ef_rok R hp_3 := by
  intro t ht i v e
  have u := List.all_eq_true.mp b t ht
  split at u
  · rename_i ty xs hx
    unfold cw_at at e
    rw [hx] at e
    have e' : (xs[i]?).map (fun o => (.inr (.inr (.inl o)) : cv_V)) = some v := e
    cases hi : xs[i]? with
    | none => rw [hi] at e'; cases e'
    | some o =>
      rw [hi] at e'
      cases e'
      have w := List.all_eq_true.mp u o (List.mem_of_getElem? hi)
      split at w
      · rename_i c
        exact ⟨c, List.contains_iff_mem.mp w, rfl⟩
      · cases w
  · cases u
def fb_p : zPp := ((0, (fun _ => 0), 0, [], [], []), zD0, fun _ => 0)
def fb_q : zQs := (0, (fun _ _ => 0), (0, (fun _ => 0), fun _ _ => 0), -1, fun _ _ => 0)
theorem fb_go : zGo fb_p fb_q := ⟨⟨zDR_0, fun l _ => .inr rfl, fun l _ q => absurd (show (0 : Int) = 1 from q) (by decide), by decide, by decide⟩, ⟨by decide, by decide⟩, fun g hg => absurd hg (Nat.not_lt_zero g), ⟨by decide, fun i hi => absurd hi (Nat.not_lt_zero i)⟩, .inl rfl⟩
theorem fb_no (l : Nat) : zTL fb_p.1 fb_p.2.1 l = none := if_neg (show ¬ (0 : Int) = 1 by decide)
theorem fb_KC : zKC hp_3 := by
  intro g hg
  rcases (show g = 0 ∨ g = 1 ∨ g = 2 ∨ g = 3 by omega) with rfl | rfl | rfl | rfl <;> exact ⟨rfl, rfl⟩
theorem fb_UB : ∀ i, i < 20 → cw_at hp_3 64 i = some (cv_r (66 + i)) ∧ 66 ≤ 66 + i ∧ 66 + i ≤ 85 := by
  intro i hi
  refine ⟨?_, by omega, by omega⟩
  rcases (show i = 0 ∨ i = 1 ∨ i = 2 ∨ i = 3 ∨ i = 4 ∨ i = 5 ∨ i = 6 ∨ i = 7 ∨ i = 8 ∨ i = 9 ∨ i = 10 ∨ i = 11 ∨ i = 12 ∨ i = 13 ∨ i = 14 ∨ i = 15 ∨ i = 16 ∨ i = 17 ∨ i = 18 ∨ i = 19 by omega) with rfl | rfl | rfl | rfl | rfl | rfl | rfl | rfl | rfl | rfl | rfl | rfl | rfl | rfl | rfl | rfl | rfl | rfl | rfl | rfl <;> rfl
theorem fb_CE : zCE hp_3 fb_p fb_q := by
  refine ⟨⟨by unfold ef_fok; decide +kernel, fb_rok (by decide +kernel), fb_KC, fb_PM2, fb_PM26⟩, 2, ⟨.inl rfl, by decide +kernel, by decide +kernel, ⟨by decide +kernel, by decide +kernel, fun g hg => absurd hg (Nat.not_lt_zero g), by decide +kernel, fun l hl => ?_, fun c hc => absurd hc (Nat.not_lt_zero c), fun c hc => absurd hc (Nat.not_lt_zero c)⟩, ⟨by decide +kernel, fun w hw => absurd hw (Nat.not_lt_zero w)⟩, by decide +kernel, fun g hg => absurd hg (Nat.not_lt_zero g), fun c hc => absurd hc (Nat.not_lt_zero c)⟩, (fun i => 66 + i), (fun _ _ => 0), (fun _ _ => 0), (fun _ _ => 0), fun g hg => absurd hg (Nat.not_lt_zero g), fun g hg => absurd hg (Nat.not_lt_zero g), ⟨fb_UB, fun i j _ _ q => by dsimp only at q; omega⟩, ⟨by decide +kernel, by decide, fun i hi => absurd hi (Nat.not_lt_zero i)⟩, fun i hi => absurd hi (Nat.not_lt_zero i), by decide +kernel, by decide +kernel, fun c => absurd rfl c⟩
  rw [fb_no]
  have : ∀ l, l < 4 → ri_at hp_3 6 l ≤ ri_at hp_3 5 l := by decide +kernel
  exact this l hl
theorem fb_RQ : zRQ hp_3 fb_p fb_q := by
  refine ⟨⟨⟨by decide +kernel, by decide +kernel, fun g hg => absurd hg (Nat.not_lt_zero g), by decide +kernel, fun l hl => ?_, fun c hc => absurd hc (Nat.not_lt_zero c), fun c hc => absurd hc (Nat.not_lt_zero c)⟩, ⟨by decide +kernel, fun w hw => absurd hw (Nat.not_lt_zero w)⟩, by decide +kernel, fun g hg => absurd hg (Nat.not_lt_zero g), fun c hc => absurd hc (Nat.not_lt_zero c)⟩, fun g hg => absurd hg (Nat.not_lt_zero g), by decide +kernel, ⟨by decide +kernel, by decide, fun i hi => absurd hi (Nat.not_lt_zero i)⟩, .inl ⟨rfl, by decide +kernel⟩⟩
  rw [fb_no]
  have : ∀ l, l < 4 → ri_at hp_3 117 l = 0 := by decide +kernel
  exact this l hl
theorem fb_E : lg_E hp_3 := by
  have z : ri_at hp_3 0 1 = 0 := by decide +kernel
  exact ⟨⟨by decide +kernel, fun i hi => by rw [z] at hi; omega, by decide +kernel⟩, ⟨by decide +kernel, by decide +kernel⟩, fb_p, fb_q, fb_go, fb_CE, fb_RQ⟩
theorem fb_H : lg_H hp_3 := ⟨0, fb_T, fb_PP, fb_E, 0, fb_149⟩
