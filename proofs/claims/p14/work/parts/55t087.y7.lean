/-! ===== what lines tell, whole: the reference ===== -/
theorem zRe_and {α : Type} {t : Nat → Int} {n : Nat} {h h' : cv_H} {x : Int32} {z : (Int × Nat) ⊕ (α × Nat)} {D1 D2 : α → Prop} (a : zRe t n h h' x z D1) (b : ∀ v q, z = .inr (v, q) → D2 v) : zRe t n h h' x z (fun v => D1 v ∧ D2 v) := by
  rcases a with ⟨v, q, e, e1, e2, e3, e4, e5, e6⟩ | ⟨f, c, e, r⟩
  · exact .inl ⟨v, q, e, e1, e2, e3, e4, e5, e6, b v q e⟩
  · exact .inr ⟨f, c, e, r⟩
theorem zSum {α : Type} (S : (Int × Nat) ⊕ (α × Nat)) : (∃ e, S = .inl e) ∨ ∃ v q, S = .inr (v, q) := by
  cases S with
  | inl e => exact .inl ⟨e, rfl⟩
  | inr w => exact .inr ⟨w.1, w.2, rfl⟩
theorem zJn {G : Int} {X : cv_X} {Q : cv_O → Prop} {t : Nat → Int} {mi n M : Nat} {L : cv_L} {h0 : cv_H} {α : Type} {S : (Int × Nat) ⊕ (α × Nat)} (D1 D2 : cv_H → α → Prop)
    (a : ∀ Q' : cv_O → Prop, (∀ (x : Int32) h', cw_T G h' → cw_Fr cw_Ds cw_sh M h0 h' → zFK h0 h' → zRe t n h0 h' x S (D1 h') → Q' (some (cv_i x), h')) → cw_X X mi Q' 0 L [] h0)
    (b : ∀ v q, S = .inr (v, q) → ∀ Q' : cv_O → Prop, (∀ (x : Int32) h', D2 h' v → Q' (some (cv_i x), h')) → cw_X X mi Q' 0 L [] h0)
    (hQ : ∀ (x : Int32) h', cw_T G h' → cw_Fr cw_Ds cw_sh M h0 h' → zFK h0 h' → zRe t n h0 h' x S (fun v => D1 h' v ∧ D2 h' v) → Q (some (cv_i x), h')) : cw_X X mi Q 0 L [] h0 := by
  have A := a (fun o => ∃ (x : Int32) (hb : cv_H), o = (some (cv_i x), hb) ∧ cw_T G hb ∧ cw_Fr cw_Ds cw_sh M h0 hb ∧ zFK h0 hb ∧ zRe t n h0 hb x S (D1 hb)) (fun x h' b1 b2 b3 b4 => ⟨x, h', rfl, b1, b2, b3, b4⟩)
  rcases zSum S with ⟨e, hS⟩ | ⟨v, q, hS⟩
  · refine cw_X_mono A (fun o ho => ?_)
    obtain ⟨x, hb, rfl, b1, b2, b3, b4⟩ := ho
    exact hQ x hb b1 b2 b3 (zRe_and b4 (fun v q e' => by rw [hS] at e'; cases e'))
  · have B := b v q hS (fun o => ∃ (x : Int32) (hb : cv_H), o = (some (cv_i x), hb) ∧ D2 hb v) (fun x h' d => ⟨x, h', rfl, d⟩)
    refine cw_X_mono (cw_X_and A B) (fun o ho => ?_)
    obtain ⟨⟨x, hb, rfl, b1, b2, b3, b4⟩, x', hb', e', d⟩ := ho
    cases e'
    exact hQ x hb b1 b2 b3 (zRe_and b4 (fun v' q' e' => by rw [hS] at e'; cases e'; exact d))
def zcD (t : Nat → Int) (n : Nat) (l : List Int) (p : Nat) (d : zDt) : zDt := zo (zm t n l (zx t n p)) (fun _ p1 => zo (zn t n 1 99 p1) (fun c p2 => zo (zn t n 1 999 (zx t n p2)) (fun v _ => zdC d c (zw t n p2 - 5) v) d) d) d
def zwD (t : Nat → Int) (n : Nat) (l : List Int) (p : Nat) (d : zDt) : zDt := zo (zm t n l (zx t n p)) (fun _ p1 => zo (zn t n 1 999 p1) (fun c p2 => if 1 < zwk (zk t n p2) (zw t n p2) then zo (zn t n 0 (zmo (zwk (zk t n p2) (zw t n p2))) (zx t n p2)) (fun v _ => zdW d c (zwk (zk t n p2) (zw t n p2)) v) d else zdW d c (zwk (zk t n p2) (zw t n p2)) 0) d) d
def zgD (t : Nat → Int) (n : Nat) (l cn : List Int) (p : Nat) (d : zDt) : zDt := zo (zm t n l (zx t n p)) (fun _ p1 => zo (zn t n 24 144 p1) (fun a p2 => zo (zn t n 24 72 p2) (fun hh p3 => zo (zn t n 20 400 p3) (fun w p4 => zdG d l.length (zgF t n hh cn 901 0 0 p4 (zgB a hh w))) d) d) d) d
def zcJ (t : Nat → Int) (n : Nat) (l : List Int) (p : Nat) (h h' : cv_H) : Prop := ∃ c k v : Int, (∀ d, zcD t n l p d = zdC d c k v) ∧ ri_at h' 124 (18 + 3 * l.length) = c ∧ ri_at h' 124 (18 + 3 * l.length + 1) = k ∧ ri_at h' 124 (18 + 3 * l.length + 2) = v ∧ ∀ j, j < 18 + 3 * l.length → ri_at h' 124 j = ri_at h 124 j
def zwJ (t : Nat → Int) (n : Nat) (l : List Int) (p : Nat) (h h' : cv_H) : Prop := ∃ c k v : Int, (∀ d, zwD t n l p d = zdW d c k v) ∧ ri_at h' 122 (18 + 3 * l.length) = c ∧ ri_at h' 122 (18 + 3 * l.length + 1) = k ∧ ri_at h' 122 (18 + 3 * l.length + 2) = v ∧ ∀ j, j < 18 + 3 * l.length → ri_at h' 122 j = ri_at h 122 j
def zgJ (t : Nat → Int) (n : Nat) (l cn : List Int) (p : Nat) (h h' : cv_H) : Prop := ∃ R : (Nat → Int) × Nat, (∀ d, zgD t n l cn p d = zdG d l.length R) ∧ zKR h' (64 + 16 * l.length) l.length R.1 ∧ ri_at h' 119 (64 + 16 * l.length + 14) = (R.2 : Nat) ∧ zKB (64 + 16 * l.length) l.length h h'
section TZ
variable {G : Int} {X : cv_X} {Q : cv_O → Prop} {t : Nat → Int}
theorem rt_causeLineJ {h0 : cv_H} {n p : Nat} (ht : ∀ i, i < n → t i = ri_at h0 112 i) (hn9 : n ≤ 900) (hT : cw_T G h0) (hwr : ∀ i, i < 177 → ri_at h0 113 i = pp_words.getD i 0) (hpn : p ≤ n) (hz : zR t n p h0) {l : List Int} (hc : ri_at h0 111 18 = l.length) (hlm : l.length ≤ 6) (hl : ∀ k, k < l.length → ri_at h0 123 (6 + k) = l.getD k 0) (hQ : ∀ (x : Int32) h', cw_T G h' → cw_Fr cw_Ds cw_sh mk_ca h0 h' → zFK h0 h' → zRe t n h0 h' x (zcl t n l p) (fun v => ((∀ k, k < l.length → ri_at h' 123 (6 + k) = l.getD k 0) ∧ ri_at h' 123 (6 + l.length) = v ∧ ri_at h' 111 18 = l.length + 1) ∧ zcJ t n l p h0 h') → Q (some (cv_i x), h')) : cw_X X 186 Q 0 (cv_ent 0 [cv_r 111]) [] h0 :=
  zJn (fun h' v => ((∀ k, k < l.length → ri_at h' 123 (6 + k) = l.getD k 0) ∧ ri_at h' 123 (6 + l.length) = v ∧ ri_at h' 111 18 = l.length + 1)) (fun h' _ => zcJ t n l p h0 h') (fun Q' q => rt_causeLineK ht hn9 hT hwr hpn hz hc hlm hl q) (fun v q e Q' k => by
    obtain ⟨e0, p1, c, p2, x, e1, e2, e3, e4⟩ := zcl_i e
    exact rt_causeLineD ht hn9 hT hwr hpn hz hc (by omega) hl e1 e2 e3 e4 (fun x' h' T F a b c' d => k x' h' ⟨_, _, _, fun d => by unfold zcD; rw [zo_r e1, zo_r e2, zo_r e4], a, b, c', d⟩)) hQ
theorem rt_workLineJ {h0 : cv_H} {n p : Nat} (ht : ∀ i, i < n → t i = ri_at h0 112 i) (hn9 : n ≤ 900) (hT : cw_T G h0) (hwr : ∀ i, i < 177 → ri_at h0 113 i = pp_words.getD i 0) (hpn : p ≤ n) (hz : zR t n p h0) {l : List Int} (hc : ri_at h0 111 17 = l.length) (hlm : l.length ≤ 6) (hl : ∀ k, k < l.length → ri_at h0 121 (6 + k) = l.getD k 0) (hQ : ∀ (x : Int32) h', cw_T G h' → cw_Fr cw_Ds cw_sh mk_wo h0 h' → zFK h0 h' → zRe t n h0 h' x (zwl t n l p) (fun v => ((∀ k, k < l.length → ri_at h' 121 (6 + k) = l.getD k 0) ∧ ri_at h' 121 (6 + l.length) = v ∧ ri_at h' 111 17 = l.length + 1) ∧ zwJ t n l p h0 h') → Q (some (cv_i x), h')) : cw_X X 185 Q 0 (cv_ent 0 [cv_r 111]) [] h0 :=
  zJn (fun h' v => ((∀ k, k < l.length → ri_at h' 121 (6 + k) = l.getD k 0) ∧ ri_at h' 121 (6 + l.length) = v ∧ ri_at h' 111 17 = l.length + 1)) (fun h' _ => zwJ t n l p h0 h') (fun Q' q => rt_workLineK ht hn9 hT hwr hpn hz hc hlm hl q) (fun v q e Q' k => by
    obtain ⟨e0, p1, c, p2, e1, e2, e3, e4⟩ := zwl_i e
    rcases e4 with ⟨e4, x, e5⟩ | ⟨e4, e5⟩
    · exact rt_workLineDA ht hn9 hT hwr hpn hz hc (by omega) hl e1 e2 e4 e5 (fun x' h' T F a b c' d => k x' h' ⟨_, _, _, fun d => by unfold zwD; rw [zo_r e1, zo_r e2, if_pos e4, zo_r e5], a, b, c', d⟩)
    · exact rt_workLineDB ht hn9 hT hwr hpn hz hc (by omega) hl e1 e2 e3 e4 (fun x' h' T F a b c' d => k x' h' ⟨_, _, _, fun d => by unfold zwD; rw [zo_r e1, zo_r e2, if_neg (by omega)], a, b, c', d⟩)) hQ
theorem rt_gateLineJ {h0 : cv_H} {n p : Nat} (ht : ∀ i, i < n → t i = ri_at h0 112 i) (hn9 : n ≤ 900) (hT : cw_T G h0) (hwr : ∀ i, i < 177 → ri_at h0 113 i = pp_words.getD i 0) (hpn : p ≤ n) (hz : zR t n p h0) {l cn : List Int} (hc : ri_at h0 111 16 = l.length) (hlm : l.length ≤ 4) (hl : ∀ k, k < l.length → ri_at h0 118 (4 + k) = l.getD k 0) (hcc : ri_at h0 111 18 = cn.length) (hc6 : cn.length ≤ 6) (hcl : ∀ k, k < cn.length → ri_at h0 123 (6 + k) = cn.getD k 0) (hQ : ∀ (x : Int32) h', cw_T G h' → cw_Fr cw_Ds cw_sh mk_gz h0 h' → zFK h0 h' → zRe t n h0 h' x (zgt t n l cn p) (fun v => ((∀ k, k < l.length → ri_at h' 118 (4 + k) = l.getD k 0) ∧ ri_at h' 118 (4 + l.length) = v ∧ ri_at h' 111 16 = l.length + 1) ∧ zgJ t n l cn p h0 h') → Q (some (cv_i x), h')) : cw_X X 179 Q 0 (cv_ent 0 [cv_r 111]) [] h0 :=
  zJn (fun h' v => ((∀ k, k < l.length → ri_at h' 118 (4 + k) = l.getD k 0) ∧ ri_at h' 118 (4 + l.length) = v ∧ ri_at h' 111 16 = l.length + 1)) (fun h' _ => zgJ t n l cn p h0 h') (fun Q' q => rt_gateLineK ht hn9 hT hwr hpn hz hc hlm hl hcc hc6 hcl q) (fun v q e Q' k => by
    obtain ⟨e0, p1, a, p2, hh, p3, w, p4, v0, e1, e2, e3, e4, e5⟩ := zgt_i e
    exact rt_gateLineD ht hn9 hT hwr hpn hz hc (by omega) hl hcc hc6 hcl e1 e2 e3 e4 e5 (fun x' h' T F a b c' => k x' h' ⟨_, fun d => by unfold zgD; rw [zo_r e1, zo_r e2, zo_r e3, zo_r e4], a, b, c'⟩)) hQ
end TZ
def zRWw (u : Nat) (h : cv_H) (s : zSg) (d : zDt) : Prop := ∀ k, k < s.2.2.2.2.1.length → ri_at h 122 (18 * u + 3 * k) = (d.1 9).getD k 0 ∧ ri_at h 122 (18 * u + 3 * k + 1) = (d.1 10).getD k 0 ∧ ri_at h 122 (18 * u + 3 * k + 2) = (d.1 11).getD k 0
def zRWc (u : Nat) (h : cv_H) (s : zSg) (d : zDt) : Prop := ∀ k, k < s.2.2.2.2.2.length → ri_at h 124 (18 * u + 3 * k) = (d.1 13).getD k 0 ∧ ri_at h 124 (18 * u + 3 * k + 1) = (d.1 14).getD k 0 ∧ ri_at h 124 (18 * u + 3 * k + 2) = (d.1 15).getD k 0
def zRWn (u : Nat) (h : cv_H) (d : zDt) : Prop := ∀ j, j < 12 → ri_at h 114 (12 * u + j) = d.2 1 j
def zRWg (u : Nat) (h : cv_H) (s : zSg) (d : zDt) : Prop := ∀ i, i < s.2.2.2.1.length → (∀ j, j < 15 → ri_at h 119 (64 * u + 16 * i + j) = d.2 (16 + i) j) ∧ ∀ j, j < 9 → ri_at h 120 (36 * u + 9 * i + j) = d.2 (16 + i) (16 + j)
def zRWl (u : Nat) (h : cv_H) (s : zSg) (d : zDt) : Prop := ((d.1 2).length : Int) = s.2.2.1 ∧ ∀ j : Nat, j < 4 → s.2.1 (j : Int) = 1 → ∃ a b : Nat, d.2 3 j = a ∧ d.2 4 j = b ∧ a ≤ b ∧ b ≤ (d.1 2).length ∧ ri_at h 115 (4 * u + j) = a ∧ ri_at h 116 (4 * u + j) = b ∧ zKN h (64 * u) a [] (((d.1 2).drop a).take (b - a)) ∧ (zkS a [] (((d.1 2).drop a).take (b - a))).length = 1
/-- what the reference holds of a text: u = 0 of the kept one, u = 1 of the one that is read -/
def zRW (u : Nat) (h : cv_H) (s : zSg) (d : zDt) : Prop := zWL s d ∧ zRWw u h s d ∧ zRWc u h s d ∧ zRWn u h d ∧ zRWg u h s d ∧ zRWl u h s d
section ZQ
variable {u : Nat} {h h' : cv_H} {s : zSg} {d : zDt}
theorem zRWw_eq (a : zRWw u h s d) (e : ∀ i, ri_at h' 122 i = ri_at h 122 i) : zRWw u h' s d := fun k hk => by rw [e, e, e]; exact a k hk
theorem zRWc_eq (a : zRWc u h s d) (e : ∀ i, ri_at h' 124 i = ri_at h 124 i) : zRWc u h' s d := fun k hk => by rw [e, e, e]; exact a k hk
theorem zRWn_eq (a : zRWn u h d) (e : ∀ i, ri_at h' 114 i = ri_at h 114 i) : zRWn u h' d := fun j hj => (e _).trans (a j hj)
theorem zRWg_eq (a : zRWg u h s d) (e : ∀ i, ri_at h' 119 i = ri_at h 119 i) (e2 : ∀ i, ri_at h' 120 i = ri_at h 120 i) : zRWg u h' s d := fun i hi => ⟨fun j hj => (e _).trans ((a i hi).1 j hj), fun j hj => (e2 _).trans ((a i hi).2 j hj)⟩
theorem zRWl_eq (a : zRWl u h s d) (e1 : ∀ i, ri_at h' 115 i = ri_at h 115 i) (e2 : ∀ i, ri_at h' 116 i = ri_at h 116 i) (e3 : ∀ i, ri_at h' 125 i = ri_at h 125 i) (e4 : ∀ i, ri_at h' 126 i = ri_at h 126 i) (e5 : ∀ i, ri_at h' 127 i = ri_at h 127 i) : zRWl u h' s d := by
  refine ⟨a.1, fun j hj ht => ?_⟩
  obtain ⟨x, y, b1, b2, b3, b4, b5, b6, b7⟩ := a.2 j hj ht
  exact ⟨x, y, b1, b2, b3, b4, (e1 _).trans b5, (e2 _).trans b6, zKN_eq b7.1 (fun _ _ => ⟨e3 _, e4 _, e5 _⟩), b7.2⟩
theorem getD_app {l : List Int} {v : Int} {k : Nat} (h : k < l.length + 1) : (l ++ [v]).getD k 0 = if k = l.length then v else l.getD k 0 := by
  by_cases c : k = l.length
  · rw [if_pos c, c, List.getD_eq_getElem?_getD, List.getElem?_append_right (Nat.le_refl _), Nat.sub_self]
    rfl
  · rw [if_neg c, List.getD_eq_getElem?_getD, List.getD_eq_getElem?_getD, List.getElem?_append_left (by omega)]
/-- the eight rows of data besides one -/
def zRE (R : List Nat) (h h' : cv_H) : Prop := ∀ k, k ∈ [114, 115, 116, 119, 120, 122, 124, 125, 126, 127] → ¬ k ∈ R → ∀ i, ri_at h' k i = ri_at h k i
theorem rng_less {m d p : Nat} (hp : p ≤ 16) (q : ((List.range 17).all (fun s => !cw_bit m d s)) = true) : ((List.range (p + 1)).all (fun s => !cw_bit m d s)) = true := List.all_eq_true.mpr (fun s hs => List.all_eq_true.mp q s (List.mem_range.mpr (by have := List.mem_range.mp hs; omega)))
theorem zRE_fr {R : List Nat} {m : Nat} (C : cw_Fr cw_Ds cw_sh m h h') (q : ([114, 115, 116, 119, 120, 122, 124, 125, 126, 127].all (fun k => R.contains k || (List.range 17).all (fun s => !cw_bit m (k - 61) s))) = true) : zRE R h h' := by
  intro k hk hn i
  have q1 := List.all_eq_true.mp q k hk
  rw [Bool.or_eq_true] at q1
  have q2 : ((List.range 17).all (fun s => !cw_bit m (k - 61) s)) = true := by
    rcases q1 with q1 | q1
    · exact absurd (List.contains_iff_mem.mp q1) hn
    · exact q1
  simp only [List.mem_cons, List.not_mem_nil, or_false] at hk
  rcases hk with rfl | rfl | rfl | rfl | rfl | rfl | rfl | rfl | rfl | rfl
  · exact ri_frq C (k := 114) (d := 53) rfl rfl (by decide) (rng_less (by decide) q2)
  · exact ri_frq C (k := 115) (d := 54) rfl rfl (by decide) (rng_less (by decide) q2)
  · exact ri_frq C (k := 116) (d := 55) rfl rfl (by decide) (rng_less (by decide) q2)
  · exact ri_frq C (k := 119) (d := 58) rfl rfl (by decide) (rng_less (by decide) q2)
  · exact ri_frq C (k := 120) (d := 59) rfl rfl (by decide) (rng_less (by decide) q2)
  · exact ri_frq C (k := 122) (d := 61) rfl rfl (by decide) (rng_less (by decide) q2)
  · exact ri_frq C (k := 124) (d := 63) rfl rfl (by decide) (rng_less (by decide) q2)
  · exact ri_frq C (k := 125) (d := 64) rfl rfl (by decide) (rng_less (by decide) q2)
  · exact ri_frq C (k := 126) (d := 65) rfl rfl (by decide) (rng_less (by decide) q2)
  · exact ri_frq C (k := 127) (d := 66) rfl rfl (by decide) (rng_less (by decide) q2)
theorem zRW_eq (a : zRW u h s d) (e : zRE [] h h') : zRW u h' s d :=
  ⟨a.1, zRWw_eq a.2.1 (e 122 (by decide) (by decide)), zRWc_eq a.2.2.1 (e 124 (by decide) (by decide)), zRWn_eq a.2.2.2.1 (e 114 (by decide) (by decide)), zRWg_eq a.2.2.2.2.1 (e 119 (by decide) (by decide)) (e 120 (by decide) (by decide)), zRWl_eq a.2.2.2.2.2 (e 115 (by decide) (by decide)) (e 116 (by decide) (by decide)) (e 125 (by decide) (by decide)) (e 126 (by decide) (by decide)) (e 127 (by decide) (by decide))⟩
end ZQ
section ZL
variable {t : Nat → Int} {n p : Nat} {h h' : cv_H} {d : zDt} {gt kn : Int} {lt : Int → Int} {gl wl cl : List Int}
theorem zlD_0 {vs : List Int} {q : Nat} (hw : zw t n p = 0) (e : zgl t n gt p = .inr (vs, q)) : zlD t n (gt, lt, kn, gl, wl, cl) p d = zdN d vs := by
  unfold zlD
  rw [if_pos hw, zo_r e]
theorem zlD_1 (hw : zw t n p = 1) : zlD t n (gt, lt, kn, gl, wl, cl) p d = zdL d (zw t n (zx t n p) - 5).toNat (zfD t n 901 [] kn 1 1 (zx t n (zx t n p)) (d.1 2) 0) := by
  unfold zlD
  rw [if_neg (by omega), if_pos hw]
theorem zlD_2 (hw : zw t n p = 2) : zlD t n (gt, lt, kn, gl, wl, cl) p d = zgD t n gl cl p d := by
  unfold zlD zgD
  rw [if_neg (by omega), if_neg (by omega), if_pos hw]
theorem zlD_3 (hw : zw t n p = 3) : zlD t n (gt, lt, kn, gl, wl, cl) p d = zwD t n wl p d := by
  unfold zlD zwD
  rw [if_neg (by omega), if_neg (by omega), if_neg (by omega), if_pos hw]
theorem zlD_4 (hw : 3 < zw t n p) : zlD t n (gt, lt, kn, gl, wl, cl) p d = zcD t n cl p d := by
  unfold zlD zcD
  rw [if_neg (by omega), if_neg (by omega), if_neg (by omega), if_neg (by omega)]
theorem zRW_n {vs : List Int} {q : Nat} (a : zRW 1 h (gt, lt, kn, gl, wl, cl) d) (hw : zw t n p = 0) (e : zgl t n gt p = .inr (vs, q)) (E : zRE [114] h h') (b : ∀ i, i < 12 → ri_at h' 114 (12 + i) = vs.getD i 0) : zRW 1 h' (1, lt, kn, gl, wl, cl) (zlD t n (gt, lt, kn, gl, wl, cl) p d) := by
  rw [zlD_0 hw e]
  have e16 : ∀ i, (zdN d vs).2 (16 + i) = d.2 (16 + i) := fun i => zfU_ne (by omega)
  exact ⟨a.1, zRWw_eq a.2.1 (E 122 (by decide) (by decide)), zRWc_eq a.2.2.1 (E 124 (by decide) (by decide)), fun j hj => b j hj, zRWg_eq (show zRWg 1 h (1, lt, kn, gl, wl, cl) (zdN d vs) from fun i hi => ⟨fun j hj => ((a.2.2.2.2.1 i hi).1 j hj).trans (congrFun (e16 i) j).symm, fun j hj => ((a.2.2.2.2.1 i hi).2 j hj).trans (congrFun (e16 i) (16 + j)).symm⟩) (E 119 (by decide) (by decide)) (E 120 (by decide) (by decide)), zRWl_eq a.2.2.2.2.2 (E 115 (by decide) (by decide)) (E 116 (by decide) (by decide)) (E 125 (by decide) (by decide)) (E 126 (by decide) (by decide)) (E 127 (by decide) (by decide))⟩
theorem zRW_c {v : Int} (a : zRW 1 h (gt, lt, kn, gl, wl, cl) d) (hw : 3 < zw t n p) (E : zRE [124] h h') (b : zcJ t n cl p h h') : zRW 1 h' (gt, lt, kn, gl, wl, cl ++ [v]) (zlD t n (gt, lt, kn, gl, wl, cl) p d) := by
  obtain ⟨c, k, x, e, b1, b2, b3, b4⟩ := b
  rw [zlD_4 hw, e]
  obtain ⟨⟨⟨w1, w2, w3⟩, w4, w5, w6⟩, a2, a3, a4, a5, a6⟩ := a
  dsimp only at w1 w2 w3 w4 w5 w6
  refine ⟨⟨⟨w1, w2, w3⟩, ?_, ?_, ?_⟩, zRWw_eq a2 (E 122 (by decide) (by decide)), fun j hj => ?_, zRWn_eq a4 (E 114 (by decide) (by decide)), zRWg_eq a5 (E 119 (by decide) (by decide)) (E 120 (by decide) (by decide)), zRWl_eq a6 (E 115 (by decide) (by decide)) (E 116 (by decide) (by decide)) (E 125 (by decide) (by decide)) (E 126 (by decide) (by decide)) (E 127 (by decide) (by decide))⟩
  · show (d.1 13 ++ [c]).length = (cl ++ [v]).length
    rw [List.length_append, List.length_append, w4]; rfl
  · show (d.1 14 ++ [k]).length = (cl ++ [v]).length
    rw [List.length_append, List.length_append, w5]; rfl
  · show (d.1 15 ++ [x]).length = (cl ++ [v]).length
    rw [List.length_append, List.length_append, w6]; rfl
  · have hj' : j < cl.length + 1 := by
      have : j < (cl ++ [v]).length := hj
      rw [List.length_append] at this
      exact this
    show ri_at h' 124 (18 * 1 + 3 * j) = (d.1 13 ++ [c]).getD j 0 ∧ ri_at h' 124 (18 * 1 + 3 * j + 1) = (d.1 14 ++ [k]).getD j 0 ∧ ri_at h' 124 (18 * 1 + 3 * j + 2) = (d.1 15 ++ [x]).getD j 0
    rw [getD_app (by omega), getD_app (by omega), getD_app (by omega), w4, w5, w6]
    by_cases q : j = cl.length
    · rw [if_pos q, if_pos q, if_pos q, q]
      exact ⟨b1, b2, b3⟩
    · rw [if_neg q, if_neg q, if_neg q]
      have := a3 j (by show j < cl.length; omega)
      exact ⟨(b4 _ (by omega)).trans this.1, (b4 _ (by omega)).trans this.2.1, (b4 _ (by omega)).trans this.2.2⟩
theorem zRW_w {v : Int} (a : zRW 1 h (gt, lt, kn, gl, wl, cl) d) (hw : zw t n p = 3) (E : zRE [122] h h') (b : zwJ t n wl p h h') : zRW 1 h' (gt, lt, kn, gl, wl ++ [v], cl) (zlD t n (gt, lt, kn, gl, wl, cl) p d) := by
  obtain ⟨c, k, x, e, b1, b2, b3, b4⟩ := b
  rw [zlD_3 hw, e]
  obtain ⟨⟨⟨w1, w2, w3⟩, w4, w5, w6⟩, a2, a3, a4, a5, a6⟩ := a
  dsimp only at w1 w2 w3 w4 w5 w6
  refine ⟨⟨⟨?_, ?_, ?_⟩, w4, w5, w6⟩, fun j hj => ?_, zRWc_eq a3 (E 124 (by decide) (by decide)), zRWn_eq a4 (E 114 (by decide) (by decide)), zRWg_eq a5 (E 119 (by decide) (by decide)) (E 120 (by decide) (by decide)), zRWl_eq a6 (E 115 (by decide) (by decide)) (E 116 (by decide) (by decide)) (E 125 (by decide) (by decide)) (E 126 (by decide) (by decide)) (E 127 (by decide) (by decide))⟩
  · show (d.1 9 ++ [c]).length = (wl ++ [v]).length
    rw [List.length_append, List.length_append, w1]; rfl
  · show (d.1 10 ++ [k]).length = (wl ++ [v]).length
    rw [List.length_append, List.length_append, w2]; rfl
  · show (d.1 11 ++ [x]).length = (wl ++ [v]).length
    rw [List.length_append, List.length_append, w3]; rfl
  · have hj' : j < wl.length + 1 := by
      have : j < (wl ++ [v]).length := hj
      rw [List.length_append] at this
      exact this
    show ri_at h' 122 (18 * 1 + 3 * j) = (d.1 9 ++ [c]).getD j 0 ∧ ri_at h' 122 (18 * 1 + 3 * j + 1) = (d.1 10 ++ [k]).getD j 0 ∧ ri_at h' 122 (18 * 1 + 3 * j + 2) = (d.1 11 ++ [x]).getD j 0
    rw [getD_app (by omega), getD_app (by omega), getD_app (by omega), w1, w2, w3]
    by_cases q : j = wl.length
    · rw [if_pos q, if_pos q, if_pos q, q]
      exact ⟨b1, b2, b3⟩
    · rw [if_neg q, if_neg q, if_neg q]
      have := a2 j (by show j < wl.length; omega)
      exact ⟨(b4 _ (by omega)).trans this.1, (b4 _ (by omega)).trans this.2.1, (b4 _ (by omega)).trans this.2.2⟩
theorem zRW_g {v : Int} (a : zRW 1 h (gt, lt, kn, gl, wl, cl) d) (hw : zw t n p = 2) (E : zRE [119, 120] h h') (b : zgJ t n gl cl p h h') : zRW 1 h' (gt, lt, kn, gl ++ [v], wl, cl) (zlD t n (gt, lt, kn, gl, wl, cl) p d) := by
  obtain ⟨R, e, b1, b2, b3⟩ := b
  rw [zlD_2 hw, e]
  obtain ⟨a1, a2, a3, a4, a5, a6⟩ := a
  refine ⟨a1, zRWw_eq a2 (E 122 (by decide) (by decide)), zRWc_eq a3 (E 124 (by decide) (by decide)), ?_, fun i hi => ?_, ?_⟩
  · intro j hj
    show ri_at h' 114 (12 * 1 + j) = zfU d.2 (16 + gl.length) _ 1 j
    rw [zfU_ne (by omega)]
    exact (E 114 (by decide) (by decide) _).trans (a4 j hj)
  · have hi' : i < gl.length + 1 := by
      have : i < (gl ++ [v]).length := hi
      rw [List.length_append] at this
      exact this
    show (∀ j, j < 15 → ri_at h' 119 (64 * 1 + 16 * i + j) = zfU d.2 (16 + gl.length) _ (16 + i) j) ∧ ∀ j, j < 9 → ri_at h' 120 (36 * 1 + 9 * i + j) = zfU d.2 (16 + gl.length) _ (16 + i) (16 + j)
    by_cases q : i = gl.length
    · rw [q, zfU_eq]
      refine ⟨fun j hj => ?_, fun j hj => ?_⟩
      · by_cases c : j = 14
        · rw [if_pos c, c]; exact b2
        · rw [if_neg c]; exact b1.1 j (by omega)
      · rw [if_neg (by omega)]; exact b1.2 j hj
    · rw [zfU_ne (by omega)]
      have := a5 i (by show i < gl.length; omega)
      exact ⟨fun j hj => (b3.1 _ (by omega)).trans (this.1 j hj), fun j hj => (b3.2 _ (by omega)).trans (this.2 j hj)⟩
  · have h3 : ∀ i, (zdG d gl.length R).2 3 i = d.2 3 i := fun i => congrFun (zfU_ne (by omega)) i
    have h4 : ∀ i, (zdG d gl.length R).2 4 i = d.2 4 i := fun i => congrFun (zfU_ne (by omega)) i
    have := zRWl_eq a6 (E 115 (by decide) (by decide)) (E 116 (by decide) (by decide)) (E 125 (by decide) (by decide)) (E 126 (by decide) (by decide)) (E 127 (by decide) (by decide))
    refine ⟨this.1, fun j hj ht => ?_⟩
    obtain ⟨x, y, c1, c2, c3⟩ := this.2 j hj ht
    exact ⟨x, y, (h3 j).trans c1, (h4 j).trans c2, c3⟩
theorem zfD_ap : ∀ (u : Nat) (st : List Int) (kn w m : Int) (p : Nat) (A B : List Int) (nm : Nat), (zfD t n u st kn w m p (A ++ B) nm).1 = A ++ (zfD t n u st kn w m p B nm).1
  | 0, _, _, _, _, _, _, _, _ => rfl
  | u + 1, st, kn, w, m, p, A, B, nm => by
    rw [zfD_s, zfD_s]
    have eC : zlC t n p (A ++ B) = A ++ zlC t n p B := by
      unfold zlC
      split
      · rfl
      · rw [List.append_assoc]
    have eS : zsC t n p st (A ++ B) = A ++ zsC t n p st B := by unfold zsC; rw [List.append_assoc]
    by_cases c : zsk (zk t n p) (zw t n p) = 0 ∧ w = 0 ∧ zc0 st = 0
    · rw [if_pos c, if_pos c]
      exact List.append_assoc ..
    · rw [if_neg c, if_neg c]
      by_cases c1 : w = 1
      · rw [if_pos c1, if_pos c1, eC]
        rcases zSum (zlf t n st kn m p) with ⟨e, hS⟩ | ⟨v, q, hS⟩
        · rw [hS]; rfl
        · rw [zo_r hS, zo_r hS]; exact zfD_ap u _ _ _ _ _ A _ _
      · rw [if_neg c1, if_neg c1, eS]
        rcases zSum (zsg t n st kn m p) with ⟨e, hS⟩ | ⟨v, q, hS⟩
        · rw [hS]; rfl
        · rw [zo_r hS, zo_r hS]; exact zfD_ap u _ _ _ _ _ A _ _
theorem zRW_l {k' : Int} {fb : Nat} (hfb : (fb : Int) = kn) (a : zRW 1 h (gt, lt, kn, gl, wl, cl) d) (hw : zw t n p = 1) (hj4 : 5 ≤ zw t n (zx t n p) ∧ zw t n (zx t n p) ≤ 8) (E : zRE [115, 116, 125, 126, 127] h h') (b : zLW t n p (fun i => (ri_at h 125 (64 + i), ri_at h 126 (64 + i), ri_at h 127 (64 + i))) fb kn k' h h') : zRW 1 h' (gt, (fun i => if i = zw t n (zx t n p) - 5 then 1 else lt i), k', gl, wl, cl) (zlD t n (gt, lt, kn, gl, wl, cl) p d) := by
  rw [zlD_1 hw]
  obtain ⟨a1, a2, a3, a4, a5, a6, a7⟩ := a
  obtain ⟨b1, b2, b3, b4, b5, b6⟩ := b
  dsimp only at a6
  have hL : (d.1 2).length = fb := by omega
  have eC : (zfD t n 901 [] kn 1 1 (zx t n (zx t n p)) (d.1 2) 0).1 = d.1 2 ++ (zfD t n 901 [] kn 1 1 (zx t n (zx t n p)) [] 0).1 := by
    have := zfD_ap (t := t) (n := n) 901 [] kn 1 1 (zx t n (zx t n p)) (d.1 2) [] 0
    rwa [List.append_nil] at this
  revert b1 b2 b6 eC
  generalize (zfD t n 901 [] kn 1 1 (zx t n (zx t n p)) [] 0).1 = C
  generalize zfD t n 901 [] kn 1 1 (zx t n (zx t n p)) (d.1 2) 0 = R
  intro b1 b2 b6 eC
  obtain ⟨J, hJ⟩ : ∃ J, (zw t n (zx t n p) - 5).toNat = J := ⟨_, rfl⟩
  have hJi : zw t n (zx t n p) - 5 = (J : Int) := by omega
  rw [hJ] at b3 b4 b5
  rw [hJ, hJi]
  refine ⟨a1, zRWw_eq a2 (E 122 (by decide) (by decide)), zRWc_eq a3 (E 124 (by decide) (by decide)), fun j hj => (E 114 (by decide) (by decide) _).trans (a4 j hj), fun i hi => ?_, ?_, fun j hj ht => ?_⟩
  · have g : (zdL d J R).2 (16 + i) = d.2 (16 + i) := (zfU_ne (by omega)).trans ((zfU_ne (by omega)).trans (zfU_ne (by omega)))
    rw [g]
    exact ⟨fun j hj => (E 119 (by decide) (by decide) _).trans ((a5 i hi).1 j hj), fun j hj => (E 120 (by decide) (by decide) _).trans ((a5 i hi).2 j hj)⟩
  · show (R.1.length : Int) = k'
    rw [eC, List.length_append]
    omega
  · show ∃ a b : Nat, zfU (d.2 3) J ((d.1 2).length : Int) j = a ∧ zfU (d.2 4) J (R.1.length : Int) j = b ∧ a ≤ b ∧ b ≤ R.1.length ∧ ri_at h' 115 (4 * 1 + j) = a ∧ ri_at h' 116 (4 * 1 + j) = b ∧ zKN h' (64 * 1) a [] ((R.1.drop a).take (b - a)) ∧ (zkS a [] ((R.1.drop a).take (b - a))).length = 1
    by_cases q : j = J
    · subst q
      rw [zfU_eq, zfU_eq, eC]
      refine ⟨(d.1 2).length, (d.1 2 ++ C).length, rfl, rfl, by rw [List.length_append]; omega, Nat.le_refl _, b3.trans (by omega), b4.trans (by rw [List.length_append]; omega), ?_⟩
      rw [List.drop_left, List.length_append, Nat.add_sub_cancel_left, List.take_length, hL]
      exact ⟨b1.1, b6⟩
    · rw [zfU_ne q, zfU_ne q]
      have ht' : lt (j : Int) = 1 := by
        have : (if (j : Int) = (J : Int) then 1 else lt (j : Int)) = 1 := ht
        rwa [if_neg (by omega)] at this
      obtain ⟨x, y, c1, c2, c3, c4, c5, c6, c7⟩ := a7 j hj ht'
      refine ⟨x, y, c1, c2, c3, by rw [eC, List.length_append]; omega, (b5 _ (by omega)).1.trans c5, (b5 _ (by omega)).2.trans c6, ?_⟩
      have e2 : (R.1.drop x).take (y - x) = ((d.1 2).drop x).take (y - x) := by
        rw [eC, List.drop_append_of_le_length (by omega), List.take_append_of_le_length (by rw [List.length_drop]; omega)]
      rw [e2]
      refine ⟨zKN_eq c7.1 (fun i hi => ?_), c7.2⟩
      have hi' : x + i < fb := by
        rw [List.length_take, List.length_drop] at hi
        omega
      have := b1.2 (x + i) hi'
      exact this
end ZL
