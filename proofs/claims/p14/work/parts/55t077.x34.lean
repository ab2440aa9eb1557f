/-! ===== what a text tells: its data ===== -/
def zfU {α : Type} (f : Nat → α) (i : Nat) (v : α) : Nat → α := fun j => if j = i then v else f j
theorem zfU_eq {α : Type} {f : Nat → α} {i : Nat} {v : α} : zfU f i v i = v := by unfold zfU; rw [if_pos rfl]
theorem zfU_ne {α : Type} {f : Nat → α} {i j : Nat} {v : α} (h : j ≠ i) : zfU f i v j = f j := by unfold zfU; rw [if_neg h]
/-- rows that grow, rows of a fixed length; 16 and on: the gates' numbers (their rises from 16) -/
abbrev zDt : Type := (Nat → List Int) × (Nat → Nat → Int)
def zdW (d : zDt) (c k v : Int) : zDt := (zfU (zfU (zfU d.1 9 (d.1 9 ++ [c])) 10 (d.1 10 ++ [k])) 11 (d.1 11 ++ [v]), d.2)
def zdC (d : zDt) (c k v : Int) : zDt := (zfU (zfU (zfU d.1 13 (d.1 13 ++ [c])) 14 (d.1 14 ++ [k])) 15 (d.1 15 ++ [v]), d.2)
def zdL (d : zDt) (j : Nat) (R : List Int × Nat) : zDt := (zfU d.1 2 R.1, zfU (zfU (zfU d.2 3 (zfU (d.2 3) j ((d.1 2).length : Int))) 4 (zfU (d.2 4) j (R.1.length : Int))) 5 (zfU (d.2 5) j ((R.2 : Nat) : Int)))
def zdG (d : zDt) (g : Nat) (R : (Nat → Int) × Nat) : zDt := (d.1, zfU d.2 (16 + g) (fun j => if j = 14 then ((R.2 : Nat) : Int) else R.1 j))
def zdN (d : zDt) (vs : List Int) : zDt := (d.1, zfU d.2 1 (fun j => vs.getD j 0))
/-- what a line makes of the data -/
def zlD (t : Nat → Int) (n : Nat) (s : zSg) (p : Nat) (d : zDt) : zDt :=
  if zw t n p = 0 then zo (zgl t n s.1 p) (fun vs _ => zdN d vs) d else
  if zw t n p = 1 then zdL d (zw t n (zx t n p) - 5).toNat (zfD t n 901 [] s.2.2.1 1 1 (zx t n (zx t n p)) (d.1 2) 0) else
  if zw t n p = 2 then zo (zm t n s.2.2.2.1 (zx t n p)) (fun _ p1 => zo (zn t n 24 144 p1) (fun a p2 => zo (zn t n 24 72 p2) (fun hh p3 => zo (zn t n 20 400 p3) (fun w p4 => zdG d s.2.2.2.1.length (zgF t n hh s.2.2.2.2.2 901 0 0 p4 (zgB a hh w))) d) d) d) d else
  if zw t n p = 3 then zo (zm t n s.2.2.2.2.1 (zx t n p)) (fun _ p1 => zo (zn t n 1 999 p1) (fun c p2 => if 1 < zwk (zk t n p2) (zw t n p2) then zo (zn t n 0 (zmo (zwk (zk t n p2) (zw t n p2))) (zx t n p2)) (fun v _ => zdW d c (zwk (zk t n p2) (zw t n p2)) v) d else zdW d c (zwk (zk t n p2) (zw t n p2)) 0) d) d else
  zo (zm t n s.2.2.2.2.2 (zx t n p)) (fun _ p1 => zo (zn t n 1 99 p1) (fun c p2 => zo (zn t n 1 999 (zx t n p2)) (fun v _ => zdC d c (zw t n p2 - 5) v) d) d) d
def ztD (t : Nat → Int) (n : Nat) : Nat → zSg → Nat → zDt → zDt
  | 0, _, _, d => d
  | u + 1, s, p, d => if zk t n p = 0 then d else (match zln t n s p with
    | .inl _ => d
    | .inr (s', q) => ztD t n u s' q (zlD t n s p d))
theorem ztD_s {t : Nat → Int} {n u : Nat} {s s' : zSg} {p q : Nat} {d : zDt} (h : ¬ zk t n p = 0) (e : zln t n s p = .inr (s', q)) : ztD t n (u + 1) s p d = ztD t n u s' q (zlD t n s p d) := by
  rw [ztD, if_neg h, e]
theorem ztD_e {t : Nat → Int} {n u : Nat} {s : zSg} {p : Nat} {d : zDt} (h : zk t n p = 0) : ztD t n (u + 1) s p d = d := by
  rw [ztD, if_pos h]
/-- an empty plan -/
def zD0 : zDt := ((fun _ => []), fun o j => if o = 1 then 50 else if o < 16 then 0 else z16.getD j 0)
theorem zwl_i {t : Nat → Int} {n p q : Nat} {l : List Int} {v : Int} (e : zwl t n l p = .inr (v, q)) : ¬ l.length = 6 ∧ ∃ p1 c p2, zm t n l (zx t n p) = .inr (v, p1) ∧ zn t n 1 999 p1 = .inr (c, p2) ∧ 0 ≤ zwk (zk t n p2) (zw t n p2) ∧ (1 < zwk (zk t n p2) (zw t n p2) ∧ (∃ x, zn t n 0 (zmo (zwk (zk t n p2) (zw t n p2))) (zx t n p2) = .inr (x, q)) ∨ zwk (zk t n p2) (zw t n p2) ≤ 1 ∧ q = zx t n p2) := by
  unfold zwl at e
  by_cases h : l.length = 6
  · rw [if_pos h] at e; cases e
  · rw [if_neg h] at e
    obtain ⟨nm, p1, e1, e⟩ := zb2_e e
    obtain ⟨c, p2, e2, e⟩ := zb2_e e
    by_cases k0 : zwk (zk t n p2) (zw t n p2) < 0
    · rw [if_pos k0] at e; cases e
    · rw [if_neg k0] at e
      by_cases k1 : 1 < zwk (zk t n p2) (zw t n p2)
      · rw [if_pos k1] at e
        obtain ⟨x, p3, e3, e⟩ := zb2_e e
        cases e
        exact ⟨h, p1, c, p2, e1, e2, Int.not_lt.mp k0, .inl ⟨k1, x, e3⟩⟩
      · rw [if_neg k1] at e
        cases e
        exact ⟨h, p1, c, p2, e1, e2, Int.not_lt.mp k0, .inr ⟨Int.not_lt.mp k1, rfl⟩⟩
theorem zcl_i {t : Nat → Int} {n p q : Nat} {l : List Int} {v : Int} (e : zcl t n l p = .inr (v, q)) : ¬ l.length = 6 ∧ ∃ p1 c p2 x, zm t n l (zx t n p) = .inr (v, p1) ∧ zn t n 1 99 p1 = .inr (c, p2) ∧ (zk t n p2 = 1 ∧ 5 ≤ zw t n p2 ∧ zw t n p2 ≤ 7) ∧ zn t n 1 999 (zx t n p2) = .inr (x, q) := by
  unfold zcl at e
  by_cases h : l.length = 6
  · rw [if_pos h] at e; cases e
  · rw [if_neg h] at e
    obtain ⟨nm, p1, e1, e⟩ := zb2_e e
    obtain ⟨c, p2, e2, e⟩ := zb2_e e
    by_cases k0 : zk t n p2 = 1 ∧ 5 ≤ zw t n p2 ∧ zw t n p2 ≤ 7
    · rw [if_pos k0] at e
      obtain ⟨x, p3, e3, e⟩ := zb2_e e
      cases e
      exact ⟨h, p1, c, p2, x, e1, e2, k0, e3⟩
    · rw [if_neg k0] at e; cases e
theorem zgt_i {t : Nat → Int} {n p q : Nat} {l cn : List Int} {v : Int} (e : zgt t n l cn p = .inr (v, q)) : ¬ l.length = 4 ∧ ∃ p1 a p2 hh p3 w p4 v0, zm t n l (zx t n p) = .inr (v, p1) ∧ zn t n 24 144 p1 = .inr (a, p2) ∧ zn t n 24 72 p2 = .inr (hh, p3) ∧ zn t n 20 400 p3 = .inr (w, p4) ∧ zgp t n hh cn 901 0 0 p4 = .inr (v0, q) := by
  unfold zgt at e
  by_cases h : l.length = 4
  · rw [if_pos h] at e; cases e
  · rw [if_neg h] at e
    obtain ⟨nm, p1, e1, e⟩ := zb2_e e
    obtain ⟨a, p2, e2, e⟩ := zb2_e e
    obtain ⟨hh, p3, e3, e⟩ := zb2_e e
    obtain ⟨w, p4, e4, e⟩ := zb2_e e
    obtain ⟨v0, q0, e5, e⟩ := zb2_e e
    cases e
    exact ⟨h, p1, a, p2, hh, p3, w, p4, v0, e1, e2, e3, e4, e5⟩
theorem zlc_i {t : Nat → Int} {n p q : Nat} {lt : Int → Int} {kn : Int} {v : Int × Int} (e : zlc t n lt kn p = .inr (v, q)) : (zk t n (zx t n p) = 1 ∧ 5 ≤ zw t n (zx t n p) ∧ zw t n (zx t n p) ≤ 8) ∧ lt (zw t n (zx t n p) - 5) = 0 ∧ v.1 = zw t n (zx t n p) - 5 ∧ zfc t n 901 [] kn 1 1 (zx t n (zx t n p)) = .inr (v.2, q) := by
  unfold zlc at e
  by_cases h : zk t n (zx t n p) = 1 ∧ 5 ≤ zw t n (zx t n p) ∧ zw t n (zx t n p) ≤ 8
  · rw [if_pos h] at e
    by_cases g : lt (zw t n (zx t n p) - 5) = 0
    · rw [if_pos g] at e
      obtain ⟨k, q1, e1, e⟩ := zb2_e e
      cases e
      exact ⟨h, g, rfl, e1⟩
    · rw [if_neg g] at e; cases e
  · rw [if_neg h] at e; cases e
/-! what the class holds of it -/
def zWL (s : zSg) (d : zDt) : Prop := ((d.1 9).length = s.2.2.2.2.1.length ∧ (d.1 10).length = s.2.2.2.2.1.length ∧ (d.1 11).length = s.2.2.2.2.1.length) ∧ (d.1 13).length = s.2.2.2.2.2.length ∧ (d.1 14).length = s.2.2.2.2.2.length ∧ (d.1 15).length = s.2.2.2.2.2.length
def zWR (b : Nat) (h : cv_H) (L : Nat → List Int) : Prop := ri_at h b 2 = (L 2).length ∧ ∀ o, o ∈ [2, 9, 10, 11, 13, 14, 15] → zNm h (b + o) 0 (L o)
def zWF (b : Nat) (h : cv_H) (D : Nat → Nat → Int) : Prop := (∀ j, j < 12 → ri_at h (b + 1) j = D 1 j) ∧ ∀ o, o ∈ [3, 4, 5] → ∀ j, j < 4 → ri_at h (b + o) j = D o j
def zWT (b : Nat) (h : cv_H) (D : Nat → Nat → Int) : Prop := ∀ i, i < 4 → zKD h (b + 16 + 2 * i) (D (16 + i)) ∧ ri_at h (b + 16 + 2 * i) 14 = D (16 + i) 14
def zWU (b : Nat) (h : cv_H) (g : Nat) : Prop := ∀ i, g ≤ i → i < 4 → (∀ j, j < 16 → ri_at h (b + 16 + 2 * i) j = z16.getD j 0) ∧ ∀ j, j < 9 → ri_at h (b + 16 + 2 * i + 1) j = 0
def zWD (b : Nat) (h : cv_H) (s : zSg) (d : zDt) : Prop := zWL s d ∧ zWR b h d.1 ∧ zWF b h d.2 ∧ zWT b h d.2 ∧ zWU b h s.2.2.2.1.length
theorem sh_po {b o : Nat} (hb : b = 2 ∨ b = 26) (h1 : 1 ≤ o) (h2 : o ≤ 15) : cw_sh[b + o]? = some (27 + o) := by
  rcases hb with rfl | rfl
  · have : ∀ o : Fin 16, 1 ≤ o.1 → cw_sh[2 + o.1]? = some (27 + o.1) := by decide
    exact this ⟨o, by omega⟩ h1
  · have : ∀ o : Fin 16, 1 ≤ o.1 → cw_sh[26 + o.1]? = some (27 + o.1) := by decide
    exact this ⟨o, by omega⟩ h1
theorem mem7 {P : Nat → Prop} (a : P 2) (b : P 9) (c : P 10) (d : P 11) (e : P 13) (f : P 14) (g : P 15) : ∀ o, o ∈ [2, 9, 10, 11, 13, 14, 15] → P o := by
  intro o ho
  simp only [List.mem_cons, List.not_mem_nil, or_false] at ho
  rcases ho with rfl | rfl | rfl | rfl | rfl | rfl | rfl <;> assumption
theorem mem3 {P : Nat → Prop} (a : P 3) (b : P 4) (c : P 5) : ∀ o, o ∈ [3, 4, 5] → P o := by
  intro o ho
  simp only [List.mem_cons, List.not_mem_nil, or_false] at ho
  rcases ho with rfl | rfl | rfl <;> assumption
section ZF
variable {b m g : Nat} {h h' : cv_H} {s : zSg} {D D' : Nat → Nat → Int}
theorem wt_keep (hb : b = 2 ∨ b = 26) (C : cw_Fr cw_Ds cw_sh m h h') (q : ((List.range 15).all (fun i => !cw_bit m 7 i) && !(cw_bit m 44 0 || cw_bit m 44 1)) = true) (a : zWT b h D) : zWT b h' D := by
  rw [Bool.and_eq_true] at q
  have q7 : ∀ j, j < 15 → cw_bit m 7 j = false := fun j hj => by simpa using List.all_eq_true.mp q.1 j (List.mem_range.mpr hj)
  exact fun i hi => ⟨⟨fun j hj => (ri_frf C (sh_told hb hi) rfl (q7 j (by omega))).trans ((a i hi).1.1 j hj), fun j hj => (ri_frr C (sh_told1 hb hi) rfl (by simpa using q.2)).trans ((a i hi).1.2 j hj)⟩, (ri_frf C (sh_told hb hi) rfl (q7 14 (by omega))).trans (a i hi).2⟩
theorem wu_keep (hb : b = 2 ∨ b = 26) (C : cw_Fr cw_Ds cw_sh m h h') (q : ((List.range 16).all (fun i => !cw_bit m 7 i) && !(cw_bit m 44 0 || cw_bit m 44 1)) = true) (a : zWU b h g) : zWU b h' g := by
  rw [Bool.and_eq_true] at q
  have q7 : ∀ j, j < 16 → cw_bit m 7 j = false := fun j hj => by simpa using List.all_eq_true.mp q.1 j (List.mem_range.mpr hj)
  exact fun i gi hi => ⟨fun j hj => (ri_frf C (sh_told hb hi) rfl (q7 j hj)).trans ((a i gi hi).1 j hj), fun j hj => (ri_frr C (sh_told1 hb hi) rfl (by simpa using q.2)).trans ((a i gi hi).2 j hj)⟩
theorem wt_eq (a : zWT b h D) (e : ∀ i, D' (16 + i) = D (16 + i)) : zWT b h D' := fun i hi => by rw [e]; exact a i hi
theorem wf_eq (a : zWF b h D) (e : ∀ o, o < 16 → D' o = D o) : zWF b h D' := ⟨fun j hj => by rw [e 1 (by decide)]; exact a.1 j hj, fun o ho j hj => by
  rw [e o (by simp only [List.mem_cons, List.not_mem_nil, or_false] at ho; omega)]
  exact a.2 o ho j hj⟩
end ZF
theorem z16_5 {j : Nat} (h : 5 ≤ j) (h' : j < 14) : z16.getD j 0 = ([0, 0, 0, 0, 0, 0, 0, 36, 8, 0, 1000, 1000, 0, 3000] : List Int).getD j 0 := by
  have : ∀ j : Fin 14, 5 ≤ j.1 → z16.getD j.1 0 = ([0, 0, 0, 0, 0, 0, 0, 36, 8, 0, 1000, 1000, 0, 3000] : List Int).getD j.1 0 := by decide
  exact this ⟨j, h'⟩ h
section TZ
variable {G : Int} {X : cv_X} {Q : cv_O → Prop} {t : Nat → Int}
theorem ct_groundJ {h0 : cv_H} {n p : Nat} (ht : ∀ i, t i = ri_at h0 1 i % 256) (hwd : ∀ i, i < 34 → ri_at h0 52 i = tz_wc.getD i 0) (hn9 : n ≤ 900) (hT : cw_T G h0) {b : Nat} (hb : b = 2 ∨ b = 26) (hpl : zPL b h0) (hS : zCs t n (.inr p) h0) {s : zSg} {d : zDt} (hs : zSC b h0 s) (hd : zWD b h0 s d) (hz : zk t n p = 1 ∧ zw t n p = 0) (hQ : ∀ h', cw_T G h' → cw_Fr cw_Ds cw_sh kk_X5_readGround.2.2.2.2.2.1 h0 h' → zCs t n (zst (zgl t n s.1 p)) h' → (∀ v q, zgl t n s.1 p = .inr (v, q) → zSC b h' (1, s.2) ∧ zWD b h' (1, s.2) (zlD t n s p d)) → Q (none, h')) : cw_X X 65 Q 0 (cv_ent 0 [cv_r 50]) [] h0 := by
  have hb4 : cw_sh[b]? = some 4 := by rcases hb with rfl | rfl <;> rfl
  obtain ⟨c3, clt, ckn, cg, cw, cc, cto⟩ := id hs
  obtain ⟨dl, dr, df, dt, du⟩ := id hd
  have A : cw_X X 65 (fun o => ∃ hb : cv_H, o = (none, hb) ∧ cw_T G hb ∧ cw_Fr cw_Ds cw_sh kk_X5_readGround.2.2.2.2.2.1 h0 hb ∧ zCs t n (zst (zgl t n s.1 p)) hb ∧ (∀ v q, zgl t n s.1 p = .inr (v, q) → ri_at hb 50 3 = 1 ∧ ∀ j, j < 12 → ri_at hb (b + 1) j = v.getD j 0)) 0 (cv_ent 0 [cv_r 50]) [] h0 :=
    ct_readGround3 ht hwd hn9 hT hb hpl hS c3 (fun h' a1 a2 a3 => ⟨h', rfl, a1, a2, a3.1, a3.2⟩)
  cases E : zgl t n s.1 p with
  | inl e =>
    refine cw_X_mono A ?_
    rintro o ⟨h1, rfl, a1, a2, a3, a4⟩
    exact hQ h1 a1 a2 a3 (fun v q e' => by rw [E] at e'; cases e')
  | inr r =>
    obtain ⟨v, q⟩ := r
    refine cw_X_mono A ?_
    rintro o ⟨h1, rfl, a1, a2, a3, a4⟩
    refine hQ h1 a1 a2 a3 (fun v' q' e' => ?_)
    rw [E] at e'
    cases e'
    have a5 := a4 v q E
    refine ⟨⟨a5.1, sc_lt hb a2 (by decide +kernel) (by decide +kernel) clt, sc_kn hb a2 (by decide +kernel) (by decide +kernel) ckn, sc_g hb a2 (by decide +kernel) (by decide +kernel) cg, sc_w hb a2 (by decide +kernel) (by decide +kernel) cw, sc_c hb a2 (by decide +kernel) (by decide +kernel) cc, sc_t hb a2 (by decide +kernel) (by decide +kernel) cto⟩, ?_⟩
    have zl : zlD t n s p d = zdN d v := by
      unfold zlD
      rw [if_pos (by omega), zo_r E]
    rw [zl]
    exact ⟨dl, ⟨(ri_frf a2 (k := b) (d := 4) hb4 rfl (by decide +kernel)).trans dr.1, mem7 (zNm_eq (dr.2 2 (by decide)) (fun i => ri_frr a2 (sh_po hb (o := 2) (by decide) (by decide)) rfl (by decide +kernel))) (zNm_eq (dr.2 9 (by decide)) (fun i => ri_frr a2 (sh_po hb (o := 9) (by decide) (by decide)) rfl (by decide +kernel))) (zNm_eq (dr.2 10 (by decide)) (fun i => ri_frr a2 (sh_po hb (o := 10) (by decide) (by decide)) rfl (by decide +kernel))) (zNm_eq (dr.2 11 (by decide)) (fun i => ri_frr a2 (sh_po hb (o := 11) (by decide) (by decide)) rfl (by decide +kernel))) (zNm_eq (dr.2 13 (by decide)) (fun i => ri_frr a2 (sh_po hb (o := 13) (by decide) (by decide)) rfl (by decide +kernel))) (zNm_eq (dr.2 14 (by decide)) (fun i => ri_frr a2 (sh_po hb (o := 14) (by decide) (by decide)) rfl (by decide +kernel))) (zNm_eq (dr.2 15 (by decide)) (fun i => ri_frr a2 (sh_po hb (o := 15) (by decide) (by decide)) rfl (by decide +kernel)))⟩, ⟨a5.2, mem3 (fun j hj => ((fun i => ri_frr a2 (sh_po hb (o := 3) (by decide) (by decide)) rfl (by decide +kernel)) j).trans (df.2 3 (by decide) j hj)) (fun j hj => ((fun i => ri_frr a2 (sh_po hb (o := 4) (by decide) (by decide)) rfl (by decide +kernel)) j).trans (df.2 4 (by decide) j hj)) (fun j hj => ((fun i => ri_frr a2 (sh_po hb (o := 5) (by decide) (by decide)) rfl (by decide +kernel)) j).trans (df.2 5 (by decide) j hj))⟩, wt_eq (wt_keep hb a2 (by decide +kernel) dt) (fun i => zfU_ne (by omega)), wu_keep hb a2 (by decide +kernel) du⟩
theorem ct_lawJ {h0 : cv_H} {n p : Nat} (ht : ∀ i, t i = ri_at h0 1 i % 256) (hwd : ∀ i, i < 34 → ri_at h0 52 i = tz_wc.getD i 0) (hn9 : n ≤ 900) (hT : cw_T G h0) {b : Nat} (hb : b = 2 ∨ b = 26) (hpl : zPL b h0) (hS : zCs t n (.inr p) h0) {s : zSg} {d : zDt} (hs : zSC b h0 s) (hd : zWD b h0 s d) (hz : zk t n p = 1 ∧ zw t n p = 1) (hQ : ∀ h', cw_T G h' → cw_Fr cw_Ds cw_sh kk_X5_readLaw.2.2.2.2.2.1 h0 h' → zCs t n (zst (zlc t n s.2.1 s.2.2.1 p)) h' → (∀ v q, zlc t n s.2.1 s.2.2.1 p = .inr (v, q) → zSC b h' (s.1, (fun i => if i = v.1 then 1 else s.2.1 i), v.2, s.2.2.2) ∧ zWD b h' (s.1, (fun i => if i = v.1 then 1 else s.2.1 i), v.2, s.2.2.2) (zlD t n s p d)) → Q (none, h')) : cw_X X 66 Q 0 (cv_ent 0 [cv_r 50]) [] h0 := by
  have hb4 : cw_sh[b]? = some 4 := by rcases hb with rfl | rfl <;> rfl
  obtain ⟨c3, clt, ckn, cg, cw, cc, cto⟩ := id hs
  obtain ⟨dl, dr, df, dt, du⟩ := id hd
  have A : cw_X X 66 (fun o => ∃ hb : cv_H, o = (none, hb) ∧ cw_T G hb ∧ cw_Fr cw_Ds cw_sh kk_X5_readLaw.2.2.2.2.2.1 h0 hb ∧ zCs t n (zst (zlc t n s.2.1 s.2.2.1 p)) hb ∧ (∀ v q, zlc t n s.2.1 s.2.2.1 p = .inr (v, q) → zLT b hb (fun i => if i = v.1 then 1 else s.2.1 i) ∧ ri_at hb b 2 = v.2 ∧ ri_at hb b 3 = v.2 ∧ 0 ≤ v.2 ∧ v.2 ≤ 64)) 0 (cv_ent 0 [cv_r 50]) [] h0 :=
    ct_readLaw ht hwd hn9 hT hb hpl hS clt ckn.1 ckn.2.1 ckn.2.2.1 ckn.2.2.2 (fun h' a1 a2 a3 => ⟨h', rfl, a1, a2, a3.1, a3.2⟩)
  cases E : zlc t n s.2.1 s.2.2.1 p with
  | inl e =>
    refine cw_X_mono A ?_
    rintro o ⟨h1, rfl, a1, a2, a3, a4⟩
    exact hQ h1 a1 a2 a3 (fun v q e' => by rw [E] at e'; cases e')
  | inr r =>
    obtain ⟨v, q⟩ := r
    obtain ⟨r1, r2, r3, r4⟩ := zlc_i E
    have B : cw_X X 66 (fun o => ∃ hb : cv_H, o = (none, hb) ∧ ri_at hb b 2 = (zfD t n 901 [] s.2.2.1 1 1 (zx t n (zx t n p)) (d.1 2) 0).1.length ∧ zNm hb (b + 2) 0 (zfD t n 901 [] s.2.2.1 1 1 (zx t n (zx t n p)) (d.1 2) 0).1 ∧ (ri_at hb (b + 3) (zw t n (zx t n p) - 5).toNat = (d.1 2).length ∧ ri_at hb (b + 4) (zw t n (zx t n p) - 5).toNat = (zfD t n 901 [] s.2.2.1 1 1 (zx t n (zx t n p)) (d.1 2) 0).1.length ∧ ri_at hb (b + 5) (zw t n (zx t n p) - 5).toNat = (((zfD t n 901 [] s.2.2.1 1 1 (zx t n (zx t n p)) (d.1 2) 0).2 : Nat) : Int)) ∧ ∀ i, i ≠ (zw t n (zx t n p) - 5).toNat → ri_at hb (b + 3) i = ri_at h0 (b + 3) i ∧ ri_at hb (b + 4) i = ri_at h0 (b + 4) i ∧ ri_at hb (b + 5) i = ri_at h0 (b + 5) i) 0 (cv_ent 0 [cv_r 50]) [] h0 :=
      ct_lawD ht hwd hn9 hT hb hpl hS ckn.1 ckn.2.1 ckn.2.2.1 ckn.2.2.2 dr.1 (dr.2 2 (by decide)) r1 (j := (zw t n (zx t n p) - 5).toNat) (by omega) (by
        have := clt (zw t n (zx t n p) - 5).toNat (by omega)
        rw [show (((zw t n (zx t n p) - 5).toNat : Nat) : Int) = zw t n (zx t n p) - 5 from by omega, r2] at this
        omega) r4 (fun h' b1 b2 b3 b4 b5 b6 b7 => ⟨h', rfl, b4, b5, b6, b7⟩)
    refine cw_X_mono (cw_X_and A B) ?_
    rintro o ⟨⟨h1, rfl, a1, a2, a3, a4⟩, h2, e, b1, b2, b3, b4⟩
    cases e
    refine hQ h1 a1 a2 a3 (fun v' q' e' => ?_)
    rw [E] at e'
    cases e'
    have a5 := a4 v q E
    refine ⟨⟨(sc_3 a2 (by decide +kernel)).trans c3, a5.1, a5.2, sc_g hb a2 (by decide +kernel) (by decide +kernel) cg, sc_w hb a2 (by decide +kernel) (by decide +kernel) cw, sc_c hb a2 (by decide +kernel) (by decide +kernel) cc, sc_t hb a2 (by decide +kernel) (by decide +kernel) cto⟩, ?_⟩
    have zl : zlD t n s p d = zdL d (zw t n (zx t n p) - 5).toNat (zfD t n 901 [] s.2.2.1 1 1 (zx t n (zx t n p)) (d.1 2) 0) := by
      unfold zlD
      rw [if_neg (by omega), if_pos (by omega)]
    rw [zl]
    exact ⟨dl, ⟨b1, mem7 (b2) (zNm_eq (dr.2 9 (by decide)) (fun i => ri_frr a2 (sh_po hb (o := 9) (by decide) (by decide)) rfl (by decide +kernel))) (zNm_eq (dr.2 10 (by decide)) (fun i => ri_frr a2 (sh_po hb (o := 10) (by decide) (by decide)) rfl (by decide +kernel))) (zNm_eq (dr.2 11 (by decide)) (fun i => ri_frr a2 (sh_po hb (o := 11) (by decide) (by decide)) rfl (by decide +kernel))) (zNm_eq (dr.2 13 (by decide)) (fun i => ri_frr a2 (sh_po hb (o := 13) (by decide) (by decide)) rfl (by decide +kernel))) (zNm_eq (dr.2 14 (by decide)) (fun i => ri_frr a2 (sh_po hb (o := 14) (by decide) (by decide)) rfl (by decide +kernel))) (zNm_eq (dr.2 15 (by decide)) (fun i => ri_frr a2 (sh_po hb (o := 15) (by decide) (by decide)) rfl (by decide +kernel)))⟩, ⟨fun j hj => ((fun i => ri_frr a2 (sh_po hb (o := 1) (by decide) (by decide)) rfl (by decide +kernel)) j).trans (df.1 j hj), mem3 (fun j hj => by
      by_cases qj : j = (zw t n (zx t n p) - 5).toNat
      · rw [qj]; exact (b3.1).trans (zfU_eq (f := d.2 3)).symm
      · exact ((b4 j qj).1.trans (df.2 3 (by decide) j hj)).trans (zfU_ne (f := d.2 3) qj).symm) (fun j hj => by
      by_cases qj : j = (zw t n (zx t n p) - 5).toNat
      · rw [qj]; exact (b3.2.1).trans (zfU_eq (f := d.2 4)).symm
      · exact ((b4 j qj).2.1.trans (df.2 4 (by decide) j hj)).trans (zfU_ne (f := d.2 4) qj).symm) (fun j hj => by
      by_cases qj : j = (zw t n (zx t n p) - 5).toNat
      · rw [qj]; exact (b3.2.2).trans (zfU_eq (f := d.2 5)).symm
      · exact ((b4 j qj).2.2.trans (df.2 5 (by decide) j hj)).trans (zfU_ne (f := d.2 5) qj).symm)⟩, wt_eq (wt_keep hb a2 (by decide +kernel) dt) (fun i => (zfU_ne (by omega)).trans ((zfU_ne (by omega)).trans (zfU_ne (by omega)))), wu_keep hb a2 (by decide +kernel) du⟩
theorem ct_gateJ {h0 : cv_H} {n p : Nat} (ht : ∀ i, t i = ri_at h0 1 i % 256) (hwd : ∀ i, i < 34 → ri_at h0 52 i = tz_wc.getD i 0) (hn9 : n ≤ 900) (hT : cw_T G h0) {b : Nat} (hb : b = 2 ∨ b = 26) (hpl : zPL b h0) (hS : zCs t n (.inr p) h0) {s : zSg} {d : zDt} (hs : zSC b h0 s) (hd : zWD b h0 s d) (hrp : ∀ i, i < 4 → cw_at h0 (b + 16 + 2 * i) 16 = some (cv_r (b + 16 + 2 * i + 1))) (hl : s.2.2.2.1.length ≤ 4) (hc6 : s.2.2.2.2.2.length ≤ 6) (hz : zk t n p = 1 ∧ zw t n p = 2) (hQ : ∀ h', cw_T G h' → cw_Fr cw_Ds cw_sh kk_X5_readGate.2.2.2.2.2.1 h0 h' → zCs t n (zst (zgt t n s.2.2.2.1 s.2.2.2.2.2 p)) h' → (∀ v q, zgt t n s.2.2.2.1 s.2.2.2.2.2 p = .inr (v, q) → zSC b h' (s.1, s.2.1, s.2.2.1, s.2.2.2.1 ++ [v], s.2.2.2.2) ∧ zWD b h' (s.1, s.2.1, s.2.2.1, s.2.2.2.1 ++ [v], s.2.2.2.2) (zlD t n s p d)) → Q (none, h')) : cw_X X 67 Q 0 (cv_ent 0 [cv_r 50]) [] h0 := by
  have hb4 : cw_sh[b]? = some 4 := by rcases hb with rfl | rfl <;> rfl
  obtain ⟨c3, clt, ckn, cg, cw, cc, cto⟩ := id hs
  obtain ⟨dl, dr, df, dt, du⟩ := id hd
  have A : cw_X X 67 (fun o => ∃ hb : cv_H, o = (none, hb) ∧ cw_T G hb ∧ cw_Fr cw_Ds cw_sh kk_X5_readGate.2.2.2.2.2.1 h0 hb ∧ zCs t n (zst (zgt t n s.2.2.2.1 s.2.2.2.2.2 p)) hb ∧ (∀ v q, zgt t n s.2.2.2.1 s.2.2.2.2.2 p = .inr (v, q) → ri_at hb b 9 = s.2.2.2.1.length + 1 ∧ zNm hb (b + 7) 0 (s.2.2.2.1 ++ [v]) ∧ zOT (b + 16 + 2 * s.2.2.2.1.length) h0 hb)) 0 (cv_ent 0 [cv_r 50]) [] h0 :=
    ct_readGate ht hwd hn9 hT hb hpl hS cg.1 hl cg.2 cc.1 hc6 cc.2 cto (fun h' a1 a2 a3 => ⟨h', rfl, a1, a2, a3.1, a3.2⟩)
  cases E : zgt t n s.2.2.2.1 s.2.2.2.2.2 p with
  | inl e =>
    refine cw_X_mono A ?_
    rintro o ⟨h1, rfl, a1, a2, a3, a4⟩
    exact hQ h1 a1 a2 a3 (fun v q e' => by rw [E] at e'; cases e')
  | inr r =>
    obtain ⟨v, q⟩ := r
    obtain ⟨l4, p1, a, p2, hh, p3, w, p4, v0, E1, E2, E3, E4, E5⟩ := zgt_i E
    have u0 := du s.2.2.2.1.length (Nat.le_refl _) (by omega)
    have B : cw_X X 67 (fun o => ∃ hb : cv_H, o = (none, hb) ∧ zOK (b + 16 + 2 * s.2.2.2.1.length) h0 hb ∧ zKD hb (b + 16 + 2 * s.2.2.2.1.length) (zgF t n hh s.2.2.2.2.2 901 0 0 p4 (zgB a hh w)).1 ∧ ri_at hb (b + 16 + 2 * s.2.2.2.1.length) 14 = (zgF t n hh s.2.2.2.2.2 901 0 0 p4 (zgB a hh w)).2) 0 (cv_ent 0 [cv_r 50]) [] h0 :=
      ct_gateD ht hwd hn9 hT hb hpl (sh_told hb (by omega)) (sh_told1 hb (by omega)) (hrp _ (by omega)) hS rfl cg.1 (by omega) cg.2 cc.1 hc6 cc.2 E1 E2 E3 E4 E5 (fun j h1 h2 => (u0.1 j (by omega)).trans (z16_5 h1 h2)) (u0.1 14 (by omega)) (u0.1 15 (by omega)) u0.2 (fun h' b1 b2 b3 b4 b5 => ⟨h', rfl, b3, b4, b5⟩)
    refine cw_X_mono (cw_X_and A B) ?_
    rintro o ⟨⟨h1, rfl, a1, a2, a3, a4⟩, h2, e, b1, b2, b3⟩
    cases e
    refine hQ h1 a1 a2 a3 (fun v' q' e' => ?_)
    rw [E] at e'
    cases e'
    have a5 := a4 v q E
    refine ⟨⟨(sc_3 a2 (by decide +kernel)).trans c3, sc_lt hb a2 (by decide +kernel) (by decide +kernel) clt, sc_kn hb a2 (by decide +kernel) (by decide +kernel) ckn, ⟨by rw [List.length_append]; exact a5.1, a5.2.1⟩, sc_w hb a2 (by decide +kernel) (by decide +kernel) cw, sc_c hb a2 (by decide +kernel) (by decide +kernel) cc, fun i h1 h2 => by rw [List.length_append] at h1; have h3 : s.2.2.2.1.length + 1 ≤ i := h1; have := a5.2.2 (b + 16 + 2 * i) (sh_told hb h2) (by omega); exact ⟨this.1.trans (cto i (by omega) h2).1, this.2.trans (cto i (by omega) h2).2⟩⟩, ?_⟩
    have zl : zlD t n s p d = zdG d s.2.2.2.1.length (zgF t n hh s.2.2.2.2.2 901 0 0 p4 (zgB a hh w)) := by
      unfold zlD
      rw [if_neg (by omega), if_neg (by omega), if_pos (by omega), zo_r E1, zo_r E2, zo_r E3, zo_r E4]
    rw [zl]
    refine ⟨dl, ⟨(ri_frf a2 (k := b) (d := 4) hb4 rfl (by decide +kernel)).trans dr.1, mem7 (zNm_eq (dr.2 2 (by decide)) (fun i => ri_frr a2 (sh_po hb (o := 2) (by decide) (by decide)) rfl (by decide +kernel))) (zNm_eq (dr.2 9 (by decide)) (fun i => ri_frr a2 (sh_po hb (o := 9) (by decide) (by decide)) rfl (by decide +kernel))) (zNm_eq (dr.2 10 (by decide)) (fun i => ri_frr a2 (sh_po hb (o := 10) (by decide) (by decide)) rfl (by decide +kernel))) (zNm_eq (dr.2 11 (by decide)) (fun i => ri_frr a2 (sh_po hb (o := 11) (by decide) (by decide)) rfl (by decide +kernel))) (zNm_eq (dr.2 13 (by decide)) (fun i => ri_frr a2 (sh_po hb (o := 13) (by decide) (by decide)) rfl (by decide +kernel))) (zNm_eq (dr.2 14 (by decide)) (fun i => ri_frr a2 (sh_po hb (o := 14) (by decide) (by decide)) rfl (by decide +kernel))) (zNm_eq (dr.2 15 (by decide)) (fun i => ri_frr a2 (sh_po hb (o := 15) (by decide) (by decide)) rfl (by decide +kernel)))⟩, wf_eq (D := d.2) ⟨fun j hj => ((fun i => ri_frr a2 (sh_po hb (o := 1) (by decide) (by decide)) rfl (by decide +kernel)) j).trans (df.1 j hj), mem3 (fun j hj => ((fun i => ri_frr a2 (sh_po hb (o := 3) (by decide) (by decide)) rfl (by decide +kernel)) j).trans (df.2 3 (by decide) j hj)) (fun j hj => ((fun i => ri_frr a2 (sh_po hb (o := 4) (by decide) (by decide)) rfl (by decide +kernel)) j).trans (df.2 4 (by decide) j hj)) (fun j hj => ((fun i => ri_frr a2 (sh_po hb (o := 5) (by decide) (by decide)) rfl (by decide +kernel)) j).trans (df.2 5 (by decide) j hj))⟩ (fun o ho => zfU_ne (by omega)), fun i hi => ?_, fun i gi hi => ?_⟩
    · by_cases qi : i = s.2.2.2.1.length
      · rw [qi]
        show zKD h1 (b + 16 + 2 * s.2.2.2.1.length) (zfU d.2 (16 + s.2.2.2.1.length) _ (16 + s.2.2.2.1.length)) ∧ ri_at h1 (b + 16 + 2 * s.2.2.2.1.length) 14 = zfU d.2 (16 + s.2.2.2.1.length) _ (16 + s.2.2.2.1.length) 14
        rw [zfU_eq]
        exact ⟨⟨fun j hj => (b2.1 j hj).trans (if_neg (by omega)).symm, fun j hj => (b2.2 j hj).trans (if_neg (by omega)).symm⟩, b3.trans (if_pos rfl).symm⟩
      · show zKD h1 _ (zfU d.2 (16 + s.2.2.2.1.length) _ (16 + i)) ∧ _ = zfU d.2 (16 + s.2.2.2.1.length) _ (16 + i) 14
        rw [zfU_ne (by omega)]
        have o1 := b1.1 (b + 16 + 2 * i) (sh_told hb hi) (by omega)
        have o2 := b1.2 (b + 16 + 2 * i + 1) (sh_told1 hb hi) (by omega)
        exact ⟨⟨fun j hj => (o1 j (by omega)).trans ((dt i hi).1.1 j hj), fun j hj => (o2 j).trans ((dt i hi).1.2 j hj)⟩, (o1 14 (by omega)).trans (dt i hi).2⟩
    · have gi2 : s.2.2.2.1.length + 1 ≤ i := by
        have : (s.2.2.2.1 ++ [v]).length ≤ i := gi
        rw [List.length_append] at this
        exact this
      have o1 := b1.1 (b + 16 + 2 * i) (sh_told hb hi) (by omega)
      have o2 := b1.2 (b + 16 + 2 * i + 1) (sh_told1 hb hi) (by omega)
      have u1 := du i (by omega) hi
      exact ⟨fun j hj => (o1 j hj).trans (u1.1 j hj), fun j hj => (o2 j).trans (u1.2 j hj)⟩
theorem ct_workJ {h0 : cv_H} {n p : Nat} (ht : ∀ i, t i = ri_at h0 1 i % 256) (hwd : ∀ i, i < 34 → ri_at h0 52 i = tz_wc.getD i 0) (hn9 : n ≤ 900) (hT : cw_T G h0) {b : Nat} (hb : b = 2 ∨ b = 26) (hpl : zPL b h0) (hS : zCs t n (.inr p) h0) {s : zSg} {d : zDt} (hs : zSC b h0 s) (hd : zWD b h0 s d) (hl : s.2.2.2.2.1.length ≤ 6) (hz : zk t n p = 1 ∧ zw t n p = 3) (hQ : ∀ h', cw_T G h' → cw_Fr cw_Ds cw_sh kk_X5_readWork.2.2.2.2.2.1 h0 h' → zCs t n (zst (zwl t n s.2.2.2.2.1 p)) h' → (∀ v q, zwl t n s.2.2.2.2.1 p = .inr (v, q) → zSC b h' (s.1, s.2.1, s.2.2.1, s.2.2.2.1, s.2.2.2.2.1 ++ [v], s.2.2.2.2.2) ∧ zWD b h' (s.1, s.2.1, s.2.2.1, s.2.2.2.1, s.2.2.2.2.1 ++ [v], s.2.2.2.2.2) (zlD t n s p d)) → Q (none, h')) : cw_X X 71 Q 0 (cv_ent 0 [cv_r 50]) [] h0 := by
  have hb4 : cw_sh[b]? = some 4 := by rcases hb with rfl | rfl <;> rfl
  obtain ⟨c3, clt, ckn, cg, cw, cc, cto⟩ := id hs
  obtain ⟨dl, dr, df, dt, du⟩ := id hd
  have A : cw_X X 71 (fun o => ∃ hb : cv_H, o = (none, hb) ∧ cw_T G hb ∧ cw_Fr cw_Ds cw_sh kk_X5_readWork.2.2.2.2.2.1 h0 hb ∧ zCs t n (zst (zwl t n s.2.2.2.2.1 p)) hb ∧ (∀ v q, zwl t n s.2.2.2.2.1 p = .inr (v, q) → ri_at hb b 14 = s.2.2.2.2.1.length + 1 ∧ zNm hb (b + 8) 0 (s.2.2.2.2.1 ++ [v]))) 0 (cv_ent 0 [cv_r 50]) [] h0 :=
    ct_readWork ht hwd hn9 hT hb hpl hS cw.1 hl cw.2 (fun h' a1 a2 a3 => ⟨h', rfl, a1, a2, a3.1, a3.2⟩)
  cases E : zwl t n s.2.2.2.2.1 p with
  | inl e =>
    refine cw_X_mono A ?_
    rintro o ⟨h1, rfl, a1, a2, a3, a4⟩
    exact hQ h1 a1 a2 a3 (fun v q e' => by rw [E] at e'; cases e')
  | inr r =>
    obtain ⟨v, q⟩ := r
    obtain ⟨l6, p1, c, p2, E1, E2, k0, hk⟩ := zwl_i E
    have B : ∃ x, zlD t n s p d = zdW d c (zwk (zk t n p2) (zw t n p2)) x ∧ cw_X X 71 (fun o => ∃ hb : cv_H, o = (none, hb) ∧ zNm hb (b + 9) 0 (d.1 9 ++ [c]) ∧ zNm hb (b + 10) 0 (d.1 10 ++ [(zwk (zk t n p2) (zw t n p2))]) ∧ zNm hb (b + 11) 0 (d.1 11 ++ [x])) 0 (cv_ent 0 [cv_r 50]) [] h0 := by
      rcases hk with ⟨k1, x, E4⟩ | ⟨k1, hq⟩
      · refine ⟨x, ?_, ct_workDA ht hwd hn9 hT hb hpl hS cw.1 (by omega) cw.2 E1 E2 k1 E4 dl.1.1 dl.1.2.1 dl.1.2.2 (dr.2 9 (by decide)) (dr.2 10 (by decide)) (dr.2 11 (by decide)) (fun h' b1 b2 b3 b4 b5 b6 b7 b8 => ⟨h', rfl, b6, b7, b8⟩)⟩
        unfold zlD
        rw [if_neg (by omega), if_neg (by omega), if_neg (by omega), if_pos (by omega), zo_r E1, zo_r E2, if_pos k1, zo_r E4]
      · refine ⟨0, ?_, ct_workDB ht hwd hn9 hT hb hpl hS cw.1 (by omega) cw.2 E1 E2 k0 k1 rfl hq dl.1.1 dl.1.2.1 dl.1.2.2 (dr.2 9 (by decide)) (dr.2 10 (by decide)) (dr.2 11 (by decide)) (fun h' b1 b2 b3 b4 b5 b6 b7 b8 => ⟨h', rfl, b6, b7, b8⟩)⟩
        unfold zlD
        rw [if_neg (by omega), if_neg (by omega), if_neg (by omega), if_pos (by omega), zo_r E1, zo_r E2, if_neg (by omega)]
    obtain ⟨x, zl, B⟩ := B
    refine cw_X_mono (cw_X_and A B) ?_
    rintro o ⟨⟨h1, rfl, a1, a2, a3, a4⟩, h2, e, b1, b2, b3⟩
    cases e
    refine hQ h1 a1 a2 a3 (fun v' q' e' => ?_)
    rw [E] at e'
    cases e'
    have a5 := a4 v q E
    refine ⟨⟨(sc_3 a2 (by decide +kernel)).trans c3, sc_lt hb a2 (by decide +kernel) (by decide +kernel) clt, sc_kn hb a2 (by decide +kernel) (by decide +kernel) ckn, sc_g hb a2 (by decide +kernel) (by decide +kernel) cg, ⟨by rw [List.length_append]; exact a5.1, a5.2⟩, sc_c hb a2 (by decide +kernel) (by decide +kernel) cc, sc_t hb a2 (by decide +kernel) (by decide +kernel) cto⟩, ?_⟩
    rw [zl]
    exact ⟨⟨⟨by show (d.1 9 ++ [_]).length = (s.2.2.2.2.1 ++ [v]).length; rw [List.length_append, List.length_append, dl.1.1]; rfl, by show (d.1 10 ++ [_]).length = (s.2.2.2.2.1 ++ [v]).length; rw [List.length_append, List.length_append, dl.1.2.1]; rfl, by show (d.1 11 ++ [_]).length = (s.2.2.2.2.1 ++ [v]).length; rw [List.length_append, List.length_append, dl.1.2.2]; rfl⟩, dl.2⟩, ⟨(ri_frf a2 (k := b) (d := 4) hb4 rfl (by decide +kernel)).trans dr.1, mem7 (zNm_eq (dr.2 2 (by decide)) (fun i => ri_frr a2 (sh_po hb (o := 2) (by decide) (by decide)) rfl (by decide +kernel))) (b1) (b2) (b3) (zNm_eq (dr.2 13 (by decide)) (fun i => ri_frr a2 (sh_po hb (o := 13) (by decide) (by decide)) rfl (by decide +kernel))) (zNm_eq (dr.2 14 (by decide)) (fun i => ri_frr a2 (sh_po hb (o := 14) (by decide) (by decide)) rfl (by decide +kernel))) (zNm_eq (dr.2 15 (by decide)) (fun i => ri_frr a2 (sh_po hb (o := 15) (by decide) (by decide)) rfl (by decide +kernel)))⟩, ⟨fun j hj => ((fun i => ri_frr a2 (sh_po hb (o := 1) (by decide) (by decide)) rfl (by decide +kernel)) j).trans (df.1 j hj), mem3 (fun j hj => ((fun i => ri_frr a2 (sh_po hb (o := 3) (by decide) (by decide)) rfl (by decide +kernel)) j).trans (df.2 3 (by decide) j hj)) (fun j hj => ((fun i => ri_frr a2 (sh_po hb (o := 4) (by decide) (by decide)) rfl (by decide +kernel)) j).trans (df.2 4 (by decide) j hj)) (fun j hj => ((fun i => ri_frr a2 (sh_po hb (o := 5) (by decide) (by decide)) rfl (by decide +kernel)) j).trans (df.2 5 (by decide) j hj))⟩, wt_keep hb a2 (by decide +kernel) dt, wu_keep hb a2 (by decide +kernel) du⟩
theorem ct_causeJ {h0 : cv_H} {n p : Nat} (ht : ∀ i, t i = ri_at h0 1 i % 256) (hwd : ∀ i, i < 34 → ri_at h0 52 i = tz_wc.getD i 0) (hn9 : n ≤ 900) (hT : cw_T G h0) {b : Nat} (hb : b = 2 ∨ b = 26) (hpl : zPL b h0) (hS : zCs t n (.inr p) h0) {s : zSg} {d : zDt} (hs : zSC b h0 s) (hd : zWD b h0 s d) (hl : s.2.2.2.2.2.length ≤ 6) (hz : zk t n p = 1 ∧ zw t n p = 4) (hQ : ∀ h', cw_T G h' → cw_Fr cw_Ds cw_sh kk_X5_readCause.2.2.2.2.2.1 h0 h' → zCs t n (zst (zcl t n s.2.2.2.2.2 p)) h' → (∀ v q, zcl t n s.2.2.2.2.2 p = .inr (v, q) → zSC b h' (s.1, s.2.1, s.2.2.1, s.2.2.2.1, s.2.2.2.2.1, s.2.2.2.2.2 ++ [v]) ∧ zWD b h' (s.1, s.2.1, s.2.2.1, s.2.2.2.1, s.2.2.2.2.1, s.2.2.2.2.2 ++ [v]) (zlD t n s p d)) → Q (none, h')) : cw_X X 74 Q 0 (cv_ent 0 [cv_r 50]) [] h0 := by
  have hb4 : cw_sh[b]? = some 4 := by rcases hb with rfl | rfl <;> rfl
  obtain ⟨c3, clt, ckn, cg, cw, cc, cto⟩ := id hs
  obtain ⟨dl, dr, df, dt, du⟩ := id hd
  have A : cw_X X 74 (fun o => ∃ hb : cv_H, o = (none, hb) ∧ cw_T G hb ∧ cw_Fr cw_Ds cw_sh kk_X5_readCause.2.2.2.2.2.1 h0 hb ∧ zCs t n (zst (zcl t n s.2.2.2.2.2 p)) hb ∧ (∀ v q, zcl t n s.2.2.2.2.2 p = .inr (v, q) → ri_at hb b 19 = s.2.2.2.2.2.length + 1 ∧ zNm hb (b + 12) 0 (s.2.2.2.2.2 ++ [v]))) 0 (cv_ent 0 [cv_r 50]) [] h0 :=
    ct_readCause ht hwd hn9 hT hb hpl hS cc.1 hl cc.2 (fun h' a1 a2 a3 => ⟨h', rfl, a1, a2, a3.1, a3.2⟩)
  cases E : zcl t n s.2.2.2.2.2 p with
  | inl e =>
    refine cw_X_mono A ?_
    rintro o ⟨h1, rfl, a1, a2, a3, a4⟩
    exact hQ h1 a1 a2 a3 (fun v q e' => by rw [E] at e'; cases e')
  | inr r =>
    obtain ⟨v, q⟩ := r
    obtain ⟨l6, p1, c, p2, x, E1, E2, E3, E4⟩ := zcl_i E
    have zl : zlD t n s p d = zdC d c (zw t n p2 - 5) x := by
      unfold zlD
      rw [if_neg (by omega), if_neg (by omega), if_neg (by omega), if_neg (by omega), zo_r E1, zo_r E2, zo_r E4]
    have B : cw_X X 74 (fun o => ∃ hb : cv_H, o = (none, hb) ∧ zNm hb (b + 13) 0 (d.1 13 ++ [c]) ∧ zNm hb (b + 14) 0 (d.1 14 ++ [zw t n p2 - 5]) ∧ zNm hb (b + 15) 0 (d.1 15 ++ [x])) 0 (cv_ent 0 [cv_r 50]) [] h0 :=
      ct_causeD ht hwd hn9 hT hb hpl hS cc.1 (by omega) cc.2 E1 E2 E3 E4 dl.2.1 dl.2.2.1 dl.2.2.2 (dr.2 13 (by decide)) (dr.2 14 (by decide)) (dr.2 15 (by decide)) (fun h' b1 b2 b3 b4 b5 b6 b7 b8 => ⟨h', rfl, b6, b7, b8⟩)
    refine cw_X_mono (cw_X_and A B) ?_
    rintro o ⟨⟨h1, rfl, a1, a2, a3, a4⟩, h2, e, b1, b2, b3⟩
    cases e
    refine hQ h1 a1 a2 a3 (fun v' q' e' => ?_)
    rw [E] at e'
    cases e'
    have a5 := a4 v q E
    refine ⟨⟨(sc_3 a2 (by decide +kernel)).trans c3, sc_lt hb a2 (by decide +kernel) (by decide +kernel) clt, sc_kn hb a2 (by decide +kernel) (by decide +kernel) ckn, sc_g hb a2 (by decide +kernel) (by decide +kernel) cg, sc_w hb a2 (by decide +kernel) (by decide +kernel) cw, ⟨by rw [List.length_append]; exact a5.1, a5.2⟩, sc_t hb a2 (by decide +kernel) (by decide +kernel) cto⟩, ?_⟩
    rw [zl]
    exact ⟨⟨dl.1, by show (d.1 13 ++ [_]).length = (s.2.2.2.2.2 ++ [v]).length; rw [List.length_append, List.length_append, dl.2.1]; rfl, by show (d.1 14 ++ [_]).length = (s.2.2.2.2.2 ++ [v]).length; rw [List.length_append, List.length_append, dl.2.2.1]; rfl, by show (d.1 15 ++ [_]).length = (s.2.2.2.2.2 ++ [v]).length; rw [List.length_append, List.length_append, dl.2.2.2]; rfl⟩, ⟨(ri_frf a2 (k := b) (d := 4) hb4 rfl (by decide +kernel)).trans dr.1, mem7 (zNm_eq (dr.2 2 (by decide)) (fun i => ri_frr a2 (sh_po hb (o := 2) (by decide) (by decide)) rfl (by decide +kernel))) (zNm_eq (dr.2 9 (by decide)) (fun i => ri_frr a2 (sh_po hb (o := 9) (by decide) (by decide)) rfl (by decide +kernel))) (zNm_eq (dr.2 10 (by decide)) (fun i => ri_frr a2 (sh_po hb (o := 10) (by decide) (by decide)) rfl (by decide +kernel))) (zNm_eq (dr.2 11 (by decide)) (fun i => ri_frr a2 (sh_po hb (o := 11) (by decide) (by decide)) rfl (by decide +kernel))) (b1) (b2) (b3)⟩, ⟨fun j hj => ((fun i => ri_frr a2 (sh_po hb (o := 1) (by decide) (by decide)) rfl (by decide +kernel)) j).trans (df.1 j hj), mem3 (fun j hj => ((fun i => ri_frr a2 (sh_po hb (o := 3) (by decide) (by decide)) rfl (by decide +kernel)) j).trans (df.2 3 (by decide) j hj)) (fun j hj => ((fun i => ri_frr a2 (sh_po hb (o := 4) (by decide) (by decide)) rfl (by decide +kernel)) j).trans (df.2 4 (by decide) j hj)) (fun j hj => ((fun i => ri_frr a2 (sh_po hb (o := 5) (by decide) (by decide)) rfl (by decide +kernel)) j).trans (df.2 5 (by decide) j hj))⟩, wt_keep hb a2 (by decide +kernel) dt, wu_keep hb a2 (by decide +kernel) du⟩
end TZ
