section
/-! ===== what a law gives: signs on a stack, knots in rows ===== -/
def zB12 (v : Int) : Option Int := if 1000000000000 < v ∨ v < -1000000000000 then none else some v
def zjn (r a b : Int) : Option Int :=
  if r = 3 then some (if a ≠ 0 ∧ b ≠ 0 then 1 else 0) else
  if r = 4 then some (if a ≠ 0 ∨ b ≠ 0 then 1 else 0) else
  if r = 5 then some (if a < b then 1 else 0) else
  if r = 6 then some (if a ≤ b then 1 else 0) else
  if r = 7 then some (if a = b then 1 else 0) else
  if r = 8 then some (if a ≠ b then 1 else 0) else
  if r = 9 then some (if b ≤ a then 1 else 0) else
  if r = 10 then some (if b < a then 1 else 0) else
  if r = 11 then zB12 (a + b) else
  if r = 12 then zB12 (a - b) else
  if r = 13 then zB12 (a * b) else
  if b = 0 then none else some (a.tdiv b)
def zbb (v : Int) : Prop := -1000000000000 ≤ v ∧ v ≤ 1000000000000
theorem zB12_b {v w : Int} (h : zB12 v = some w) : zbb w ∧ w = v := by
  unfold zB12 at h
  split at h
  · cases h
  · cases h
    unfold zbb
    omega
theorem zbb_01 {c : Prop} [Decidable c] : zbb (if c then 1 else 0) := by unfold zbb; split <;> omega
theorem tdiv_b {a b : Int} (ha : zbb a) : zbb (a.tdiv b) := by
  have h1 : (a.tdiv b).natAbs ≤ a.natAbs := by
    rw [Int.natAbs_tdiv]
    exact Nat.div_le_self _ _
  unfold zbb at *
  omega
theorem zjn_b {r a b w : Int} (ha : zbb a) (h : zjn r a b = some w) : zbb w := by
  unfold zjn at h
  by_cases c3 : r = 3
  · rw [if_pos c3] at h; cases h; exact zbb_01
  rw [if_neg c3] at h
  by_cases c4 : r = 4
  · rw [if_pos c4] at h; cases h; exact zbb_01
  rw [if_neg c4] at h
  by_cases c5 : r = 5
  · rw [if_pos c5] at h; cases h; exact zbb_01
  rw [if_neg c5] at h
  by_cases c6 : r = 6
  · rw [if_pos c6] at h; cases h; exact zbb_01
  rw [if_neg c6] at h
  by_cases c7 : r = 7
  · rw [if_pos c7] at h; cases h; exact zbb_01
  rw [if_neg c7] at h
  by_cases c8 : r = 8
  · rw [if_pos c8] at h; cases h; exact zbb_01
  rw [if_neg c8] at h
  by_cases c9 : r = 9
  · rw [if_pos c9] at h; cases h; exact zbb_01
  rw [if_neg c9] at h
  by_cases c10 : r = 10
  · rw [if_pos c10] at h; cases h; exact zbb_01
  rw [if_neg c10] at h
  by_cases c11 : r = 11
  · rw [if_pos c11] at h; exact (zB12_b h).1
  rw [if_neg c11] at h
  by_cases c12 : r = 12
  · rw [if_pos c12] at h; exact (zB12_b h).1
  rw [if_neg c12] at h
  by_cases c13 : r = 13
  · rw [if_pos c13] at h; exact (zB12_b h).1
  rw [if_neg c13] at h
  by_cases cb : b = 0
  · rw [if_pos cb] at h; cases h
  rw [if_neg cb] at h
  cases h
  exact tdiv_b ha
/-- one sign on a stack (its top ahead) -/
def zE1 (N : Nat → Int) (c : Int) (S : List Int) : Option (List Int) :=
  if c < 10000 then some (c :: S) else if c < 20000 then some (N (c - 10000).toNat :: S) else
  if c = 20002 then (match S with
    | a :: S => some ((if a = 0 then 1 else 0) :: S)
    | [] => none) else (match S with
    | b :: a :: S => (zjn (zri c) a b).map (fun v => v :: S)
    | _ => none)
def zev (N : Nat → Int) : List Int → List Int → Option (List Int)
  | [], S => some S
  | c :: cs, S => (match zE1 N c S with
    | none => none
    | some S' => zev N cs S')
theorem zev_s {N : Nat → Int} {c : Int} {cs S S' : List Int} (h : zE1 N c S = some S') : zev N (c :: cs) S = zev N cs S' := by
  show (match zE1 N c S with | none => none | some S' => zev N cs S') = _
  rw [h]
theorem zev_n {N : Nat → Int} {c : Int} {cs S : List Int} (h : zE1 N c S = none) : zev N (c :: cs) S = none := by
  show (match zE1 N c S with | none => none | some S' => zev N cs S') = _
  rw [h]
theorem zev_ap {N : Nat → Int} {c : Int} : ∀ {cs S S' : List Int}, zev N cs S = some S' → zev N (cs ++ [c]) S = zE1 N c S'
  | [], S, S', h => by
    cases h
    show (match zE1 N c S with | none => none | some S' => some S') = _
    cases zE1 N c S <;> rfl
  | a :: cs, S, S', h => by
    cases e : zE1 N a S with
    | none => rw [zev_n e] at h; cases h
    | some S1 =>
      rw [zev_s e] at h
      show zev N (a :: (cs ++ [c])) S = _
      rw [zev_s e]
      exact zev_ap h
theorem zev_no {N : Nat → Int} {ds : List Int} : ∀ {cs S : List Int}, zev N cs S = none → zev N (cs ++ ds) S = none
  | [], S, h => by cases h
  | a :: cs, S, h => by
    show zev N (a :: (cs ++ ds)) S = none
    cases e : zE1 N a S with
    | none => exact zev_n e
    | some S1 =>
      rw [zev_s e] at h ⊢
      exact zev_no h
theorem zE1_l {N : Nat → Int} {c : Int} {S S' : List Int} (h : zE1 N c S = some S') : S'.length + zka c = S.length + 1 ∧ S'.tail = S.drop (zka c) := by
  unfold zE1 at h
  by_cases c1 : c < 10000
  · rw [if_pos c1] at h
    cases h
    have e : zka c = 0 := by unfold zka; rw [if_pos (by omega)]
    rw [e]
    exact ⟨rfl, rfl⟩
  rw [if_neg c1] at h
  by_cases c2 : c < 20000
  · rw [if_pos c2] at h
    cases h
    have e : zka c = 0 := by unfold zka; rw [if_pos (by omega)]
    rw [e]
    exact ⟨rfl, rfl⟩
  rw [if_neg c2] at h
  by_cases c3 : c = 20002
  · rw [if_pos c3] at h
    have e : zka c = 1 := by unfold zka; rw [if_neg c2, if_pos c3]
    rw [e]
    cases S with
    | nil => cases h
    | cons a S => cases h; exact ⟨rfl, rfl⟩
  rw [if_neg c3] at h
  have e : zka c = 2 := by unfold zka; rw [if_neg c2, if_neg c3]
  rw [e]
  cases S with
  | nil => cases h
  | cons b S =>
    cases S with
    | nil => cases h
    | cons a S =>
      dsimp only at h
      cases q : zjn (zri c) a b with
      | none => rw [q] at h; cases h
      | some v => rw [q] at h; cases h; exact ⟨rfl, rfl⟩
/-- which names a formula's signs use -/
def zNu (cs : List Int) (j : Nat) : Prop := (10000 + (j : Int)) ∈ cs
/-- a law's value; none where it has none -/
def zLV (N : Nat → Int) (cs : List Int) : Option Int := match zev N cs [] with
  | some (v :: _) => some v
  | _ => none
def gCl (o : Option Int) : Int := match o with
  | none => 0
  | some v => if v < 0 then 0 else if 9999 < v then 9999 else v
theorem gCl_b {o : Option Int} : 0 ≤ gCl o ∧ gCl o ≤ 9999 := by
  unfold gCl
  split
  · omega
  · split
    · omega
    · split <;> omega
/-- a knot's value -/
def zvo (N V : Nat → Int) (q1 q2 q3 : Int) : Option Int := if q1 = 0 then some q2 else if q1 = 1 then some (N q2.toNat) else if q1 = 2 then some (if V q2.toNat = 0 then 1 else 0) else zjn q1 (V q2.toNat) (V q3.toNat)
theorem zri_b {c : Int} (h : 20000 ≤ c) : ¬ zri c = 0 ∧ ¬ zri c = 1 ∧ (zri c = 2 ↔ c = 20002) := by
  unfold zri
  repeat' split
  all_goals omega
/-- a sign on the stack of values is the knot's value -/
theorem zvo_E {N V : Nat → Int} {c : Int} {I : List Int} (h0 : 0 ≤ c) (hd : zka c ≤ I.length) (hI : ∀ v, v ∈ I → 0 ≤ v) : zE1 N c (I.map (fun i => V i.toNat)) = (zvo N V (zq1 c) (zq2 I c) (zq3 I c)).map (fun v => v :: (I.drop (zka c)).map (fun i => V i.toNat)) := by
  by_cases c3 : c = 20002
  · subst c3
    obtain ⟨a, I', rfl⟩ := zls1 (show 1 ≤ I.length from hd)
    rfl
  unfold zka at hd
  by_cases c1 : c < 10000
  · unfold zE1 zvo zq1 zq2 zq3 zka
    simp only [if_pos c1, if_pos (show c < 20000 by omega)]
    rfl
  by_cases c2 : c < 20000
  · unfold zE1 zvo zq1 zq2 zq3 zka
    simp only [if_neg c1, if_pos c2]
    rfl
  rw [if_neg c2, if_neg c3] at hd
  obtain ⟨b, a, I', rfl⟩ := zls2 hd
  obtain ⟨b0, b1, b2⟩ := zri_b (c := c) (by omega)
  unfold zE1 zvo zq1 zq2 zq3 zka
  simp only [if_neg c1, if_neg c2, if_neg c3, if_neg b0, if_neg b1, if_neg (fun q => c3 (b2.mp q))]
  rfl
theorem zvo_b {N V : Nat → Int} {q1 q2 q3 w : Int} (hN : ∀ j, zbb (N j)) (hq : q1 = 0 → zbb q2) (hV : 1 < q1 → zbb (V q2.toNat)) (h : zvo N V q1 q2 q3 = some w) (h0 : 0 ≤ q1) : zbb w := by
  unfold zvo at h
  by_cases c0 : q1 = 0
  · rw [if_pos c0] at h; cases h; exact hq c0
  rw [if_neg c0] at h
  by_cases c1 : q1 = 1
  · rw [if_pos c1] at h; cases h; exact hN _
  rw [if_neg c1] at h
  by_cases c2 : q1 = 2
  · rw [if_pos c2] at h; cases h; exact zbb_01
  rw [if_neg c2] at h
  exact zjn_b (hV (by omega)) h
end
section
/-! ===== laws are worked out: the class ===== -/
theorem zB12_y {v : Int} (h : -1000000000000 ≤ v ∧ v ≤ 1000000000000) : zB12 v = some v := by unfold zB12; rw [if_neg (by omega)]
theorem zB12_n {v : Int} (h : 1000000000000 < v ∨ v < -1000000000000) : zB12 v = none := by unfold zB12; rw [if_pos h]
theorem ztm {M a b : Int} (hM : 0 ≤ M) (ha : 1 ≤ a) (hb : 0 ≤ b) : (Int.tdiv M a < b ↔ M < a * b) := by
  rw [Int.tdiv_eq_ediv_of_nonneg hM, Int.ediv_lt_iff_lt_mul (by omega), Int.mul_comm]
/-- |a| |b| is the product but for its sign -/
theorem zab {a b x y : Int} (hx : x = a ∧ 0 ≤ a ∨ x = -a ∧ a ≤ 0) (hy : y = b ∧ 0 ≤ b ∨ y = -b ∧ b ≤ 0) : (a * b = x * y ∨ a * b = -(x * y)) ∧ 0 ≤ x * y := by
  rcases hx with ⟨rfl, h1⟩ | ⟨rfl, h1⟩ <;> rcases hy with ⟨rfl, h2⟩ | ⟨rfl, h2⟩
  · exact ⟨.inl rfl, Int.mul_nonneg h1 h2⟩
  · exact ⟨.inr (by rw [Int.mul_neg, Int.neg_neg]), Int.mul_nonneg h1 (by omega)⟩
  · exact ⟨.inr (by rw [Int.neg_mul, Int.neg_neg]), Int.mul_nonneg (by omega) h2⟩
  · exact ⟨.inl (by rw [Int.neg_mul_neg]), Int.mul_nonneg (by omega) (by omega)⟩
section GN
variable {G : Int} {X : cv_X} {Q : cv_O → Prop} {h : cv_H}
end GN
end
section
/-! ===== a law's value: the class ===== -/
section GN
variable {G : Int} {X : cv_X} {Q : cv_O → Prop} {h : cv_H}
/-- depth of the stack: enough for each sign -/
def zdp : Nat → List Int → Prop
  | _, [] => True
  | d, c :: cs => zka c ≤ d ∧ zdp (d + 1 - zka c) cs
section WO
variable {h0 : cv_H} {b RC RA RB : Nat} {law : Int32} {a : Nat} {cs : List Int} {N : Nat → Int}
end WO
end GN
end
section
/-! ===== the laws' names: put, see; the class ===== -/
section GN
variable {G : Int} {X : cv_X} {Q : cv_O → Prop} {h : cv_H}
theorem zrem12 {x y : Int32} (hx : 0 ≤ x.toInt) (hy : y.toInt = 12) : (x - x / y * y).toInt = x.toInt % 12 := by
  have hxb := cw_i32 x
  have h1 : (x / y).toInt = x.toInt / 12 := by rw [Int32.toInt_div, hy, Int.tdiv_eq_ediv_of_nonneg hx, cw_bm (by omega) (by omega)]
  have h2 : (x / y * y).toInt = x.toInt / 12 * 12 := by rw [Int32.toInt_mul, h1, hy, cw_bm (by omega) (by omega)]
  rw [Int32.toInt_sub, h2, cw_bm (by omega) (by omega)]
  omega
def gFirm (g : Nat → Int) (w : Int) : Int := g (w * 12 / 52 % 12).toNat
def gNm (T γ : Nat → Int) (firm week fall : Int) (j : Nat) : Int :=
  if j = 0 then gPull T (γ 9) (γ 7) else if j = 1 then firm + γ 8 else if j = 2 then γ 5 else if j = 3 then T 8 else if j = 4 then (if γ 6 = 1 then 1 else 0) else if j = 5 then (if γ 6 = 2 then 1 else 0) else if j = 6 then gDrop T (γ 1) (γ 2) (γ 3) (γ 4) else if j = 7 then week else if j = 8 then γ 9 else if j = 9 then fall else 0
end GN
end
section
/-! ===== laws that are fresh, weeks that go by; the class ===== -/
/-- what a law adds, by its signs; none where it isn't told -/
def gLw (o : Option (List Int)) (N : Nat → Int) : Int := match o with
  | none => 0
  | some cs => gCl (zLV N cs)
theorem gLw_b {o : Option (List Int)} {N : Nat → Int} : 0 ≤ gLw o N ∧ gLw o N ≤ 9999 := by
  cases o with
  | none => exact ⟨Int.le_refl 0, (show (0 : Int) ≤ 9999 from by decide)⟩
  | some cs => exact gCl_b
/-- a law's signs that may be worked out -/
def zWf (cs : List Int) : Prop := 0 < cs.length ∧ (∀ c, c ∈ cs → 0 ≤ c ∧ c ≤ 20012 ∧ (c < 10010 ∨ 20000 ≤ c)) ∧ zdp 0 cs ∧ ∀ N S, zev N cs [] = some S → S.length = 1
/-- a law as the plan holds it -/
def zLw (h : cv_H) (RC RA RB RN l : Nat) (o : Option (List Int)) : Prop := match o with
  | none => ri_at h RB l ≤ ri_at h RA l
  | some cs => zWf cs ∧ ∃ a nm : Nat, ri_at h RA l = a ∧ ri_at h RB l = ((a + cs.length : Nat) : Int) ∧ a + cs.length ≤ 64 ∧ (∀ m, m < cs.length → ri_at h RC (a + m) = cs.getD m 0) ∧ ri_at h RN l = nm ∧ nm < 1024 ∧ ∀ j, j < 10 → zNu cs j → nm.testBit j = true
theorem zLw_eq {h h' : cv_H} {RC RA RB RN l : Nat} {o : Option (List Int)} (a : zLw h RC RA RB RN l o) (e : ∀ k i, (k = RC ∨ k = RA ∨ k = RB ∨ k = RN) → ri_at h' k i = ri_at h k i) : zLw h' RC RA RB RN l o := by
  cases o with
  | none =>
    show ri_at h' RB l ≤ ri_at h' RA l
    rw [e RB l (.inr (.inr (.inl rfl))), e RA l (.inr (.inl rfl))]
    exact a
  | some cs =>
    obtain ⟨w, x, nm, a1, a2, a3, a4, a5, a6, a7⟩ := a
    exact ⟨w, x, nm, (e RA l (.inr (.inl rfl))).trans a1, (e RB l (.inr (.inr (.inl rfl)))).trans a2, a3, fun m hm => (e RC _ (.inl rfl)).trans (a4 m hm), (e RN l (.inr (.inr (.inr rfl)))).trans a5, a6, a7⟩
section GN
variable {G : Int} {X : cv_X} {Q : cv_O → Prop} {h : cv_H}
end GN
end
section
/-! ===== weeks go by for a gate: the class ===== -/
def gWk (T g : Nat → Int) (LL : Nat → Option (List Int)) (w : Int) (γ : Nat → Int) : Nat → Int := gGrow γ (gLw (LL 0) (gNm T γ (gFirm g w) w 0)) (gLw (LL 1) (gNm T γ (gFirm g w) w 0)) (gLw (LL 2) (gNm T γ (gFirm g w) w 0))
def gPs (T g : Nat → Int) (LL : Nat → Option (List Int)) : Nat → Int → (Nat → Int) → Nat → Int
  | 0, _, γ => γ
  | n + 1, w, γ => gPs T g LL n (w + 1) (gWk T g LL w γ)
theorem gGrow_R {γ : Nat → Int} {a b c : Int} (rG : gGR γ) (ha : 0 ≤ a ∧ a ≤ 9999) (hb : 0 ≤ b ∧ b ≤ 9999) (hc : 0 ≤ c ∧ c ≤ 9999) : gGR (gGrow γ a b c) := by
  obtain ⟨rG1, rG2, rG3, rG4, rG5, rG6, rG7, rG8, rG9, rG10, rG11, rG12, rG13, rG14, rG15, rG16⟩ := rG
  refine ⟨?_, ?_, ?_, rG4, rG5, rG6, rG7, rG8, rG9, rG10, rG11, rG12, rG13, rG14, rG15, rG16⟩
  · show 0 ≤ min 1000000 (γ 1 + a + γ 12) ∧ min 1000000 (γ 1 + a + γ 12) ≤ 1000000
    omega
  · show 0 ≤ min 1000000 (γ 2 + b + γ 13) ∧ min 1000000 (γ 2 + b + γ 13) ≤ 1000000
    omega
  · show 0 ≤ min 1000000 (γ 3 + c + γ 14) ∧ min 1000000 (γ 3 + c + γ 14) ≤ 1000000
    omega
theorem gNm_b {T γ : Nat → Int} {firm week fall : Int} (rT : gTR T) (rG : gGR γ) (hf : 0 ≤ firm ∧ firm ≤ 100) (hw : 0 ≤ week ∧ week ≤ 10000000) (hl : 0 ≤ fall ∧ fall ≤ 99) (j : Nat) : zbb (gNm T γ firm week fall j) := by
  have p := (gPull_b rT rG.2.2.2.2.2.2.2.2.1 rG.2.2.2.2.2.2.1).2.2.2
  have d := gDrop_b rT rG.1 rG.2.1 rG.2.2.1 rG.2.2.2.1
  obtain ⟨rT0, rT1, rT2, rT3, rT5, rT6, rT7, rT8, rT9, rT10, rT11, rT12, rT13, rT14⟩ := rT
  obtain ⟨rG1, rG2, rG3, rG4, rG5, rG6, rG7, rG8, rG9, rG10, rG11, rG12, rG13, rG14, rG15, rG16⟩ := rG
  unfold zbb gNm
  repeat' split
  all_goals omega
section GN
variable {G : Int} {X : cv_X} {Q : cv_O → Prop} {h0 : cv_H}
section PS
variable {b RC RA RB RN RG K U : Nat} {T g : Nat → Int} {LL : Nat → Option (List Int)}
end PS
end GN
end
section
/-! ===== pure: ranges of a gate's told numbers ===== -/
theorem zn_iv {t : Nat → Int} {n p q : Nat} {lo hi v : Int} (e : zn t n lo hi p = .inr (v, q)) : lo ≤ v ∧ v ≤ hi := by
  by_cases h1 : zk t n p = 3
  · by_cases h2 : lo ≤ zw t n p ∧ zw t n p ≤ hi
    · rw [zn_ok h1 h2.1 h2.2] at e
      cases e
      exact h2
    · rw [zn_2 h1 (by omega)] at e
      cases e
  · rw [zn_1 h1] at e
    cases e
theorem zg_iv {t : Nat → Int} {n p q : Nat} {hi v : Int} (e : zg t n hi p = .inr (v, q)) : -hi ≤ v ∧ v ≤ hi := by
  unfold zg at e
  by_cases c : zk t n p = 4 ∧ zw t n p = 45
  · rw [if_pos c] at e
    cases z : zn t n 0 hi (zx t n p) with
    | inl x => rw [z] at e; cases e
    | inr x =>
      obtain ⟨y, q1⟩ := x
      rw [z] at e
      dsimp only at e
      cases e
      have := zn_iv z
      omega
  · rw [if_neg c] at e
    have := zn_iv e
    omega
theorem zns_iv {t : Nat → Int} {n : Nat} {lo hi : Int} : ∀ (k p : Nat) (vs : List Int) (q : Nat), zns t n lo hi k p = .inr (vs, q) → ∀ j, j < k → lo ≤ vs.getD j 0 ∧ vs.getD j 0 ≤ hi
  | 0, p, vs, q, e, j, hj => by omega
  | k + 1, p, vs, q, e, j, hj => by
    obtain ⟨v, p', vs', e1, e2, rfl⟩ := zns_i e
    cases j with
    | zero => exact zn_iv e1
    | succ j => rw [List.getD_cons_succ]; exact zns_iv k p' vs' q e2 j (by omega)
def zTd (hh : Int) (D : Nat → Int) : Prop := (24 ≤ D 0 ∧ D 0 ≤ 144) ∧ D 1 = hh ∧ (20 ≤ D 2 ∧ D 2 ≤ 400) ∧ (0 ≤ D 3 ∧ D 3 < D 4 ∧ D 4 ≤ hh) ∧ (-30 ≤ D 5 ∧ D 5 ≤ 30) ∧ (-30 ≤ D 6 ∧ D 6 ≤ 30) ∧ (12 ≤ D 7 ∧ D 7 ≤ 60) ∧ (3 ≤ D 8 ∧ D 8 ≤ 14) ∧ (0 ≤ D 9 ∧ D 9 ≤ 2) ∧ (0 ≤ D 10 ∧ D 10 ≤ 9999) ∧ (0 ≤ D 11 ∧ D 11 ≤ 9999) ∧ (0 ≤ D 12 ∧ D 12 ≤ 200) ∧ (0 ≤ D 13 ∧ D 13 ≤ 9999)
theorem zgB_R {a hh w : Int} (h0 : 24 ≤ a ∧ a ≤ 144) (h1 : 24 ≤ hh ∧ hh ≤ 72) (h2 : 20 ≤ w ∧ w ≤ 400) : zTd hh (zgB a hh w) :=
  ⟨h0, rfl, h2, (show (0 : Int) ≤ 6 ∧ (6 : Int) < hh - 6 ∧ hh - 6 ≤ hh from by omega), (show (-30 : Int) ≤ 0 ∧ (0 : Int) ≤ 30 from by decide), (show (-30 : Int) ≤ 0 ∧ (0 : Int) ≤ 30 from by decide), (show (12 : Int) ≤ 36 ∧ (36 : Int) ≤ 60 from by decide), (show (3 : Int) ≤ 8 ∧ (8 : Int) ≤ 14 from by decide), (show (0 : Int) ≤ 0 ∧ (0 : Int) ≤ 2 from by decide), (show (0 : Int) ≤ 1000 ∧ (1000 : Int) ≤ 9999 from by decide), (show (0 : Int) ≤ 1000 ∧ (1000 : Int) ≤ 9999 from by decide), (show (0 : Int) ≤ 0 ∧ (0 : Int) ≤ 200 from by decide), (show (0 : Int) ≤ 3000 ∧ (3000 : Int) ≤ 9999 from by decide)⟩
theorem zpW_R {t : Nat → Int} {n p : Nat} {hh w : Int} {D : Nat → Int} (a : zTd hh D) : zTd hh (zpW t n hh w p D) := by
  have A := a
  obtain ⟨a0, a1, a2, a3, a5, a6, a7, a8, a9, a10, a11, a12, a13⟩ := a
  unfold zpW
  by_cases c0 : w = 0
  · rw [if_pos c0]
    cases z1 : zn t n 0 hh p with
    | inl x => exact A
    | inr x =>
      obtain ⟨v1, q1⟩ := x
      show zTd hh (zo (zn t n (v1 + 1) hh q1) _ D)
      cases z2 : zn t n (v1 + 1) hh q1 with
      | inl x => exact A
      | inr x =>
        obtain ⟨v2, q2⟩ := x
        show zTd hh (zo (zg t n 30 q2) _ D)
        cases z3 : zg t n 30 q2 with
        | inl x => exact A
        | inr x =>
          obtain ⟨v3, q3⟩ := x
          show zTd hh (zo (zg t n 30 q3) _ D)
          cases z4 : zg t n 30 q3 with
          | inl x => exact A
          | inr x =>
            obtain ⟨v4, q4⟩ := x
            have r1 := zn_iv z1
            have r2 := zn_iv z2
            exact ⟨a0, a1, a2, (show 0 ≤ v1 ∧ v1 < v2 ∧ v2 ≤ hh from by omega), (zg_iv z3), (zg_iv z4), a7, a8, a9, a10, a11, a12, a13⟩
  rw [if_neg c0]
  by_cases c1 : w = 1
  · rw [if_pos c1]
    cases z1 : zn t n 12 60 p with
    | inl x => exact A
    | inr x =>
      obtain ⟨v1, q1⟩ := x
      show zTd hh (zo (zns t n 3 14 1 q1) _ D)
      cases z2 : zns t n 3 14 1 q1 with
      | inl x => exact A
      | inr x =>
        obtain ⟨vs, q2⟩ := x
        exact ⟨a0, a1, a2, a3, a5, a6, (zn_iv z1), (zns_iv _ _ _ _ z2 0 (by decide)), a9, a10, a11, a12, a13⟩
  rw [if_neg c1]
  by_cases c2 : w = 2
  · rw [if_pos c2]
    exact ⟨a0, a1, a2, a3, a5, a6, a7, a8, (show (0 : Int) ≤ (if zw t n p = 28 then 1 else 2) ∧ (if zw t n p = 28 then (1 : Int) else 2) ≤ 2 from by split <;> decide), a10, a11, a12, a13⟩
  rw [if_neg c2]
  by_cases c3 : w = 3
  · rw [if_pos c3]
    cases z2 : zns t n 0 9999 2 p with
    | inl x => exact A
    | inr x =>
      obtain ⟨vs, q2⟩ := x
      exact ⟨a0, a1, a2, a3, a5, a6, a7, a8, a9, (zns_iv _ _ _ _ z2 0 (by decide)), (zns_iv _ _ _ _ z2 1 (by decide)), a12, a13⟩
  rw [if_neg c3]
  by_cases c4 : w = 4
  · rw [if_pos c4]
    cases z2 : zns t n 0 9999 1 p with
    | inl x => exact A
    | inr x =>
      obtain ⟨vs, q2⟩ := x
      exact ⟨a0, a1, a2, a3, a5, a6, a7, a8, a9, a10, a11, a12, (zns_iv _ _ _ _ z2 0 (by decide))⟩
  rw [if_neg c4]
  by_cases c5 : w = 5
  · rw [if_pos c5]
    cases z2 : zns t n 0 200 9 p with
    | inl x => exact A
    | inr x => exact A
  rw [if_neg c5]
  by_cases c6 : w = 6
  · rw [if_pos c6]
    exact A
  rw [if_neg c6]
  cases z2 : zns t n 0 200 1 p with
  | inl x => exact A
  | inr x =>
    obtain ⟨vs, q2⟩ := x
    exact ⟨a0, a1, a2, a3, a5, a6, a7, a8, a9, a10, a11, (zns_iv _ _ _ _ z2 0 (by decide)), a13⟩
theorem zgF_R {t : Nat → Int} {n : Nat} {hh : Int} {cn : List Int} : ∀ (u m cm p : Nat) (D : Nat → Int), zTd hh D → zTd hh (zgF t n hh cn u m cm p D).1
  | 0, m, cm, p, D, a => a
  | u + 1, m, cm, p, D, a => by
    rw [zgF_s]
    by_cases c : zhw (zk t n p) (zw t n p) < 0
    · rw [if_pos c]; exact a
    rw [if_neg c]
    cases z : zpt t n hh cn m cm p with
    | inl x => exact a
    | inr x =>
      obtain ⟨v, q⟩ := x
      exact zgF_R u _ v q _ (zpW_R a)
end
