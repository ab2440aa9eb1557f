/-! ===== what a law gives: signs on a stack, knots in rows ===== -/
def zB12 (v : Int) : Option Int := if 1000000000000 < v ∨ v < -1000000000000 then none else some v
def zjn (r a b : Int) : Option Int :=
  if r = 3 then some (if a ≠ 0 ∧ b ≠ 0 then 1 else 0) else
  if r = 4 then some (if a ≠ 0 ∨ b ≠ 0 then 1 else 0) else
  if r = 5 then some (if a < b then 1 else 0) else
  if r = 6 then some (if a ≤ b then 1 else 0) else
  if r = 7 then some (if a = b then 1 else 0) else
  if r = 8 then some (if a ≠ b then 1 else 0) else
  if r = 9 then some (if b ≤ a then 1 else 0) else
  if r = 10 then some (if b < a then 1 else 0) else
  if r = 11 then zB12 (a + b) else
  if r = 12 then zB12 (a - b) else
  if r = 13 then zB12 (a * b) else
  if b = 0 then none else some (a.tdiv b)
def zbb (v : Int) : Prop := -1000000000000 ≤ v ∧ v ≤ 1000000000000
theorem zB12_b {v w : Int} (h : zB12 v = some w) : zbb w ∧ w = v := by
  unfold zB12 at h
  split at h
  · cases h
  · cases h
    unfold zbb
    omega
theorem zbb_01 {c : Prop} [Decidable c] : zbb (if c then 1 else 0) := by unfold zbb; split <;> omega
theorem tdiv_b {a b : Int} (ha : zbb a) : zbb (a.tdiv b) := by
  have h1 : (a.tdiv b).natAbs ≤ a.natAbs := by
    rw [Int.natAbs_tdiv]
    exact Nat.div_le_self _ _
  unfold zbb at *
  omega
theorem zjn_b {r a b w : Int} (ha : zbb a) (h : zjn r a b = some w) : zbb w := by
  unfold zjn at h
  by_cases c3 : r = 3
  · rw [if_pos c3] at h; cases h; exact zbb_01
  rw [if_neg c3] at h
  by_cases c4 : r = 4
  · rw [if_pos c4] at h; cases h; exact zbb_01
  rw [if_neg c4] at h
  by_cases c5 : r = 5
  · rw [if_pos c5] at h; cases h; exact zbb_01
  rw [if_neg c5] at h
  by_cases c6 : r = 6
  · rw [if_pos c6] at h; cases h; exact zbb_01
  rw [if_neg c6] at h
  by_cases c7 : r = 7
  · rw [if_pos c7] at h; cases h; exact zbb_01
  rw [if_neg c7] at h
  by_cases c8 : r = 8
  · rw [if_pos c8] at h; cases h; exact zbb_01
  rw [if_neg c8] at h
  by_cases c9 : r = 9
  · rw [if_pos c9] at h; cases h; exact zbb_01
  rw [if_neg c9] at h
  by_cases c10 : r = 10
  · rw [if_pos c10] at h; cases h; exact zbb_01
  rw [if_neg c10] at h
  by_cases c11 : r = 11
  · rw [if_pos c11] at h; exact (zB12_b h).1
  rw [if_neg c11] at h
  by_cases c12 : r = 12
  · rw [if_pos c12] at h; exact (zB12_b h).1
  rw [if_neg c12] at h
  by_cases c13 : r = 13
  · rw [if_pos c13] at h; exact (zB12_b h).1
  rw [if_neg c13] at h
  by_cases cb : b = 0
  · rw [if_pos cb] at h; cases h
  rw [if_neg cb] at h
  cases h
  exact tdiv_b ha
/-- one sign on a stack (its top ahead) -/
def zE1 (N : Nat → Int) (c : Int) (S : List Int) : Option (List Int) :=
  if c < 10000 then some (c :: S) else if c < 20000 then some (N (c - 10000).toNat :: S) else
  if c = 20002 then (match S with
    | a :: S => some ((if a = 0 then 1 else 0) :: S)
    | [] => none) else (match S with
    | b :: a :: S => (zjn (zri c) a b).map (fun v => v :: S)
    | _ => none)
def zev (N : Nat → Int) : List Int → List Int → Option (List Int)
  | [], S => some S
  | c :: cs, S => (match zE1 N c S with
    | none => none
    | some S' => zev N cs S')
theorem zev_s {N : Nat → Int} {c : Int} {cs S S' : List Int} (h : zE1 N c S = some S') : zev N (c :: cs) S = zev N cs S' := by
  show (match zE1 N c S with | none => none | some S' => zev N cs S') = _
  rw [h]
theorem zev_n {N : Nat → Int} {c : Int} {cs S : List Int} (h : zE1 N c S = none) : zev N (c :: cs) S = none := by
  show (match zE1 N c S with | none => none | some S' => zev N cs S') = _
  rw [h]
theorem zev_ap {N : Nat → Int} {c : Int} : ∀ {cs S S' : List Int}, zev N cs S = some S' → zev N (cs ++ [c]) S = zE1 N c S'
  | [], S, S', h => by
    cases h
    show (match zE1 N c S with | none => none | some S' => some S') = _
    cases zE1 N c S <;> rfl
  | a :: cs, S, S', h => by
    cases e : zE1 N a S with
    | none => rw [zev_n e] at h; cases h
    | some S1 =>
      rw [zev_s e] at h
      show zev N (a :: (cs ++ [c])) S = _
      rw [zev_s e]
      exact zev_ap h
theorem zev_no {N : Nat → Int} {ds : List Int} : ∀ {cs S : List Int}, zev N cs S = none → zev N (cs ++ ds) S = none
  | [], S, h => by cases h
  | a :: cs, S, h => by
    show zev N (a :: (cs ++ ds)) S = none
    cases e : zE1 N a S with
    | none => exact zev_n e
    | some S1 =>
      rw [zev_s e] at h ⊢
      exact zev_no h
theorem zE1_l {N : Nat → Int} {c : Int} {S S' : List Int} (h : zE1 N c S = some S') : S'.length + zka c = S.length + 1 ∧ S'.tail = S.drop (zka c) := by
  unfold zE1 at h
  by_cases c1 : c < 10000
  · rw [if_pos c1] at h
    cases h
    have e : zka c = 0 := by unfold zka; rw [if_pos (by omega)]
    rw [e]
    exact ⟨rfl, rfl⟩
  rw [if_neg c1] at h
  by_cases c2 : c < 20000
  · rw [if_pos c2] at h
    cases h
    have e : zka c = 0 := by unfold zka; rw [if_pos (by omega)]
    rw [e]
    exact ⟨rfl, rfl⟩
  rw [if_neg c2] at h
  by_cases c3 : c = 20002
  · rw [if_pos c3] at h
    have e : zka c = 1 := by unfold zka; rw [if_neg c2, if_pos c3]
    rw [e]
    cases S with
    | nil => cases h
    | cons a S => cases h; exact ⟨rfl, rfl⟩
  rw [if_neg c3] at h
  have e : zka c = 2 := by unfold zka; rw [if_neg c2, if_neg c3]
  rw [e]
  cases S with
  | nil => cases h
  | cons b S =>
    cases S with
    | nil => cases h
    | cons a S =>
      dsimp only at h
      cases q : zjn (zri c) a b with
      | none => rw [q] at h; cases h
      | some v => rw [q] at h; cases h; exact ⟨rfl, rfl⟩
def zbS (S : List Int) : Prop := ∀ v, v ∈ S → zbb v
theorem zE1_b {N : Nat → Int} {c : Int} {S S' : List Int} (hN : ∀ j, zbb (N j)) (hc : 0 ≤ c) (hS : zbS S) (h : zE1 N c S = some S') : zbS S' := by
  unfold zE1 at h
  by_cases c1 : c < 10000
  · rw [if_pos c1] at h
    cases h
    intro v hv
    rcases List.mem_cons.mp hv with e | e
    · unfold zbb; omega
    · exact hS v e
  rw [if_neg c1] at h
  by_cases c2 : c < 20000
  · rw [if_pos c2] at h
    cases h
    intro v hv
    rcases List.mem_cons.mp hv with e | e
    · rw [e]; exact hN _
    · exact hS v e
  rw [if_neg c2] at h
  by_cases c3 : c = 20002
  · rw [if_pos c3] at h
    cases S with
    | nil => cases h
    | cons a S =>
      cases h
      intro v hv
      rcases List.mem_cons.mp hv with e | e
      · rw [e]; exact zbb_01
      · exact hS v (List.mem_cons_of_mem _ e)
  rw [if_neg c3] at h
  cases S with
  | nil => cases h
  | cons b S =>
    cases S with
    | nil => cases h
    | cons a S =>
      dsimp only at h
      cases q : zjn (zri c) a b with
      | none => rw [q] at h; cases h
      | some w =>
        rw [q] at h
        cases h
        intro v hv
        rcases List.mem_cons.mp hv with e | e
        · rw [e]; exact zjn_b (hS a (List.mem_cons_of_mem _ (List.mem_cons_self ..))) q
        · exact hS v (List.mem_cons_of_mem _ (List.mem_cons_of_mem _ e))
/-- which names a formula's signs use -/
def zNu (cs : List Int) (j : Nat) : Prop := (10000 + (j : Int)) ∈ cs
theorem zE1_N {N N' : Nat → Int} {c : Int} {S : List Int} (h : 10000 ≤ c → c < 20000 → N (c - 10000).toNat = N' (c - 10000).toNat) : zE1 N c S = zE1 N' c S := by
  unfold zE1
  by_cases c1 : c < 10000
  · rw [if_pos c1, if_pos c1]
  rw [if_neg c1, if_neg c1]
  by_cases c2 : c < 20000
  · rw [if_pos c2, if_pos c2, h (by omega) c2]
  rw [if_neg c2, if_neg c2]
theorem zev_N {N N' : Nat → Int} : ∀ {cs S : List Int}, (∀ j, j < 10000 → zNu cs j → N j = N' j) → zev N cs S = zev N' cs S
  | [], _, _ => rfl
  | c :: cs, S, h => by
    have e : zE1 N c S = zE1 N' c S := zE1_N (fun h1 h2 => h _ (by omega) (by
      unfold zNu
      rw [show 10000 + (((c - 10000).toNat : Nat) : Int) = c from by omega]
      exact List.mem_cons_self ..))
    cases q : zE1 N' c S with
    | none => rw [zev_n (e.trans q), zev_n q]
    | some S1 => rw [zev_s (e.trans q), zev_s q]; exact zev_N (fun j hl hj => h j hl (List.mem_cons_of_mem _ hj))
/-- a law's value; none where it has none -/
def zLV (N : Nat → Int) (cs : List Int) : Option Int := match zev N cs [] with
  | some (v :: _) => some v
  | _ => none
def gCl (o : Option Int) : Int := match o with
  | none => 0
  | some v => if v < 0 then 0 else if 9999 < v then 9999 else v
theorem gCl_b {o : Option Int} : 0 ≤ gCl o ∧ gCl o ≤ 9999 := by
  unfold gCl
  split
  · omega
  · split
    · omega
    · split <;> omega
theorem zLV_N {N N' : Nat → Int} {cs : List Int} (h : ∀ j, j < 10000 → zNu cs j → N j = N' j) : zLV N cs = zLV N' cs := by
  unfold zLV
  rw [zev_N h]
/-- a knot's value -/
def zvo (N V : Nat → Int) (q1 q2 q3 : Int) : Option Int := if q1 = 0 then some q2 else if q1 = 1 then some (N q2.toNat) else if q1 = 2 then some (if V q2.toNat = 0 then 1 else 0) else zjn q1 (V q2.toNat) (V q3.toNat)
theorem zri_b {c : Int} (h : 20000 ≤ c) : ¬ zri c = 0 ∧ ¬ zri c = 1 ∧ (zri c = 2 ↔ c = 20002) := by
  unfold zri
  repeat' split
  all_goals omega
theorem zri_20002 : zri 20002 = 2 := by decide
/-- a sign on the stack of values is the knot's value -/
theorem zvo_E {N V : Nat → Int} {c : Int} {I : List Int} (h0 : 0 ≤ c) (hd : zka c ≤ I.length) (hI : ∀ v, v ∈ I → 0 ≤ v) : zE1 N c (I.map (fun i => V i.toNat)) = (zvo N V (zq1 c) (zq2 I c) (zq3 I c)).map (fun v => v :: (I.drop (zka c)).map (fun i => V i.toNat)) := by
  by_cases c3 : c = 20002
  · subst c3
    obtain ⟨a, I', rfl⟩ := zls1 (show 1 ≤ I.length from hd)
    rfl
  unfold zka at hd
  by_cases c1 : c < 10000
  · unfold zE1 zvo zq1 zq2 zq3 zka
    simp only [if_pos c1, if_pos (show c < 20000 by omega)]
    rfl
  by_cases c2 : c < 20000
  · unfold zE1 zvo zq1 zq2 zq3 zka
    simp only [if_neg c1, if_pos c2]
    rfl
  rw [if_neg c2, if_neg c3] at hd
  obtain ⟨b, a, I', rfl⟩ := zls2 hd
  obtain ⟨b0, b1, b2⟩ := zri_b (c := c) (by omega)
  unfold zE1 zvo zq1 zq2 zq3 zka
  simp only [if_neg c1, if_neg c2, if_neg c3, if_neg b0, if_neg b1, if_neg (fun q => c3 (b2.mp q))]
  rfl
theorem zvo_b {N V : Nat → Int} {q1 q2 q3 w : Int} (hN : ∀ j, zbb (N j)) (hq : q1 = 0 → zbb q2) (hV : 1 < q1 → zbb (V q2.toNat)) (h : zvo N V q1 q2 q3 = some w) (h0 : 0 ≤ q1) : zbb w := by
  unfold zvo at h
  by_cases c0 : q1 = 0
  · rw [if_pos c0] at h; cases h; exact hq c0
  rw [if_neg c0] at h
  by_cases c1 : q1 = 1
  · rw [if_pos c1] at h; cases h; exact hN _
  rw [if_neg c1] at h
  by_cases c2 : q1 = 2
  · rw [if_pos c2] at h; cases h; exact zbb_01
  rw [if_neg c2] at h
  exact zjn_b (hV (by omega)) h
