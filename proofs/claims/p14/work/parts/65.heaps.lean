section
/-! ===== equality of cells, by program; the heaps behind the constructors ===== -/
def cv_vb (x y : cv_V) : Bool := match x, y with
  | .inl a, .inl b => decide (a = b)
  | .inr (.inl a), .inr (.inl b) => decide (a = b)
  | .inr (.inr (.inl none)), .inr (.inr (.inl none)) => true
  | .inr (.inr (.inl (some a))), .inr (.inr (.inl (some b))) => a == b
  | .inr (.inr (.inr a)), .inr (.inr (.inr b)) => a == b
  | _, _ => false
theorem cv_vb_ok {x y : cv_V} (h : cv_vb x y = true) : x = y := by
  unfold cv_vb at h
  split at h
  · rw [of_decide_eq_true h]
  · rw [of_decide_eq_true h]
  · rfl
  · simp only [beq_iff_eq] at h
    rw [h]
  · simp only [beq_iff_eq] at h
    rw [h]
  · cases h
def cv_lb {α : Type} (f : α → α → Bool) : List α → List α → Bool
  | [], [] => true
  | x :: l, y :: r => f x y && cv_lb f l r
  | _, _ => false
theorem cv_lb_ok {α : Type} {f : α → α → Bool} (hf : ∀ x y, f x y = true → x = y) : ∀ {l r : List α}, cv_lb f l r = true → l = r
  | [], [], _ => rfl
  | x :: l, y :: r, h => by
    simp only [cv_lb, Bool.and_eq_true] at h
    rw [hf _ _ h.1, cv_lb_ok hf h.2]
  | [], _ :: _, h => by cases h
  | _ :: _, [], h => by cases h
def cv_ob (x y : Option Nat) : Bool := match x, y with
  | none, none => true
  | some a, some b => a == b
  | _, _ => false
theorem cv_ob_ok {x y : Option Nat} (h : cv_ob x y = true) : x = y := by
  unfold cv_ob at h
  split at h
  · rfl
  · simp only [beq_iff_eq] at h
    rw [h]
  · cases h
def cv_cb (x y : cv_C) : Bool := match x, y with
  | .inl (t, l), .inl (u, r) => (t == u) && cv_lb (fun a b => decide (a = b)) l r
  | .inr (.inl l), .inr (.inl r) => cv_lb (fun a b => decide (a = b)) l r
  | .inr (.inr (.inl (t, l))), .inr (.inr (.inl (u, r))) => (t == u) && cv_lb cv_ob l r
  | .inr (.inr (.inr (t, l))), .inr (.inr (.inr (u, r))) => (t == u) && cv_lb cv_vb l r
  | _, _ => false
theorem cv_cb_ok {x y : cv_C} (h : cv_cb x y = true) : x = y := by
  unfold cv_cb at h
  split at h
  · simp only [Bool.and_eq_true, beq_iff_eq] at h
    rw [h.1, cv_lb_ok (fun _ _ q => of_decide_eq_true q) h.2]
  · rw [cv_lb_ok (fun _ _ q => of_decide_eq_true q) h]
  · simp only [Bool.and_eq_true, beq_iff_eq] at h
    rw [h.1, cv_lb_ok (fun _ _ q => cv_ob_ok q) h.2]
  · simp only [Bool.and_eq_true, beq_iff_eq] at h
    rw [h.1, cv_lb_ok (fun _ _ q => cv_vb_ok q) h.2]
  · cases h
/-- a run that returns nothing, and its heap -/
def cv_isv (r : Option cv_O) (h : cv_H) : Bool := match r with
  | some (none, h') => cv_lb cv_cb h' h
  | _ => false
theorem cv_isv_ok {r : Option cv_O} {h : cv_H} (q : cv_isv r h = true) : r = some (none, h) := by
  unfold cv_isv at q
  split at q
  · rw [cv_lb_ok (fun _ _ q => cv_cb_ok q) q]
  · cases q
def wd_ints : List Int32 := [103, 114, 111, 117, 110, 100, 32, 108, 97, 119, 32, 103, 97, 116, 101, 32, 119, 111, 114, 107, 32, 99, 97, 117, 115, 101, 32, 108, 101, 97, 110, 32, 111, 112, 101, 110, 32, 98, 101, 110, 100, 32, 107, 110, 111, 99, 107, 32, 104, 111, 111, 107, 115, 32, 112, 111, 115, 116, 32, 98, 114, 97, 99, 101, 32, 108, 97, 116, 99, 104, 32, 99, 104, 105, 108, 100, 32, 103, 97, 112, 32, 114, 105, 115, 101, 32, 104, 97, 115, 32, 117, 112, 32, 100, 111, 119, 110, 32, 115, 113, 117, 97, 114, 101, 32, 119, 105, 114, 101, 32, 119, 104, 101, 101, 108, 32, 115, 116, 111, 110, 101, 115, 32, 114, 101, 104, 97, 110, 103, 32, 112, 117, 108, 108, 32, 102, 105, 114, 109, 32, 100, 101, 101, 112, 32, 116, 104, 105, 99, 107, 32, 100, 114, 111, 112, 32, 119, 101, 101, 107, 32, 102, 97, 108, 108, 32, 97, 110, 100, 32, 111, 114, 32, 110, 111, 116, 32]
def wd_cos : List Int32 := [1000, 924, 707, 383, 0, (-383), (-707), (-924), (-1000)]
def wd_sin : List Int32 := [0, 383, 707, 924, 1000, 924, 707, 383, 0]
/-- the tables that lie still: the text's bytes, the angles -/
def lg_X0 : cv_X := fun j => match j with
  | 1 => some wd_ints
  | 4 => some wd_cos
  | 5 => some wd_sin
  | _ => none
def ob_11 : cv_C := cv_co 11 [cv_n, cv_i 0, cv_n, cv_n, cv_n, cv_n, cv_n, cv_n, cv_i 0, cv_n, cv_i 0, cv_n, cv_n, cv_n, cv_n, cv_n]
def ob_12 : cv_C := cv_co 12 [cv_n, cv_i 0, cv_i 0, cv_n, cv_i 0, cv_i 0, cv_i 0, cv_i 0, cv_i 0, cv_i 0, cv_i 0, cv_i 0, cv_i 0, cv_i 0, cv_i 0, cv_i 0, cv_i 0, cv_i 0, cv_i 0, cv_i 0, cv_i 0, cv_n, cv_n, cv_n, cv_n, cv_n, cv_n, cv_n, cv_n, cv_n, cv_n, cv_n, cv_n, cv_n, cv_n, cv_n, cv_n, cv_i 0, cv_i 0, cv_i 0, cv_i 0, cv_i 0, cv_i 0, cv_i 0, cv_n, cv_n, cv_n, cv_n, cv_i 0, cv_n, cv_i 0, cv_n, cv_i 0, cv_i 0, cv_n, cv_n, cv_n, cv_n, cv_n, cv_n, cv_n, cv_n, cv_n, cv_n, cv_n, cv_n, cv_i 0, cv_i 0, cv_n]
def hp_c : cv_H := [
  cv_co 11 [cv_r 1, cv_i 0, cv_r 2, cv_r 26, cv_r 50, cv_r 55, cv_r 59, cv_r 61, cv_i 0, cv_r 62, cv_i (-1), cv_r 63, cv_r 86, cv_r 95, cv_r 98, cv_r 99],
  cv_ci 1 (List.replicate 900 0),
  cv_co 4 [cv_r 3, cv_r 4, cv_i 0, cv_i 0, cv_r 5, cv_r 6, cv_r 7, cv_r 8, cv_r 9, cv_i 0, cv_r 10, cv_r 11, cv_r 12, cv_r 13, cv_i 0, cv_r 14, cv_r 15, cv_r 16, cv_r 17, cv_i 0],
  cv_ci 0 (List.replicate 12 50),
  cv_ci 0 (List.replicate 64 0),
  cv_ci 0 ([0, 0, 0, 0]),
  cv_ci 0 ([0, 0, 0, 0]),
  cv_ci 0 ([0, 0, 0, 0]),
  cv_cr 5 [some 18, some 20, some 22, some 24],
  cv_ci 0 ([0, 0, 0, 0]),
  cv_ci 0 (List.replicate 6 0),
  cv_ci 0 (List.replicate 6 0),
  cv_ci 0 (List.replicate 6 0),
  cv_ci 0 (List.replicate 6 0),
  cv_ci 0 (List.replicate 6 0),
  cv_ci 0 (List.replicate 6 0),
  cv_ci 0 (List.replicate 6 0),
  cv_ci 0 (List.replicate 6 0),
  cv_co 7 [cv_i 24, cv_i 24, cv_i 20, cv_i 6, cv_i 18, cv_i 0, cv_i 0, cv_i 36, cv_i 8, cv_i 0, cv_i 1000, cv_i 1000, cv_i 0, cv_i 3000, cv_i 0, cv_i 0, cv_r 19],
  cv_ci 0 (List.replicate 9 0),
  cv_co 7 [cv_i 24, cv_i 24, cv_i 20, cv_i 6, cv_i 18, cv_i 0, cv_i 0, cv_i 36, cv_i 8, cv_i 0, cv_i 1000, cv_i 1000, cv_i 0, cv_i 3000, cv_i 0, cv_i 0, cv_r 21],
  cv_ci 0 (List.replicate 9 0),
  cv_co 7 [cv_i 24, cv_i 24, cv_i 20, cv_i 6, cv_i 18, cv_i 0, cv_i 0, cv_i 36, cv_i 8, cv_i 0, cv_i 1000, cv_i 1000, cv_i 0, cv_i 3000, cv_i 0, cv_i 0, cv_r 23],
  cv_ci 0 (List.replicate 9 0),
  cv_co 7 [cv_i 24, cv_i 24, cv_i 20, cv_i 6, cv_i 18, cv_i 0, cv_i 0, cv_i 36, cv_i 8, cv_i 0, cv_i 1000, cv_i 1000, cv_i 0, cv_i 3000, cv_i 0, cv_i 0, cv_r 25],
  cv_ci 0 (List.replicate 9 0),
  cv_co 4 [cv_r 27, cv_r 28, cv_i 0, cv_i 0, cv_r 29, cv_r 30, cv_r 31, cv_r 32, cv_r 33, cv_i 0, cv_r 34, cv_r 35, cv_r 36, cv_r 37, cv_i 0, cv_r 38, cv_r 39, cv_r 40, cv_r 41, cv_i 0],
  cv_ci 0 (List.replicate 12 50),
  cv_ci 0 (List.replicate 64 0),
  cv_ci 0 ([0, 0, 0, 0]),
  cv_ci 0 ([0, 0, 0, 0]),
  cv_ci 0 ([0, 0, 0, 0]),
  cv_cr 5 [some 42, some 44, some 46, some 48],
  cv_ci 0 ([0, 0, 0, 0]),
  cv_ci 0 (List.replicate 6 0),
  cv_ci 0 (List.replicate 6 0),
  cv_ci 0 (List.replicate 6 0),
  cv_ci 0 (List.replicate 6 0),
  cv_ci 0 (List.replicate 6 0),
  cv_ci 0 (List.replicate 6 0),
  cv_ci 0 (List.replicate 6 0),
  cv_ci 0 (List.replicate 6 0),
  cv_co 7 [cv_i 24, cv_i 24, cv_i 20, cv_i 6, cv_i 18, cv_i 0, cv_i 0, cv_i 36, cv_i 8, cv_i 0, cv_i 1000, cv_i 1000, cv_i 0, cv_i 3000, cv_i 0, cv_i 0, cv_r 43],
  cv_ci 0 (List.replicate 9 0),
  cv_co 7 [cv_i 24, cv_i 24, cv_i 20, cv_i 6, cv_i 18, cv_i 0, cv_i 0, cv_i 36, cv_i 8, cv_i 0, cv_i 1000, cv_i 1000, cv_i 0, cv_i 3000, cv_i 0, cv_i 0, cv_r 45],
  cv_ci 0 (List.replicate 9 0),
  cv_co 7 [cv_i 24, cv_i 24, cv_i 20, cv_i 6, cv_i 18, cv_i 0, cv_i 0, cv_i 36, cv_i 8, cv_i 0, cv_i 1000, cv_i 1000, cv_i 0, cv_i 3000, cv_i 0, cv_i 0, cv_r 47],
  cv_ci 0 (List.replicate 9 0),
  cv_co 7 [cv_i 24, cv_i 24, cv_i 20, cv_i 6, cv_i 18, cv_i 0, cv_i 0, cv_i 36, cv_i 8, cv_i 0, cv_i 1000, cv_i 1000, cv_i 0, cv_i 3000, cv_i 0, cv_i 0, cv_r 49],
  cv_ci 0 (List.replicate 9 0),
  cv_co 5 [cv_r 51, cv_r 53, cv_r 26, cv_i 0, cv_i 0, cv_i (-1)],
  cv_co 6 [cv_r 1, cv_r 52, cv_i 0, cv_i 0, cv_i 0, cv_i 0, cv_i 0],
  cv_ci 0 ([254268868, 404455424, 236590080, 788081664, 102419616, 407943168, 520271872, 72814592, 384273760, 284667488, 553242624, 86019232, 404360448, 109359232, 236453888, 614044672, 270106624, 721420288, 150714368, 656049733, 781784064, 780309888, 659011763, 609486279, 559296512, 211366912, 139640832, 679775584, 153600000, 777169920, 202780672, 48365568, 522190848, 486146048]),
  cv_co 0 [cv_r 51, cv_r 54, cv_i 0, cv_i 0, cv_i 0, cv_i 0, cv_i 0, cv_r 26],
  cv_ci 0 (List.replicate 73 0),
  cv_co 2 [cv_r 56, cv_r 57, cv_r 58, cv_i (-1), cv_i 0],
  cv_cl (List.replicate 10 0),
  cv_cl (List.replicate 64 0),
  cv_ci 0 ([0, 0, 0]),
  cv_co 7 [cv_i 24, cv_i 24, cv_i 20, cv_i 6, cv_i 18, cv_i 0, cv_i 0, cv_i 36, cv_i 8, cv_i 0, cv_i 1000, cv_i 1000, cv_i 0, cv_i 3000, cv_i 0, cv_i 0, cv_r 60],
  cv_ci 0 (List.replicate 9 0),
  cv_cr 4 [some 103, some 105, some 107, some 109],
  cv_cr 4 [some 104, some 106, some 108, some 110],
  cv_co 10 [cv_r 64, cv_r 65, cv_i 0],
  cv_cr 4 [some 66, some 67, some 68, some 69, some 70, some 71, some 72, some 73, some 74, some 75, some 76, some 77, some 78, some 79, some 80, some 81, some 82, some 83, some 84, some 85],
  cv_ci 0 (List.replicate 20 0),
  cv_co 1 [cv_r 59, cv_i 0, cv_i 0, cv_i 0, cv_i 0, cv_i 0, cv_i 0, cv_i 0, cv_i 0, cv_i 0, cv_i 0, cv_i 0, cv_i 0, cv_i 0, cv_i 0, cv_i 0, cv_i 0],
  cv_co 1 [cv_r 59, cv_i 0, cv_i 0, cv_i 0, cv_i 0, cv_i 0, cv_i 0, cv_i 0, cv_i 0, cv_i 0, cv_i 0, cv_i 0, cv_i 0, cv_i 0, cv_i 0, cv_i 0, cv_i 0],
  cv_co 1 [cv_r 59, cv_i 0, cv_i 0, cv_i 0, cv_i 0, cv_i 0, cv_i 0, cv_i 0, cv_i 0, cv_i 0, cv_i 0, cv_i 0, cv_i 0, cv_i 0, cv_i 0, cv_i 0, cv_i 0],
  cv_co 1 [cv_r 59, cv_i 0, cv_i 0, cv_i 0, cv_i 0, cv_i 0, cv_i 0, cv_i 0, cv_i 0, cv_i 0, cv_i 0, cv_i 0, cv_i 0, cv_i 0, cv_i 0, cv_i 0, cv_i 0],
  cv_co 1 [cv_r 59, cv_i 0, cv_i 0, cv_i 0, cv_i 0, cv_i 0, cv_i 0, cv_i 0, cv_i 0, cv_i 0, cv_i 0, cv_i 0, cv_i 0, cv_i 0, cv_i 0, cv_i 0, cv_i 0],
  cv_co 1 [cv_r 59, cv_i 0, cv_i 0, cv_i 0, cv_i 0, cv_i 0, cv_i 0, cv_i 0, cv_i 0, cv_i 0, cv_i 0, cv_i 0, cv_i 0, cv_i 0, cv_i 0, cv_i 0, cv_i 0],
  cv_co 1 [cv_r 59, cv_i 0, cv_i 0, cv_i 0, cv_i 0, cv_i 0, cv_i 0, cv_i 0, cv_i 0, cv_i 0, cv_i 0, cv_i 0, cv_i 0, cv_i 0, cv_i 0, cv_i 0, cv_i 0],
  cv_co 1 [cv_r 59, cv_i 0, cv_i 0, cv_i 0, cv_i 0, cv_i 0, cv_i 0, cv_i 0, cv_i 0, cv_i 0, cv_i 0, cv_i 0, cv_i 0, cv_i 0, cv_i 0, cv_i 0, cv_i 0],
  cv_co 1 [cv_r 59, cv_i 0, cv_i 0, cv_i 0, cv_i 0, cv_i 0, cv_i 0, cv_i 0, cv_i 0, cv_i 0, cv_i 0, cv_i 0, cv_i 0, cv_i 0, cv_i 0, cv_i 0, cv_i 0],
  cv_co 1 [cv_r 59, cv_i 0, cv_i 0, cv_i 0, cv_i 0, cv_i 0, cv_i 0, cv_i 0, cv_i 0, cv_i 0, cv_i 0, cv_i 0, cv_i 0, cv_i 0, cv_i 0, cv_i 0, cv_i 0],
  cv_co 1 [cv_r 59, cv_i 0, cv_i 0, cv_i 0, cv_i 0, cv_i 0, cv_i 0, cv_i 0, cv_i 0, cv_i 0, cv_i 0, cv_i 0, cv_i 0, cv_i 0, cv_i 0, cv_i 0, cv_i 0],
  cv_co 1 [cv_r 59, cv_i 0, cv_i 0, cv_i 0, cv_i 0, cv_i 0, cv_i 0, cv_i 0, cv_i 0, cv_i 0, cv_i 0, cv_i 0, cv_i 0, cv_i 0, cv_i 0, cv_i 0, cv_i 0],
  cv_co 1 [cv_r 59, cv_i 0, cv_i 0, cv_i 0, cv_i 0, cv_i 0, cv_i 0, cv_i 0, cv_i 0, cv_i 0, cv_i 0, cv_i 0, cv_i 0, cv_i 0, cv_i 0, cv_i 0, cv_i 0],
  cv_co 1 [cv_r 59, cv_i 0, cv_i 0, cv_i 0, cv_i 0, cv_i 0, cv_i 0, cv_i 0, cv_i 0, cv_i 0, cv_i 0, cv_i 0, cv_i 0, cv_i 0, cv_i 0, cv_i 0, cv_i 0],
  cv_co 1 [cv_r 59, cv_i 0, cv_i 0, cv_i 0, cv_i 0, cv_i 0, cv_i 0, cv_i 0, cv_i 0, cv_i 0, cv_i 0, cv_i 0, cv_i 0, cv_i 0, cv_i 0, cv_i 0, cv_i 0],
  cv_co 1 [cv_r 59, cv_i 0, cv_i 0, cv_i 0, cv_i 0, cv_i 0, cv_i 0, cv_i 0, cv_i 0, cv_i 0, cv_i 0, cv_i 0, cv_i 0, cv_i 0, cv_i 0, cv_i 0, cv_i 0],
  cv_co 1 [cv_r 59, cv_i 0, cv_i 0, cv_i 0, cv_i 0, cv_i 0, cv_i 0, cv_i 0, cv_i 0, cv_i 0, cv_i 0, cv_i 0, cv_i 0, cv_i 0, cv_i 0, cv_i 0, cv_i 0],
  cv_co 1 [cv_r 59, cv_i 0, cv_i 0, cv_i 0, cv_i 0, cv_i 0, cv_i 0, cv_i 0, cv_i 0, cv_i 0, cv_i 0, cv_i 0, cv_i 0, cv_i 0, cv_i 0, cv_i 0, cv_i 0],
  cv_co 1 [cv_r 59, cv_i 0, cv_i 0, cv_i 0, cv_i 0, cv_i 0, cv_i 0, cv_i 0, cv_i 0, cv_i 0, cv_i 0, cv_i 0, cv_i 0, cv_i 0, cv_i 0, cv_i 0, cv_i 0],
  cv_co 1 [cv_r 59, cv_i 0, cv_i 0, cv_i 0, cv_i 0, cv_i 0, cv_i 0, cv_i 0, cv_i 0, cv_i 0, cv_i 0, cv_i 0, cv_i 0, cv_i 0, cv_i 0, cv_i 0, cv_i 0],
  cv_co 3 [cv_r 87, cv_r 88, cv_r 89, cv_r 90, cv_r 91, cv_r 92, cv_r 93, cv_r 94, cv_i 0, cv_i 0, cv_i (-1)],
  cv_ci 0 (List.replicate 40 0),
  cv_ci 0 (List.replicate 40 0),
  cv_ci 0 (List.replicate 40 0),
  cv_ci 0 (List.replicate 40 0),
  cv_ci 0 (List.replicate 40 0),
  cv_ci 0 (List.replicate 40 0),
  cv_ci 2 (List.replicate 40 0),
  cv_ci 0 (List.replicate 40 0),
  cv_co 8 [cv_r 96, cv_r 97, cv_i 0],
  cv_ci 0 (List.replicate 28 0),
  cv_co 1 [cv_r 59, cv_i 0, cv_i 0, cv_i 0, cv_i 0, cv_i 0, cv_i 0, cv_i 0, cv_i 0, cv_i 0, cv_i 0, cv_i 0, cv_i 0, cv_i 0, cv_i 0, cv_i 0, cv_i 0],
  cv_co 1 [cv_r 59, cv_i 0, cv_i 0, cv_i 0, cv_i 0, cv_i 0, cv_i 0, cv_i 0, cv_i 0, cv_i 0, cv_i 0, cv_i 0, cv_i 0, cv_i 0, cv_i 0, cv_i 0, cv_i 0],
  cv_co 9 [cv_r 100, cv_r 101, cv_r 102, cv_i 0],
  cv_ci 0 (List.replicate 16 0),
  cv_ci 0 ([0, 0, 0, 0]),
  cv_ci 0 ([0, 0, 0, 0]),
  cv_co 1 [cv_r 59, cv_i 0, cv_i 0, cv_i 0, cv_i 0, cv_i 0, cv_i 0, cv_i 0, cv_i 0, cv_i 0, cv_i 0, cv_i 0, cv_i 0, cv_i 0, cv_i 0, cv_i 0, cv_i 0],
  cv_co 1 [cv_r 59, cv_i 0, cv_i 0, cv_i 0, cv_i 0, cv_i 0, cv_i 0, cv_i 0, cv_i 0, cv_i 0, cv_i 0, cv_i 0, cv_i 0, cv_i 0, cv_i 0, cv_i 0, cv_i 0],
  cv_co 1 [cv_r 59, cv_i 0, cv_i 0, cv_i 0, cv_i 0, cv_i 0, cv_i 0, cv_i 0, cv_i 0, cv_i 0, cv_i 0, cv_i 0, cv_i 0, cv_i 0, cv_i 0, cv_i 0, cv_i 0],
  cv_co 1 [cv_r 59, cv_i 0, cv_i 0, cv_i 0, cv_i 0, cv_i 0, cv_i 0, cv_i 0, cv_i 0, cv_i 0, cv_i 0, cv_i 0, cv_i 0, cv_i 0, cv_i 0, cv_i 0, cv_i 0],
  cv_co 1 [cv_r 59, cv_i 0, cv_i 0, cv_i 0, cv_i 0, cv_i 0, cv_i 0, cv_i 0, cv_i 0, cv_i 0, cv_i 0, cv_i 0, cv_i 0, cv_i 0, cv_i 0, cv_i 0, cv_i 0],
  cv_co 1 [cv_r 59, cv_i 0, cv_i 0, cv_i 0, cv_i 0, cv_i 0, cv_i 0, cv_i 0, cv_i 0, cv_i 0, cv_i 0, cv_i 0, cv_i 0, cv_i 0, cv_i 0, cv_i 0, cv_i 0],
  cv_co 1 [cv_r 59, cv_i 0, cv_i 0, cv_i 0, cv_i 0, cv_i 0, cv_i 0, cv_i 0, cv_i 0, cv_i 0, cv_i 0, cv_i 0, cv_i 0, cv_i 0, cv_i 0, cv_i 0, cv_i 0],
  cv_co 1 [cv_r 59, cv_i 0, cv_i 0, cv_i 0, cv_i 0, cv_i 0, cv_i 0, cv_i 0, cv_i 0, cv_i 0, cv_i 0, cv_i 0, cv_i 0, cv_i 0, cv_i 0, cv_i 0, cv_i 0]]
def hp_d : cv_H := [
  cv_co 12 [cv_r 112, cv_i 0, cv_i 0, cv_r 113, cv_i 0, cv_i (-1), cv_i 0, cv_i 0, cv_i 0, cv_i 0, cv_i 0, cv_i 0, cv_i 0, cv_i 0, cv_i 0, cv_i 0, cv_i 0, cv_i 0, cv_i 0, cv_i 0, cv_i 0, cv_r 114, cv_r 115, cv_r 116, cv_r 117, cv_r 118, cv_r 119, cv_r 120, cv_r 121, cv_r 122, cv_r 123, cv_r 124, cv_r 125, cv_r 126, cv_r 127, cv_r 128, cv_r 129, cv_i 0, cv_i 0, cv_i 0, cv_i 0, cv_i 0, cv_i 0, cv_i 0, cv_r 130, cv_r 131, cv_r 132, cv_r 133, cv_i 0, cv_r 134, cv_i 0, cv_r 135, cv_i 0, cv_i (-1), cv_r 136, cv_r 137, cv_r 138, cv_r 139, cv_r 140, cv_r 141, cv_r 142, cv_r 143, cv_r 144, cv_r 145, cv_r 146, cv_r 147, cv_i 0, cv_i 0, cv_r 148],
  cv_ci 0 (List.replicate 900 0),
  cv_ci 0 ([103, 114, 111, 117, 110, 100, 32, 108, 97, 119, 32, 103, 97, 116, 101, 32, 119, 111, 114, 107, 32, 99, 97, 117, 115, 101, 32, 108, 101, 97, 110, 32, 111, 112, 101, 110, 32, 98, 101, 110, 100, 32, 107, 110, 111, 99, 107, 32, 104, 111, 111, 107, 115, 32, 112, 111, 115, 116, 32, 98, 114, 97, 99, 101, 32, 108, 97, 116, 99, 104, 32, 103, 97, 112, 32, 114, 105, 115, 101, 32, 104, 97, 115, 32, 115, 113, 117, 97, 114, 101, 32, 119, 105, 114, 101, 32, 119, 104, 101, 101, 108, 32, 115, 116, 111, 110, 101, 115, 32, 114, 101, 104, 97, 110, 103, 32, 97, 110, 100, 32, 111, 114, 32, 110, 111, 116, 32, 112, 117, 108, 108, 32, 102, 105, 114, 109, 32, 100, 101, 101, 112, 32, 116, 104, 105, 99, 107, 32, 117, 112, 32, 100, 111, 119, 110, 32, 100, 114, 111, 112, 32, 119, 101, 101, 107, 32, 99, 104, 105, 108, 100, 32, 102, 97, 108, 108, 32]),
  cv_ci 0 (List.replicate 24 50),
  cv_ci 0 (List.replicate 8 0),
  cv_ci 0 (List.replicate 8 0),
  cv_ci 2 (List.replicate 8 0),
  cv_ci 0 (List.replicate 8 0),
  cv_ci 0 (List.replicate 128 0),
  cv_ci 0 (List.replicate 72 0),
  cv_ci 0 (List.replicate 12 0),
  cv_ci 0 (List.replicate 36 0),
  cv_ci 0 (List.replicate 12 0),
  cv_ci 0 (List.replicate 36 0),
  cv_ci 0 (List.replicate 128 0),
  cv_ci 0 (List.replicate 128 0),
  cv_ci 0 (List.replicate 128 0),
  cv_ci 0 (List.replicate 96 0),
  cv_ci 0 (List.replicate 96 0),
  cv_ci 0 (List.replicate 64 0),
  cv_ci 0 (List.replicate 16 0),
  cv_cl (List.replicate 10 0),
  cv_cl (List.replicate 64 0),
  cv_cl ([0, 0, 0]),
  cv_ci 0 (List.replicate 340 0),
  cv_ci 0 (List.replicate 40 0),
  cv_ci 0 (List.replicate 40 0),
  cv_ci 0 (List.replicate 40 0),
  cv_ci 0 (List.replicate 40 0),
  cv_ci 0 (List.replicate 40 0),
  cv_ci 2 (List.replicate 40 0),
  cv_ci 0 (List.replicate 7 0),
  cv_ci 0 ([1000, 924, 707, 383, 0, (-383), (-707), (-924), (-1000)]),
  cv_ci 0 ([0, 383, 707, 924, 1000, 924, 707, 383, 0]),
  cv_ci 0 ([0, 0, 0, 0]),
  cv_ci 0 ([0, 0, 0, 0]),
  cv_ci 0 (List.replicate 64 0),
  cv_ci 0 (List.replicate 64 0)]
end
section
/-! ===== the small machine once more, with the rest of the method at hand: for long runs by decide ===== -/
def cv_from (pc : Nat) (ops : List cv_Q) : List cv_Q := ops.dropWhile (fun q => !(q.1 == pc))
theorem cv_from_mem {pc : Nat} {ops : List cv_Q} {q : cv_Q} (h : q ∈ cv_from pc ops) : q ∈ ops := (List.dropWhile_sublist _).subset h
noncomputable def cv_fst (F : cv_F) (mt : Nat → cv_M) (fuel : Nat) : cv_X → Nat → List cv_Q → cv_S → Option cv_O :=
  Nat.rec (motive := fun _ => cv_X → Nat → List cv_Q → cv_S → Option cv_O) (fun _ _ _ _ => none) (fun _ ih X mi sfx S =>
    match sfx with
    | [] => none
    | q :: rest =>
      bif q.1 == S.1 then
        match cv_one X q S with
        | some S' => ih X mi (bif S'.1 == S.1 + q.2.2.1 then rest else cv_from S'.1 (mt mi).2.1) S'
        | none =>
        match cv_mk (mt mi).2.2.1 (mt mi).2.2.2.1 F q S with
        | some S' => ih X mi rest S'
        | none =>
        match cv_nat (mt mi) q S with
        | some S' => ih X mi rest S'
        | none =>
        match cv_call q S with
        | some (j, args, stk) =>
          bif cv_fits (mt mi) (mt j) S.2.2.2.2.1 S.2.2.2.2.2 (cv_wid args) stk then
            match ih (fun j => bif j == 2 then none else X j) j (mt j).2.1 (0, cv_ent 0 args, [], S.2.2.2.1, 0, 0) with
            | some o => ih X mi rest (S.1 + q.2.2.1, S.2.1, o.1.toList ++ stk, o.2, S.2.2.2.2.1 + (mt j).2.2.1, S.2.2.2.2.2 + (mt j).2.2.2.1)
            | none => none
          else none
        | none =>
        match cv_ret (mt mi) q S with
        | some r => some (r, S.2.2.2.1)
        | none => none
      else none) fuel
section CVF
variable {Ts : List Jvm.Cond} {cl : List vw_C} {D : va_G} {cy : Nat → ClassId} {A : Nat → Prop} {sv : Nat → Value} {l : Launch} {mt : Nat → cv_M} {F : cv_F}
theorem cv_fst_ok (hA : cv_All Ts cl F mt) :
    ∀ (fuel : Nat) (X : cv_X) (mi : Nat) (sfx : List cv_Q) (S : cv_S) (o : cv_O), cv_fst F mt fuel X mi sfx S = some o → (∀ q ∈ sfx, q ∈ (mt mi).2.1) →
      ∀ (as0 : List Nat) (p : Program) (e : Env) (R : Room) (s : State) (m : MethodId) (args : Array Value) (below : List Frame) (meth : Method) (c : Code) (Q : State → Prop), cv_Cx Ts cl D cy A sv X (mt mi) p R s m args meth c →
        (∀ (q : cv_Q) (S : cv_S) (r : Option cv_V), cv_ok Ts cl mt (mt mi) q → q.1 = S.1 → cv_ret (mt mi) q S = some r → (r, S.2.2.2.1) = o → cv_Good cl D cy A sv as0 (mt mi).1.2.2.2.1 p l e R s m args below meth c Q S) →
        cv_Good cl D cy A sv as0 (mt mi).1.2.2.2.1 p l e R s m args below meth c Q S := by
  obtain ⟨hgood, hcls, hcl4, hcl5, h100, h9, hall⟩ := hA
  intro fuel
  induction fuel with
  | zero => intro X mi sfx S o h; cases h
  | succ n ih =>
    intro X mi sfx S o h hsub as0 p e R s m args below meth c Q C0 hret
    have hsv := C0.2.2.2.2.2.2.2.2.2.2.1.1
    cases sfx with
    | nil => cases h
    | cons q rest =>
    have h' : (bif q.1 == S.1 then
        match cv_one X q S with
        | some S' => cv_fst F mt n X mi (bif S'.1 == S.1 + q.2.2.1 then rest else cv_from S'.1 (mt mi).2.1) S'
        | none =>
        match cv_mk (mt mi).2.2.1 (mt mi).2.2.2.1 F q S with
        | some S' => cv_fst F mt n X mi rest S'
        | none =>
        match cv_nat (mt mi) q S with
        | some S' => cv_fst F mt n X mi rest S'
        | none =>
        match cv_call q S with
        | some (j, args, stk) =>
          bif cv_fits (mt mi) (mt j) S.2.2.2.2.1 S.2.2.2.2.2 (cv_wid args) stk then
            match cv_fst F mt n (cv_no2 X) j (mt j).2.1 (0, cv_ent 0 args, [], S.2.2.2.1, 0, 0) with
            | some o => cv_fst F mt n X mi rest (S.1 + q.2.2.1, S.2.1, o.1.toList ++ stk, o.2, S.2.2.2.2.1 + (mt j).2.2.1, S.2.2.2.2.2 + (mt j).2.2.2.1)
            | none => none
          else none
        | none =>
        match cv_ret (mt mi) q S with
        | some r => some (r, S.2.2.2.1)
        | none => none
      else none) = some o := h
    clear h
    obtain ⟨hq, h'⟩ := cv_bif h'
    have hq : q.1 = S.1 := by simpa using hq
    have okq := hall mi q (hsub q List.mem_cons_self)
    have hrest : ∀ q' ∈ rest, q' ∈ (mt mi).2.1 := fun q' h => hsub q' (List.mem_cons_of_mem _ h)
    cases hone : cv_one X q S with
    | some S' =>
      rw [hone] at h'
      refine cv_one_ok C0 hcls hcl4 hcl5 h100 okq hq hone (ih X mi _ S' o h' ?_ as0 p e R s m args below meth c Q C0 hret)
      cases (S'.1 == S.1 + q.2.2.1) with
      | true => exact hrest
      | false => exact fun q' h => cv_from_mem h
    | none =>
    rw [hone] at h'
    dsimp only at h'
    cases hmk : cv_mk (mt mi).2.2.1 (mt mi).2.2.2.1 F q S with
    | some S' =>
      rw [hmk] at h'
      exact cv_mk_ok C0 hcls okq hq hmk (ih X mi _ S' o h' hrest as0 p e R s m args below meth c Q C0 hret)
    | none =>
    rw [hmk] at h'
    dsimp only at h'
    cases hnat : cv_nat (mt mi) q S with
    | some S' =>
      rw [hnat] at h'
      exact cv_nat_ok C0 okq hq hnat (ih X mi _ S' o h' hrest as0 p e R s m args below meth c Q C0 hret)
    | none =>
    rw [hnat] at h'
    dsimp only at h'
    cases hcall : cv_call q S with
    | some jas =>
      obtain ⟨j, av, stk⟩ := jas
      rw [hcall] at h'
      dsimp only at h'
      obtain ⟨hfits, h2⟩ := cv_bif h'
      cases hrun : cv_fst F mt n (cv_no2 X) j (mt j).2.1 (0, cv_ent 0 av, [], S.2.2.2.1, 0, 0) with
      | none => rw [hrun] at h2; cases h2
      | some o' =>
        rw [hrun] at h2
        dsimp only at h2
        have hn9 : q.2.2.2.1 < 9000 := by
          have hj := cv_callj hcall
          rcases Nat.lt_or_ge q.2.2.2.1 9000 with q9 | q9
          · exact q9
          · have e0 := h9 j (by omega)
            rw [e0] at hrun
            cases n with
            | zero => cases hrun
            | succ n => cases hrun
        have hMet : cv_Met Ts cl D cy A sv l X (mt j) av S.2.2.2.1 o' := by
          refine cv_met_ok hsv (cv_call_okM okq hn9 hcall) ?_ ?_
          · unfold cv_fits at hfits
            simp only [Bool.and_eq_true, decide_eq_true_eq] at hfits
            exact hfits.1
          · intro as1 p1 e1 R1 s1 m1 args1 below1 meth1 c1 C1
            exact ih (cv_no2 X) j _ _ o' hrun (fun q h => h) as1 p1 e1 R1 s1 m1 args1 below1 meth1 c1 _ C1 fun q3 S3 r3 a1 a2 a3 a4 => cv_ret_ok C1 a1 a2 a3 a4
        refine cv_call_ok C0 hgood h100 okq hq hn9 hcall hfits hMet ?_
        exact ih X mi _ _ o h2 hrest as0 p e R s m args below meth c Q C0 hret
    | none =>
    rw [hcall] at h'
    dsimp only at h'
    cases hr : cv_ret (mt mi) q S with
    | none => rw [hr] at h'; cases h'
    | some r =>
      rw [hr] at h'
      cases h'
      exact hret q S r okq hq hr rfl
end CVF
end
section
/-! ===== the heaps on the way through the constructor ===== -/
def hq_1 : cv_H := [
  cv_co 11 [cv_r 1, cv_i 0, cv_r 2, cv_r 26, cv_n, cv_n, cv_n, cv_n, cv_i 0, cv_n, cv_i 0, cv_n, cv_n, cv_n, cv_n, cv_n],
  cv_ci 1 (List.replicate 900 0),
  cv_co 4 [cv_r 3, cv_r 4, cv_i 0, cv_i 0, cv_r 5, cv_r 6, cv_r 7, cv_r 8, cv_r 9, cv_i 0, cv_r 10, cv_r 11, cv_r 12, cv_r 13, cv_i 0, cv_r 14, cv_r 15, cv_r 16, cv_r 17, cv_i 0],
  cv_ci 0 (List.replicate 12 50),
  cv_ci 0 (List.replicate 64 0),
  cv_ci 0 ([0, 0, 0, 0]),
  cv_ci 0 ([0, 0, 0, 0]),
  cv_ci 0 ([0, 0, 0, 0]),
  cv_cr 5 [some 18, some 20, some 22, some 24],
  cv_ci 0 ([0, 0, 0, 0]),
  cv_ci 0 (List.replicate 6 0),
  cv_ci 0 (List.replicate 6 0),
  cv_ci 0 (List.replicate 6 0),
  cv_ci 0 (List.replicate 6 0),
  cv_ci 0 (List.replicate 6 0),
  cv_ci 0 (List.replicate 6 0),
  cv_ci 0 (List.replicate 6 0),
  cv_ci 0 (List.replicate 6 0),
  cv_co 7 [cv_i 24, cv_i 24, cv_i 20, cv_i 6, cv_i 18, cv_i 0, cv_i 0, cv_i 36, cv_i 8, cv_i 0, cv_i 1000, cv_i 1000, cv_i 0, cv_i 3000, cv_i 0, cv_i 0, cv_r 19],
  cv_ci 0 (List.replicate 9 0),
  cv_co 7 [cv_i 24, cv_i 24, cv_i 20, cv_i 6, cv_i 18, cv_i 0, cv_i 0, cv_i 36, cv_i 8, cv_i 0, cv_i 1000, cv_i 1000, cv_i 0, cv_i 3000, cv_i 0, cv_i 0, cv_r 21],
  cv_ci 0 (List.replicate 9 0),
  cv_co 7 [cv_i 24, cv_i 24, cv_i 20, cv_i 6, cv_i 18, cv_i 0, cv_i 0, cv_i 36, cv_i 8, cv_i 0, cv_i 1000, cv_i 1000, cv_i 0, cv_i 3000, cv_i 0, cv_i 0, cv_r 23],
  cv_ci 0 (List.replicate 9 0),
  cv_co 7 [cv_i 24, cv_i 24, cv_i 20, cv_i 6, cv_i 18, cv_i 0, cv_i 0, cv_i 36, cv_i 8, cv_i 0, cv_i 1000, cv_i 1000, cv_i 0, cv_i 3000, cv_i 0, cv_i 0, cv_r 25],
  cv_ci 0 (List.replicate 9 0),
  cv_co 4 [cv_r 27, cv_r 28, cv_i 0, cv_i 0, cv_r 29, cv_r 30, cv_r 31, cv_r 32, cv_r 33, cv_i 0, cv_r 34, cv_r 35, cv_r 36, cv_r 37, cv_i 0, cv_r 38, cv_r 39, cv_r 40, cv_r 41, cv_i 0],
  cv_ci 0 (List.replicate 12 50),
  cv_ci 0 (List.replicate 64 0),
  cv_ci 0 ([0, 0, 0, 0]),
  cv_ci 0 ([0, 0, 0, 0]),
  cv_ci 0 ([0, 0, 0, 0]),
  cv_cr 5 [some 42, some 44, some 46, some 48],
  cv_ci 0 ([0, 0, 0, 0]),
  cv_ci 0 (List.replicate 6 0),
  cv_ci 0 (List.replicate 6 0),
  cv_ci 0 (List.replicate 6 0),
  cv_ci 0 (List.replicate 6 0),
  cv_ci 0 (List.replicate 6 0),
  cv_ci 0 (List.replicate 6 0),
  cv_ci 0 (List.replicate 6 0),
  cv_ci 0 (List.replicate 6 0),
  cv_co 7 [cv_i 24, cv_i 24, cv_i 20, cv_i 6, cv_i 18, cv_i 0, cv_i 0, cv_i 36, cv_i 8, cv_i 0, cv_i 1000, cv_i 1000, cv_i 0, cv_i 3000, cv_i 0, cv_i 0, cv_r 43],
  cv_ci 0 (List.replicate 9 0),
  cv_co 7 [cv_i 24, cv_i 24, cv_i 20, cv_i 6, cv_i 18, cv_i 0, cv_i 0, cv_i 36, cv_i 8, cv_i 0, cv_i 1000, cv_i 1000, cv_i 0, cv_i 3000, cv_i 0, cv_i 0, cv_r 45],
  cv_ci 0 (List.replicate 9 0),
  cv_co 7 [cv_i 24, cv_i 24, cv_i 20, cv_i 6, cv_i 18, cv_i 0, cv_i 0, cv_i 36, cv_i 8, cv_i 0, cv_i 1000, cv_i 1000, cv_i 0, cv_i 3000, cv_i 0, cv_i 0, cv_r 47],
  cv_ci 0 (List.replicate 9 0),
  cv_co 7 [cv_i 24, cv_i 24, cv_i 20, cv_i 6, cv_i 18, cv_i 0, cv_i 0, cv_i 36, cv_i 8, cv_i 0, cv_i 1000, cv_i 1000, cv_i 0, cv_i 3000, cv_i 0, cv_i 0, cv_r 49],
  cv_ci 0 (List.replicate 9 0),
  cv_co 5 [cv_n, cv_n, cv_n, cv_i 0, cv_i 0, cv_i 0]]
def hq_2 : cv_H := [
  cv_co 11 [cv_r 1, cv_i 0, cv_r 2, cv_r 26, cv_n, cv_n, cv_n, cv_n, cv_i 0, cv_n, cv_i 0, cv_n, cv_n, cv_n, cv_n, cv_n],
  cv_ci 1 (List.replicate 900 0),
  cv_co 4 [cv_r 3, cv_r 4, cv_i 0, cv_i 0, cv_r 5, cv_r 6, cv_r 7, cv_r 8, cv_r 9, cv_i 0, cv_r 10, cv_r 11, cv_r 12, cv_r 13, cv_i 0, cv_r 14, cv_r 15, cv_r 16, cv_r 17, cv_i 0],
  cv_ci 0 (List.replicate 12 50),
  cv_ci 0 (List.replicate 64 0),
  cv_ci 0 ([0, 0, 0, 0]),
  cv_ci 0 ([0, 0, 0, 0]),
  cv_ci 0 ([0, 0, 0, 0]),
  cv_cr 5 [some 18, some 20, some 22, some 24],
  cv_ci 0 ([0, 0, 0, 0]),
  cv_ci 0 (List.replicate 6 0),
  cv_ci 0 (List.replicate 6 0),
  cv_ci 0 (List.replicate 6 0),
  cv_ci 0 (List.replicate 6 0),
  cv_ci 0 (List.replicate 6 0),
  cv_ci 0 (List.replicate 6 0),
  cv_ci 0 (List.replicate 6 0),
  cv_ci 0 (List.replicate 6 0),
  cv_co 7 [cv_i 24, cv_i 24, cv_i 20, cv_i 6, cv_i 18, cv_i 0, cv_i 0, cv_i 36, cv_i 8, cv_i 0, cv_i 1000, cv_i 1000, cv_i 0, cv_i 3000, cv_i 0, cv_i 0, cv_r 19],
  cv_ci 0 (List.replicate 9 0),
  cv_co 7 [cv_i 24, cv_i 24, cv_i 20, cv_i 6, cv_i 18, cv_i 0, cv_i 0, cv_i 36, cv_i 8, cv_i 0, cv_i 1000, cv_i 1000, cv_i 0, cv_i 3000, cv_i 0, cv_i 0, cv_r 21],
  cv_ci 0 (List.replicate 9 0),
  cv_co 7 [cv_i 24, cv_i 24, cv_i 20, cv_i 6, cv_i 18, cv_i 0, cv_i 0, cv_i 36, cv_i 8, cv_i 0, cv_i 1000, cv_i 1000, cv_i 0, cv_i 3000, cv_i 0, cv_i 0, cv_r 23],
  cv_ci 0 (List.replicate 9 0),
  cv_co 7 [cv_i 24, cv_i 24, cv_i 20, cv_i 6, cv_i 18, cv_i 0, cv_i 0, cv_i 36, cv_i 8, cv_i 0, cv_i 1000, cv_i 1000, cv_i 0, cv_i 3000, cv_i 0, cv_i 0, cv_r 25],
  cv_ci 0 (List.replicate 9 0),
  cv_co 4 [cv_r 27, cv_r 28, cv_i 0, cv_i 0, cv_r 29, cv_r 30, cv_r 31, cv_r 32, cv_r 33, cv_i 0, cv_r 34, cv_r 35, cv_r 36, cv_r 37, cv_i 0, cv_r 38, cv_r 39, cv_r 40, cv_r 41, cv_i 0],
  cv_ci 0 (List.replicate 12 50),
  cv_ci 0 (List.replicate 64 0),
  cv_ci 0 ([0, 0, 0, 0]),
  cv_ci 0 ([0, 0, 0, 0]),
  cv_ci 0 ([0, 0, 0, 0]),
  cv_cr 5 [some 42, some 44, some 46, some 48],
  cv_ci 0 ([0, 0, 0, 0]),
  cv_ci 0 (List.replicate 6 0),
  cv_ci 0 (List.replicate 6 0),
  cv_ci 0 (List.replicate 6 0),
  cv_ci 0 (List.replicate 6 0),
  cv_ci 0 (List.replicate 6 0),
  cv_ci 0 (List.replicate 6 0),
  cv_ci 0 (List.replicate 6 0),
  cv_ci 0 (List.replicate 6 0),
  cv_co 7 [cv_i 24, cv_i 24, cv_i 20, cv_i 6, cv_i 18, cv_i 0, cv_i 0, cv_i 36, cv_i 8, cv_i 0, cv_i 1000, cv_i 1000, cv_i 0, cv_i 3000, cv_i 0, cv_i 0, cv_r 43],
  cv_ci 0 (List.replicate 9 0),
  cv_co 7 [cv_i 24, cv_i 24, cv_i 20, cv_i 6, cv_i 18, cv_i 0, cv_i 0, cv_i 36, cv_i 8, cv_i 0, cv_i 1000, cv_i 1000, cv_i 0, cv_i 3000, cv_i 0, cv_i 0, cv_r 45],
  cv_ci 0 (List.replicate 9 0),
  cv_co 7 [cv_i 24, cv_i 24, cv_i 20, cv_i 6, cv_i 18, cv_i 0, cv_i 0, cv_i 36, cv_i 8, cv_i 0, cv_i 1000, cv_i 1000, cv_i 0, cv_i 3000, cv_i 0, cv_i 0, cv_r 47],
  cv_ci 0 (List.replicate 9 0),
  cv_co 7 [cv_i 24, cv_i 24, cv_i 20, cv_i 6, cv_i 18, cv_i 0, cv_i 0, cv_i 36, cv_i 8, cv_i 0, cv_i 1000, cv_i 1000, cv_i 0, cv_i 3000, cv_i 0, cv_i 0, cv_r 49],
  cv_ci 0 (List.replicate 9 0),
  cv_co 5 [cv_n, cv_n, cv_n, cv_i 0, cv_i 0, cv_i (-1)],
  cv_co 6 [cv_n, cv_n, cv_i 0, cv_i 0, cv_i 0, cv_i 0, cv_i 0]]
def hq_3 : cv_H := [
  cv_co 11 [cv_r 1, cv_i 0, cv_r 2, cv_r 26, cv_n, cv_n, cv_n, cv_n, cv_i 0, cv_n, cv_i 0, cv_n, cv_n, cv_n, cv_n, cv_n],
  cv_ci 1 (List.replicate 900 0),
  cv_co 4 [cv_r 3, cv_r 4, cv_i 0, cv_i 0, cv_r 5, cv_r 6, cv_r 7, cv_r 8, cv_r 9, cv_i 0, cv_r 10, cv_r 11, cv_r 12, cv_r 13, cv_i 0, cv_r 14, cv_r 15, cv_r 16, cv_r 17, cv_i 0],
  cv_ci 0 (List.replicate 12 50),
  cv_ci 0 (List.replicate 64 0),
  cv_ci 0 ([0, 0, 0, 0]),
  cv_ci 0 ([0, 0, 0, 0]),
  cv_ci 0 ([0, 0, 0, 0]),
  cv_cr 5 [some 18, some 20, some 22, some 24],
  cv_ci 0 ([0, 0, 0, 0]),
  cv_ci 0 (List.replicate 6 0),
  cv_ci 0 (List.replicate 6 0),
  cv_ci 0 (List.replicate 6 0),
  cv_ci 0 (List.replicate 6 0),
  cv_ci 0 (List.replicate 6 0),
  cv_ci 0 (List.replicate 6 0),
  cv_ci 0 (List.replicate 6 0),
  cv_ci 0 (List.replicate 6 0),
  cv_co 7 [cv_i 24, cv_i 24, cv_i 20, cv_i 6, cv_i 18, cv_i 0, cv_i 0, cv_i 36, cv_i 8, cv_i 0, cv_i 1000, cv_i 1000, cv_i 0, cv_i 3000, cv_i 0, cv_i 0, cv_r 19],
  cv_ci 0 (List.replicate 9 0),
  cv_co 7 [cv_i 24, cv_i 24, cv_i 20, cv_i 6, cv_i 18, cv_i 0, cv_i 0, cv_i 36, cv_i 8, cv_i 0, cv_i 1000, cv_i 1000, cv_i 0, cv_i 3000, cv_i 0, cv_i 0, cv_r 21],
  cv_ci 0 (List.replicate 9 0),
  cv_co 7 [cv_i 24, cv_i 24, cv_i 20, cv_i 6, cv_i 18, cv_i 0, cv_i 0, cv_i 36, cv_i 8, cv_i 0, cv_i 1000, cv_i 1000, cv_i 0, cv_i 3000, cv_i 0, cv_i 0, cv_r 23],
  cv_ci 0 (List.replicate 9 0),
  cv_co 7 [cv_i 24, cv_i 24, cv_i 20, cv_i 6, cv_i 18, cv_i 0, cv_i 0, cv_i 36, cv_i 8, cv_i 0, cv_i 1000, cv_i 1000, cv_i 0, cv_i 3000, cv_i 0, cv_i 0, cv_r 25],
  cv_ci 0 (List.replicate 9 0),
  cv_co 4 [cv_r 27, cv_r 28, cv_i 0, cv_i 0, cv_r 29, cv_r 30, cv_r 31, cv_r 32, cv_r 33, cv_i 0, cv_r 34, cv_r 35, cv_r 36, cv_r 37, cv_i 0, cv_r 38, cv_r 39, cv_r 40, cv_r 41, cv_i 0],
  cv_ci 0 (List.replicate 12 50),
  cv_ci 0 (List.replicate 64 0),
  cv_ci 0 ([0, 0, 0, 0]),
  cv_ci 0 ([0, 0, 0, 0]),
  cv_ci 0 ([0, 0, 0, 0]),
  cv_cr 5 [some 42, some 44, some 46, some 48],
  cv_ci 0 ([0, 0, 0, 0]),
  cv_ci 0 (List.replicate 6 0),
  cv_ci 0 (List.replicate 6 0),
  cv_ci 0 (List.replicate 6 0),
  cv_ci 0 (List.replicate 6 0),
  cv_ci 0 (List.replicate 6 0),
  cv_ci 0 (List.replicate 6 0),
  cv_ci 0 (List.replicate 6 0),
  cv_ci 0 (List.replicate 6 0),
  cv_co 7 [cv_i 24, cv_i 24, cv_i 20, cv_i 6, cv_i 18, cv_i 0, cv_i 0, cv_i 36, cv_i 8, cv_i 0, cv_i 1000, cv_i 1000, cv_i 0, cv_i 3000, cv_i 0, cv_i 0, cv_r 43],
  cv_ci 0 (List.replicate 9 0),
  cv_co 7 [cv_i 24, cv_i 24, cv_i 20, cv_i 6, cv_i 18, cv_i 0, cv_i 0, cv_i 36, cv_i 8, cv_i 0, cv_i 1000, cv_i 1000, cv_i 0, cv_i 3000, cv_i 0, cv_i 0, cv_r 45],
  cv_ci 0 (List.replicate 9 0),
  cv_co 7 [cv_i 24, cv_i 24, cv_i 20, cv_i 6, cv_i 18, cv_i 0, cv_i 0, cv_i 36, cv_i 8, cv_i 0, cv_i 1000, cv_i 1000, cv_i 0, cv_i 3000, cv_i 0, cv_i 0, cv_r 47],
  cv_ci 0 (List.replicate 9 0),
  cv_co 7 [cv_i 24, cv_i 24, cv_i 20, cv_i 6, cv_i 18, cv_i 0, cv_i 0, cv_i 36, cv_i 8, cv_i 0, cv_i 1000, cv_i 1000, cv_i 0, cv_i 3000, cv_i 0, cv_i 0, cv_r 49],
  cv_ci 0 (List.replicate 9 0),
  cv_co 5 [cv_n, cv_n, cv_n, cv_i 0, cv_i 0, cv_i (-1)],
  cv_co 6 [cv_r 1, cv_r 52, cv_i 0, cv_i 0, cv_i 0, cv_i 0, cv_i 0],
  cv_ci 0 (([254268868, 404455424, 236590080, 788081664, 102419616, 407943168, 520257536] ++ (List.replicate 27 0)))]
def hq_4 : cv_H := [
  cv_co 11 [cv_r 1, cv_i 0, cv_r 2, cv_r 26, cv_n, cv_n, cv_n, cv_n, cv_i 0, cv_n, cv_i 0, cv_n, cv_n, cv_n, cv_n, cv_n],
  cv_ci 1 (List.replicate 900 0),
  cv_co 4 [cv_r 3, cv_r 4, cv_i 0, cv_i 0, cv_r 5, cv_r 6, cv_r 7, cv_r 8, cv_r 9, cv_i 0, cv_r 10, cv_r 11, cv_r 12, cv_r 13, cv_i 0, cv_r 14, cv_r 15, cv_r 16, cv_r 17, cv_i 0],
  cv_ci 0 (List.replicate 12 50),
  cv_ci 0 (List.replicate 64 0),
  cv_ci 0 ([0, 0, 0, 0]),
  cv_ci 0 ([0, 0, 0, 0]),
  cv_ci 0 ([0, 0, 0, 0]),
  cv_cr 5 [some 18, some 20, some 22, some 24],
  cv_ci 0 ([0, 0, 0, 0]),
  cv_ci 0 (List.replicate 6 0),
  cv_ci 0 (List.replicate 6 0),
  cv_ci 0 (List.replicate 6 0),
  cv_ci 0 (List.replicate 6 0),
  cv_ci 0 (List.replicate 6 0),
  cv_ci 0 (List.replicate 6 0),
  cv_ci 0 (List.replicate 6 0),
  cv_ci 0 (List.replicate 6 0),
  cv_co 7 [cv_i 24, cv_i 24, cv_i 20, cv_i 6, cv_i 18, cv_i 0, cv_i 0, cv_i 36, cv_i 8, cv_i 0, cv_i 1000, cv_i 1000, cv_i 0, cv_i 3000, cv_i 0, cv_i 0, cv_r 19],
  cv_ci 0 (List.replicate 9 0),
  cv_co 7 [cv_i 24, cv_i 24, cv_i 20, cv_i 6, cv_i 18, cv_i 0, cv_i 0, cv_i 36, cv_i 8, cv_i 0, cv_i 1000, cv_i 1000, cv_i 0, cv_i 3000, cv_i 0, cv_i 0, cv_r 21],
  cv_ci 0 (List.replicate 9 0),
  cv_co 7 [cv_i 24, cv_i 24, cv_i 20, cv_i 6, cv_i 18, cv_i 0, cv_i 0, cv_i 36, cv_i 8, cv_i 0, cv_i 1000, cv_i 1000, cv_i 0, cv_i 3000, cv_i 0, cv_i 0, cv_r 23],
  cv_ci 0 (List.replicate 9 0),
  cv_co 7 [cv_i 24, cv_i 24, cv_i 20, cv_i 6, cv_i 18, cv_i 0, cv_i 0, cv_i 36, cv_i 8, cv_i 0, cv_i 1000, cv_i 1000, cv_i 0, cv_i 3000, cv_i 0, cv_i 0, cv_r 25],
  cv_ci 0 (List.replicate 9 0),
  cv_co 4 [cv_r 27, cv_r 28, cv_i 0, cv_i 0, cv_r 29, cv_r 30, cv_r 31, cv_r 32, cv_r 33, cv_i 0, cv_r 34, cv_r 35, cv_r 36, cv_r 37, cv_i 0, cv_r 38, cv_r 39, cv_r 40, cv_r 41, cv_i 0],
  cv_ci 0 (List.replicate 12 50),
  cv_ci 0 (List.replicate 64 0),
  cv_ci 0 ([0, 0, 0, 0]),
  cv_ci 0 ([0, 0, 0, 0]),
  cv_ci 0 ([0, 0, 0, 0]),
  cv_cr 5 [some 42, some 44, some 46, some 48],
  cv_ci 0 ([0, 0, 0, 0]),
  cv_ci 0 (List.replicate 6 0),
  cv_ci 0 (List.replicate 6 0),
  cv_ci 0 (List.replicate 6 0),
  cv_ci 0 (List.replicate 6 0),
  cv_ci 0 (List.replicate 6 0),
  cv_ci 0 (List.replicate 6 0),
  cv_ci 0 (List.replicate 6 0),
  cv_ci 0 (List.replicate 6 0),
  cv_co 7 [cv_i 24, cv_i 24, cv_i 20, cv_i 6, cv_i 18, cv_i 0, cv_i 0, cv_i 36, cv_i 8, cv_i 0, cv_i 1000, cv_i 1000, cv_i 0, cv_i 3000, cv_i 0, cv_i 0, cv_r 43],
  cv_ci 0 (List.replicate 9 0),
  cv_co 7 [cv_i 24, cv_i 24, cv_i 20, cv_i 6, cv_i 18, cv_i 0, cv_i 0, cv_i 36, cv_i 8, cv_i 0, cv_i 1000, cv_i 1000, cv_i 0, cv_i 3000, cv_i 0, cv_i 0, cv_r 45],
  cv_ci 0 (List.replicate 9 0),
  cv_co 7 [cv_i 24, cv_i 24, cv_i 20, cv_i 6, cv_i 18, cv_i 0, cv_i 0, cv_i 36, cv_i 8, cv_i 0, cv_i 1000, cv_i 1000, cv_i 0, cv_i 3000, cv_i 0, cv_i 0, cv_r 47],
  cv_ci 0 (List.replicate 9 0),
  cv_co 7 [cv_i 24, cv_i 24, cv_i 20, cv_i 6, cv_i 18, cv_i 0, cv_i 0, cv_i 36, cv_i 8, cv_i 0, cv_i 1000, cv_i 1000, cv_i 0, cv_i 3000, cv_i 0, cv_i 0, cv_r 49],
  cv_ci 0 (List.replicate 9 0),
  cv_co 5 [cv_n, cv_n, cv_n, cv_i 0, cv_i 0, cv_i (-1)],
  cv_co 6 [cv_r 1, cv_r 52, cv_i 0, cv_i 0, cv_i 0, cv_i 0, cv_i 0],
  cv_ci 0 (([254268868, 404455424, 236590080, 788081664, 102419616, 407943168, 520271872, 72814592, 384273760, 284667488, 553242624, 86019232, 404360448, 100663296] ++ (List.replicate 20 0)))]
def hq_5 : cv_H := [
  cv_co 11 [cv_r 1, cv_i 0, cv_r 2, cv_r 26, cv_n, cv_n, cv_n, cv_n, cv_i 0, cv_n, cv_i 0, cv_n, cv_n, cv_n, cv_n, cv_n],
  cv_ci 1 (List.replicate 900 0),
  cv_co 4 [cv_r 3, cv_r 4, cv_i 0, cv_i 0, cv_r 5, cv_r 6, cv_r 7, cv_r 8, cv_r 9, cv_i 0, cv_r 10, cv_r 11, cv_r 12, cv_r 13, cv_i 0, cv_r 14, cv_r 15, cv_r 16, cv_r 17, cv_i 0],
  cv_ci 0 (List.replicate 12 50),
  cv_ci 0 (List.replicate 64 0),
  cv_ci 0 ([0, 0, 0, 0]),
  cv_ci 0 ([0, 0, 0, 0]),
  cv_ci 0 ([0, 0, 0, 0]),
  cv_cr 5 [some 18, some 20, some 22, some 24],
  cv_ci 0 ([0, 0, 0, 0]),
  cv_ci 0 (List.replicate 6 0),
  cv_ci 0 (List.replicate 6 0),
  cv_ci 0 (List.replicate 6 0),
  cv_ci 0 (List.replicate 6 0),
  cv_ci 0 (List.replicate 6 0),
  cv_ci 0 (List.replicate 6 0),
  cv_ci 0 (List.replicate 6 0),
  cv_ci 0 (List.replicate 6 0),
  cv_co 7 [cv_i 24, cv_i 24, cv_i 20, cv_i 6, cv_i 18, cv_i 0, cv_i 0, cv_i 36, cv_i 8, cv_i 0, cv_i 1000, cv_i 1000, cv_i 0, cv_i 3000, cv_i 0, cv_i 0, cv_r 19],
  cv_ci 0 (List.replicate 9 0),
  cv_co 7 [cv_i 24, cv_i 24, cv_i 20, cv_i 6, cv_i 18, cv_i 0, cv_i 0, cv_i 36, cv_i 8, cv_i 0, cv_i 1000, cv_i 1000, cv_i 0, cv_i 3000, cv_i 0, cv_i 0, cv_r 21],
  cv_ci 0 (List.replicate 9 0),
  cv_co 7 [cv_i 24, cv_i 24, cv_i 20, cv_i 6, cv_i 18, cv_i 0, cv_i 0, cv_i 36, cv_i 8, cv_i 0, cv_i 1000, cv_i 1000, cv_i 0, cv_i 3000, cv_i 0, cv_i 0, cv_r 23],
  cv_ci 0 (List.replicate 9 0),
  cv_co 7 [cv_i 24, cv_i 24, cv_i 20, cv_i 6, cv_i 18, cv_i 0, cv_i 0, cv_i 36, cv_i 8, cv_i 0, cv_i 1000, cv_i 1000, cv_i 0, cv_i 3000, cv_i 0, cv_i 0, cv_r 25],
  cv_ci 0 (List.replicate 9 0),
  cv_co 4 [cv_r 27, cv_r 28, cv_i 0, cv_i 0, cv_r 29, cv_r 30, cv_r 31, cv_r 32, cv_r 33, cv_i 0, cv_r 34, cv_r 35, cv_r 36, cv_r 37, cv_i 0, cv_r 38, cv_r 39, cv_r 40, cv_r 41, cv_i 0],
  cv_ci 0 (List.replicate 12 50),
  cv_ci 0 (List.replicate 64 0),
  cv_ci 0 ([0, 0, 0, 0]),
  cv_ci 0 ([0, 0, 0, 0]),
  cv_ci 0 ([0, 0, 0, 0]),
  cv_cr 5 [some 42, some 44, some 46, some 48],
  cv_ci 0 ([0, 0, 0, 0]),
  cv_ci 0 (List.replicate 6 0),
  cv_ci 0 (List.replicate 6 0),
  cv_ci 0 (List.replicate 6 0),
  cv_ci 0 (List.replicate 6 0),
  cv_ci 0 (List.replicate 6 0),
  cv_ci 0 (List.replicate 6 0),
  cv_ci 0 (List.replicate 6 0),
  cv_ci 0 (List.replicate 6 0),
  cv_co 7 [cv_i 24, cv_i 24, cv_i 20, cv_i 6, cv_i 18, cv_i 0, cv_i 0, cv_i 36, cv_i 8, cv_i 0, cv_i 1000, cv_i 1000, cv_i 0, cv_i 3000, cv_i 0, cv_i 0, cv_r 43],
  cv_ci 0 (List.replicate 9 0),
  cv_co 7 [cv_i 24, cv_i 24, cv_i 20, cv_i 6, cv_i 18, cv_i 0, cv_i 0, cv_i 36, cv_i 8, cv_i 0, cv_i 1000, cv_i 1000, cv_i 0, cv_i 3000, cv_i 0, cv_i 0, cv_r 45],
  cv_ci 0 (List.replicate 9 0),
  cv_co 7 [cv_i 24, cv_i 24, cv_i 20, cv_i 6, cv_i 18, cv_i 0, cv_i 0, cv_i 36, cv_i 8, cv_i 0, cv_i 1000, cv_i 1000, cv_i 0, cv_i 3000, cv_i 0, cv_i 0, cv_r 47],
  cv_ci 0 (List.replicate 9 0),
  cv_co 7 [cv_i 24, cv_i 24, cv_i 20, cv_i 6, cv_i 18, cv_i 0, cv_i 0, cv_i 36, cv_i 8, cv_i 0, cv_i 1000, cv_i 1000, cv_i 0, cv_i 3000, cv_i 0, cv_i 0, cv_r 49],
  cv_ci 0 (List.replicate 9 0),
  cv_co 5 [cv_n, cv_n, cv_n, cv_i 0, cv_i 0, cv_i (-1)],
  cv_co 6 [cv_r 1, cv_r 52, cv_i 0, cv_i 0, cv_i 0, cv_i 0, cv_i 0],
  cv_ci 0 (([254268868, 404455424, 236590080, 788081664, 102419616, 407943168, 520271872, 72814592, 384273760, 284667488, 553242624, 86019232, 404360448, 109359232, 236453888, 614044672, 270106624, 721420288, 150714368, 656049733, 781778944] ++ (List.replicate 13 0)))]
def hq_6 : cv_H := [
  cv_co 11 [cv_r 1, cv_i 0, cv_r 2, cv_r 26, cv_n, cv_n, cv_n, cv_n, cv_i 0, cv_n, cv_i 0, cv_n, cv_n, cv_n, cv_n, cv_n],
  cv_ci 1 (List.replicate 900 0),
  cv_co 4 [cv_r 3, cv_r 4, cv_i 0, cv_i 0, cv_r 5, cv_r 6, cv_r 7, cv_r 8, cv_r 9, cv_i 0, cv_r 10, cv_r 11, cv_r 12, cv_r 13, cv_i 0, cv_r 14, cv_r 15, cv_r 16, cv_r 17, cv_i 0],
  cv_ci 0 (List.replicate 12 50),
  cv_ci 0 (List.replicate 64 0),
  cv_ci 0 ([0, 0, 0, 0]),
  cv_ci 0 ([0, 0, 0, 0]),
  cv_ci 0 ([0, 0, 0, 0]),
  cv_cr 5 [some 18, some 20, some 22, some 24],
  cv_ci 0 ([0, 0, 0, 0]),
  cv_ci 0 (List.replicate 6 0),
  cv_ci 0 (List.replicate 6 0),
  cv_ci 0 (List.replicate 6 0),
  cv_ci 0 (List.replicate 6 0),
  cv_ci 0 (List.replicate 6 0),
  cv_ci 0 (List.replicate 6 0),
  cv_ci 0 (List.replicate 6 0),
  cv_ci 0 (List.replicate 6 0),
  cv_co 7 [cv_i 24, cv_i 24, cv_i 20, cv_i 6, cv_i 18, cv_i 0, cv_i 0, cv_i 36, cv_i 8, cv_i 0, cv_i 1000, cv_i 1000, cv_i 0, cv_i 3000, cv_i 0, cv_i 0, cv_r 19],
  cv_ci 0 (List.replicate 9 0),
  cv_co 7 [cv_i 24, cv_i 24, cv_i 20, cv_i 6, cv_i 18, cv_i 0, cv_i 0, cv_i 36, cv_i 8, cv_i 0, cv_i 1000, cv_i 1000, cv_i 0, cv_i 3000, cv_i 0, cv_i 0, cv_r 21],
  cv_ci 0 (List.replicate 9 0),
  cv_co 7 [cv_i 24, cv_i 24, cv_i 20, cv_i 6, cv_i 18, cv_i 0, cv_i 0, cv_i 36, cv_i 8, cv_i 0, cv_i 1000, cv_i 1000, cv_i 0, cv_i 3000, cv_i 0, cv_i 0, cv_r 23],
  cv_ci 0 (List.replicate 9 0),
  cv_co 7 [cv_i 24, cv_i 24, cv_i 20, cv_i 6, cv_i 18, cv_i 0, cv_i 0, cv_i 36, cv_i 8, cv_i 0, cv_i 1000, cv_i 1000, cv_i 0, cv_i 3000, cv_i 0, cv_i 0, cv_r 25],
  cv_ci 0 (List.replicate 9 0),
  cv_co 4 [cv_r 27, cv_r 28, cv_i 0, cv_i 0, cv_r 29, cv_r 30, cv_r 31, cv_r 32, cv_r 33, cv_i 0, cv_r 34, cv_r 35, cv_r 36, cv_r 37, cv_i 0, cv_r 38, cv_r 39, cv_r 40, cv_r 41, cv_i 0],
  cv_ci 0 (List.replicate 12 50),
  cv_ci 0 (List.replicate 64 0),
  cv_ci 0 ([0, 0, 0, 0]),
  cv_ci 0 ([0, 0, 0, 0]),
  cv_ci 0 ([0, 0, 0, 0]),
  cv_cr 5 [some 42, some 44, some 46, some 48],
  cv_ci 0 ([0, 0, 0, 0]),
  cv_ci 0 (List.replicate 6 0),
  cv_ci 0 (List.replicate 6 0),
  cv_ci 0 (List.replicate 6 0),
  cv_ci 0 (List.replicate 6 0),
  cv_ci 0 (List.replicate 6 0),
  cv_ci 0 (List.replicate 6 0),
  cv_ci 0 (List.replicate 6 0),
  cv_ci 0 (List.replicate 6 0),
  cv_co 7 [cv_i 24, cv_i 24, cv_i 20, cv_i 6, cv_i 18, cv_i 0, cv_i 0, cv_i 36, cv_i 8, cv_i 0, cv_i 1000, cv_i 1000, cv_i 0, cv_i 3000, cv_i 0, cv_i 0, cv_r 43],
  cv_ci 0 (List.replicate 9 0),
  cv_co 7 [cv_i 24, cv_i 24, cv_i 20, cv_i 6, cv_i 18, cv_i 0, cv_i 0, cv_i 36, cv_i 8, cv_i 0, cv_i 1000, cv_i 1000, cv_i 0, cv_i 3000, cv_i 0, cv_i 0, cv_r 45],
  cv_ci 0 (List.replicate 9 0),
  cv_co 7 [cv_i 24, cv_i 24, cv_i 20, cv_i 6, cv_i 18, cv_i 0, cv_i 0, cv_i 36, cv_i 8, cv_i 0, cv_i 1000, cv_i 1000, cv_i 0, cv_i 3000, cv_i 0, cv_i 0, cv_r 47],
  cv_ci 0 (List.replicate 9 0),
  cv_co 7 [cv_i 24, cv_i 24, cv_i 20, cv_i 6, cv_i 18, cv_i 0, cv_i 0, cv_i 36, cv_i 8, cv_i 0, cv_i 1000, cv_i 1000, cv_i 0, cv_i 3000, cv_i 0, cv_i 0, cv_r 49],
  cv_ci 0 (List.replicate 9 0),
  cv_co 5 [cv_n, cv_n, cv_n, cv_i 0, cv_i 0, cv_i (-1)],
  cv_co 6 [cv_r 1, cv_r 52, cv_i 0, cv_i 0, cv_i 0, cv_i 0, cv_i 0],
  cv_ci 0 ([254268868, 404455424, 236590080, 788081664, 102419616, 407943168, 520271872, 72814592, 384273760, 284667488, 553242624, 86019232, 404360448, 109359232, 236453888, 614044672, 270106624, 721420288, 150714368, 656049733, 781784064, 780309888, 659011763, 609486279, 559296512, 211366912, 139640832, 0, 0, 0, 0, 0, 0, 0])]
def hq_7 : cv_H := [
  cv_co 11 [cv_r 1, cv_i 0, cv_r 2, cv_r 26, cv_n, cv_n, cv_n, cv_n, cv_i 0, cv_n, cv_i 0, cv_n, cv_n, cv_n, cv_n, cv_n],
  cv_ci 1 (List.replicate 900 0),
  cv_co 4 [cv_r 3, cv_r 4, cv_i 0, cv_i 0, cv_r 5, cv_r 6, cv_r 7, cv_r 8, cv_r 9, cv_i 0, cv_r 10, cv_r 11, cv_r 12, cv_r 13, cv_i 0, cv_r 14, cv_r 15, cv_r 16, cv_r 17, cv_i 0],
  cv_ci 0 (List.replicate 12 50),
  cv_ci 0 (List.replicate 64 0),
  cv_ci 0 ([0, 0, 0, 0]),
  cv_ci 0 ([0, 0, 0, 0]),
  cv_ci 0 ([0, 0, 0, 0]),
  cv_cr 5 [some 18, some 20, some 22, some 24],
  cv_ci 0 ([0, 0, 0, 0]),
  cv_ci 0 (List.replicate 6 0),
  cv_ci 0 (List.replicate 6 0),
  cv_ci 0 (List.replicate 6 0),
  cv_ci 0 (List.replicate 6 0),
  cv_ci 0 (List.replicate 6 0),
  cv_ci 0 (List.replicate 6 0),
  cv_ci 0 (List.replicate 6 0),
  cv_ci 0 (List.replicate 6 0),
  cv_co 7 [cv_i 24, cv_i 24, cv_i 20, cv_i 6, cv_i 18, cv_i 0, cv_i 0, cv_i 36, cv_i 8, cv_i 0, cv_i 1000, cv_i 1000, cv_i 0, cv_i 3000, cv_i 0, cv_i 0, cv_r 19],
  cv_ci 0 (List.replicate 9 0),
  cv_co 7 [cv_i 24, cv_i 24, cv_i 20, cv_i 6, cv_i 18, cv_i 0, cv_i 0, cv_i 36, cv_i 8, cv_i 0, cv_i 1000, cv_i 1000, cv_i 0, cv_i 3000, cv_i 0, cv_i 0, cv_r 21],
  cv_ci 0 (List.replicate 9 0),
  cv_co 7 [cv_i 24, cv_i 24, cv_i 20, cv_i 6, cv_i 18, cv_i 0, cv_i 0, cv_i 36, cv_i 8, cv_i 0, cv_i 1000, cv_i 1000, cv_i 0, cv_i 3000, cv_i 0, cv_i 0, cv_r 23],
  cv_ci 0 (List.replicate 9 0),
  cv_co 7 [cv_i 24, cv_i 24, cv_i 20, cv_i 6, cv_i 18, cv_i 0, cv_i 0, cv_i 36, cv_i 8, cv_i 0, cv_i 1000, cv_i 1000, cv_i 0, cv_i 3000, cv_i 0, cv_i 0, cv_r 25],
  cv_ci 0 (List.replicate 9 0),
  cv_co 4 [cv_r 27, cv_r 28, cv_i 0, cv_i 0, cv_r 29, cv_r 30, cv_r 31, cv_r 32, cv_r 33, cv_i 0, cv_r 34, cv_r 35, cv_r 36, cv_r 37, cv_i 0, cv_r 38, cv_r 39, cv_r 40, cv_r 41, cv_i 0],
  cv_ci 0 (List.replicate 12 50),
  cv_ci 0 (List.replicate 64 0),
  cv_ci 0 ([0, 0, 0, 0]),
  cv_ci 0 ([0, 0, 0, 0]),
  cv_ci 0 ([0, 0, 0, 0]),
  cv_cr 5 [some 42, some 44, some 46, some 48],
  cv_ci 0 ([0, 0, 0, 0]),
  cv_ci 0 (List.replicate 6 0),
  cv_ci 0 (List.replicate 6 0),
  cv_ci 0 (List.replicate 6 0),
  cv_ci 0 (List.replicate 6 0),
  cv_ci 0 (List.replicate 6 0),
  cv_ci 0 (List.replicate 6 0),
  cv_ci 0 (List.replicate 6 0),
  cv_ci 0 (List.replicate 6 0),
  cv_co 7 [cv_i 24, cv_i 24, cv_i 20, cv_i 6, cv_i 18, cv_i 0, cv_i 0, cv_i 36, cv_i 8, cv_i 0, cv_i 1000, cv_i 1000, cv_i 0, cv_i 3000, cv_i 0, cv_i 0, cv_r 43],
  cv_ci 0 (List.replicate 9 0),
  cv_co 7 [cv_i 24, cv_i 24, cv_i 20, cv_i 6, cv_i 18, cv_i 0, cv_i 0, cv_i 36, cv_i 8, cv_i 0, cv_i 1000, cv_i 1000, cv_i 0, cv_i 3000, cv_i 0, cv_i 0, cv_r 45],
  cv_ci 0 (List.replicate 9 0),
  cv_co 7 [cv_i 24, cv_i 24, cv_i 20, cv_i 6, cv_i 18, cv_i 0, cv_i 0, cv_i 36, cv_i 8, cv_i 0, cv_i 1000, cv_i 1000, cv_i 0, cv_i 3000, cv_i 0, cv_i 0, cv_r 47],
  cv_ci 0 (List.replicate 9 0),
  cv_co 7 [cv_i 24, cv_i 24, cv_i 20, cv_i 6, cv_i 18, cv_i 0, cv_i 0, cv_i 36, cv_i 8, cv_i 0, cv_i 1000, cv_i 1000, cv_i 0, cv_i 3000, cv_i 0, cv_i 0, cv_r 49],
  cv_ci 0 (List.replicate 9 0),
  cv_co 5 [cv_n, cv_n, cv_n, cv_i 0, cv_i 0, cv_i (-1)],
  cv_co 6 [cv_r 1, cv_r 52, cv_i 0, cv_i 0, cv_i 0, cv_i 0, cv_i 0],
  cv_ci 0 ([254268868, 404455424, 236590080, 788081664, 102419616, 407943168, 520271872, 72814592, 384273760, 284667488, 553242624, 86019232, 404360448, 109359232, 236453888, 614044672, 270106624, 721420288, 150714368, 656049733, 781784064, 780309888, 659011763, 609486279, 559296512, 211366912, 139640832, 679775584, 153600000, 777169920, 202780672, 48365568, 522190848, 486146048])]
def hq_8 : cv_H := [
  cv_co 11 [cv_r 1, cv_i 0, cv_r 2, cv_r 26, cv_n, cv_n, cv_n, cv_n, cv_i 0, cv_n, cv_i 0, cv_n, cv_n, cv_n, cv_n, cv_n],
  cv_ci 1 (List.replicate 900 0),
  cv_co 4 [cv_r 3, cv_r 4, cv_i 0, cv_i 0, cv_r 5, cv_r 6, cv_r 7, cv_r 8, cv_r 9, cv_i 0, cv_r 10, cv_r 11, cv_r 12, cv_r 13, cv_i 0, cv_r 14, cv_r 15, cv_r 16, cv_r 17, cv_i 0],
  cv_ci 0 (List.replicate 12 50),
  cv_ci 0 (List.replicate 64 0),
  cv_ci 0 ([0, 0, 0, 0]),
  cv_ci 0 ([0, 0, 0, 0]),
  cv_ci 0 ([0, 0, 0, 0]),
  cv_cr 5 [some 18, some 20, some 22, some 24],
  cv_ci 0 ([0, 0, 0, 0]),
  cv_ci 0 (List.replicate 6 0),
  cv_ci 0 (List.replicate 6 0),
  cv_ci 0 (List.replicate 6 0),
  cv_ci 0 (List.replicate 6 0),
  cv_ci 0 (List.replicate 6 0),
  cv_ci 0 (List.replicate 6 0),
  cv_ci 0 (List.replicate 6 0),
  cv_ci 0 (List.replicate 6 0),
  cv_co 7 [cv_i 24, cv_i 24, cv_i 20, cv_i 6, cv_i 18, cv_i 0, cv_i 0, cv_i 36, cv_i 8, cv_i 0, cv_i 1000, cv_i 1000, cv_i 0, cv_i 3000, cv_i 0, cv_i 0, cv_r 19],
  cv_ci 0 (List.replicate 9 0),
  cv_co 7 [cv_i 24, cv_i 24, cv_i 20, cv_i 6, cv_i 18, cv_i 0, cv_i 0, cv_i 36, cv_i 8, cv_i 0, cv_i 1000, cv_i 1000, cv_i 0, cv_i 3000, cv_i 0, cv_i 0, cv_r 21],
  cv_ci 0 (List.replicate 9 0),
  cv_co 7 [cv_i 24, cv_i 24, cv_i 20, cv_i 6, cv_i 18, cv_i 0, cv_i 0, cv_i 36, cv_i 8, cv_i 0, cv_i 1000, cv_i 1000, cv_i 0, cv_i 3000, cv_i 0, cv_i 0, cv_r 23],
  cv_ci 0 (List.replicate 9 0),
  cv_co 7 [cv_i 24, cv_i 24, cv_i 20, cv_i 6, cv_i 18, cv_i 0, cv_i 0, cv_i 36, cv_i 8, cv_i 0, cv_i 1000, cv_i 1000, cv_i 0, cv_i 3000, cv_i 0, cv_i 0, cv_r 25],
  cv_ci 0 (List.replicate 9 0),
  cv_co 4 [cv_r 27, cv_r 28, cv_i 0, cv_i 0, cv_r 29, cv_r 30, cv_r 31, cv_r 32, cv_r 33, cv_i 0, cv_r 34, cv_r 35, cv_r 36, cv_r 37, cv_i 0, cv_r 38, cv_r 39, cv_r 40, cv_r 41, cv_i 0],
  cv_ci 0 (List.replicate 12 50),
  cv_ci 0 (List.replicate 64 0),
  cv_ci 0 ([0, 0, 0, 0]),
  cv_ci 0 ([0, 0, 0, 0]),
  cv_ci 0 ([0, 0, 0, 0]),
  cv_cr 5 [some 42, some 44, some 46, some 48],
  cv_ci 0 ([0, 0, 0, 0]),
  cv_ci 0 (List.replicate 6 0),
  cv_ci 0 (List.replicate 6 0),
  cv_ci 0 (List.replicate 6 0),
  cv_ci 0 (List.replicate 6 0),
  cv_ci 0 (List.replicate 6 0),
  cv_ci 0 (List.replicate 6 0),
  cv_ci 0 (List.replicate 6 0),
  cv_ci 0 (List.replicate 6 0),
  cv_co 7 [cv_i 24, cv_i 24, cv_i 20, cv_i 6, cv_i 18, cv_i 0, cv_i 0, cv_i 36, cv_i 8, cv_i 0, cv_i 1000, cv_i 1000, cv_i 0, cv_i 3000, cv_i 0, cv_i 0, cv_r 43],
  cv_ci 0 (List.replicate 9 0),
  cv_co 7 [cv_i 24, cv_i 24, cv_i 20, cv_i 6, cv_i 18, cv_i 0, cv_i 0, cv_i 36, cv_i 8, cv_i 0, cv_i 1000, cv_i 1000, cv_i 0, cv_i 3000, cv_i 0, cv_i 0, cv_r 45],
  cv_ci 0 (List.replicate 9 0),
  cv_co 7 [cv_i 24, cv_i 24, cv_i 20, cv_i 6, cv_i 18, cv_i 0, cv_i 0, cv_i 36, cv_i 8, cv_i 0, cv_i 1000, cv_i 1000, cv_i 0, cv_i 3000, cv_i 0, cv_i 0, cv_r 47],
  cv_ci 0 (List.replicate 9 0),
  cv_co 7 [cv_i 24, cv_i 24, cv_i 20, cv_i 6, cv_i 18, cv_i 0, cv_i 0, cv_i 36, cv_i 8, cv_i 0, cv_i 1000, cv_i 1000, cv_i 0, cv_i 3000, cv_i 0, cv_i 0, cv_r 49],
  cv_ci 0 (List.replicate 9 0),
  cv_co 5 [cv_r 51, cv_r 53, cv_r 26, cv_i 0, cv_i 0, cv_i (-1)],
  cv_co 6 [cv_r 1, cv_r 52, cv_i 0, cv_i 0, cv_i 0, cv_i 0, cv_i 0],
  cv_ci 0 ([254268868, 404455424, 236590080, 788081664, 102419616, 407943168, 520271872, 72814592, 384273760, 284667488, 553242624, 86019232, 404360448, 109359232, 236453888, 614044672, 270106624, 721420288, 150714368, 656049733, 781784064, 780309888, 659011763, 609486279, 559296512, 211366912, 139640832, 679775584, 153600000, 777169920, 202780672, 48365568, 522190848, 486146048]),
  cv_co 0 [cv_r 51, cv_r 54, cv_i 0, cv_i 0, cv_i 0, cv_i 0, cv_i 0, cv_r 26],
  cv_ci 0 (List.replicate 73 0)]
end
section
/-! ===== some steps of a frame ===== -/
noncomputable def cv_stp (F : cv_F) (mt : Nat → cv_M) (f2 : Nat) (fuel : Nat) : cv_X → Nat → List cv_Q → cv_S → Option cv_S :=
  Nat.rec (motive := fun _ => cv_X → Nat → List cv_Q → cv_S → Option cv_S) (fun _ _ _ S => some S) (fun _ ih X mi sfx S =>
    match sfx with
    | [] => none
    | q :: rest =>
      bif q.1 == S.1 then
        match cv_one X q S with
        | some S' => ih X mi (bif S'.1 == S.1 + q.2.2.1 then rest else cv_from S'.1 (mt mi).2.1) S'
        | none =>
        match cv_mk (mt mi).2.2.1 (mt mi).2.2.2.1 F q S with
        | some S' => ih X mi rest S'
        | none =>
        match cv_nat (mt mi) q S with
        | some S' => ih X mi rest S'
        | none =>
        match cv_call q S with
        | some (j, args, stk) =>
          bif cv_fits (mt mi) (mt j) S.2.2.2.2.1 S.2.2.2.2.2 (cv_wid args) stk then
            match cv_fst F mt f2 (fun j => bif j == 2 then none else X j) j (mt j).2.1 (0, cv_ent 0 args, [], S.2.2.2.1, 0, 0) with
            | some o => ih X mi rest (S.1 + q.2.2.1, S.2.1, o.1.toList ++ stk, o.2, S.2.2.2.2.1 + (mt j).2.2.1, S.2.2.2.2.2 + (mt j).2.2.2.1)
            | none => none
          else none
        | none => none
      else none) fuel
section CVF
variable {Ts : List Jvm.Cond} {cl : List vw_C} {D : va_G} {cy : Nat → ClassId} {A : Nat → Prop} {sv : Nat → Value} {l : Launch} {mt : Nat → cv_M} {F : cv_F}
theorem cv_stp_ok (hA : cv_All Ts cl F mt) {f2 : Nat} :
    ∀ (fuel : Nat) (X : cv_X) (mi : Nat) (sfx : List cv_Q) (S S2 : cv_S), cv_stp F mt f2 fuel X mi sfx S = some S2 → (∀ q ∈ sfx, q ∈ (mt mi).2.1) →
      ∀ (as0 : List Nat) (p : Program) (e : Env) (R : Room) (s : State) (m : MethodId) (args : Array Value) (below : List Frame) (meth : Method) (c : Code) (Q : State → Prop), cv_Cx Ts cl D cy A sv X (mt mi) p R s m args meth c →
        cv_Good cl D cy A sv as0 (mt mi).1.2.2.2.1 p l e R s m args below meth c Q S2 →
        cv_Good cl D cy A sv as0 (mt mi).1.2.2.2.1 p l e R s m args below meth c Q S := by
  have hA' := hA
  obtain ⟨hgood, hcls, hcl4, hcl5, h100, h9, hall⟩ := hA
  intro fuel
  induction fuel with
  | zero => intro X mi sfx S S2 h _ as0 p e R s m args below meth c Q C0 k; cases h; exact k
  | succ n ih =>
    intro X mi sfx S o h hsub as0 p e R s m args below meth c Q C0 hret
    have hsv := C0.2.2.2.2.2.2.2.2.2.2.1.1
    cases sfx with
    | nil => cases h
    | cons q rest =>
    have h' : (bif q.1 == S.1 then
        match cv_one X q S with
        | some S' => cv_stp F mt f2 n X mi (bif S'.1 == S.1 + q.2.2.1 then rest else cv_from S'.1 (mt mi).2.1) S'
        | none =>
        match cv_mk (mt mi).2.2.1 (mt mi).2.2.2.1 F q S with
        | some S' => cv_stp F mt f2 n X mi rest S'
        | none =>
        match cv_nat (mt mi) q S with
        | some S' => cv_stp F mt f2 n X mi rest S'
        | none =>
        match cv_call q S with
        | some (j, args, stk) =>
          bif cv_fits (mt mi) (mt j) S.2.2.2.2.1 S.2.2.2.2.2 (cv_wid args) stk then
            match cv_fst F mt f2 (cv_no2 X) j (mt j).2.1 (0, cv_ent 0 args, [], S.2.2.2.1, 0, 0) with
            | some o => cv_stp F mt f2 n X mi rest (S.1 + q.2.2.1, S.2.1, o.1.toList ++ stk, o.2, S.2.2.2.2.1 + (mt j).2.2.1, S.2.2.2.2.2 + (mt j).2.2.2.1)
            | none => none
          else none
        | none => none
      else none) = some o := h
    clear h
    obtain ⟨hq, h'⟩ := cv_bif h'
    have hq : q.1 = S.1 := by simpa using hq
    have okq := hall mi q (hsub q List.mem_cons_self)
    have hrest : ∀ q' ∈ rest, q' ∈ (mt mi).2.1 := fun q' h => hsub q' (List.mem_cons_of_mem _ h)
    cases hone : cv_one X q S with
    | some S' =>
      rw [hone] at h'
      refine cv_one_ok C0 hcls hcl4 hcl5 h100 okq hq hone (ih X mi _ S' o h' ?_ as0 p e R s m args below meth c Q C0 hret)
      cases (S'.1 == S.1 + q.2.2.1) with
      | true => exact hrest
      | false => exact fun q' h => cv_from_mem h
    | none =>
    rw [hone] at h'
    dsimp only at h'
    cases hmk : cv_mk (mt mi).2.2.1 (mt mi).2.2.2.1 F q S with
    | some S' =>
      rw [hmk] at h'
      exact cv_mk_ok C0 hcls okq hq hmk (ih X mi _ S' o h' hrest as0 p e R s m args below meth c Q C0 hret)
    | none =>
    rw [hmk] at h'
    dsimp only at h'
    cases hnat : cv_nat (mt mi) q S with
    | some S' =>
      rw [hnat] at h'
      exact cv_nat_ok C0 okq hq hnat (ih X mi _ S' o h' hrest as0 p e R s m args below meth c Q C0 hret)
    | none =>
    rw [hnat] at h'
    dsimp only at h'
    cases hcall : cv_call q S with
    | none => rw [hcall] at h'; cases h'
    | some jas =>
      obtain ⟨j, av, stk⟩ := jas
      rw [hcall] at h'
      dsimp only at h'
      obtain ⟨hfits, h2⟩ := cv_bif h'
      cases hrun : cv_fst F mt f2 (cv_no2 X) j (mt j).2.1 (0, cv_ent 0 av, [], S.2.2.2.1, 0, 0) with
      | none => rw [hrun] at h2; cases h2
      | some o' =>
        rw [hrun] at h2
        dsimp only at h2
        have hn9 : q.2.2.2.1 < 9000 := by
          have hj := cv_callj hcall
          rcases Nat.lt_or_ge q.2.2.2.1 9000 with q9 | q9
          · exact q9
          · have e0 := h9 j (by omega)
            rw [e0] at hrun
            cases f2 with
            | zero => cases hrun
            | succ n => cases hrun
        have hMet : cv_Met Ts cl D cy A sv l X (mt j) av S.2.2.2.1 o' := by
          refine cv_met_ok hsv (cv_call_okM okq hn9 hcall) ?_ ?_
          · unfold cv_fits at hfits
            simp only [Bool.and_eq_true, decide_eq_true_eq] at hfits
            exact hfits.1
          · intro as1 p1 e1 R1 s1 m1 args1 below1 meth1 c1 C1
            exact cv_fst_ok hA' f2 (cv_no2 X) j _ _ o' hrun (fun q h => h) as1 p1 e1 R1 s1 m1 args1 below1 meth1 c1 _ C1 fun q3 S3 r3 a1 a2 a3 a4 => cv_ret_ok C1 a1 a2 a3 a4
        refine cv_call_ok C0 hgood h100 okq hq hn9 hcall hfits hMet ?_
        exact ih X mi _ _ o h2 hrest as0 p e R s m args below meth c Q C0 hret
end CVF
def cv_nb (x y : Nat × cv_V) : Bool := (x.1 == y.1) && cv_vb x.2 y.2
theorem cv_nb_ok {x y : Nat × cv_V} (h : cv_nb x y = true) : x = y := by
  obtain ⟨a, b⟩ := x
  obtain ⟨c, d⟩ := y
  simp only [cv_nb, Bool.and_eq_true, beq_iff_eq] at h
  obtain ⟨rfl, h⟩ := h
  rw [cv_vb_ok h]
def cv_isS (r : Option cv_S) (S : cv_S) : Bool := match r with
  | some T => (T.1 == S.1) && (cv_lb cv_nb T.2.1 S.2.1 && (cv_lb cv_vb T.2.2.1 S.2.2.1 && (cv_lb cv_cb T.2.2.2.1 S.2.2.2.1 && ((T.2.2.2.2.1 == S.2.2.2.2.1) && (T.2.2.2.2.2 == S.2.2.2.2.2)))))
  | none => false
theorem cv_isS_ok {r : Option cv_S} {S : cv_S} (q : cv_isS r S = true) : r = some S := by
  unfold cv_isS at q
  split at q
  · rename_i T
    obtain ⟨a1, a2, a3, a4, a5, a6⟩ := T
    obtain ⟨b1, b2, b3, b4, b5, b6⟩ := S
    simp only [Bool.and_eq_true, beq_iff_eq] at q
    obtain ⟨rfl, q2, q3, q4, rfl, rfl⟩ := q
    rw [cv_lb_ok (fun _ _ q => cv_nb_ok q) q2, cv_lb_ok (fun _ _ q => cv_vb_ok q) q3, cv_lb_ok (fun _ _ q => cv_cb_ok q) q4]
  · cases q
end
section
/-! ===== the class's constructor runs, piece by piece ===== -/
set_option maxRecDepth 1000000 in
set_option maxHeartbeats 0 in
theorem sg_1 : cv_isS (cv_stp fk_all mt_all 30000 23 lg_X0 106 (op_X11_init) (0, [(0, cv_r 0)], [], [ob_11], 0, 0)) (48, [(0, cv_r 0)], [cv_r 26, cv_r 1, cv_r 50, cv_r 50, cv_r 0], hq_1, 50, 1442) = true := by decide +kernel
set_option maxRecDepth 1000000 in
set_option maxHeartbeats 0 in
theorem sg_2 : cv_isS (cv_stp fk_all mt_all 30000 9 lg_X0 59 (op_X5_init) (0, [(0, cv_r 50), (1, cv_r 1), (2, cv_r 26)], [], hq_1, 0, 0)) (15, [(0, cv_r 50), (1, cv_r 1), (2, cv_r 26)], [cv_r 1, cv_r 51, cv_r 51, cv_r 50], hq_2, 1, 7) = true := by decide +kernel
set_option maxRecDepth 1000000 in
set_option maxHeartbeats 0 in
theorem sg_3 : cv_isS (cv_stp fk_all mt_all 30000 929 lg_X0 75 (op_X6_init) (0, [(0, cv_r 51), (1, cv_r 1)], [], hq_2, 0, 0)) (49, [(5, cv_i 110), (4, cv_i 35), (3, cv_i 3), (2, cv_i 6), (0, cv_r 51), (1, cv_r 1)], [], hq_3, 1, 34) = true := by decide +kernel
set_option maxRecDepth 1000000 in
set_option maxHeartbeats 0 in
theorem sg_4 : cv_isS (cv_stp fk_all mt_all 30000 936 lg_X0 75 (cv_from 49 op_X6_init) (49, [(5, cv_i 110), (4, cv_i 35), (3, cv_i 3), (2, cv_i 6), (0, cv_r 51), (1, cv_r 1)], [], hq_3, 1, 34)) (79, [(5, cv_i 99), (4, cv_i 71), (3, cv_i 0), (2, cv_i 13), (0, cv_r 51), (1, cv_r 1)], [], hq_4, 1, 34) = true := by decide +kernel
end
section
set_option maxRecDepth 1000000 in
set_option maxHeartbeats 0 in
theorem sg_5 : cv_isS (cv_stp fk_all mt_all 30000 930 lg_X0 75 (cv_from 79 op_X6_init) (79, [(5, cv_i 99), (4, cv_i 71), (3, cv_i 0), (2, cv_i 13), (0, cv_r 51), (1, cv_r 1)], [], hq_4, 1, 34)) (34, [(4, cv_i 108), (3, cv_i 3), (5, cv_i 114), (2, cv_i 20), (0, cv_r 51), (1, cv_r 1)], [], hq_5, 1, 34) = true := by decide +kernel
set_option maxRecDepth 1000000 in
set_option maxHeartbeats 0 in
theorem sg_6 : cv_isS (cv_stp fk_all mt_all 30000 926 lg_X0 75 (cv_from 34 op_X6_init) (34, [(4, cv_i 108), (3, cv_i 3), (5, cv_i 114), (2, cv_i 20), (0, cv_r 51), (1, cv_r 1)], [], hq_5, 1, 34)) (24, [(4, cv_i 144), (3, cv_i 4), (5, cv_i 112), (2, cv_i 26), (0, cv_r 51), (1, cv_r 1)], [], hq_6, 1, 34) = true := by decide +kernel
set_option maxRecDepth 1000000 in
set_option maxHeartbeats 0 in
theorem sg_7 : cv_isS (cv_stp fk_all mt_all 30000 839 lg_X0 75 (cv_from 24 op_X6_init) (24, [(4, cv_i 144), (3, cv_i 4), (5, cv_i 112), (2, cv_i 26), (0, cv_r 51), (1, cv_r 1)], [], hq_6, 1, 34)) (88, [(4, cv_i 177), (3, cv_i 0), (2, cv_i 34), (5, cv_i 32), (0, cv_r 51), (1, cv_r 1)], [], hq_7, 1, 34) = true := by decide +kernel
set_option maxRecDepth 1000000 in
set_option maxHeartbeats 0 in
theorem sg_8 : cv_isS (cv_stp fk_all mt_all 30000 12 lg_X0 59 (cv_from 18 op_X5_init) (18, [(0, cv_r 50), (1, cv_r 1), (2, cv_r 26)], [cv_r 51, cv_r 50], hq_7, 2, 41)) (42, [(0, cv_r 50), (1, cv_r 1), (2, cv_r 26)], [], hq_8, 4, 122) = true := by decide +kernel
set_option maxRecDepth 1000000 in
set_option maxHeartbeats 0 in
theorem sg_9 : cv_isS (cv_stp fk_all mt_all 30000 150 lg_X0 106 (cv_from 51 op_X11_init) (51, [(0, cv_r 0)], [cv_r 50, cv_r 0], hq_8, 54, 1564)) (211, [(1, cv_i 4), (0, cv_r 0)], [], hp_c, 110, 2623) = true := by decide +kernel
end
section
set_option maxRecDepth 1000000 in
set_option maxHeartbeats 0 in
theorem rn_X12 : cv_isv (cv_fst fk_all mt_all 25000 lg_X0 154 op_X12_init (0, [(0, cv_r 111)], [], hp_c ++ [ob_12], 0, 0)) (hp_c ++ hp_d) = true := by decide +kernel
end
