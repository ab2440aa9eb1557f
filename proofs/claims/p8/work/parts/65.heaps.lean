/-! ===== equality of cells, by program; the heaps behind the constructors ===== -/
def cv_vb (x y : cv_V) : Bool := match x, y with
  | .inl a, .inl b => decide (a = b)
  | .inr (.inl a), .inr (.inl b) => decide (a = b)
  | .inr (.inr (.inl none)), .inr (.inr (.inl none)) => true
  | .inr (.inr (.inl (some a))), .inr (.inr (.inl (some b))) => a == b
  | .inr (.inr (.inr a)), .inr (.inr (.inr b)) => a == b
  | _, _ => false
theorem cv_vb_ok {x y : cv_V} (h : cv_vb x y = true) : x = y := by
  unfold cv_vb at h
  split at h
  · rw [of_decide_eq_true h]
  · rw [of_decide_eq_true h]
  · rfl
  · simp only [beq_iff_eq] at h
    rw [h]
  · simp only [beq_iff_eq] at h
    rw [h]
  · cases h
def cv_lb {α : Type} (f : α → α → Bool) : List α → List α → Bool
  | [], [] => true
  | x :: l, y :: r => f x y && cv_lb f l r
  | _, _ => false
theorem cv_lb_ok {α : Type} {f : α → α → Bool} (hf : ∀ x y, f x y = true → x = y) : ∀ {l r : List α}, cv_lb f l r = true → l = r
  | [], [], _ => rfl
  | x :: l, y :: r, h => by
    simp only [cv_lb, Bool.and_eq_true] at h
    rw [hf _ _ h.1, cv_lb_ok hf h.2]
  | [], _ :: _, h => by cases h
  | _ :: _, [], h => by cases h
def cv_ob (x y : Option Nat) : Bool := match x, y with
  | none, none => true
  | some a, some b => a == b
  | _, _ => false
theorem cv_ob_ok {x y : Option Nat} (h : cv_ob x y = true) : x = y := by
  unfold cv_ob at h
  split at h
  · rfl
  · simp only [beq_iff_eq] at h
    rw [h]
  · cases h
def cv_cb (x y : cv_C) : Bool := match x, y with
  | .inl (t, l), .inl (u, r) => (t == u) && cv_lb (fun a b => decide (a = b)) l r
  | .inr (.inl l), .inr (.inl r) => cv_lb (fun a b => decide (a = b)) l r
  | .inr (.inr (.inl (t, l))), .inr (.inr (.inl (u, r))) => (t == u) && cv_lb cv_ob l r
  | .inr (.inr (.inr (t, l))), .inr (.inr (.inr (u, r))) => (t == u) && cv_lb cv_vb l r
  | _, _ => false
theorem cv_cb_ok {x y : cv_C} (h : cv_cb x y = true) : x = y := by
  unfold cv_cb at h
  split at h
  · simp only [Bool.and_eq_true, beq_iff_eq] at h
    rw [h.1, cv_lb_ok (fun _ _ q => of_decide_eq_true q) h.2]
  · rw [cv_lb_ok (fun _ _ q => of_decide_eq_true q) h]
  · simp only [Bool.and_eq_true, beq_iff_eq] at h
    rw [h.1, cv_lb_ok (fun _ _ q => cv_ob_ok q) h.2]
  · simp only [Bool.and_eq_true, beq_iff_eq] at h
    rw [h.1, cv_lb_ok (fun _ _ q => cv_vb_ok q) h.2]
  · cases h
/-- a run that returns nothing, and its heap -/
def cv_isv (r : Option cv_O) (h : cv_H) : Bool := match r with
  | some (none, h') => cv_lb cv_cb h' h
  | _ => false
theorem cv_isv_ok {r : Option cv_O} {h : cv_H} (q : cv_isv r h = true) : r = some (none, h) := by
  unfold cv_isv at q
  split at q
  · rw [cv_lb_ok (fun _ _ q => cv_cb_ok q) q]
  · cases q
def wd_ints : List Int32 := [103, 114, 111, 117, 110, 100, 32, 108, 97, 119, 32, 103, 97, 116, 101, 32, 119, 111, 114, 107, 32, 99, 97, 117, 115, 101, 32, 108, 101, 97, 110, 32, 111, 112, 101, 110, 32, 98, 101, 110, 100, 32, 107, 110, 111, 99, 107, 32, 104, 111, 111, 107, 115, 32, 112, 111, 115, 116, 32, 98, 114, 97, 99, 101, 32, 108, 97, 116, 99, 104, 32, 99, 104, 105, 108, 100, 32, 103, 97, 112, 32, 114, 105, 115, 101, 32, 104, 97, 115, 32, 117, 112, 32, 100, 111, 119, 110, 32, 115, 113, 117, 97, 114, 101, 32, 119, 105, 114, 101, 32, 119, 104, 101, 101, 108, 32, 115, 116, 111, 110, 101, 115, 32, 114, 101, 104, 97, 110, 103, 32, 112, 117, 108, 108, 32, 102, 105, 114, 109, 32, 100, 101, 101, 112, 32, 116, 104, 105, 99, 107, 32, 100, 114, 111, 112, 32, 119, 101, 101, 107, 32, 102, 97, 108, 108, 32, 97, 110, 100, 32, 111, 114, 32, 110, 111, 116, 32]
def wd_cos : List Int32 := [1000, 924, 707, 383, 0, (-383), (-707), (-924), (-1000)]
def wd_sin : List Int32 := [0, 383, 707, 924, 1000, 924, 707, 383, 0]
/-- the tables that lie still: the text's bytes, the angles -/
def lg_X0 : cv_X := fun j => match j with
  | 1 => some wd_ints
  | 4 => some wd_cos
  | 5 => some wd_sin
  | _ => none
def ob_11 : cv_C := cv_co 11 [cv_n, cv_i 0, cv_n, cv_n, cv_n, cv_n, cv_n, cv_n, cv_i 0, cv_n, cv_i 0, cv_n, cv_n, cv_n, cv_n, cv_n]
def ob_12 : cv_C := cv_co 12 [cv_n, cv_i 0, cv_i 0, cv_n, cv_i 0, cv_i 0, cv_i 0, cv_i 0, cv_i 0, cv_i 0, cv_i 0, cv_i 0, cv_i 0, cv_i 0, cv_i 0, cv_i 0, cv_i 0, cv_i 0, cv_i 0, cv_i 0, cv_i 0, cv_n, cv_n, cv_n, cv_n, cv_n, cv_n, cv_n, cv_n, cv_n, cv_n, cv_n, cv_n, cv_n, cv_n, cv_n, cv_n, cv_i 0, cv_i 0, cv_i 0, cv_i 0, cv_i 0, cv_i 0, cv_i 0, cv_n, cv_n, cv_n, cv_n, cv_i 0, cv_n, cv_i 0, cv_n, cv_i 0, cv_i 0, cv_n, cv_n, cv_n, cv_n, cv_n, cv_n, cv_n, cv_n, cv_n, cv_n, cv_n, cv_n, cv_i 0, cv_i 0, cv_n]
def hp_c : cv_H := [
  cv_co 11 [cv_r 1, cv_i 0, cv_r 2, cv_r 26, cv_r 50, cv_r 55, cv_r 59, cv_r 61, cv_i 0, cv_r 62, cv_i (-1), cv_r 63, cv_r 86, cv_r 95, cv_r 98, cv_r 99],
  cv_ci 1 (List.replicate 900 0),
  cv_co 4 [cv_r 3, cv_r 4, cv_i 0, cv_i 0, cv_r 5, cv_r 6, cv_r 7, cv_r 8, cv_r 9, cv_i 0, cv_r 10, cv_r 11, cv_r 12, cv_r 13, cv_i 0, cv_r 14, cv_r 15, cv_r 16, cv_r 17, cv_i 0],
  cv_ci 0 (List.replicate 12 50),
  cv_ci 0 (List.replicate 64 0),
  cv_ci 0 ([0, 0, 0, 0]),
  cv_ci 0 ([0, 0, 0, 0]),
  cv_ci 0 ([0, 0, 0, 0]),
  cv_cr 5 [some 18, some 20, some 22, some 24],
  cv_ci 0 ([0, 0, 0, 0]),
  cv_ci 0 (List.replicate 6 0),
  cv_ci 0 (List.replicate 6 0),
  cv_ci 0 (List.replicate 6 0),
  cv_ci 0 (List.replicate 6 0),
  cv_ci 0 (List.replicate 6 0),
  cv_ci 0 (List.replicate 6 0),
  cv_ci 0 (List.replicate 6 0),
  cv_ci 0 (List.replicate 6 0),
  cv_co 7 [cv_i 24, cv_i 24, cv_i 20, cv_i 6, cv_i 18, cv_i 0, cv_i 0, cv_i 36, cv_i 8, cv_i 0, cv_i 1000, cv_i 1000, cv_i 0, cv_i 3000, cv_i 0, cv_i 0, cv_r 19],
  cv_ci 0 (List.replicate 9 0),
  cv_co 7 [cv_i 24, cv_i 24, cv_i 20, cv_i 6, cv_i 18, cv_i 0, cv_i 0, cv_i 36, cv_i 8, cv_i 0, cv_i 1000, cv_i 1000, cv_i 0, cv_i 3000, cv_i 0, cv_i 0, cv_r 21],
  cv_ci 0 (List.replicate 9 0),
  cv_co 7 [cv_i 24, cv_i 24, cv_i 20, cv_i 6, cv_i 18, cv_i 0, cv_i 0, cv_i 36, cv_i 8, cv_i 0, cv_i 1000, cv_i 1000, cv_i 0, cv_i 3000, cv_i 0, cv_i 0, cv_r 23],
  cv_ci 0 (List.replicate 9 0),
  cv_co 7 [cv_i 24, cv_i 24, cv_i 20, cv_i 6, cv_i 18, cv_i 0, cv_i 0, cv_i 36, cv_i 8, cv_i 0, cv_i 1000, cv_i 1000, cv_i 0, cv_i 3000, cv_i 0, cv_i 0, cv_r 25],
  cv_ci 0 (List.replicate 9 0),
  cv_co 4 [cv_r 27, cv_r 28, cv_i 0, cv_i 0, cv_r 29, cv_r 30, cv_r 31, cv_r 32, cv_r 33, cv_i 0, cv_r 34, cv_r 35, cv_r 36, cv_r 37, cv_i 0, cv_r 38, cv_r 39, cv_r 40, cv_r 41, cv_i 0],
  cv_ci 0 (List.replicate 12 50),
  cv_ci 0 (List.replicate 64 0),
  cv_ci 0 ([0, 0, 0, 0]),
  cv_ci 0 ([0, 0, 0, 0]),
  cv_ci 0 ([0, 0, 0, 0]),
  cv_cr 5 [some 42, some 44, some 46, some 48],
  cv_ci 0 ([0, 0, 0, 0]),
  cv_ci 0 (List.replicate 6 0),
  cv_ci 0 (List.replicate 6 0),
  cv_ci 0 (List.replicate 6 0),
  cv_ci 0 (List.replicate 6 0),
  cv_ci 0 (List.replicate 6 0),
  cv_ci 0 (List.replicate 6 0),
  cv_ci 0 (List.replicate 6 0),
  cv_ci 0 (List.replicate 6 0),
  cv_co 7 [cv_i 24, cv_i 24, cv_i 20, cv_i 6, cv_i 18, cv_i 0, cv_i 0, cv_i 36, cv_i 8, cv_i 0, cv_i 1000, cv_i 1000, cv_i 0, cv_i 3000, cv_i 0, cv_i 0, cv_r 43],
  cv_ci 0 (List.replicate 9 0),
  cv_co 7 [cv_i 24, cv_i 24, cv_i 20, cv_i 6, cv_i 18, cv_i 0, cv_i 0, cv_i 36, cv_i 8, cv_i 0, cv_i 1000, cv_i 1000, cv_i 0, cv_i 3000, cv_i 0, cv_i 0, cv_r 45],
  cv_ci 0 (List.replicate 9 0),
  cv_co 7 [cv_i 24, cv_i 24, cv_i 20, cv_i 6, cv_i 18, cv_i 0, cv_i 0, cv_i 36, cv_i 8, cv_i 0, cv_i 1000, cv_i 1000, cv_i 0, cv_i 3000, cv_i 0, cv_i 0, cv_r 47],
  cv_ci 0 (List.replicate 9 0),
  cv_co 7 [cv_i 24, cv_i 24, cv_i 20, cv_i 6, cv_i 18, cv_i 0, cv_i 0, cv_i 36, cv_i 8, cv_i 0, cv_i 1000, cv_i 1000, cv_i 0, cv_i 3000, cv_i 0, cv_i 0, cv_r 49],
  cv_ci 0 (List.replicate 9 0),
  cv_co 5 [cv_r 51, cv_r 53, cv_r 26, cv_i 0, cv_i 0, cv_i (-1)],
  cv_co 6 [cv_r 1, cv_r 52, cv_i 0, cv_i 0, cv_i 0, cv_i 0, cv_i 0],
  cv_ci 0 ([254268868, 404455424, 236590080, 788081664, 102419616, 407943168, 520271872, 72814592, 384273760, 284667488, 553242624, 86019232, 404360448, 109359232, 236453888, 614044672, 270106624, 721420288, 150714368, 656049733, 781784064, 780309888, 659011763, 609486279, 559296512, 211366912, 139640832, 679775584, 153600000, 777169920, 202780672, 48365568, 522190848, 486146048]),
  cv_co 0 [cv_r 51, cv_r 54, cv_i 0, cv_i 0, cv_i 0, cv_i 0, cv_i 0, cv_r 26],
  cv_ci 0 (List.replicate 73 0),
  cv_co 2 [cv_r 56, cv_r 57, cv_r 58, cv_i (-1), cv_i 0],
  cv_cl (List.replicate 10 0),
  cv_cl (List.replicate 64 0),
  cv_ci 0 ([0, 0, 0]),
  cv_co 7 [cv_i 24, cv_i 24, cv_i 20, cv_i 6, cv_i 18, cv_i 0, cv_i 0, cv_i 36, cv_i 8, cv_i 0, cv_i 1000, cv_i 1000, cv_i 0, cv_i 3000, cv_i 0, cv_i 0, cv_r 60],
  cv_ci 0 (List.replicate 9 0),
  cv_cr 4 [some 103, some 105, some 107, some 109],
  cv_cr 4 [some 104, some 106, some 108, some 110],
  cv_co 10 [cv_r 64, cv_r 65, cv_i 0],
  cv_cr 4 [some 66, some 67, some 68, some 69, some 70, some 71, some 72, some 73, some 74, some 75, some 76, some 77, some 78, some 79, some 80, some 81, some 82, some 83, some 84, some 85],
  cv_ci 0 (List.replicate 20 0),
  cv_co 1 [cv_r 59, cv_i 0, cv_i 0, cv_i 0, cv_i 0, cv_i 0, cv_i 0, cv_i 0, cv_i 0, cv_i 0, cv_i 0, cv_i 0, cv_i 0, cv_i 0, cv_i 0, cv_i 0, cv_i 0],
  cv_co 1 [cv_r 59, cv_i 0, cv_i 0, cv_i 0, cv_i 0, cv_i 0, cv_i 0, cv_i 0, cv_i 0, cv_i 0, cv_i 0, cv_i 0, cv_i 0, cv_i 0, cv_i 0, cv_i 0, cv_i 0],
  cv_co 1 [cv_r 59, cv_i 0, cv_i 0, cv_i 0, cv_i 0, cv_i 0, cv_i 0, cv_i 0, cv_i 0, cv_i 0, cv_i 0, cv_i 0, cv_i 0, cv_i 0, cv_i 0, cv_i 0, cv_i 0],
  cv_co 1 [cv_r 59, cv_i 0, cv_i 0, cv_i 0, cv_i 0, cv_i 0, cv_i 0, cv_i 0, cv_i 0, cv_i 0, cv_i 0, cv_i 0, cv_i 0, cv_i 0, cv_i 0, cv_i 0, cv_i 0],
  cv_co 1 [cv_r 59, cv_i 0, cv_i 0, cv_i 0, cv_i 0, cv_i 0, cv_i 0, cv_i 0, cv_i 0, cv_i 0, cv_i 0, cv_i 0, cv_i 0, cv_i 0, cv_i 0, cv_i 0, cv_i 0],
  cv_co 1 [cv_r 59, cv_i 0, cv_i 0, cv_i 0, cv_i 0, cv_i 0, cv_i 0, cv_i 0, cv_i 0, cv_i 0, cv_i 0, cv_i 0, cv_i 0, cv_i 0, cv_i 0, cv_i 0, cv_i 0],
  cv_co 1 [cv_r 59, cv_i 0, cv_i 0, cv_i 0, cv_i 0, cv_i 0, cv_i 0, cv_i 0, cv_i 0, cv_i 0, cv_i 0, cv_i 0, cv_i 0, cv_i 0, cv_i 0, cv_i 0, cv_i 0],
  cv_co 1 [cv_r 59, cv_i 0, cv_i 0, cv_i 0, cv_i 0, cv_i 0, cv_i 0, cv_i 0, cv_i 0, cv_i 0, cv_i 0, cv_i 0, cv_i 0, cv_i 0, cv_i 0, cv_i 0, cv_i 0],
  cv_co 1 [cv_r 59, cv_i 0, cv_i 0, cv_i 0, cv_i 0, cv_i 0, cv_i 0, cv_i 0, cv_i 0, cv_i 0, cv_i 0, cv_i 0, cv_i 0, cv_i 0, cv_i 0, cv_i 0, cv_i 0],
  cv_co 1 [cv_r 59, cv_i 0, cv_i 0, cv_i 0, cv_i 0, cv_i 0, cv_i 0, cv_i 0, cv_i 0, cv_i 0, cv_i 0, cv_i 0, cv_i 0, cv_i 0, cv_i 0, cv_i 0, cv_i 0],
  cv_co 1 [cv_r 59, cv_i 0, cv_i 0, cv_i 0, cv_i 0, cv_i 0, cv_i 0, cv_i 0, cv_i 0, cv_i 0, cv_i 0, cv_i 0, cv_i 0, cv_i 0, cv_i 0, cv_i 0, cv_i 0],
  cv_co 1 [cv_r 59, cv_i 0, cv_i 0, cv_i 0, cv_i 0, cv_i 0, cv_i 0, cv_i 0, cv_i 0, cv_i 0, cv_i 0, cv_i 0, cv_i 0, cv_i 0, cv_i 0, cv_i 0, cv_i 0],
  cv_co 1 [cv_r 59, cv_i 0, cv_i 0, cv_i 0, cv_i 0, cv_i 0, cv_i 0, cv_i 0, cv_i 0, cv_i 0, cv_i 0, cv_i 0, cv_i 0, cv_i 0, cv_i 0, cv_i 0, cv_i 0],
  cv_co 1 [cv_r 59, cv_i 0, cv_i 0, cv_i 0, cv_i 0, cv_i 0, cv_i 0, cv_i 0, cv_i 0, cv_i 0, cv_i 0, cv_i 0, cv_i 0, cv_i 0, cv_i 0, cv_i 0, cv_i 0],
  cv_co 1 [cv_r 59, cv_i 0, cv_i 0, cv_i 0, cv_i 0, cv_i 0, cv_i 0, cv_i 0, cv_i 0, cv_i 0, cv_i 0, cv_i 0, cv_i 0, cv_i 0, cv_i 0, cv_i 0, cv_i 0],
  cv_co 1 [cv_r 59, cv_i 0, cv_i 0, cv_i 0, cv_i 0, cv_i 0, cv_i 0, cv_i 0, cv_i 0, cv_i 0, cv_i 0, cv_i 0, cv_i 0, cv_i 0, cv_i 0, cv_i 0, cv_i 0],
  cv_co 1 [cv_r 59, cv_i 0, cv_i 0, cv_i 0, cv_i 0, cv_i 0, cv_i 0, cv_i 0, cv_i 0, cv_i 0, cv_i 0, cv_i 0, cv_i 0, cv_i 0, cv_i 0, cv_i 0, cv_i 0],
  cv_co 1 [cv_r 59, cv_i 0, cv_i 0, cv_i 0, cv_i 0, cv_i 0, cv_i 0, cv_i 0, cv_i 0, cv_i 0, cv_i 0, cv_i 0, cv_i 0, cv_i 0, cv_i 0, cv_i 0, cv_i 0],
  cv_co 1 [cv_r 59, cv_i 0, cv_i 0, cv_i 0, cv_i 0, cv_i 0, cv_i 0, cv_i 0, cv_i 0, cv_i 0, cv_i 0, cv_i 0, cv_i 0, cv_i 0, cv_i 0, cv_i 0, cv_i 0],
  cv_co 1 [cv_r 59, cv_i 0, cv_i 0, cv_i 0, cv_i 0, cv_i 0, cv_i 0, cv_i 0, cv_i 0, cv_i 0, cv_i 0, cv_i 0, cv_i 0, cv_i 0, cv_i 0, cv_i 0, cv_i 0],
  cv_co 3 [cv_r 87, cv_r 88, cv_r 89, cv_r 90, cv_r 91, cv_r 92, cv_r 93, cv_r 94, cv_i 0, cv_i 0, cv_i (-1)],
  cv_ci 0 (List.replicate 40 0),
  cv_ci 0 (List.replicate 40 0),
  cv_ci 0 (List.replicate 40 0),
  cv_ci 0 (List.replicate 40 0),
  cv_ci 0 (List.replicate 40 0),
  cv_ci 0 (List.replicate 40 0),
  cv_ci 2 (List.replicate 40 0),
  cv_ci 0 (List.replicate 40 0),
  cv_co 8 [cv_r 96, cv_r 97, cv_i 0],
  cv_ci 0 (List.replicate 28 0),
  cv_co 1 [cv_r 59, cv_i 0, cv_i 0, cv_i 0, cv_i 0, cv_i 0, cv_i 0, cv_i 0, cv_i 0, cv_i 0, cv_i 0, cv_i 0, cv_i 0, cv_i 0, cv_i 0, cv_i 0, cv_i 0],
  cv_co 1 [cv_r 59, cv_i 0, cv_i 0, cv_i 0, cv_i 0, cv_i 0, cv_i 0, cv_i 0, cv_i 0, cv_i 0, cv_i 0, cv_i 0, cv_i 0, cv_i 0, cv_i 0, cv_i 0, cv_i 0],
  cv_co 9 [cv_r 100, cv_r 101, cv_r 102, cv_i 0],
  cv_ci 0 (List.replicate 16 0),
  cv_ci 0 ([0, 0, 0, 0]),
  cv_ci 0 ([0, 0, 0, 0]),
  cv_co 1 [cv_r 59, cv_i 0, cv_i 0, cv_i 0, cv_i 0, cv_i 0, cv_i 0, cv_i 0, cv_i 0, cv_i 0, cv_i 0, cv_i 0, cv_i 0, cv_i 0, cv_i 0, cv_i 0, cv_i 0],
  cv_co 1 [cv_r 59, cv_i 0, cv_i 0, cv_i 0, cv_i 0, cv_i 0, cv_i 0, cv_i 0, cv_i 0, cv_i 0, cv_i 0, cv_i 0, cv_i 0, cv_i 0, cv_i 0, cv_i 0, cv_i 0],
  cv_co 1 [cv_r 59, cv_i 0, cv_i 0, cv_i 0, cv_i 0, cv_i 0, cv_i 0, cv_i 0, cv_i 0, cv_i 0, cv_i 0, cv_i 0, cv_i 0, cv_i 0, cv_i 0, cv_i 0, cv_i 0],
  cv_co 1 [cv_r 59, cv_i 0, cv_i 0, cv_i 0, cv_i 0, cv_i 0, cv_i 0, cv_i 0, cv_i 0, cv_i 0, cv_i 0, cv_i 0, cv_i 0, cv_i 0, cv_i 0, cv_i 0, cv_i 0],
  cv_co 1 [cv_r 59, cv_i 0, cv_i 0, cv_i 0, cv_i 0, cv_i 0, cv_i 0, cv_i 0, cv_i 0, cv_i 0, cv_i 0, cv_i 0, cv_i 0, cv_i 0, cv_i 0, cv_i 0, cv_i 0],
  cv_co 1 [cv_r 59, cv_i 0, cv_i 0, cv_i 0, cv_i 0, cv_i 0, cv_i 0, cv_i 0, cv_i 0, cv_i 0, cv_i 0, cv_i 0, cv_i 0, cv_i 0, cv_i 0, cv_i 0, cv_i 0],
  cv_co 1 [cv_r 59, cv_i 0, cv_i 0, cv_i 0, cv_i 0, cv_i 0, cv_i 0, cv_i 0, cv_i 0, cv_i 0, cv_i 0, cv_i 0, cv_i 0, cv_i 0, cv_i 0, cv_i 0, cv_i 0],
  cv_co 1 [cv_r 59, cv_i 0, cv_i 0, cv_i 0, cv_i 0, cv_i 0, cv_i 0, cv_i 0, cv_i 0, cv_i 0, cv_i 0, cv_i 0, cv_i 0, cv_i 0, cv_i 0, cv_i 0, cv_i 0]]
def hp_d : cv_H := [
  cv_co 12 [cv_r 112, cv_i 0, cv_i 0, cv_r 113, cv_i 0, cv_i (-1), cv_i 0, cv_i 0, cv_i 0, cv_i 0, cv_i 0, cv_i 0, cv_i 0, cv_i 0, cv_i 0, cv_i 0, cv_i 0, cv_i 0, cv_i 0, cv_i 0, cv_i 0, cv_r 114, cv_r 115, cv_r 116, cv_r 117, cv_r 118, cv_r 119, cv_r 120, cv_r 121, cv_r 122, cv_r 123, cv_r 124, cv_r 125, cv_r 126, cv_r 127, cv_r 128, cv_r 129, cv_i 0, cv_i 0, cv_i 0, cv_i 0, cv_i 0, cv_i 0, cv_i 0, cv_r 130, cv_r 131, cv_r 132, cv_r 133, cv_i 0, cv_r 134, cv_i 0, cv_r 135, cv_i 0, cv_i (-1), cv_r 136, cv_r 137, cv_r 138, cv_r 139, cv_r 140, cv_r 141, cv_r 142, cv_r 143, cv_r 144, cv_r 145, cv_r 146, cv_r 147, cv_i 0, cv_i 0, cv_r 148],
  cv_ci 0 (List.replicate 900 0),
  cv_ci 0 ([103, 114, 111, 117, 110, 100, 32, 108, 97, 119, 32, 103, 97, 116, 101, 32, 119, 111, 114, 107, 32, 99, 97, 117, 115, 101, 32, 108, 101, 97, 110, 32, 111, 112, 101, 110, 32, 98, 101, 110, 100, 32, 107, 110, 111, 99, 107, 32, 104, 111, 111, 107, 115, 32, 112, 111, 115, 116, 32, 98, 114, 97, 99, 101, 32, 108, 97, 116, 99, 104, 32, 103, 97, 112, 32, 114, 105, 115, 101, 32, 104, 97, 115, 32, 115, 113, 117, 97, 114, 101, 32, 119, 105, 114, 101, 32, 119, 104, 101, 101, 108, 32, 115, 116, 111, 110, 101, 115, 32, 114, 101, 104, 97, 110, 103, 32, 97, 110, 100, 32, 111, 114, 32, 110, 111, 116, 32, 112, 117, 108, 108, 32, 102, 105, 114, 109, 32, 100, 101, 101, 112, 32, 116, 104, 105, 99, 107, 32, 117, 112, 32, 100, 111, 119, 110, 32, 100, 114, 111, 112, 32, 119, 101, 101, 107, 32, 99, 104, 105, 108, 100, 32, 102, 97, 108, 108, 32]),
  cv_ci 0 (List.replicate 24 50),
  cv_ci 0 (List.replicate 8 0),
  cv_ci 0 (List.replicate 8 0),
  cv_ci 2 (List.replicate 8 0),
  cv_ci 0 (List.replicate 8 0),
  cv_ci 0 (List.replicate 128 0),
  cv_ci 0 (List.replicate 72 0),
  cv_ci 0 (List.replicate 12 0),
  cv_ci 0 (List.replicate 36 0),
  cv_ci 0 (List.replicate 12 0),
  cv_ci 0 (List.replicate 36 0),
  cv_ci 0 (List.replicate 128 0),
  cv_ci 0 (List.replicate 128 0),
  cv_ci 0 (List.replicate 128 0),
  cv_ci 0 (List.replicate 96 0),
  cv_ci 0 (List.replicate 96 0),
  cv_ci 0 (List.replicate 64 0),
  cv_ci 0 (List.replicate 16 0),
  cv_cl (List.replicate 10 0),
  cv_cl (List.replicate 64 0),
  cv_cl ([0, 0, 0]),
  cv_ci 0 (List.replicate 340 0),
  cv_ci 0 (List.replicate 40 0),
  cv_ci 0 (List.replicate 40 0),
  cv_ci 0 (List.replicate 40 0),
  cv_ci 0 (List.replicate 40 0),
  cv_ci 0 (List.replicate 40 0),
  cv_ci 2 (List.replicate 40 0),
  cv_ci 0 (List.replicate 7 0),
  cv_ci 0 ([1000, 924, 707, 383, 0, (-383), (-707), (-924), (-1000)]),
  cv_ci 0 ([0, 383, 707, 924, 1000, 924, 707, 383, 0]),
  cv_ci 0 ([0, 0, 0, 0]),
  cv_ci 0 ([0, 0, 0, 0]),
  cv_ci 0 (List.replicate 64 0),
  cv_ci 0 (List.replicate 64 0)]
