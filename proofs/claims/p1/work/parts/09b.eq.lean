/-! ===== equality of abstract values, by program ===== -/
def av_vb (x y : av_V) : Bool := match x, y with
  | .inl none, .inl none => true
  | .inl (some a), .inl (some b) => a == b
  | .inr (.inl a), .inr (.inl b) => decide (a.1 = b.1) && decide (a.2 = b.2)
  | .inr (.inr (.inl a)), .inr (.inr (.inl b)) => decide (a.1 = b.1) && decide (a.2 = b.2)
  | .inr (.inr (.inr a)), .inr (.inr (.inr b)) => a == b
  | _, _ => false
theorem av_vb_ok {x y : av_V} (h : av_vb x y = true) : x = y := by
  unfold av_vb at h
  split at h
  · rfl
  · simp only [beq_iff_eq] at h
    rw [h]
  · rename_i a b
    obtain ⟨a1, a2⟩ := a
    obtain ⟨b1, b2⟩ := b
    simp only [Bool.and_eq_true, decide_eq_true_eq] at h
    rw [h.1, h.2]
  · rename_i a b
    obtain ⟨a1, a2⟩ := a
    obtain ⟨b1, b2⟩ := b
    simp only [Bool.and_eq_true, decide_eq_true_eq] at h
    rw [h.1, h.2]
  · simp only [beq_iff_eq] at h
    rw [h]
  · cases h
def av_lb : List av_V → List av_V → Bool
  | [], [] => true
  | x :: l, y :: r => av_vb x y && av_lb l r
  | _, _ => false
theorem av_lb_ok : ∀ {l r : List av_V}, av_lb l r = true → l = r
  | [], [], _ => rfl
  | x :: l, y :: r, h => by
    simp only [av_lb, Bool.and_eq_true] at h
    rw [av_vb_ok h.1, av_lb_ok h.2]
  | [], _ :: _, h => by cases h
  | _ :: _, [], h => by cases h
def av_cb (x y : av_C) : Bool := match x, y with
  | .inl (t, l), .inl (u, r) => (t == u) && av_lb l r
  | .inr (t, l), .inr (u, r) => (t == u) && av_lb l r
  | _, _ => false
theorem av_cb_ok {x y : av_C} (h : av_cb x y = true) : x = y := by
  unfold av_cb at h
  split at h
  · simp only [Bool.and_eq_true, beq_iff_eq] at h
    rw [h.1, av_lb_ok h.2]
  · simp only [Bool.and_eq_true, beq_iff_eq] at h
    rw [h.1, av_lb_ok h.2]
  · cases h
def av_hb : av_H → av_H → Bool
  | [], [] => true
  | x :: l, y :: r => av_cb x y && av_hb l r
  | _, _ => false
theorem av_hb_ok : ∀ {l r : av_H}, av_hb l r = true → l = r
  | [], [], _ => rfl
  | x :: l, y :: r, h => by
    simp only [av_hb, Bool.and_eq_true] at h
    rw [av_cb_ok h.1, av_hb_ok h.2]
  | [], _ :: _, h => by cases h
  | _ :: _, [], h => by cases h
/-- a run that returns nothing, and its heap -/
def av_isv (r : Option av_O) (h : av_H) : Bool := match r with
  | some [(none, h')] => av_hb h' h
  | _ => false
theorem av_isv_ok {r : Option av_O} {h : av_H} (q : av_isv r h = true) : r = some [(none, h)] := by
  unfold av_isv at q
  split at q
  · rw [av_hb_ok q]
  · cases q
/-- every end of a run answers 1 -/
def lw_ends (r : Option av_O) : Bool := match r with
  | some o => o.all (fun x => match x.1 with
    | some v => av_vb v (av_i (1, 1))
    | none => false)
  | none => false
theorem lw_ends_ok {r : Option av_O} (q : lw_ends r = true) : ∃ o, r = some o ∧ ∀ x ∈ o, x.1 = some (av_i (1, 1)) := by
  unfold lw_ends at q
  split at q
  · rename_i o
    refine ⟨o, rfl, fun x hx => ?_⟩
    have := List.all_eq_true.mp q x hx
    split at this
    · rename_i v hv
      rw [hv, av_vb_ok this]
    · cases this
  · cases q
