/-! ===== a sign's number ===== -/
theorem tz_sk5 {t : Nat → Int} {n a : Nat} (h : (tz_s t n a).1 = 5) : 0 ≤ (tz_s t n a).2.1 ∧ (tz_s t n a).2.1 ≤ 5 := by
  revert h
  unfold tz_s
  (repeat' split) <;> intro h <;> first | (exfalso; simp at h; done) | (refine ⟨?_, ?_⟩ <;> dsimp only <;> omega)
theorem zk5 {t : Nat → Int} {n p : Nat} (h : zk t n p = 5) : 0 ≤ zw t n p ∧ zw t n p ≤ 5 := by
  unfold zk zw tz_T at *
  revert h
  unfold tz_tk
  (repeat' split) <;> intro h <;> first | exact tz_sk5 h | (exfalso; simp at h; done)
