/-! ===== what the check's words mean ===== -/
def cw_tg (G : Int) (t : Nat) (z : Int) : Prop := (t = 1 → z ≠ 0) ∧ (t = 2 → 0 ≤ z ∧ z < G) ∧ (t = 3 → z = G) ∧ (16 ≤ t → z % (cw_md t : Int) = (cw_rs t : Int))
def cw_wok (G : Int) (w : cw_W) (z : Int) : Prop := w.1 ≤ z ∧ z ≤ w.2.1 ∧ cw_tg G w.2.2 z
def cw_ga (G : Int) (sh : List Nat) (a : cw_A) (v : cv_V) : Prop := match a with
  | .inl w => ∃ x, v = cv_i x ∧ cw_wok G w x.toInt
  | .inr (.inl w) => ∃ x, v = cv_l x ∧ cw_wok G w x.toInt
  | .inr (.inr d) => (d < 1000 ∧ ∃ k, v = cv_r k ∧ sh[k]? = some d) ∨ ∃ j, d = 1000 + j ∧ v = cv_s j
theorem cw_le_iff {a b : Int} : cw_le a b = true ↔ a ≤ b := by unfold cw_le; exact decide_eq_true_iff
theorem cw_le_no {a b : Int} : cw_le a b = false ↔ ¬ a ≤ b := by unfold cw_le; exact decide_eq_false_iff_not
theorem cw_tg0 {G z : Int} : cw_tg G 0 z := ⟨fun h => absurd h (by omega), fun h => absurd h (by omega), fun h => absurd h (by omega), fun h => absurd h (by omega)⟩
theorem cw_i32 (n : Int32) : -2147483648 ≤ n.toInt ∧ n.toInt ≤ 2147483647 := by
  have h1 := n.toInt_lt
  have h2 := n.le_toInt
  omega
theorem cw_i64 (n : Int64) : -9223372036854775808 ≤ n.toInt ∧ n.toInt ≤ 9223372036854775807 := by
  have h1 := n.toInt_lt
  have h2 := n.le_toInt
  omega
theorem cw_top_ok {G : Int} (n : Int32) : cw_wok G cw_top n.toInt := ⟨(cw_i32 n).1, (cw_i32 n).2, cw_tg0⟩
theorem cw_topL_ok {G : Int} (n : Int64) : cw_wok G cw_topL n.toInt := ⟨(cw_i64 n).1, (cw_i64 n).2, cw_tg0⟩
theorem cw_mn_le {a b z : Int} (h1 : z ≤ a) (h2 : z ≤ b) : z ≤ cw_mn a b := by unfold cw_mn; cases cw_le a b <;> assumption
theorem cw_le_mx {a b z : Int} (h1 : a ≤ z) (h2 : b ≤ z) : cw_mx a b ≤ z := by unfold cw_mx; cases cw_le a b <;> assumption
theorem cw_mn_l {a b : Int} : cw_mn a b ≤ a := by
  unfold cw_mn; cases h : cw_le a b
  · rw [cw_le_no] at h; simp; omega
  · exact Int.le_refl _
theorem cw_mn_r {a b : Int} : cw_mn a b ≤ b := by
  unfold cw_mn; cases h : cw_le a b
  · exact Int.le_refl _
  · rw [cw_le_iff] at h; exact h
theorem cw_mx_l {a b : Int} : a ≤ cw_mx a b := by
  unfold cw_mx; cases h : cw_le a b
  · exact Int.le_refl _
  · rw [cw_le_iff] at h; exact h
theorem cw_mx_r {a b : Int} : b ≤ cw_mx a b := by
  unfold cw_mx; cases h : cw_le a b
  · rw [cw_le_no] at h; simp; omega
  · exact Int.le_refl _
theorem cw_bm {z : Int} (h : -2147483648 ≤ z) (h2 : z ≤ 2147483647) : z.bmod (2 ^ 32) = z := by
  rw [Int.bmod_def]; split <;> omega
theorem cw_bmL {z : Int} (h : -9223372036854775808 ≤ z) (h2 : z ≤ 9223372036854775807) : z.bmod (2 ^ 64) = z := by
  rw [Int.bmod_def]; split <;> omega
theorem cw_wr_ok {G lo hi z : Int} {t : Nat} {r : Int32} (hr : r.toInt = z.bmod (2 ^ 32)) (h1 : lo ≤ z) (h2 : z ≤ hi) (ht : cw_tg G t z) : cw_wok G (cw_wr lo hi t) r.toInt := by
  unfold cw_wr
  cases h : (cw_le (-2147483648) lo && cw_le hi 2147483647) with
  | false => exact cw_top_ok r
  | true =>
    simp only [Bool.and_eq_true, cw_le_iff] at h
    rw [cond_true, hr, cw_bm (by omega) (by omega)]
    exact ⟨h1, h2, ht⟩
theorem cw_wrL_ok {G lo hi z : Int} {r : Int64} (hr : r.toInt = z.bmod (2 ^ 64)) (h1 : lo ≤ z) (h2 : z ≤ hi) : cw_wok G (cw_wrL lo hi) r.toInt := by
  unfold cw_wrL
  cases h : (cw_le (-9223372036854775808) lo && cw_le hi 9223372036854775807) with
  | false => exact cw_topL_ok r
  | true =>
    simp only [Bool.and_eq_true, cw_le_iff] at h
    rw [cond_true, hr, cw_bmL (by omega) (by omega)]
    exact ⟨h1, h2, cw_tg0⟩
theorem cw_nz_ok {G : Int} {w : cw_W} {z : Int} (h : cw_nz w = true) (hw : cw_wok G w z) : z ≠ 0 := by
  unfold cw_nz at h
  simp only [Bool.or_eq_true, cw_le_iff, beq_iff_eq] at h
  obtain ⟨h1, h2, h3⟩ := hw
  rcases h with h | h | h
  · omega
  · omega
  · exact h3.1 h
theorem cw_cst_ok {G : Int} {w : cw_W} {z : Int} (h : cw_cst w = true) (hw : cw_wok G w z) : z = w.1 := by
  unfold cw_cst at h
  simp only [decide_eq_true_eq] at h
  obtain ⟨h1, h2, -⟩ := hw
  omega
theorem cw_mdrs (m r : Nat) (hr : r < 64) : cw_md (16 + 64 * m + r) = m ∧ cw_rs (16 + 64 * m + r) = r := by
  unfold cw_md cw_rs
  constructor <;> omega
theorem cw_tg_md {G z : Int} {m r : Nat} (hm : 1 ≤ m) (hr : r < 64) (h : z % (m : Int) = (r : Int)) : cw_tg G (16 + 64 * m + r) z := by
  refine ⟨fun h => by omega, fun h => by omega, fun h => by omega, fun _ => ?_⟩
  rw [(cw_mdrs m r hr).1, (cw_mdrs m r hr).2]
  exact h
theorem cw_tg_add {G : Int} {t : Nat} {z c : Int} (ht : cw_tg G t z) (hm : cw_mok t = true) (hc : 0 ≤ c) : cw_tg G (16 + 64 * cw_md t + (cw_rs t + c.toNat) % cw_md t) (z + c) := by
  unfold cw_mok at hm
  simp only [Bool.and_eq_true, Nat.ble_eq] at hm
  obtain ⟨h1, h2, h3⟩ := hm
  have h4 := ht.2.2.2 h1
  have h5 : (cw_rs t + c.toNat) % cw_md t < cw_md t := Nat.mod_lt _ (by omega)
  refine cw_tg_md h2 (by omega) ?_
  have e : ((cw_rs t + c.toNat) % cw_md t : Nat) = ((z % (cw_md t : Int) + c) % (cw_md t : Int)) := by
    rw [h4, Int.natCast_emod, Int.natCast_add, Int.toNat_of_nonneg hc]
  rw [e, Int.emod_add_emod]
theorem cw_tadd_ok {G : Int} {x y : cw_W} {a b : Int} (hx : cw_wok G x a) (hy : cw_wok G y b) : cw_tg G (cw_tadd x y) (a + b) := by
  unfold cw_tadd
  cases h1 : (cw_cst y && (cw_le 0 y.1 && cw_mok x.2.2)) with
  | true =>
    simp only [Bool.and_eq_true, cw_le_iff] at h1
    rw [cond_true, cw_cst_ok h1.1 hy]
    exact cw_tg_add hx.2.2 h1.2.2 h1.2.1
  | false =>
    rw [cond_false]
    cases h2 : (cw_cst x && (cw_le 0 x.1 && cw_mok y.2.2)) with
    | true =>
      simp only [Bool.and_eq_true, cw_le_iff] at h2
      rw [cond_true, cw_cst_ok h2.1 hx, Int.add_comm]
      exact cw_tg_add hy.2.2 h2.2.2 h2.2.1
    | false => exact cw_tg0
theorem cw_tmul_ok {G : Int} {x y : cw_W} {a b : Int} (hx : cw_wok G x a) (hy : cw_wok G y b) : cw_tg G (cw_tmul x y) (a * b) := by
  unfold cw_tmul
  cases h1 : (cw_cst y && (cw_le 2 y.1 && cw_le y.1 63)) with
  | true =>
    simp only [Bool.and_eq_true, cw_le_iff] at h1
    rw [cond_true, cw_cst_ok h1.1 hy]
    refine cw_tg_md (r := 0) (by omega) (by omega) ?_
    rw [Int.toNat_of_nonneg (by omega), Int.mul_emod_left]
    rfl
  | false =>
    rw [cond_false]
    cases h2 : (cw_cst x && (cw_le 2 x.1 && cw_le x.1 63)) with
    | true =>
      simp only [Bool.and_eq_true, cw_le_iff] at h2
      rw [cond_true, cw_cst_ok h2.1 hx]
      refine cw_tg_md (r := 0) (by omega) (by omega) ?_
      rw [Int.toNat_of_nonneg (by omega), Int.mul_emod_right]
      rfl
    | false => exact cw_tg0
theorem cw_mul_b {a b x y : cw_W} {X Y : Int} (h1 : 0 ≤ x.1) (h2 : 0 ≤ y.1) (hx : x.1 ≤ X ∧ X ≤ x.2.1) (hy : y.1 ≤ Y ∧ Y ≤ y.2.1) : x.1 * y.1 ≤ X * Y ∧ X * Y ≤ x.2.1 * y.2.1 :=
  ⟨Int.mul_le_mul hx.1 hy.1 h2 (by omega), Int.mul_le_mul hx.2 hy.2 (by omega) (by omega)⟩
theorem cw_and_ok {x y : Int32} (h : 0 ≤ y.toInt) : 0 ≤ (x &&& y).toInt ∧ (x &&& y).toInt ≤ y.toInt := by
  have e : (x &&& y).toInt = (x.toBitVec &&& y.toBitVec).toInt := rfl
  have e2 : y.toInt = y.toBitVec.toInt := rfl
  rw [e, BitVec.toInt_and]
  have h3 : y.toBitVec.toInt = y.toBitVec.toNat := by
    have := BitVec.toInt_eq_toNat_cond y.toBitVec
    rw [e2] at h
    rw [this] at h ⊢
    split
    · rfl
    · rename_i q
      rw [if_neg q] at h
      have := y.toBitVec.isLt
      omega
  have h4 : x.toBitVec.toNat &&& y.toBitVec.toNat ≤ y.toBitVec.toNat := Nat.and_le_right
  have h5 := (cw_i32 y).2
  rw [e2, h3] at h5
  rw [e2, h3]
  generalize x.toBitVec.toNat &&& y.toBitVec.toNat = g at h4
  have : ((g : Nat) : Int).bmod (2 ^ 32) = g := cw_bm (by omega) (by omega)
  rw [this]
  omega
theorem cw_and_c (x y : Int32) : x &&& y = y &&& x := Int32.and_comm x y
theorem cw_ne0 {y : Int32} (h : y.toInt ≠ 0) : ¬ y = 0 := fun e => h (by rw [e]; rfl)
theorem cw_ne0L {y : Int64} (h : y.toInt ≠ 0) : ¬ y = 0 := fun e => h (by rw [e]; rfl)
theorem cw_div_b {X Y b c : Int} (h1 : 0 ≤ X) (h2 : 1 ≤ c) (h3 : X ≤ b) (h4 : c ≤ Y) : 0 ≤ X.tdiv Y ∧ X.tdiv Y ≤ b / c := by
  rw [Int.tdiv_eq_ediv_of_nonneg h1]
  refine ⟨Int.ediv_nonneg h1 (by omega), ?_⟩
  refine Int.le_ediv_of_mul_le (by omega) ?_
  have e1 : X / Y * c ≤ X / Y * Y := Int.mul_le_mul_of_nonneg_left h4 (Int.ediv_nonneg h1 (by omega))
  have e2 : X / Y * Y ≤ X := Int.ediv_mul_le X (by omega)
  omega
theorem cw_rem_b {x y : Int32} (h1 : 0 ≤ x.toInt) (h2 : 1 ≤ y.toInt) : 0 ≤ (x - x / y * y).toInt ∧ (x - x / y * y).toInt ≤ y.toInt - 1 := by
  have hb := cw_i32 x
  have hy := cw_i32 y
  have hd := cw_div_b (b := x.toInt) (c := 1) h1 (by omega) (Int.le_refl _) h2
  rw [Int.ediv_one] at hd
  have e1 : (x / y).toInt = x.toInt.tdiv y.toInt := by rw [Int32.toInt_div, cw_bm (by omega) (by omega)]
  have e2 : x.toInt.tdiv y.toInt * y.toInt ≤ x.toInt := by
    rw [Int.tdiv_eq_ediv_of_nonneg h1]; exact Int.ediv_mul_le _ (by omega)
  have e3 : 0 ≤ x.toInt.tdiv y.toInt * y.toInt := Int.mul_nonneg hd.1 (by omega)
  have e4 : (x / y * y).toInt = x.toInt.tdiv y.toInt * y.toInt := by rw [Int32.toInt_mul, e1, cw_bm (by omega) (by omega)]
  rw [Int32.toInt_sub, e4, cw_bm (by omega) (by omega)]
  have e5 : x.toInt - x.toInt.tdiv y.toInt * y.toInt = x.toInt % y.toInt := by
    rw [Int.tdiv_eq_ediv_of_nonneg h1, Int.emod_def, Int.mul_comm]
  rw [e5]
  exact ⟨Int.emod_nonneg _ (by omega), by have := Int.emod_lt_of_pos x.toInt (b := y.toInt) (by omega); omega⟩
theorem cw_bin_ok {G : Int} {i : Instr} {x y w : cw_W} {a b : Int32} (h : cw_bin i x y = some w) (hx : cw_wok G x a.toInt) (hy : cw_wok G y b.toInt) : ∃ f r, cv_bin i = some f ∧ f a b = some r ∧ cw_wok G w r.toInt := by
  cases i
  all_goals first | (cases h; done) | skip
  case iadd =>
    cases h
    exact ⟨_, a + b, rfl, rfl, cw_wr_ok (Int32.toInt_add a b) (by have := hx.1; have := hy.1; omega) (by have := hx.2.1; have := hy.2.1; omega) (cw_tadd_ok hx hy)⟩
  case isub =>
    cases h
    exact ⟨_, a - b, rfl, rfl, cw_wr_ok (Int32.toInt_sub a b) (by have := hx.1; have := hy.2.1; omega) (by have := hx.2.1; have := hy.1; omega) cw_tg0⟩
  case imul =>
    cases h
    refine ⟨_, a * b, rfl, rfl, ?_⟩
    cases hc : (cw_le 0 x.1 && cw_le 0 y.1) with
    | false => exact cw_top_ok _
    | true =>
      simp only [Bool.and_eq_true, cw_le_iff] at hc
      have := cw_mul_b (a := x) (b := x) hc.1 hc.2 ⟨hx.1, hx.2.1⟩ ⟨hy.1, hy.2.1⟩
      exact cw_wr_ok (Int32.toInt_mul a b) this.1 this.2 (cw_tmul_ok hx hy)
  case iand =>
    cases h
    refine ⟨_, a &&& b, rfl, rfl, ?_⟩
    cases hc : cw_le 0 y.1 with
    | true =>
      rw [cw_le_iff] at hc
      have h1 := cw_and_ok (x := a) (y := b) (by have := hy.1; omega)
      exact ⟨h1.1, by have := hy.2.1; show _ ≤ y.2.1; omega, cw_tg0⟩
    | false =>
      rw [cond_false]
      cases hc2 : cw_le 0 x.1 with
      | true =>
        rw [cw_le_iff] at hc2
        have h1 := cw_and_ok (x := b) (y := a) (by have := hx.1; omega)
        rw [cw_and_c b a] at h1
        exact ⟨h1.1, by have := hx.2.1; show _ ≤ x.2.1; omega, cw_tg0⟩
      | false => exact cw_top_ok _
  case ior => cases h; exact ⟨_, _, rfl, rfl, cw_top_ok _⟩
  case ishl => cases h; exact ⟨_, _, rfl, rfl, cw_top_ok _⟩
  case ishr => cases h; exact ⟨_, _, rfl, rfl, cw_top_ok _⟩
  case iushr => cases h; exact ⟨_, _, rfl, rfl, cw_top_ok _⟩
  case idiv =>
    replace h : (bif cw_nz y then some (bif cw_le 1 y.1 && cw_le 0 x.1 then (0, x.2.1 / y.1, 0) else cw_top) else none) = some w := h
    obtain ⟨hn, h⟩ := cv_bif h
    cases h
    refine ⟨_, a / b, rfl, if_neg (cw_ne0 (cw_nz_ok hn hy)), ?_⟩
    cases hc : (cw_le 1 y.1 && cw_le 0 x.1) with
    | false => exact cw_top_ok _
    | true =>
      simp only [Bool.and_eq_true, cw_le_iff] at hc
      have h1 := cw_div_b (X := a.toInt) (Y := b.toInt) (b := x.2.1) (c := y.1) (by have := hx.1; omega) hc.1 hx.2.1 hy.1
      have h2 := cw_div_b (X := a.toInt) (Y := b.toInt) (b := a.toInt) (c := 1) (by have := hx.1; omega) (by omega) (Int.le_refl _) (by have := hy.1; omega)
      rw [Int.ediv_one] at h2
      have h3 := cw_i32 a
      rw [Int32.toInt_div, cw_bm (by omega) (by omega)]
      exact ⟨h1.1, h1.2, cw_tg0⟩
  case irem =>
    replace h : (bif cw_le 1 y.1 && cw_le 0 x.1 then some (0, y.2.1 - 1, 0) else none) = some w := h
    obtain ⟨hc, h⟩ := cv_bif h
    cases h
    simp only [Bool.and_eq_true, cw_le_iff] at hc
    have h1 := cw_rem_b (x := a) (y := b) (by have := hx.1; omega) (by have := hy.1; omega)
    refine ⟨_, a - a / b * b, rfl, if_neg (cw_ne0 (by have := hy.1; omega)), h1.1, ?_, cw_tg0⟩
    have := hy.2.1
    show _ ≤ y.2.1 - 1
    omega
theorem cw_binL_ok {G : Int} {i : Instr} {x y w : cw_W} {a b : Int64} (h : cw_binL i x y = some w) (hx : cw_wok G x a.toInt) (hy : cw_wok G y b.toInt) : ∃ f r, cv_binL i = some f ∧ f a b = some r ∧ cw_wok G w r.toInt := by
  cases i
  all_goals first | (cases h; done) | skip
  case ladd => cases h; exact ⟨_, _, rfl, rfl, cw_topL_ok _⟩
  case lsub => cases h; exact ⟨_, _, rfl, rfl, cw_topL_ok _⟩
  case land => cases h; exact ⟨_, _, rfl, rfl, cw_topL_ok _⟩
  case lmul =>
    cases h
    refine ⟨_, a * b, rfl, rfl, ?_⟩
    cases hc : (cw_le 0 x.1 && cw_le 0 y.1) with
    | false => exact cw_topL_ok _
    | true =>
      simp only [Bool.and_eq_true, cw_le_iff] at hc
      have := cw_mul_b (a := x) (b := x) hc.1 hc.2 ⟨hx.1, hx.2.1⟩ ⟨hy.1, hy.2.1⟩
      exact cw_wrL_ok (Int64.toInt_mul a b) this.1 this.2
  case ldiv =>
    replace h : (bif cw_nz y then some cw_topL else none) = some w := h
    obtain ⟨hn, h⟩ := cv_bif h
    cases h
    exact ⟨_, a / b, rfl, if_neg (cw_ne0L (cw_nz_ok hn hy)), cw_topL_ok _⟩
  case lrem =>
    replace h : (bif cw_nz y then some cw_topL else none) = some w := h
    obtain ⟨hn, h⟩ := cv_bif h
    cases h
    exact ⟨_, a - a / b * b, rfl, if_neg (cw_ne0L (cw_nz_ok hn hy)), cw_topL_ok _⟩
/-! comparisons, over the numbers themselves -/
def cw_cmpZ (c : Jvm.ClassFile.Cond) (x y : Int) : Prop := match c with
  | .lt => x < y
  | .ge => y ≤ x
  | .gt => y < x
  | .le => x ≤ y
  | .eq => x = y
  | .ne => ¬ x = y
theorem cw_cmp_Z {c : Jvm.ClassFile.Cond} {x y : Int32} : cv_cmp c x y = true ↔ cw_cmpZ c x.toInt y.toInt := by
  cases c
  · simp only [cv_cmp, cw_cmpZ, decide_eq_true_eq, ← Int32.toInt_inj]
  · simp only [cv_cmp, cw_cmpZ, Bool.not_eq_true', decide_eq_false_iff_not, ← Int32.toInt_inj]
  · simp only [cv_cmp, cw_cmpZ, decide_eq_true_eq, Int32.lt_iff_toInt_lt]
  · simp only [cv_cmp, cw_cmpZ, decide_eq_true_eq, Int32.le_iff_toInt_le]
  · simp only [cv_cmp, cw_cmpZ, decide_eq_true_eq, Int32.lt_iff_toInt_lt]
  · simp only [cv_cmp, cw_cmpZ, decide_eq_true_eq, Int32.le_iff_toInt_le]
theorem cw_neg_Z {c : Jvm.ClassFile.Cond} {x y : Int} : ¬ cw_cmpZ c x y ↔ cw_cmpZ (cw_neg c) x y := by
  cases c <;> simp only [cw_cmpZ, cw_neg] <;> omega
theorem cw_ok2_ok {G : Int} {x y : cw_W} {a b : Int} (hx : cw_wok G x a) (hy : cw_wok G y b) : cw_ok2 x y = some (x, y) := by
  unfold cw_ok2
  have h1 : cw_le x.1 x.2.1 = true := by rw [cw_le_iff]; have := hx.1; have := hx.2.1; omega
  have h2 : cw_le y.1 y.2.1 = true := by rw [cw_le_iff]; have := hy.1; have := hy.2.1; omega
  rw [h1, h2]
  rfl
theorem cw_lt_ok {G : Int} {x y : cw_W} {a b : Int} (hx : cw_wok G x a) (hy : cw_wok G y b) (h : a < b) : ∃ x' y', cw_lt x y = some (x', y') ∧ cw_wok G x' a ∧ cw_wok G y' b := by
  obtain ⟨x1, x2, x3⟩ := hx
  obtain ⟨y1, y2, y3⟩ := hy
  have hx' : cw_wok G (x.1, cw_mn x.2.1 (y.2.1 - 1), bif y.2.2 == 3 && cw_le 0 x.1 then 2 else x.2.2) a := by
    refine ⟨x1, cw_mn_le x2 (by omega), ?_⟩
    cases hc : (y.2.2 == 3 && cw_le 0 x.1) with
    | false => exact x3
    | true =>
      simp only [Bool.and_eq_true, beq_iff_eq, cw_le_iff] at hc
      have := y3.2.2.1 hc.1
      show cw_tg G 2 a
      exact ⟨fun h => absurd h (by omega), fun _ => ⟨by omega, by omega⟩, fun h => absurd h (by omega), fun h => absurd h (by omega)⟩
  have hy' : cw_wok G (cw_mx y.1 (x.1 + 1), y.2.1, y.2.2) b := ⟨cw_le_mx y1 (by omega), y2, y3⟩
  exact ⟨_, _, cw_ok2_ok hx' hy', hx', hy'⟩
theorem cw_lq_ok {G : Int} {x y : cw_W} {a b : Int} (hx : cw_wok G x a) (hy : cw_wok G y b) (h : a ≤ b) : ∃ x' y', cw_lq x y = some (x', y') ∧ cw_wok G x' a ∧ cw_wok G y' b := by
  obtain ⟨x1, x2, x3⟩ := hx
  obtain ⟨y1, y2, y3⟩ := hy
  have hx' : cw_wok G (x.1, cw_mn x.2.1 y.2.1, x.2.2) a := ⟨x1, cw_mn_le x2 (by omega), x3⟩
  have hy' : cw_wok G (cw_mx y.1 x.1, y.2.1, y.2.2) b := ⟨cw_le_mx y1 (by omega), y2, y3⟩
  exact ⟨_, _, cw_ok2_ok hx' hy', hx', hy'⟩
theorem cw_cond_ok {G : Int} {c : Jvm.ClassFile.Cond} {x y : cw_W} {a b : Int} (hx : cw_wok G x a) (hy : cw_wok G y b) (h : cw_cmpZ c a b) : ∃ x' y', cw_cond c x y = some (x', y') ∧ cw_wok G x' a ∧ cw_wok G y' b := by
  cases c
  case lt => exact cw_lt_ok hx hy h
  case le => exact cw_lq_ok hx hy h
  case gt =>
    obtain ⟨x', y', h1, h2, h3⟩ := cw_lt_ok hy hx h
    exact ⟨y', x', by show cw_sw (cw_lt y x) = _; rw [h1]; rfl, h3, h2⟩
  case ge =>
    obtain ⟨x', y', h1, h2, h3⟩ := cw_lq_ok hy hx h
    exact ⟨y', x', by show cw_sw (cw_lq y x) = _; rw [h1]; rfl, h3, h2⟩
  case eq =>
    replace h : a = b := h
    subst h
    obtain ⟨x1, x2, x3⟩ := hx
    obtain ⟨y1, y2, y3⟩ := hy
    have hx' : cw_wok G (cw_mx x.1 y.1, cw_mn x.2.1 y.2.1, x.2.2) a := ⟨cw_le_mx x1 y1, cw_mn_le x2 y2, x3⟩
    have hy' : cw_wok G (cw_mx x.1 y.1, cw_mn x.2.1 y.2.1, y.2.2) a := ⟨cw_le_mx x1 y1, cw_mn_le x2 y2, y3⟩
    exact ⟨_, _, cw_ok2_ok hx' hy', hx', hy'⟩
  case ne =>
    replace h : ¬ a = b := h
    show ∃ x' y', (bif cw_cst y then _ else _) = _ ∧ _
    cases hc : cw_cst y with
    | false => exact ⟨_, _, rfl, hx, hy⟩
    | true =>
      have hb := cw_cst_ok hc hy
      subst hb
      obtain ⟨x1, x2, x3⟩ := hx
      have hx' : cw_wok G ((bif decide (x.1 = y.1) then x.1 + 1 else x.1), (bif decide (x.2.1 = y.1) then x.2.1 - 1 else x.2.1), (bif x.2.2 == 0 && decide (y.1 = 0) then 1 else x.2.2)) a := by
        refine ⟨?_, ?_, ?_⟩
        · dsimp only
          cases h1 : decide (x.1 = y.1) with
          | false => exact x1
          | true => simp only [decide_eq_true_eq] at h1; show x.1 + 1 ≤ a; omega
        · dsimp only
          cases h1 : decide (x.2.1 = y.1) with
          | false => exact x2
          | true => simp only [decide_eq_true_eq] at h1; show a ≤ x.2.1 - 1; omega
        · dsimp only
          cases h1 : (x.2.2 == 0 && decide (y.1 = 0)) with
          | false => exact x3
          | true =>
            simp only [Bool.and_eq_true, decide_eq_true_eq] at h1
            show cw_tg G 1 a
            exact ⟨fun _ => by omega, fun h => absurd h (by omega), fun h => absurd h (by omega), fun h => absurd h (by omega)⟩
      exact ⟨_, _, cw_ok2_ok hx' hy, hx', hy⟩
theorem cw_sub_w {G : Int} {x y : cw_W} {z : Int} (h : (cw_le y.1 x.1 && (cw_le x.2.1 y.2.1 && (y.2.2 == 0 || (y.2.2 == x.2.2 || (y.2.2 == 1 && cw_nz x))))) = true) (hx : cw_wok G x z) : cw_wok G y z := by
  simp only [Bool.and_eq_true, Bool.or_eq_true, cw_le_iff, beq_iff_eq] at h
  obtain ⟨h1, h2, h3⟩ := h
  refine ⟨by have := hx.1; omega, by have := hx.2.1; omega, ?_⟩
  rcases h3 with h3 | h3 | ⟨h3, h4⟩
  · rw [h3]; exact cw_tg0
  · rw [h3]; exact hx.2.2
  · rw [h3]
    exact ⟨fun _ => cw_nz_ok h4 hx, fun h => absurd h (by omega), fun h => absurd h (by omega), fun h => absurd h (by omega)⟩
theorem cw_sub_ok {G : Int} {sh : List Nat} {a b : cw_A} {v : cv_V} (h : cw_sub a b = true) (ha : cw_ga G sh a v) : cw_ga G sh b v := by
  rcases a with x | x | d <;> rcases b with y | y | d' <;> first | (cases h; done) | skip
  · obtain ⟨n, rfl, hn⟩ := ha
    exact ⟨n, rfl, cw_sub_w h hn⟩
  · obtain ⟨n, rfl, hn⟩ := ha
    exact ⟨n, rfl, cw_sub_w h hn⟩
  · have : d = d' := by simpa [cw_sub] using h
    subst this
    exact ha
theorem cw_meet_w {G : Int} {x y : cw_W} {z : Int} (hx : cw_wok G x z) (hy : cw_wok G y z) : cw_wok G (cw_mx x.1 y.1, cw_mn x.2.1 y.2.1, bif y.2.2 == 0 then x.2.2 else y.2.2) z := by
  refine ⟨cw_le_mx hx.1 hy.1, cw_mn_le hx.2.1 hy.2.1, ?_⟩
  dsimp only
  cases y.2.2 == 0
  · exact hy.2.2
  · exact hx.2.2
theorem cw_meet_ok {G : Int} {sh : List Nat} {a b : cw_A} {v : cv_V} (ha : cw_ga G sh a v) (hb : cw_ga G sh b v) : cw_ga G sh (cw_meet a b) v := by
  rcases a with x | x | d <;> rcases b with y | y | d' <;> try exact ha
  · obtain ⟨n, rfl, hn⟩ := ha
    obtain ⟨m, e, hm⟩ := hb
    cases e
    exact ⟨n, rfl, cw_meet_w hn hm⟩
  · obtain ⟨n, rfl, hn⟩ := ha
    obtain ⟨m, e, hm⟩ := hb
    cases e
    exact ⟨n, rfl, cw_meet_w hn hm⟩
