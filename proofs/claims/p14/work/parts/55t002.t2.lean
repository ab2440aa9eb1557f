/-! ===== the class reads words: letters, the step ===== -/
theorem tz_i32 {x : Int32} (h : 0 ≤ x.toInt) : (x.toBitVec.toNat : Int) = x.toInt := by
  have e : x.toInt = x.toBitVec.toInt := rfl
  rw [e] at h ⊢
  rw [BitVec.toInt_eq_toNat_cond] at h ⊢
  have := x.toBitVec.isLt
  split <;> rename_i q
  · rfl
  · rw [if_neg q] at h
    omega
theorem tz_or {x y : Int32} {k w : Nat} (hx : x.toInt = ((2 ^ k * w : Nat) : Int)) (hy0 : 0 ≤ y.toInt) (hy : y.toInt < ((2 ^ k : Nat) : Int)) (hs : x.toInt + y.toInt < 2147483648) : (x ||| y).toInt = x.toInt + y.toInt := by
  have hx0 : 0 ≤ x.toInt := by rw [hx]; exact Int.natCast_nonneg _
  have ex := tz_i32 hx0
  have ey := tz_i32 hy0
  have exn : x.toBitVec.toNat = 2 ^ k * w := by
    have := ex.trans hx
    exact Int.ofNat.inj this
  have hyn : y.toBitVec.toNat < 2 ^ k := by
    have : ((y.toBitVec.toNat : Nat) : Int) < ((2 ^ k : Nat) : Int) := by rw [ey]; exact hy
    exact Int.ofNat_lt.mp this
  have eor : (x ||| y).toBitVec.toNat = x.toBitVec.toNat + y.toBitVec.toNat := by
    rw [Int32.toBitVec_or, BitVec.toNat_or, exn, ← Nat.two_pow_add_eq_or_of_lt hyn]
  have e : (x ||| y).toInt = (x ||| y).toBitVec.toInt := rfl
  rw [e, BitVec.toInt_eq_toNat_cond, eor, if_pos]
  · rw [← ex, ← ey]; rfl
  · omega
def tz_lb (d : Int) (m : Nat) : Int := match m with
  | 0 => 33554432 * d
  | 1 => 1048576 * d
  | 2 => 32768 * d
  | 3 => 1024 * d
  | 4 => 32 * d
  | 5 => d
  | _ => 0
def tz_pv (t : Nat → Int) (a : Nat) : Nat → Int
  | 0 => 0
  | m + 1 => tz_pv t a m + tz_lb (t (a + m) - 96) m
theorem tz_dg_t {t : Nat → Int} {a b j : Nat} (h : a + j < b) : tz_dg t a b j = t (a + j) - 96 := by unfold tz_dg; rw [if_pos h]
theorem tz_dg_f {t : Nat → Int} {a b j : Nat} (h : b ≤ a + j) : tz_dg t a b j = 0 := by unfold tz_dg; rw [if_neg (by omega)]
theorem tz_pk_pv {t : Nat → Int} {a m : Nat} (h : m ≤ 6) : tz_pk t a (a + m) = tz_pv t a m := by
  unfold tz_pk
  match m, h with
  | 0, _ => rw [tz_dg_f (by omega), tz_dg_f (by omega), tz_dg_f (by omega), tz_dg_f (by omega), tz_dg_f (by omega), tz_dg_f (by omega)]; rfl
  | 1, _ => rw [tz_dg_t (by omega), tz_dg_f (by omega), tz_dg_f (by omega), tz_dg_f (by omega), tz_dg_f (by omega), tz_dg_f (by omega)]; simp only [tz_pv, tz_lb]; omega
  | 2, _ => rw [tz_dg_t (by omega), tz_dg_t (by omega), tz_dg_f (by omega), tz_dg_f (by omega), tz_dg_f (by omega), tz_dg_f (by omega)]; simp only [tz_pv, tz_lb]; omega
  | 3, _ => rw [tz_dg_t (by omega), tz_dg_t (by omega), tz_dg_t (by omega), tz_dg_f (by omega), tz_dg_f (by omega), tz_dg_f (by omega)]; simp only [tz_pv, tz_lb]; omega
  | 4, _ => rw [tz_dg_t (by omega), tz_dg_t (by omega), tz_dg_t (by omega), tz_dg_t (by omega), tz_dg_f (by omega), tz_dg_f (by omega)]; simp only [tz_pv, tz_lb]; omega
  | 5, _ => rw [tz_dg_t (by omega), tz_dg_t (by omega), tz_dg_t (by omega), tz_dg_t (by omega), tz_dg_t (by omega), tz_dg_f (by omega)]; simp only [tz_pv, tz_lb]; omega
  | 6, _ => rw [tz_dg_t (by omega), tz_dg_t (by omega), tz_dg_t (by omega), tz_dg_t (by omega), tz_dg_t (by omega), tz_dg_t (by omega)]; simp only [tz_pv, tz_lb]; omega
  | m + 7, h => omega
theorem tz_pv6 {t : Nat → Int} {a : Nat} : ∀ m, tz_pv t a (m + 6) = tz_pv t a 6 := by
  intro m
  induction m with
  | zero => rfl
  | succ m ih =>
    show tz_pv t a (m + 6) + tz_lb (t (a + (m + 6)) - 96) (m + 6) = _
    rw [ih]
    show _ + 0 = _
    omega
/-- one letter more -/
theorem tz_pv_or {t : Nat → Int} {a m : Nat} {x y : Int32} (hl : ∀ j, j ≤ m → 97 ≤ t (a + j) ∧ t (a + j) ≤ 122) (hx : x.toInt = tz_pv t a m) (hy : y.toInt = tz_lb (t (a + m) - 96) m) : (x ||| y).toInt = tz_pv t a (m + 1) ∧ 0 ≤ tz_pv t a (m + 1) ∧ tz_pv t a (m + 1) < 1073741824 := by
  have key : ∀ (k w : Nat), x.toInt = ((2 ^ k * w : Nat) : Int) → 0 ≤ y.toInt → y.toInt < ((2 ^ k : Nat) : Int) → x.toInt + y.toInt < 2147483648 → (x ||| y).toInt = tz_pv t a (m + 1) := fun k w a1 a2 a3 a4 => by rw [tz_or a1 a2 a3 a4, hx, hy]; rfl
  have e : tz_pv t a (m + 1) = x.toInt + y.toInt := by rw [hx, hy]; rfl
  match m, hl, hx, hy, key, e with
  | 0, hl, hx, hy, key, e =>
    have l0 := hl 0 (by omega)
    simp only [tz_pv, tz_lb] at hx hy e
    refine ⟨key 30 (0) (by omega) (by omega) (by omega) (by omega), ?_, ?_⟩
    · simp only [tz_pv, tz_lb]; omega
    · simp only [tz_pv, tz_lb]; omega
  | 1, hl, hx, hy, key, e =>
    have l0 := hl 0 (by omega)
    have l1 := hl 1 (by omega)
    simp only [tz_pv, tz_lb] at hx hy e
    refine ⟨key 25 (1 * (t (a + 0) - 96).toNat) (by omega) (by omega) (by omega) (by omega), ?_, ?_⟩
    · simp only [tz_pv, tz_lb]; omega
    · simp only [tz_pv, tz_lb]; omega
  | 2, hl, hx, hy, key, e =>
    have l0 := hl 0 (by omega)
    have l1 := hl 1 (by omega)
    have l2 := hl 2 (by omega)
    simp only [tz_pv, tz_lb] at hx hy e
    refine ⟨key 20 (32 * (t (a + 0) - 96).toNat + 1 * (t (a + 1) - 96).toNat) (by omega) (by omega) (by omega) (by omega), ?_, ?_⟩
    · simp only [tz_pv, tz_lb]; omega
    · simp only [tz_pv, tz_lb]; omega
  | 3, hl, hx, hy, key, e =>
    have l0 := hl 0 (by omega)
    have l1 := hl 1 (by omega)
    have l2 := hl 2 (by omega)
    have l3 := hl 3 (by omega)
    simp only [tz_pv, tz_lb] at hx hy e
    refine ⟨key 15 (1024 * (t (a + 0) - 96).toNat + 32 * (t (a + 1) - 96).toNat + 1 * (t (a + 2) - 96).toNat) (by omega) (by omega) (by omega) (by omega), ?_, ?_⟩
    · simp only [tz_pv, tz_lb]; omega
    · simp only [tz_pv, tz_lb]; omega
  | 4, hl, hx, hy, key, e =>
    have l0 := hl 0 (by omega)
    have l1 := hl 1 (by omega)
    have l2 := hl 2 (by omega)
    have l3 := hl 3 (by omega)
    have l4 := hl 4 (by omega)
    simp only [tz_pv, tz_lb] at hx hy e
    refine ⟨key 10 (32768 * (t (a + 0) - 96).toNat + 1024 * (t (a + 1) - 96).toNat + 32 * (t (a + 2) - 96).toNat + 1 * (t (a + 3) - 96).toNat) (by omega) (by omega) (by omega) (by omega), ?_, ?_⟩
    · simp only [tz_pv, tz_lb]; omega
    · simp only [tz_pv, tz_lb]; omega
  | 5, hl, hx, hy, key, e =>
    have l0 := hl 0 (by omega)
    have l1 := hl 1 (by omega)
    have l2 := hl 2 (by omega)
    have l3 := hl 3 (by omega)
    have l4 := hl 4 (by omega)
    have l5 := hl 5 (by omega)
    simp only [tz_pv, tz_lb] at hx hy e
    refine ⟨key 5 (1048576 * (t (a + 0) - 96).toNat + 32768 * (t (a + 1) - 96).toNat + 1024 * (t (a + 2) - 96).toNat + 32 * (t (a + 3) - 96).toNat + 1 * (t (a + 4) - 96).toNat) (by omega) (by omega) (by omega) (by omega), ?_, ?_⟩
    · simp only [tz_pv, tz_lb]; omega
    · simp only [tz_pv, tz_lb]; omega
  | m + 6, hl, hx, hy, key, e =>
    have l0 := hl 0 (by omega)
    have l1 := hl 1 (by omega)
    have l2 := hl 2 (by omega)
    have l3 := hl 3 (by omega)
    have l4 := hl 4 (by omega)
    have l5 := hl 5 (by omega)
    have h6 : tz_pv t a (m + 6) = tz_pv t a 6 := tz_pv6 m
    have hy : y.toInt = 0 := hy
    rw [h6] at hx
    simp only [tz_pv, tz_lb] at hx
    have e2 : tz_pv t a (m + 6 + 1) = x.toInt := by rw [e, hy, Int.add_zero]
    refine ⟨key 0 x.toInt.toNat (by omega) (by omega) (by omega) (by omega), ?_, ?_⟩
    · rw [e2]; omega
    · rw [e2]; omega
theorem tz_shl : ∀ d, d < 27 → ∀ k, k < 6 → (Int32.ofNat d <<< (Int32.ofNat (5 * (5 - k)) &&& 31)).toInt = tz_lb d k := by decide +kernel
theorem tz_ofN {x : Int32} {d : Nat} (h : x.toInt = d) : x = Int32.ofNat d := by
  rw [← Int32.toInt_inj, h]
  have hb := cw_i32 x
  rw [Int32.toInt_ofNat', show (Int32.size : Nat) = 4294967296 from rfl, Int.bmod_eq_of_le (by omega) (by omega)]
theorem tz_shl2 {x y : Int32} {k : Nat} (hx : 0 ≤ x.toInt) (hx1 : x.toInt ≤ 26) (hk : k < 6) (hy : y.toInt = 5 * (5 - (k : Int))) : (x <<< (y &&& 31)).toInt = tz_lb x.toInt k := by
  have e1 : x = Int32.ofNat x.toInt.toNat := tz_ofN (by omega)
  have e2 : y = Int32.ofNat (5 * (5 - k)) := tz_ofN (by omega)
  have h := tz_shl x.toInt.toNat (by omega) k hk
  rw [← e1, ← e2, Int.toNat_of_nonneg hx] at h
  exact h
theorem tz_fw : ∀ i, i < 34 → tz_find tz_wl (tz_wc.getD i 0) 0 = tz_ri.getD i 99 ∧ 0 ≤ tz_ri.getD i 99 ∧ tz_ri.getD i 99 ≤ 33 := by decide +kernel
theorem tz_fn {x : Int} : ∀ (l : List Int) (k : Nat), x ∉ l → tz_find l x k = -1 := by
  intro l
  induction l with
  | nil => intro k _; rfl
  | cons y l ih =>
    intro k h
    unfold tz_find
    rw [if_neg (fun e => h (by rw [e]; exact List.mem_cons_self)), ih (k + 1) (fun q => h (List.mem_cons_of_mem _ q))]
theorem tz_wlc : ∀ y ∈ tz_wl, ∃ i, i < 34 ∧ tz_wc.getD i 0 = y := by decide +kernel
theorem tz_fnc {x : Int} (h : ∀ i, i < 34 → tz_wc.getD i 0 ≠ x) : tz_find tz_wl x 0 = -1 := tz_fn _ 0 (fun q => by
  obtain ⟨i, h1, h2⟩ := tz_wlc x q
  exact h i h1 h2)
section TK
variable {t : Nat → Int} {n a : Nat}
theorem tz_kb (ha : a < n) (hl : tz_l t a = true) (h6 : a + 6 < tz_to (tz_l t) n a) : tz_tk t n a = (6, 0, tz_to (tz_l t) n a) := by
  have e : tz_word t a (tz_to (tz_l t) n a) = -1 := by unfold tz_word; rw [if_neg (by omega)]
  unfold tz_tk
  rw [if_pos ha, if_pos hl, e, if_neg (by decide), if_pos h6]
theorem tz_kw (ha : a < n) (hl : tz_l t a = true) (h6 : tz_to (tz_l t) n a ≤ a + 6) {i : Nat} (hi : i < 34) (hw : tz_wc.getD i 0 = tz_pk t a (tz_to (tz_l t) n a)) : tz_tk t n a = (1, tz_ri.getD i 99, tz_to (tz_l t) n a) := by
  obtain ⟨f1, f2, f3⟩ := tz_fw i hi
  have e : tz_word t a (tz_to (tz_l t) n a) = tz_ri.getD i 99 := by unfold tz_word; rw [if_pos h6, ← hw, f1]
  unfold tz_tk
  rw [if_pos ha, if_pos hl, e, if_pos f2]
theorem tz_kn (ha : a < n) (hl : tz_l t a = true) (h6 : tz_to (tz_l t) n a ≤ a + 6) (hw : ∀ i, i < 34 → tz_wc.getD i 0 ≠ tz_pk t a (tz_to (tz_l t) n a)) : tz_tk t n a = (2, tz_pk t a (tz_to (tz_l t) n a), tz_to (tz_l t) n a) := by
  have e : tz_word t a (tz_to (tz_l t) n a) = -1 := by unfold tz_word; rw [if_pos h6, tz_fnc hw]
  unfold tz_tk
  rw [if_pos ha, if_pos hl, e, if_neg (by decide), if_neg (by omega)]
theorem tz_kd (ha : a < n) (hl : tz_l t a = false) (hd : tz_d t a = true) : tz_tk t n a = (3, tz_num t a (tz_to (tz_d t) n a - a), tz_to (tz_d t) n a) := by
  unfold tz_tk
  rw [if_pos ha, hl, if_neg (by decide), if_pos hd]
theorem tz_ks (ha : a < n) (hl : tz_l t a = false) (hd : tz_d t a = false) : tz_tk t n a = tz_s t n a := by
  unfold tz_tk
  rw [if_pos ha, hl, if_neg (by decide), hd, if_neg (by decide)]
theorem tz_ke (ha : ¬ a < n) : tz_tk t n a = (0, 0, a) := by
  unfold tz_tk
  rw [if_neg ha]
end TK
section TZ
variable {G : Int} {X : cv_X} {Q : cv_O → Prop} {t : Nat → Int}
theorem tz_lb6 {d : Int} : ∀ {m : Nat}, 6 ≤ m → tz_lb d m = 0
  | 0, h => by omega
  | 1, h => by omega
  | 2, h => by omega
  | 3, h => by omega
  | 4, h => by omega
  | 5, h => by omega
  | m + 6, _ => rfl
theorem oq_X6_letterBits_0 : cw_ho 76 0 (.iload_n 1) 1 0 0 0 := rfl
theorem oq_X6_letterBits_1 : cw_ho 76 1 (.bipush 6) 2 0 0 0 := rfl
theorem oq_X6_letterBits_3 : cw_ho 76 3 (.if_icmp .ge 18) 3 0 0 0 := rfl
theorem oq_X6_letterBits_6 : cw_ho 76 6 (.iload_n 0) 1 0 0 0 := rfl
theorem oq_X6_letterBits_7 : cw_ho 76 7 (.bipush 97) 2 0 0 0 := rfl
theorem oq_X6_letterBits_9 : cw_ho 76 9 (.isub) 1 0 0 0 := rfl
theorem oq_X6_letterBits_10 : cw_ho 76 10 (.iconst 1) 1 0 0 0 := rfl
theorem oq_X6_letterBits_11 : cw_ho 76 11 (.iadd) 1 0 0 0 := rfl
theorem oq_X6_letterBits_12 : cw_ho 76 12 (.iconst 5) 1 0 0 0 := rfl
theorem oq_X6_letterBits_13 : cw_ho 76 13 (.iconst 5) 1 0 0 0 := rfl
theorem oq_X6_letterBits_14 : cw_ho 76 14 (.iload_n 1) 1 0 0 0 := rfl
theorem oq_X6_letterBits_15 : cw_ho 76 15 (.isub) 1 0 0 0 := rfl
theorem oq_X6_letterBits_16 : cw_ho 76 16 (.imul) 1 0 0 0 := rfl
theorem oq_X6_letterBits_17 : cw_ho 76 17 (.ishl) 1 0 0 0 := rfl
theorem oq_X6_letterBits_18 : cw_ho 76 18 (.goto 4) 3 0 0 0 := rfl
theorem oq_X6_letterBits_21 : cw_ho 76 21 (.iconst 0) 1 0 0 0 := rfl
theorem oq_X6_letterBits_22 : cw_ho 76 22 (.ireturn) 1 0 0 0 := rfl
theorem ct_letterBits {h0 : cv_H} (c i : Int32) {m : Nat} (hi : i.toInt = m) (hc : 97 ≤ c.toInt ∧ c.toInt ≤ 122) (hQ : ∀ x : Int32, x.toInt = tz_lb (c.toInt - 96) m → Q (some (cv_i x), h0)) : cw_X X 76 Q 0 (cv_ent 0 [cv_i c, cv_i i]) [] h0 := by
  have hb := cw_i32 i
  refine ex_il oq_X6_letterBits_0 rfl ?_
  refine ex_bi oq_X6_letterBits_1 (m := 6) (by decide) (fun x1 hx1 => ?_)
  refine ex_if oq_X6_letterBits_3 (t := 21) rfl rfl (fun (c2 : x1.toInt ≤ i.toInt) => ?_) (fun (c2 : ¬ (x1.toInt ≤ i.toInt)) => ?_)
  · refine ex_ic oq_X6_letterBits_21 (m := 0) (by decide) (fun x3 hx3 => ?_)
    exact ex_reti oq_X6_letterBits_22 rfl (hQ x3 (by rw [hx3]; exact (tz_lb6 (by omega)).symm))
  · refine ex_il oq_X6_letterBits_6 rfl ?_
    refine ex_bi oq_X6_letterBits_7 (m := 97) (by decide) (fun x4 hx4 => ?_)
    refine ex_sub oq_X6_letterBits_9 (by omega) (fun x5 hx5 => ?_)
    refine ex_ic oq_X6_letterBits_10 (m := 1) (by decide) (fun x6 hx6 => ?_)
    refine ex_add oq_X6_letterBits_11 (by omega) (fun x7 hx7 => ?_)
    refine ex_ic oq_X6_letterBits_12 (m := 5) (by decide) (fun x8 hx8 => ?_)
    refine ex_ic oq_X6_letterBits_13 (m := 5) (by decide) (fun x9 hx9 => ?_)
    refine ex_il oq_X6_letterBits_14 rfl ?_
    refine ex_sub oq_X6_letterBits_15 (by omega) (fun x10 hx10 => ?_)
    refine ex_mul oq_X6_letterBits_16 (m := 5 * x10.toInt) (by rw [hx8]) (by omega) (fun x11 hx11 => ?_)
    refine ex_shlE oq_X6_letterBits_17 (fun x12 hx12 => ?_)
    refine ex_go oq_X6_letterBits_18 (t := 22) rfl rfl ?_
    exact ex_reti oq_X6_letterBits_22 rfl (hQ x12 (by rw [hx12, tz_shl2 (k := m) (by omega) (by omega) (by omega) (by omega)]; congr 1; omega))
theorem oq_X6_readLetters_96 : cw_ho 79 96 (.iload_n 2) 1 0 0 0 := rfl
theorem oq_X6_readLetters_97 : cw_ho 79 97 (.bipush 34) 2 0 0 0 := rfl
theorem oq_X6_readLetters_99 : cw_ho 79 99 (.if_icmp .ge 40) 3 0 0 0 := rfl
theorem oq_X6_readLetters_102 : cw_ho 79 102 (.aload_n 0) 1 0 0 0 := rfl
theorem oq_X6_readLetters_103 : cw_ho 79 103 (.getfield 58) 3 6 4 0 := rfl
theorem oq_X6_readLetters_106 : cw_ho 79 106 (.iconst 3) 1 0 0 0 := rfl
theorem oq_X6_readLetters_107 : cw_ho 79 107 (.if_icmp .ne 32) 3 0 0 0 := rfl
theorem oq_X6_readLetters_110 : cw_ho 79 110 (.aload_n 0) 1 0 0 0 := rfl
theorem oq_X6_readLetters_111 : cw_ho 79 111 (.getfield 9) 3 6 1 4 := rfl
theorem oq_X6_readLetters_114 : cw_ho 79 114 (.iload_n 2) 1 0 0 0 := rfl
theorem oq_X6_readLetters_115 : cw_ho 79 115 (.iaload) 1 0 0 0 := rfl
theorem oq_X6_readLetters_116 : cw_ho 79 116 (.aload_n 0) 1 0 0 0 := rfl
theorem oq_X6_readLetters_117 : cw_ho 79 117 (.getfield 55) 3 6 6 0 := rfl
theorem oq_X6_readLetters_120 : cw_ho 79 120 (.if_icmp .ne 13) 3 0 0 0 := rfl
theorem oq_X6_readLetters_123 : cw_ho 79 123 (.aload_n 0) 1 0 0 0 := rfl
theorem oq_X6_readLetters_124 : cw_ho 79 124 (.iconst 2) 1 0 0 0 := rfl
theorem oq_X6_readLetters_125 : cw_ho 79 125 (.putfield 58) 3 6 4 0 := rfl
theorem oq_X6_readLetters_128 : cw_ho 79 128 (.aload_n 0) 1 0 0 0 := rfl
theorem oq_X6_readLetters_129 : cw_ho 79 129 (.iload_n 2) 1 0 0 0 := rfl
theorem oq_X6_readLetters_130 : cw_ho 79 130 (.putfield 55) 3 6 6 0 := rfl
theorem oq_X6_readLetters_133 : cw_ho 79 133 (.iinc 2 1) 3 0 0 0 := rfl
theorem oq_X6_readLetters_136 : cw_ho 79 136 (.goto (-40)) 3 0 0 0 := rfl
theorem oq_X6_readLetters_139 : cw_ho 79 139 (.return_) 1 0 0 0 := rfl
theorem ct_words {h0 : cv_H} {n e : Nat} {w : Int} (hwd : ∀ i, i < 34 → ri_at h0 52 i = tz_wc.getD i 0) (hF : ∀ h', cw_T G h' → cw_Fr cw_Ds cw_sh kk_X6_readLetters.2.2.2.2.2.1 h0 h' → ri_at h' 51 2 = n → ri_at h' 51 3 = e → ri_at h' 51 5 = ri_at h0 51 5 → ((∃ i, i < 34 ∧ tz_wc.getD i 0 = w ∧ ri_at h' 51 4 = 2 ∧ ri_at h' 51 6 = i) ∨ (∀ i, i < 34 → tz_wc.getD i 0 ≠ w) ∧ ri_at h' 51 4 = 3 ∧ ri_at h' 51 6 = w) → Q (none, h')) :
    ∀ (f i : Nat) (L : cv_L) (x : Int32) (h : cv_H), 34 - i = f → x.toInt = i → i ≤ 34 → cv_get L 0 = some (cv_r 51) → cv_get L 2 = some (cv_i x) → cw_T G h → cw_Fr cw_Ds cw_sh kk_X6_readLetters.2.2.2.2.2.1 h0 h → ri_at h 51 2 = n → ri_at h 51 3 = e → ri_at h 51 5 = ri_at h0 51 5 → ri_at h 51 4 = 3 → ri_at h 51 6 = w → (∀ j, j < i → tz_wc.getD j 0 ≠ w) → cw_X X 79 Q 96 L [] h := by
  have hB : ∀ h, cw_Fr cw_Ds cw_sh kk_X6_readLetters.2.2.2.2.2.1 h0 h → ∀ i, ri_at h 52 i = ri_at h0 52 i := fun h F i => ri_frr F (k := 52) (d := 43) rfl rfl (by decide +kernel)
  intro f
  induction f with
  | zero =>
    intro i L x h hf hx hi g0 g2 hT Fh hl hat hpl hk hv hno
    have hi34 : i = 34 := by omega
    refine ex_il oq_X6_readLetters_96 g2 ?_
    refine ex_bi oq_X6_readLetters_97 (m := 34) (by decide) (fun x101 hx101 => ?_)
    refine ex_if oq_X6_readLetters_99 (t := 139) rfl rfl (fun (c102 : x101.toInt ≤ x.toInt) => ?_) (fun (c102 : ¬ (x101.toInt ≤ x.toInt)) => ?_)
    · exact ex_retv oq_X6_readLetters_139 rfl (hF h hT Fh (by omega) (by omega) (by omega) (.inr ⟨fun j hj => hno j (by omega), by omega, by omega⟩))
    · exfalso; omega
  | succ f ih =>
    intro i L x h hf hx hi g0 g2 hT Fh hl hat hpl hk hv hno
    have hwi := hwd i (by omega)
    rw [← hB h Fh] at hwi
    refine ex_il oq_X6_readLetters_96 g2 ?_
    refine ex_bi oq_X6_readLetters_97 (m := 34) (by decide) (fun x101 hx101 => ?_)
    refine ex_if oq_X6_readLetters_99 (t := 139) rfl rfl (fun (c102 : x101.toInt ≤ x.toInt) => ?_) (fun (c102 : ¬ (x101.toInt ≤ x.toInt)) => ?_)
    · exact ex_retv oq_X6_readLetters_139 rfl (hF h hT Fh (by omega) (by omega) (by omega) (.inr ⟨fun j hj => hno j (by omega), by omega, by omega⟩))
    · refine ex_al oq_X6_readLetters_102 g0 ?_
      obtain ⟨x103, ax103, rx103, lx103, ux103⟩ := ri_fld (k := 51) (d := 6) (f := 4) hT rfl rfl rfl
      try dsimp only at lx103 ux103
      refine ex_gf oq_X6_readLetters_103 hT (k := 51) (d := 6) rfl rfl ax103 ?_
      refine ex_ic oq_X6_readLetters_106 (m := 3) (by decide) (fun x104 hx104 => ?_)
      refine ex_if oq_X6_readLetters_107 (t := 139) rfl rfl (fun (c105 : ¬ x103.toInt = x104.toInt) => ?_) (fun (c105 : ¬ (¬ x103.toInt = x104.toInt)) => ?_)
      · exfalso; omega
      · refine ex_al oq_X6_readLetters_110 g0 ?_
        refine ex_gf oq_X6_readLetters_111 hT (k := 51) (d := 6) rfl rfl (ri_ref (k := 51) (k' := 52) (d := 6) (f := 1) hT rfl rfl rfl (by decide) (ri_uniq (by decide +kernel))) ?_
        refine ex_il oq_X6_readLetters_114 g2 ?_
        refine ex_ia1 oq_X6_readLetters_115 hT (k := 52) (d := 43) (j := i) rfl rfl (by omega) (by omega) (fun x106 hx106 lx106 ux106 => ?_)
        refine ex_al oq_X6_readLetters_116 g0 ?_
        obtain ⟨x107, ax107, rx107, lx107, ux107⟩ := ri_fld (k := 51) (d := 6) (f := 6) hT rfl rfl rfl
        try dsimp only at lx107 ux107
        refine ex_gf oq_X6_readLetters_117 hT (k := 51) (d := 6) rfl rfl ax107 ?_
        refine ex_if oq_X6_readLetters_120 (t := 133) rfl rfl (fun (c108 : ¬ x106.toInt = x107.toInt) => ?_) (fun (c108 : ¬ (¬ x106.toInt = x107.toInt)) => ?_)
        · refine ex_incA oq_X6_readLetters_133 (v := x) (m := 1) g2 (by decide) (by omega) (fun L110 x109 hx109 gL110_2 kL110 => ?_)
          have gL110_0 : cv_get L110 0 = some (cv_r 51) := kL110 0 _ (by decide) (fun q => absurd q (by decide)) g0
          refine ex_go oq_X6_readLetters_136 (t := 96) rfl rfl ?_
          exact ih (i + 1) L110 x109 h (by omega) (by omega) (by omega) gL110_0 gL110_2 hT Fh (by omega) (by omega) (by omega) (by omega) (by omega) (fun j hj => by
              by_cases q : j < i
              · exact hno j q
              · have eji : j = i := by omega
                rw [eji]; omega)
        · refine ex_al oq_X6_readLetters_123 g0 ?_
          refine ex_ic oq_X6_readLetters_124 (m := 2) (by decide) (fun x111 hx111 => ?_)
          refine ex_pfi oq_X6_readLetters_125 hT (k := 51) (d := 6) rfl rfl rfl (cw_i32 _).1 (cw_i32 _).2 (fun h112 Th112 wh112 => ?_)
          have Fh112 : cw_Fr cw_Ds cw_sh kk_X6_readLetters.2.2.2.2.2.1 h0 h112 := cw_Fr_tr Fh (cw_Fr_wrf wh112 (k := 51) (d := 6) rfl rfl (by decide +kernel))
          have eh112_51_2 : ri_at h112 51 2 = ri_at h 51 2 := ri_ne wh112 (by decide)
          have eh112_51_3 : ri_at h112 51 3 = ri_at h 51 3 := ri_ne wh112 (by decide)
          have eh112_51_4 : ri_at h112 51 4 = x111.toInt := ri_self wh112
          have eh112_51_5 : ri_at h112 51 5 = ri_at h 51 5 := ri_ne wh112 (by decide)
          have eh112_51_6 : ri_at h112 51 6 = ri_at h 51 6 := ri_ne wh112 (by decide)
          refine ex_al oq_X6_readLetters_128 g0 ?_
          refine ex_il oq_X6_readLetters_129 g2 ?_
          refine ex_pfi oq_X6_readLetters_130 Th112 (k := 51) (d := 6) rfl rfl rfl (cw_i32 _).1 (cw_i32 _).2 (fun h113 Th113 wh113 => ?_)
          have Fh113 : cw_Fr cw_Ds cw_sh kk_X6_readLetters.2.2.2.2.2.1 h0 h113 := cw_Fr_tr Fh112 (cw_Fr_wrf wh113 (k := 51) (d := 6) rfl rfl (by decide +kernel))
          have eh113_51_2 : ri_at h113 51 2 = ri_at h112 51 2 := ri_ne wh113 (by decide)
          have eh113_51_3 : ri_at h113 51 3 = ri_at h112 51 3 := ri_ne wh113 (by decide)
          have eh113_51_4 : ri_at h113 51 4 = ri_at h112 51 4 := ri_ne wh113 (by decide)
          have eh113_51_5 : ri_at h113 51 5 = ri_at h112 51 5 := ri_ne wh113 (by decide)
          have eh113_51_6 : ri_at h113 51 6 = x.toInt := ri_self wh113
          refine ex_incA oq_X6_readLetters_133 (v := x) (m := 1) g2 (by decide) (by omega) (fun L115 x114 hx114 gL115_2 kL115 => ?_)
          have gL115_0 : cv_get L115 0 = some (cv_r 51) := kL115 0 _ (by decide) (fun q => absurd q (by decide)) g0
          refine ex_go oq_X6_readLetters_136 (t := 96) rfl rfl ?_
          refine ex_il oq_X6_readLetters_96 gL115_2 ?_
          refine ex_bi oq_X6_readLetters_97 (m := 34) (by decide) (fun x116 hx116 => ?_)
          refine ex_if oq_X6_readLetters_99 (t := 139) rfl rfl (fun (c117 : x116.toInt ≤ x114.toInt) => ?_) (fun (c117 : ¬ (x116.toInt ≤ x114.toInt)) => ?_)
          · exact ex_retv oq_X6_readLetters_139 rfl (hF h113 Th113 Fh113 (by omega) (by omega) (by omega) (.inl ⟨i, by omega, by omega, by omega, by omega⟩))
          · refine ex_al oq_X6_readLetters_102 gL115_0 ?_
            obtain ⟨x118, ax118, rx118, lx118, ux118⟩ := ri_fld (k := 51) (d := 6) (f := 4) Th113 rfl rfl rfl
            try dsimp only at lx118 ux118
            refine ex_gf oq_X6_readLetters_103 Th113 (k := 51) (d := 6) rfl rfl ax118 ?_
            refine ex_ic oq_X6_readLetters_106 (m := 3) (by decide) (fun x119 hx119 => ?_)
            refine ex_if oq_X6_readLetters_107 (t := 139) rfl rfl (fun (c120 : ¬ x118.toInt = x119.toInt) => ?_) (fun (c120 : ¬ (¬ x118.toInt = x119.toInt)) => ?_)
            · exact ex_retv oq_X6_readLetters_139 rfl (hF h113 Th113 Fh113 (by omega) (by omega) (by omega) (.inl ⟨i, by omega, by omega, by omega, by omega⟩))
            · exfalso; omega
theorem oq_X6_readLetters_2 : cw_ho 79 2 (.aload_n 0) 1 0 0 0 := rfl
theorem oq_X6_readLetters_3 : cw_ho 79 3 (.getfield 46) 3 6 3 0 := rfl
theorem oq_X6_readLetters_6 : cw_ho 79 6 (.aload_n 0) 1 0 0 0 := rfl
theorem oq_X6_readLetters_7 : cw_ho 79 7 (.getfield 43) 3 6 2 0 := rfl
theorem oq_X6_readLetters_10 : cw_ho 79 10 (.if_icmp .ge 69) 3 0 0 0 := rfl
theorem oq_X6_readLetters_13 : cw_ho 79 13 (.aload_n 0) 1 0 0 0 := rfl
theorem oq_X6_readLetters_14 : cw_ho 79 14 (.getfield 15) 3 6 0 4 := rfl
theorem oq_X6_readLetters_17 : cw_ho 79 17 (.aload_n 0) 1 0 0 0 := rfl
theorem oq_X6_readLetters_18 : cw_ho 79 18 (.getfield 46) 3 6 3 0 := rfl
theorem oq_X6_readLetters_21 : cw_ho 79 21 (.baload) 1 0 0 0 := rfl
theorem oq_X6_readLetters_22 : cw_ho 79 22 (.bipush 97) 2 0 0 0 := rfl
theorem oq_X6_readLetters_24 : cw_ho 79 24 (.if_icmp .lt 55) 3 0 0 0 := rfl
theorem oq_X6_readLetters_27 : cw_ho 79 27 (.aload_n 0) 1 0 0 0 := rfl
theorem oq_X6_readLetters_28 : cw_ho 79 28 (.getfield 15) 3 6 0 4 := rfl
theorem oq_X6_readLetters_31 : cw_ho 79 31 (.aload_n 0) 1 0 0 0 := rfl
theorem oq_X6_readLetters_32 : cw_ho 79 32 (.getfield 46) 3 6 3 0 := rfl
theorem oq_X6_readLetters_35 : cw_ho 79 35 (.baload) 1 0 0 0 := rfl
theorem oq_X6_readLetters_36 : cw_ho 79 36 (.bipush 122) 2 0 0 0 := rfl
theorem oq_X6_readLetters_38 : cw_ho 79 38 (.if_icmp .gt 41) 3 0 0 0 := rfl
theorem oq_X6_readLetters_41 : cw_ho 79 41 (.aload_n 0) 1 0 0 0 := rfl
theorem oq_X6_readLetters_42 : cw_ho 79 42 (.dup) 1 0 0 0 := rfl
theorem oq_X6_readLetters_43 : cw_ho 79 43 (.getfield 55) 3 6 6 0 := rfl
theorem oq_X6_readLetters_46 : cw_ho 79 46 (.aload_n 0) 1 0 0 0 := rfl
theorem oq_X6_readLetters_47 : cw_ho 79 47 (.getfield 15) 3 6 0 4 := rfl
theorem oq_X6_readLetters_50 : cw_ho 79 50 (.aload_n 0) 1 0 0 0 := rfl
theorem oq_X6_readLetters_51 : cw_ho 79 51 (.getfield 46) 3 6 3 0 := rfl
theorem oq_X6_readLetters_54 : cw_ho 79 54 (.baload) 1 0 0 0 := rfl
theorem oq_X6_readLetters_55 : cw_ho 79 55 (.iload_n 1) 1 0 0 0 := rfl
theorem oq_X6_readLetters_56 : cw_ho 79 56 (.invokestatic 31) 3 76 2 0 := rfl
theorem oq_X6_readLetters_59 : cw_ho 79 59 (.ior) 1 0 0 0 := rfl
theorem oq_X6_readLetters_60 : cw_ho 79 60 (.putfield 55) 3 6 6 0 := rfl
theorem oq_X6_readLetters_63 : cw_ho 79 63 (.iinc 1 1) 3 0 0 0 := rfl
theorem oq_X6_readLetters_66 : cw_ho 79 66 (.aload_n 0) 1 0 0 0 := rfl
theorem oq_X6_readLetters_67 : cw_ho 79 67 (.dup) 1 0 0 0 := rfl
theorem oq_X6_readLetters_68 : cw_ho 79 68 (.getfield 46) 3 6 3 0 := rfl
theorem oq_X6_readLetters_71 : cw_ho 79 71 (.iconst 1) 1 0 0 0 := rfl
theorem oq_X6_readLetters_72 : cw_ho 79 72 (.iadd) 1 0 0 0 := rfl
theorem oq_X6_readLetters_73 : cw_ho 79 73 (.putfield 46) 3 6 3 0 := rfl
theorem oq_X6_readLetters_76 : cw_ho 79 76 (.goto (-74)) 3 0 0 0 := rfl
theorem ct_letters {h0 : cv_H} {n a : Nat} (ht : ∀ i, t i = ri_at h0 1 i % 256) (hn9 : n ≤ 900) (hK : ∀ (m : Nat) (L : cv_L) (x : Int32) (h : cv_H), x.toInt = m → cv_get L 0 = some (cv_r 51) → cv_get L 1 = some (cv_i x) → cw_T G h → cw_Fr cw_Ds cw_sh kk_X6_readLetters.2.2.2.2.2.1 h0 h → ri_at h 51 2 = n → ri_at h 51 3 = ((a + m : Nat) : Int) → ri_at h 51 5 = ri_at h0 51 5 → tz_to (tz_l t) n a = a + m → ri_at h 51 6 = tz_pv t a m → (0 ≤ tz_pv t a m ∧ tz_pv t a m < 1073741824) → (∀ j, j < m → 97 ≤ t (a + j) ∧ t (a + j) ≤ 122) → cw_X X 79 Q 79 L [] h) :
    ∀ (f m : Nat) (L : cv_L) (x : Int32) (h : cv_H), n - (a + m) = f → x.toInt = m → cv_get L 0 = some (cv_r 51) → cv_get L 1 = some (cv_i x) → cw_T G h → cw_Fr cw_Ds cw_sh kk_X6_readLetters.2.2.2.2.2.1 h0 h → ri_at h 51 2 = n → ri_at h 51 3 = ((a + m : Nat) : Int) → ri_at h 51 5 = ri_at h0 51 5 → tz_to (tz_l t) n (a + m) = tz_to (tz_l t) n a → ri_at h 51 6 = tz_pv t a m → (0 ≤ tz_pv t a m ∧ tz_pv t a m < 1073741824) → (∀ j, j < m → 97 ≤ t (a + j) ∧ t (a + j) ≤ 122) → cw_X X 79 Q 2 L [] h := by
  have hA : ∀ h, cw_Fr cw_Ds cw_sh kk_X6_readLetters.2.2.2.2.2.1 h0 h → ∀ i, ri_at h 1 i = ri_at h0 1 i := fun h F i => ri_frr F (k := 1) (d := 13) rfl rfl (by decide +kernel)
  intro f
  induction f with
  | zero =>
    intro m L x h hf hx g0 g1 hT Fh hl hat hpl hst hpv hpb hlm
    refine ex_al oq_X6_readLetters_2 g0 ?_
    obtain ⟨x301, ax301, rx301, lx301, ux301⟩ := ri_fld (k := 51) (d := 6) (f := 3) hT rfl rfl rfl
    try dsimp only at lx301 ux301
    refine ex_gf oq_X6_readLetters_3 hT (k := 51) (d := 6) rfl rfl ax301 ?_
    refine ex_al oq_X6_readLetters_6 g0 ?_
    obtain ⟨x302, ax302, rx302, lx302, ux302⟩ := ri_fld (k := 51) (d := 6) (f := 2) hT rfl rfl rfl
    try dsimp only at lx302 ux302
    refine ex_gf oq_X6_readLetters_7 hT (k := 51) (d := 6) rfl rfl ax302 ?_
    refine ex_if oq_X6_readLetters_10 (t := 79) rfl rfl (fun (c303 : x302.toInt ≤ x301.toInt) => ?_) (fun (c303 : ¬ (x302.toInt ≤ x301.toInt)) => ?_)
    · exact hK m L x h (by omega) g0 g1 hT Fh (by omega) (by omega) (by omega) (by rw [← hst]; exact tz_to_stop (c := tz_l t) (n := n) (p := a + m) (fun q => tz_l_f (t := t) (i := a + m) (by omega))) (by omega) (by omega) hlm
    · exfalso; omega
  | succ f ih =>
    intro m L x h hf hx g0 g1 hT Fh hl hat hpl hst hpv hpb hlm
    refine ex_al oq_X6_readLetters_2 g0 ?_
    obtain ⟨x301, ax301, rx301, lx301, ux301⟩ := ri_fld (k := 51) (d := 6) (f := 3) hT rfl rfl rfl
    try dsimp only at lx301 ux301
    refine ex_gf oq_X6_readLetters_3 hT (k := 51) (d := 6) rfl rfl ax301 ?_
    refine ex_al oq_X6_readLetters_6 g0 ?_
    obtain ⟨x302, ax302, rx302, lx302, ux302⟩ := ri_fld (k := 51) (d := 6) (f := 2) hT rfl rfl rfl
    try dsimp only at lx302 ux302
    refine ex_gf oq_X6_readLetters_7 hT (k := 51) (d := 6) rfl rfl ax302 ?_
    refine ex_if oq_X6_readLetters_10 (t := 79) rfl rfl (fun (c303 : x302.toInt ≤ x301.toInt) => ?_) (fun (c303 : ¬ (x302.toInt ≤ x301.toInt)) => ?_)
    · exact hK m L x h (by omega) g0 g1 hT Fh (by omega) (by omega) (by omega) (by rw [← hst]; exact tz_to_stop (c := tz_l t) (n := n) (p := a + m) (fun q => tz_l_f (t := t) (i := a + m) (by omega))) (by omega) (by omega) hlm
    · refine ex_al oq_X6_readLetters_13 g0 ?_
      refine ex_gf oq_X6_readLetters_14 hT (k := 51) (d := 6) rfl rfl (ri_ref (k := 51) (k' := 1) (d := 6) (f := 0) hT rfl rfl rfl (by decide) (ri_uniq (by decide +kernel))) ?_
      refine ex_al oq_X6_readLetters_17 g0 ?_
      obtain ⟨x304, ax304, rx304, lx304, ux304⟩ := ri_fld (k := 51) (d := 6) (f := 3) hT rfl rfl rfl
      try dsimp only at lx304 ux304
      refine ex_gf oq_X6_readLetters_18 hT (k := 51) (d := 6) rfl rfl ax304 ?_
      refine ex_ba1 oq_X6_readLetters_21 hT (k := 1) (d := 13) (j := a + m) rfl rfl rfl (by omega) (by omega) (fun x305 hx305 lx305 ux305 => ?_)
      try dsimp only at lx305 ux305
      have tx305 : t (a + m) = x305.toInt % 256 := by rw [ht, ← hA _ Fh, hx305]
      refine ex_bi oq_X6_readLetters_22 (m := 97) (by decide) (fun x306 hx306 => ?_)
      refine ex_if oq_X6_readLetters_24 (t := 79) rfl rfl (fun (c307 : x305.toInt < x306.toInt) => ?_) (fun (c307 : ¬ (x305.toInt < x306.toInt)) => ?_)
      · exact hK m L x h (by omega) g0 g1 hT Fh (by omega) (by omega) (by omega) (by rw [← hst]; exact tz_to_stop (c := tz_l t) (n := n) (p := a + m) (fun q => tz_l_f (t := t) (i := a + m) (by omega))) (by omega) (by omega) hlm
      · refine ex_al oq_X6_readLetters_27 g0 ?_
        refine ex_gf oq_X6_readLetters_28 hT (k := 51) (d := 6) rfl rfl (ri_ref (k := 51) (k' := 1) (d := 6) (f := 0) hT rfl rfl rfl (by decide) (ri_uniq (by decide +kernel))) ?_
        refine ex_al oq_X6_readLetters_31 g0 ?_
        obtain ⟨x308, ax308, rx308, lx308, ux308⟩ := ri_fld (k := 51) (d := 6) (f := 3) hT rfl rfl rfl
        try dsimp only at lx308 ux308
        refine ex_gf oq_X6_readLetters_32 hT (k := 51) (d := 6) rfl rfl ax308 ?_
        refine ex_ba1 oq_X6_readLetters_35 hT (k := 1) (d := 13) (j := a + m) rfl rfl rfl (by omega) (by omega) (fun x309 hx309 lx309 ux309 => ?_)
        try dsimp only at lx309 ux309
        have tx309 : t (a + m) = x309.toInt % 256 := by rw [ht, ← hA _ Fh, hx309]
        refine ex_bi oq_X6_readLetters_36 (m := 122) (by decide) (fun x310 hx310 => ?_)
        refine ex_if oq_X6_readLetters_38 (t := 79) rfl rfl (fun (c311 : x310.toInt < x309.toInt) => ?_) (fun (c311 : ¬ (x310.toInt < x309.toInt)) => ?_)
        · exact hK m L x h (by omega) g0 g1 hT Fh (by omega) (by omega) (by omega) (by rw [← hst]; exact tz_to_stop (c := tz_l t) (n := n) (p := a + m) (fun q => tz_l_f (t := t) (i := a + m) (by omega))) (by omega) (by omega) hlm
        · refine ex_al oq_X6_readLetters_41 g0 ?_
          refine ex_dup oq_X6_readLetters_42 rfl ?_
          obtain ⟨x312, ax312, rx312, lx312, ux312⟩ := ri_fld (k := 51) (d := 6) (f := 6) hT rfl rfl rfl
          try dsimp only at lx312 ux312
          refine ex_gf oq_X6_readLetters_43 hT (k := 51) (d := 6) rfl rfl ax312 ?_
          refine ex_al oq_X6_readLetters_46 g0 ?_
          refine ex_gf oq_X6_readLetters_47 hT (k := 51) (d := 6) rfl rfl (ri_ref (k := 51) (k' := 1) (d := 6) (f := 0) hT rfl rfl rfl (by decide) (ri_uniq (by decide +kernel))) ?_
          refine ex_al oq_X6_readLetters_50 g0 ?_
          obtain ⟨x313, ax313, rx313, lx313, ux313⟩ := ri_fld (k := 51) (d := 6) (f := 3) hT rfl rfl rfl
          try dsimp only at lx313 ux313
          refine ex_gf oq_X6_readLetters_51 hT (k := 51) (d := 6) rfl rfl ax313 ?_
          refine ex_ba1 oq_X6_readLetters_54 hT (k := 1) (d := 13) (j := a + m) rfl rfl rfl (by omega) (by omega) (fun x314 hx314 lx314 ux314 => ?_)
          try dsimp only at lx314 ux314
          have tx314 : t (a + m) = x314.toInt % 256 := by rw [ht, ← hA _ Fh, hx314]
          refine ex_il oq_X6_readLetters_55 g1 ?_
          refine ex_cs oq_X6_readLetters_56 (by decide) (as := [cv_i x314, cv_i x]) (stk := [cv_i x312, cv_r 51]) rfl rfl rfl ⟨rfl, rfl⟩ (R := fun o => ∃ x : Int32, o = (some (cv_i x), h) ∧ x.toInt = tz_lb (x314.toInt - 96) m) (ct_letterBits x314 x (m := m) (by omega) (by omega) (fun x q => ⟨x, rfl, q⟩)) (fun o ho => ?_)
          obtain ⟨x315, rfl, bx315⟩ := ho
          show cw_X _ _ _ _ _ [cv_i x315, cv_i x312, cv_r 51] h
          refine ex_orE oq_X6_readLetters_59 (fun x316 hx316 => ?_)
          refine ex_pfi oq_X6_readLetters_60 hT (k := 51) (d := 6) rfl rfl rfl (cw_i32 _).1 (cw_i32 _).2 (fun h317 Th317 wh317 => ?_)
          have Fh317 : cw_Fr cw_Ds cw_sh kk_X6_readLetters.2.2.2.2.2.1 h0 h317 := cw_Fr_tr Fh (cw_Fr_wrf wh317 (k := 51) (d := 6) rfl rfl (by decide +kernel))
          have eh317_51_2 : ri_at h317 51 2 = ri_at h 51 2 := ri_ne wh317 (by decide)
          have eh317_51_3 : ri_at h317 51 3 = ri_at h 51 3 := ri_ne wh317 (by decide)
          have eh317_51_4 : ri_at h317 51 4 = ri_at h 51 4 := ri_ne wh317 (by decide)
          have eh317_51_5 : ri_at h317 51 5 = ri_at h 51 5 := ri_ne wh317 (by decide)
          have eh317_51_6 : ri_at h317 51 6 = x316.toInt := ri_self wh317
          refine ex_incA oq_X6_readLetters_63 (v := x) (m := 1) g1 (by decide) (by omega) (fun L319 x318 hx318 gL319_1 kL319 => ?_)
          have gL319_0 : cv_get L319 0 = some (cv_r 51) := kL319 0 _ (by decide) (fun _ => rfl) g0
          refine ex_al oq_X6_readLetters_66 gL319_0 ?_
          refine ex_dup oq_X6_readLetters_67 rfl ?_
          obtain ⟨x320, ax320, rx320, lx320, ux320⟩ := ri_fld (k := 51) (d := 6) (f := 3) Th317 rfl rfl rfl
          try dsimp only at lx320 ux320
          refine ex_gf oq_X6_readLetters_68 Th317 (k := 51) (d := 6) rfl rfl ax320 ?_
          refine ex_ic oq_X6_readLetters_71 (m := 1) (by decide) (fun x321 hx321 => ?_)
          refine ex_add oq_X6_readLetters_72 (by omega) (fun x322 hx322 => ?_)
          refine ex_pfi oq_X6_readLetters_73 Th317 (k := 51) (d := 6) rfl rfl rfl (by omega) (by omega) (fun h323 Th323 wh323 => ?_)
          have Fh323 : cw_Fr cw_Ds cw_sh kk_X6_readLetters.2.2.2.2.2.1 h0 h323 := cw_Fr_tr Fh317 (cw_Fr_wrf wh323 (k := 51) (d := 6) rfl rfl (by decide +kernel))
          have eh323_51_2 : ri_at h323 51 2 = ri_at h317 51 2 := ri_ne wh323 (by decide)
          have eh323_51_3 : ri_at h323 51 3 = x322.toInt := ri_self wh323
          have eh323_51_4 : ri_at h323 51 4 = ri_at h317 51 4 := ri_ne wh323 (by decide)
          have eh323_51_5 : ri_at h323 51 5 = ri_at h317 51 5 := ri_ne wh323 (by decide)
          have eh323_51_6 : ri_at h323 51 6 = ri_at h317 51 6 := ri_ne wh323 (by decide)
          refine ex_go oq_X6_readLetters_76 (t := 2) rfl rfl ?_
          have hlt : ∀ j, j ≤ m → 97 ≤ t (a + j) ∧ t (a + j) ≤ 122 := fun j hj => by
            by_cases q : j < m
            · exact hlm j q
            · have eji : j = m := by omega
              rw [eji]; omega
          have hpo := tz_pv_or hlt (x := x312) (y := x315) (by omega) (by rw [bx315]; congr 1; omega)
          rw [← hx316] at hpo
          exact ih (m + 1) L319 x318 h323 (by omega) (by omega) gL319_0 gL319_1 Th323 Fh323 (by omega) (by omega) (by omega) (by rw [← hst]; exact (tz_to_step (p := a + m) (by omega) (tz_l_t (i := a + m) (by omega) (by omega))).symm) (by omega) (by omega) (fun j hj => hlt j (by omega))
end TZ
