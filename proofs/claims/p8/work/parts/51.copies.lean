/-! ===== methods walked by hand: copies ===== -/
section SPZA
variable {G : Int} {X : cv_X} {Q : cv_O → Prop}
theorem oq_X12_copies_0 : cw_ho 172 0 (.iconst 0) 1 0 0 0 := rfl
theorem oq_X12_copies_1 : cw_ho 172 1 (.istore_n 2) 1 0 0 0 := rfl
theorem oq_X12_copies_2 : cw_ho 172 2 (.iload_n 2) 1 0 0 0 := rfl
theorem oq_X12_copies_3 : cw_ho 172 3 (.iload_n 1) 1 0 0 0 := rfl
theorem oq_X12_copies_4 : cw_ho 172 4 (.if_icmp .ge 17) 3 0 0 0 := rfl
theorem oq_X12_copies_7 : cw_ho 172 7 (.aload_n 0) 1 0 0 0 := rfl
theorem oq_X12_copies_8 : cw_ho 172 8 (.iload_n 2) 1 0 0 0 := rfl
theorem oq_X12_copies_9 : cw_ho 172 9 (.aload_n 0) 1 0 0 0 := rfl
theorem oq_X12_copies_10 : cw_ho 172 10 (.iload_n 1) 1 0 0 0 := rfl
theorem oq_X12_copies_11 : cw_ho 172 11 (.iload_n 2) 1 0 0 0 := rfl
theorem oq_X12_copies_12 : cw_ho 172 12 (.iadd) 1 0 0 0 := rfl
theorem oq_X12_copies_13 : cw_ho 172 13 (.iaload) 1 0 0 0 := rfl
theorem oq_X12_copies_14 : cw_ho 172 14 (.iastore) 1 0 0 0 := rfl
theorem oq_X12_copies_15 : cw_ho 172 15 (.iinc 2 1) 3 0 0 0 := rfl
theorem oq_X12_copies_18 : cw_ho 172 18 (.goto (-16)) 3 0 0 0 := rfl
theorem oq_X12_copies_21 : cw_ho 172 21 (.return_) 1 0 0 0 := rfl
/-- all cells but one as they were -/
def cp_F (R : Nat) (h0 h : cv_H) : Prop := ∀ k : Nat, k ≠ R → h[k]? = h0[k]?
theorem cp_2 {R d m p : Nat} {rs : List (Int × Int)} {h0 : cv_H} (hk : cw_sh[R]? = some d) (hD : cw_Ds[d]? = some (.inl (0, m, p, rs))) (n : Int32) (N0 : Nat) (hn : n.toInt = N0) (hm : 2 * N0 ≤ m) (hm2 : m ≤ 10000) (hp : N0 % p = 0)
    (hfin : ∀ h, cw_T G h → cp_F R h0 h → (∀ i, i < N0 → ri_at h R i = ri_at h0 R (N0 + i)) → (∀ i, N0 ≤ i → ri_at h R i = ri_at h0 R i) → Q (none, h)) : ∀ (M : Nat) (k : Int32) (kn : Nat) (h : cv_H), k.toInt = kn → kn ≤ N0 → N0 - kn ≤ M → cw_T G h → cp_F R h0 h → (∀ i, i < kn → ri_at h R i = ri_at h0 R (N0 + i)) → (∀ i, kn ≤ i → ri_at h R i = ri_at h0 R i) → ∀ L : cv_L, cv_get L 0 = some (cv_r R) → cv_get L 1 = some (cv_i n) → cv_get L 2 = some (cv_i k) → cw_X X 172 Q 2 L [] h := by
  intro M
  induction M with
  | zero =>
    intro k kn h e1 e2 e3 hT hF a1 a2 L q0 q1 q2
    refine ex_il oq_X12_copies_2 q2 ?_
    refine ex_il oq_X12_copies_3 q1 ?_
    refine ex_if oq_X12_copies_4 (t := 21) rfl rfl (fun (c1 : n.toInt ≤ k.toInt) => ?_) (fun (c1 : ¬ (n.toInt ≤ k.toInt)) => ?_)
    · have ek : kn = N0 := by omega
      subst ek
      exact ex_retv oq_X12_copies_21 rfl (hfin h hT hF a1 a2)
    · exfalso; omega
  | succ M ih =>
    intro k kn h e1 e2 e3 hT hF a1 a2 L q0 q1 q2
    refine ex_il oq_X12_copies_2 q2 ?_
    refine ex_il oq_X12_copies_3 q1 ?_
    refine ex_if oq_X12_copies_4 (t := 21) rfl rfl (fun (c1 : n.toInt ≤ k.toInt) => ?_) (fun (c1 : ¬ (n.toInt ≤ k.toInt)) => ?_)
    · have ek : kn = N0 := by omega
      subst ek
      exact ex_retv oq_X12_copies_21 rfl (hfin h hT hF a1 a2)
    · refine ex_al oq_X12_copies_7 q0 ?_
      refine ex_il oq_X12_copies_8 q2 ?_
      refine ex_al oq_X12_copies_9 q0 ?_
      refine ex_il oq_X12_copies_10 q1 ?_
      refine ex_il oq_X12_copies_11 q2 ?_
      refine ex_add oq_X12_copies_12 (by omega) (fun x1 hx1 => ?_)
      refine ex_ia oq_X12_copies_13 hT hk hD (j := N0 + kn) (by omega) (by omega) (fun x2 ax2 rx2 => ?_)
      refine ex_iw oq_X12_copies_14 hT hk hD (j := kn) (by omega) (by omega) (fun r hr => ?_) (fun h1 hT1 w1 => ?_)
      · obtain ⟨r2, b1, b2⟩ := rx2
        have em : (N0 + kn) % p = kn % p := by rw [Nat.add_mod, hp, Nat.zero_add, Nat.mod_mod]
        rw [em, hr] at b1
        cases b1
        exact b2
      · have hx2 := ri_of ax2
        refine ex_incA oq_X12_copies_15 (v := k) (m := 1) q2 (by decide) (by omega) (fun L2 x3 hx3 g2 k2 => ?_)
        refine ex_go oq_X12_copies_18 (t := 2) rfl rfl ?_
        refine ih x3 (kn + 1) h1 (by omega) (by omega) (by omega) hT1 (fun k' hk' => (w1.2.2 k' hk').trans (hF k' hk')) (fun i hi => ?_) (fun i hi => ?_) L2 (k2 0 _ (by decide) (fun q => absurd q (by decide)) q0) (k2 1 _ (by decide) (fun _ => rfl) q1) g2
        · by_cases e : i = kn
          · subst e
            rw [ri_self w1, ← hx2]
            exact a2 _ (by omega)
          · rw [ri_ne w1 (.inr e)]
            exact a1 i (by omega)
        · rw [ri_ne w1 (.inr (by omega))]
          exact a2 i (by omega)
theorem sp_copies {R d m p : Nat} {rs : List (Int × Int)} {h : cv_H} (hT : cw_T G h) (hk : cw_sh[R]? = some d) (hD : cw_Ds[d]? = some (.inl (0, m, p, rs))) (n : Int32) (N0 : Nat) (hn : n.toInt = N0) (hm : 2 * N0 ≤ m) (hm2 : m ≤ 10000) (hp : N0 % p = 0)
    (hfin : ∀ h', cw_T G h' → cp_F R h h' → (∀ i, i < N0 → ri_at h' R i = ri_at h R (N0 + i)) → (∀ i, N0 ≤ i → ri_at h' R i = ri_at h R i) → Q (none, h')) : cw_X X 172 Q 0 (cv_ent 0 [cv_r R, cv_i n]) [] h := by
  refine ex_ic oq_X12_copies_0 (m := 0) (by decide) (fun x1 hx1 => ?_)
  refine ex_isA oq_X12_copies_1 (fun L2 g2 k2 => ?_)
  exact cp_2 hk hD n N0 hn hm hm2 hp hfin N0 x1 0 h hx1 (by omega) (by omega) hT (fun _ _ => rfl) (fun i hi => absurd hi (by omega)) (fun i _ => rfl) L2 (k2 0 _ (by decide) (fun q => absurd q (by decide)) rfl) (k2 1 _ (by decide) (fun _ => rfl) rfl) g2
end SPZA
