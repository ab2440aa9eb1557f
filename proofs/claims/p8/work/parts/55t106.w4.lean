/-! ===== works taken keep a gate's numbers in range ===== -/
def zPC (S : Nat) : Nat := (if S.testBit 0 then 1 else 0) + (if S.testBit 1 then 1 else 0) + (if S.testBit 2 then 1 else 0) + (if S.testBit 3 then 1 else 0) + (if S.testBit 4 then 1 else 0) + (if S.testBit 5 then 1 else 0)
theorem zPC_b (S : Nat) : zPC S ≤ 6 := by
  unfold zPC
  (repeat' split) <;> omega
theorem zPC_s {S w : Nat} (hS : S < 64) (hw : w < 6) (h : ¬ S.testBit w = true) : zPC (S ||| 2 ^ w) = zPC S + 1 := by
  have : ∀ a : Fin 64, ∀ b : Fin 6, ¬ a.1.testBit b.1 = true → zPC (a.1 ||| 2 ^ b.1) = zPC a.1 + 1 := by decide +kernel
  exact this ⟨S, hS⟩ ⟨w, hw⟩ h
/-- what works have made of a gate, at most -/
def zTk (γ : Nat → Int) : Prop := (0 ≤ γ 4 ∧ γ 4 ≤ 9999 * (zPC (γ 10).toNat : Int)) ∧ (12 ≤ γ 5 ∧ γ 5 ≤ 60 + 60 * (zPC (γ 10).toNat : Int)) ∧ (0 ≤ γ 8 ∧ γ 8 ≤ 99 * (zPC (γ 10).toNat : Int)) ∧ γ 9 ≤ 200
theorem zTk_g {a b : Nat → Int} (e4 : b 4 = a 4) (e5 : b 5 = a 5) (e8 : b 8 = a 8) (e10 : b 10 = a 10) (e9 : b 9 = a 9) (h : zTk a) : zTk b := by
  unfold zTk
  rw [e4, e5, e8, e10, e9]
  exact h
theorem zTk_P {T g : Nat → Int} {LL : Nat → Option (List Int)} {γ : Nat → Int} (h : zTk γ) : ∀ {n : Nat} {w : Int}, zTk (gPs T g LL n w γ) := by
  intro n
  induction n generalizing γ with
  | zero => intro w; exact h
  | succ n ih => intro w; exact ih (γ := gWk T g LL w γ) (zTk_g (a := γ) rfl rfl rfl rfl rfl h)
theorem zTk_B {T : Nat → Int} {m0 m1 m2 : Int} (h : 12 ≤ T 7 ∧ T 7 ≤ 60) (h12 : T 12 ≤ 200) : zTk (gBegin T m0 m1 m2) := by
  refine ⟨?_, ?_, ?_, ?_⟩
  · show (0 : Int) ≤ 0 ∧ (0 : Int) ≤ 9999 * (zPC 0 : Int); exact ⟨by decide, by decide⟩
  · show 12 ≤ T 7 ∧ T 7 ≤ 60 + 60 * (zPC 0 : Int); rw [show zPC 0 = 0 from by decide]; omega
  · show (0 : Int) ≤ 0 ∧ (0 : Int) ≤ 99 * (zPC 0 : Int); exact ⟨by decide, by decide⟩
  · show T 12 ≤ 200; exact h12
theorem gTake_x {γ : Nat → Int} {k n : Int} {w : Nat} : gTake γ k n w 10 = (((γ 10).toNat ||| 2 ^ w : Nat) : Int) ∧ gTake γ k n w 11 = γ 11 ∧ gTake γ k n w 12 = γ 12 ∧ gTake γ k n w 13 = γ 13 ∧ gTake γ k n w 14 = γ 14 := by
  unfold gTake
  (repeat' split) <;> exact ⟨rfl, rfl, rfl, rfl, rfl⟩
theorem zCA_K {dk dv : List Int} {m : Nat} {γ : Nat → Int} {k n : Int} {w : Nat} (a : zCA dk dv m γ) : zCA dk dv m (gTake γ k n w) := by
  obtain ⟨-, e1, e2, e3, e4⟩ := gTake_x (γ := γ) (k := k) (n := n) (w := w)
  unfold zCA
  rw [e1, e2, e3, e4]
  exact a
theorem gTake_G {γ : Nat → Int} {k n : Int} {w : Nat} (rG : gGR γ) (rT : zTk γ) (hw : w < 6) (hb : ¬ (γ 10).toNat.testBit w = true) (rk : 0 ≤ k ∧ k ≤ 6) (rn : 0 ≤ n ∧ n ≤ zmo k) : gGR (gTake γ k n w) ∧ zTk (gTake γ k n w) := by
  obtain ⟨r1, r2, r3, r4, r5, r6, r7, r8, r9, r10, r11, r12, r13, r14, r15, r16⟩ := rG
  obtain ⟨t4, t5, t8⟩ := rT
  have pc := zPC_s (by omega) hw hb
  have pb := zPC_b ((γ 10).toNat ||| 2 ^ w)
  have b64 := bt_64 (m := (γ 10).toNat) (j := w) (by omega) hw
  revert pc pb b64 t4 t5 t8
  obtain ⟨D, hD⟩ : ∃ D, (γ 10).toNat ||| 2 ^ w = D := ⟨_, rfl⟩
  rw [hD]
  generalize hC : zPC (γ 10).toNat = C
  intro t4 t5 t8 pc pb b64
  rcases (by omega : k = 0 ∨ k = 1 ∨ k = 2 ∨ k = 3 ∨ k = 4 ∨ k = 5 ∨ k = 6) with rfl | rfl | rfl | rfl | rfl | rfl | rfl
  · have rn2 : n ≤ 9999 := rn.2
    rw [gTake_0 rfl, hD]
    exact ⟨⟨(show (0 : Int) ≤ γ 1 ∧ γ 1 ≤ 1000000 from by omega), (show (0 : Int) ≤ γ 2 ∧ γ 2 ≤ 1000000 from by omega), (show (0 : Int) ≤ γ 3 ∧ γ 3 ≤ 1000000 from by omega), (show (-300000000 : Int) ≤ γ 4 ∧ γ 4 ≤ 300000000 from by omega), (show (0 : Int) ≤ γ 5 ∧ γ 5 ≤ 1000 from by omega), (show (0 : Int) ≤ (1 : Int) ∧ (1 : Int) ≤ 2 from by omega), (show (0 : Int) ≤ γ 7 ∧ γ 7 ≤ 100 from by omega), (show (0 : Int) ≤ γ 8 ∧ γ 8 ≤ 10000 from by omega), (show (0 : Int) ≤ γ 9 ∧ γ 9 ≤ 300 from by omega), (show 0 ≤ ((D : Nat) : Int) ∧ ((D : Nat) : Int) < 64 from by omega), (show 0 ≤ γ 11 ∧ γ 11 < 64 from by omega), (show (0 : Int) ≤ γ 12 ∧ γ 12 ≤ 6000 from by omega), (show (0 : Int) ≤ γ 13 ∧ γ 13 ≤ 6000 from by omega), (show (0 : Int) ≤ γ 14 ∧ γ 14 ≤ 6000 from by omega), (show (-30 : Int) ≤ γ 15 ∧ γ 15 ≤ 30 from by omega), (show (-30 : Int) ≤ γ 16 ∧ γ 16 ≤ 30 from by omega)⟩, (show (0 ≤ γ 4 ∧ γ 4 ≤ 9999 * (zPC (((D : Nat) : Int)).toNat : Int)) ∧ (12 ≤ γ 5 ∧ γ 5 ≤ 60 + 60 * (zPC (((D : Nat) : Int)).toNat : Int)) ∧ (0 ≤ γ 8 ∧ γ 8 ≤ 99 * (zPC (((D : Nat) : Int)).toNat : Int)) ∧ γ 9 ≤ 200 from by rw [Int.toNat_natCast]; omega)⟩
  · have rn2 : n ≤ 9999 := rn.2
    rw [gTake_1 rfl, hD]
    exact ⟨⟨(show (0 : Int) ≤ γ 1 ∧ γ 1 ≤ 1000000 from by omega), (show (0 : Int) ≤ (0 : Int) ∧ (0 : Int) ≤ 1000000 from by omega), (show (0 : Int) ≤ γ 3 ∧ γ 3 ≤ 1000000 from by omega), (show (-300000000 : Int) ≤ γ 4 ∧ γ 4 ≤ 300000000 from by omega), (show (0 : Int) ≤ γ 5 ∧ γ 5 ≤ 1000 from by omega), (show (0 : Int) ≤ γ 6 ∧ γ 6 ≤ 2 from by omega), (show (0 : Int) ≤ γ 7 ∧ γ 7 ≤ 100 from by omega), (show (0 : Int) ≤ γ 8 ∧ γ 8 ≤ 10000 from by omega), (show (0 : Int) ≤ γ 9 ∧ γ 9 ≤ 300 from by omega), (show 0 ≤ ((D : Nat) : Int) ∧ ((D : Nat) : Int) < 64 from by omega), (show 0 ≤ γ 11 ∧ γ 11 < 64 from by omega), (show (0 : Int) ≤ γ 12 ∧ γ 12 ≤ 6000 from by omega), (show (0 : Int) ≤ γ 13 ∧ γ 13 ≤ 6000 from by omega), (show (0 : Int) ≤ γ 14 ∧ γ 14 ≤ 6000 from by omega), (show (-30 : Int) ≤ γ 15 ∧ γ 15 ≤ 30 from by omega), (show (-30 : Int) ≤ γ 16 ∧ γ 16 ≤ 30 from by omega)⟩, (show (0 ≤ γ 4 ∧ γ 4 ≤ 9999 * (zPC (((D : Nat) : Int)).toNat : Int)) ∧ (12 ≤ γ 5 ∧ γ 5 ≤ 60 + 60 * (zPC (((D : Nat) : Int)).toNat : Int)) ∧ (0 ≤ γ 8 ∧ γ 8 ≤ 99 * (zPC (((D : Nat) : Int)).toNat : Int)) ∧ γ 9 ≤ 200 from by rw [Int.toNat_natCast]; omega)⟩
  · have rn2 : n ≤ 9999 := rn.2
    rw [gTake_2 rfl, hD]
    exact ⟨⟨(show (0 : Int) ≤ γ 1 ∧ γ 1 ≤ 1000000 from by omega), (show (0 : Int) ≤ γ 2 ∧ γ 2 ≤ 1000000 from by omega), (show (0 : Int) ≤ γ 3 ∧ γ 3 ≤ 1000000 from by omega), (show (-300000000 : Int) ≤ γ 4 + n ∧ γ 4 + n ≤ 300000000 from by omega), (show (0 : Int) ≤ γ 5 ∧ γ 5 ≤ 1000 from by omega), (show (0 : Int) ≤ γ 6 ∧ γ 6 ≤ 2 from by omega), (show (0 : Int) ≤ γ 7 ∧ γ 7 ≤ 100 from by omega), (show (0 : Int) ≤ γ 8 ∧ γ 8 ≤ 10000 from by omega), (show (0 : Int) ≤ γ 9 ∧ γ 9 ≤ 300 from by omega), (show 0 ≤ ((D : Nat) : Int) ∧ ((D : Nat) : Int) < 64 from by omega), (show 0 ≤ γ 11 ∧ γ 11 < 64 from by omega), (show (0 : Int) ≤ γ 12 ∧ γ 12 ≤ 6000 from by omega), (show (0 : Int) ≤ γ 13 ∧ γ 13 ≤ 6000 from by omega), (show (0 : Int) ≤ γ 14 ∧ γ 14 ≤ 6000 from by omega), (show (-30 : Int) ≤ γ 15 ∧ γ 15 ≤ 30 from by omega), (show (-30 : Int) ≤ γ 16 ∧ γ 16 ≤ 30 from by omega)⟩, (show (0 ≤ γ 4 + n ∧ γ 4 + n ≤ 9999 * (zPC (((D : Nat) : Int)).toNat : Int)) ∧ (12 ≤ γ 5 ∧ γ 5 ≤ 60 + 60 * (zPC (((D : Nat) : Int)).toNat : Int)) ∧ (0 ≤ γ 8 ∧ γ 8 ≤ 99 * (zPC (((D : Nat) : Int)).toNat : Int)) ∧ γ 9 ≤ 200 from by rw [Int.toNat_natCast]; omega)⟩
  · have rn2 : n ≤ 100 := rn.2
    rw [gTake_3 rfl, hD]
    exact ⟨⟨(show (0 : Int) ≤ γ 1 ∧ γ 1 ≤ 1000000 from by omega), (show (0 : Int) ≤ γ 2 ∧ γ 2 ≤ 1000000 from by omega), (show (0 : Int) ≤ γ 3 ∧ γ 3 ≤ 1000000 from by omega), (show (-300000000 : Int) ≤ γ 4 ∧ γ 4 ≤ 300000000 from by omega), (show (0 : Int) ≤ γ 5 ∧ γ 5 ≤ 1000 from by omega), (show (0 : Int) ≤ γ 6 ∧ γ 6 ≤ 2 from by omega), (show (0 : Int) ≤ n ∧ n ≤ 100 from by omega), (show (0 : Int) ≤ γ 8 ∧ γ 8 ≤ 10000 from by omega), (show (0 : Int) ≤ γ 9 ∧ γ 9 ≤ 300 from by omega), (show 0 ≤ ((D : Nat) : Int) ∧ ((D : Nat) : Int) < 64 from by omega), (show 0 ≤ γ 11 ∧ γ 11 < 64 from by omega), (show (0 : Int) ≤ γ 12 ∧ γ 12 ≤ 6000 from by omega), (show (0 : Int) ≤ γ 13 ∧ γ 13 ≤ 6000 from by omega), (show (0 : Int) ≤ γ 14 ∧ γ 14 ≤ 6000 from by omega), (show (-30 : Int) ≤ γ 15 ∧ γ 15 ≤ 30 from by omega), (show (-30 : Int) ≤ γ 16 ∧ γ 16 ≤ 30 from by omega)⟩, (show (0 ≤ γ 4 ∧ γ 4 ≤ 9999 * (zPC (((D : Nat) : Int)).toNat : Int)) ∧ (12 ≤ γ 5 ∧ γ 5 ≤ 60 + 60 * (zPC (((D : Nat) : Int)).toNat : Int)) ∧ (0 ≤ γ 8 ∧ γ 8 ≤ 99 * (zPC (((D : Nat) : Int)).toNat : Int)) ∧ γ 9 ≤ 200 from by rw [Int.toNat_natCast]; omega)⟩
  · have rn2 : n ≤ 99 := rn.2
    rw [gTake_4 rfl, hD]
    exact ⟨⟨(show (0 : Int) ≤ γ 1 ∧ γ 1 ≤ 1000000 from by omega), (show (0 : Int) ≤ γ 2 ∧ γ 2 ≤ 1000000 from by omega), (show (0 : Int) ≤ γ 3 ∧ γ 3 ≤ 1000000 from by omega), (show (-300000000 : Int) ≤ γ 4 ∧ γ 4 ≤ 300000000 from by omega), (show (0 : Int) ≤ γ 5 ∧ γ 5 ≤ 1000 from by omega), (show (0 : Int) ≤ γ 6 ∧ γ 6 ≤ 2 from by omega), (show (0 : Int) ≤ γ 7 ∧ γ 7 ≤ 100 from by omega), (show (0 : Int) ≤ γ 8 + n ∧ γ 8 + n ≤ 10000 from by omega), (show (0 : Int) ≤ γ 9 ∧ γ 9 ≤ 300 from by omega), (show 0 ≤ ((D : Nat) : Int) ∧ ((D : Nat) : Int) < 64 from by omega), (show 0 ≤ γ 11 ∧ γ 11 < 64 from by omega), (show (0 : Int) ≤ γ 12 ∧ γ 12 ≤ 6000 from by omega), (show (0 : Int) ≤ γ 13 ∧ γ 13 ≤ 6000 from by omega), (show (0 : Int) ≤ γ 14 ∧ γ 14 ≤ 6000 from by omega), (show (-30 : Int) ≤ γ 15 ∧ γ 15 ≤ 30 from by omega), (show (-30 : Int) ≤ γ 16 ∧ γ 16 ≤ 30 from by omega)⟩, (show (0 ≤ γ 4 ∧ γ 4 ≤ 9999 * (zPC (((D : Nat) : Int)).toNat : Int)) ∧ (12 ≤ γ 5 ∧ γ 5 ≤ 60 + 60 * (zPC (((D : Nat) : Int)).toNat : Int)) ∧ (0 ≤ γ 8 + n ∧ γ 8 + n ≤ 99 * (zPC (((D : Nat) : Int)).toNat : Int)) ∧ γ 9 ≤ 200 from by rw [Int.toNat_natCast]; omega)⟩
  · have rn2 : n ≤ 60 := rn.2
    rw [gTake_5 rfl, hD]
    exact ⟨⟨(show (0 : Int) ≤ (0 : Int) ∧ (0 : Int) ≤ 1000000 from by omega), (show (0 : Int) ≤ γ 2 ∧ γ 2 ≤ 1000000 from by omega), (show (0 : Int) ≤ γ 3 ∧ γ 3 ≤ 1000000 from by omega), (show (-300000000 : Int) ≤ γ 4 ∧ γ 4 ≤ 300000000 from by omega), (show (0 : Int) ≤ γ 5 + n ∧ γ 5 + n ≤ 1000 from by omega), (show (0 : Int) ≤ γ 6 ∧ γ 6 ≤ 2 from by omega), (show (0 : Int) ≤ γ 7 ∧ γ 7 ≤ 100 from by omega), (show (0 : Int) ≤ γ 8 ∧ γ 8 ≤ 10000 from by omega), (show (0 : Int) ≤ γ 9 ∧ γ 9 ≤ 300 from by omega), (show 0 ≤ ((D : Nat) : Int) ∧ ((D : Nat) : Int) < 64 from by omega), (show 0 ≤ γ 11 ∧ γ 11 < 64 from by omega), (show (0 : Int) ≤ γ 12 ∧ γ 12 ≤ 6000 from by omega), (show (0 : Int) ≤ γ 13 ∧ γ 13 ≤ 6000 from by omega), (show (0 : Int) ≤ γ 14 ∧ γ 14 ≤ 6000 from by omega), (show (-30 : Int) ≤ γ 15 ∧ γ 15 ≤ 30 from by omega), (show (-30 : Int) ≤ γ 16 ∧ γ 16 ≤ 30 from by omega)⟩, (show (0 ≤ γ 4 ∧ γ 4 ≤ 9999 * (zPC (((D : Nat) : Int)).toNat : Int)) ∧ (12 ≤ γ 5 + n ∧ γ 5 + n ≤ 60 + 60 * (zPC (((D : Nat) : Int)).toNat : Int)) ∧ (0 ≤ γ 8 ∧ γ 8 ≤ 99 * (zPC (((D : Nat) : Int)).toNat : Int)) ∧ γ 9 ≤ 200 from by rw [Int.toNat_natCast]; omega)⟩
  · have rn2 : n ≤ 9999 := rn.2
    rw [gTake_6 rfl, hD]
    exact ⟨⟨(show (0 : Int) ≤ γ 1 ∧ γ 1 ≤ 1000000 from by omega), (show (0 : Int) ≤ γ 2 ∧ γ 2 ≤ 1000000 from by omega), (show (0 : Int) ≤ (0 : Int) ∧ (0 : Int) ≤ 1000000 from by omega), (show (-300000000 : Int) ≤ γ 4 + n ∧ γ 4 + n ≤ 300000000 from by omega), (show (0 : Int) ≤ γ 5 ∧ γ 5 ≤ 1000 from by omega), (show (0 : Int) ≤ γ 6 ∧ γ 6 ≤ 2 from by omega), (show (0 : Int) ≤ γ 7 ∧ γ 7 ≤ 100 from by omega), (show (0 : Int) ≤ γ 8 ∧ γ 8 ≤ 10000 from by omega), (show (0 : Int) ≤ γ 9 ∧ γ 9 ≤ 300 from by omega), (show 0 ≤ ((D : Nat) : Int) ∧ ((D : Nat) : Int) < 64 from by omega), (show 0 ≤ γ 11 ∧ γ 11 < 64 from by omega), (show (0 : Int) ≤ γ 12 ∧ γ 12 ≤ 6000 from by omega), (show (0 : Int) ≤ γ 13 ∧ γ 13 ≤ 6000 from by omega), (show (0 : Int) ≤ γ 14 ∧ γ 14 ≤ 6000 from by omega), (show (-30 : Int) ≤ γ 15 ∧ γ 15 ≤ 30 from by omega), (show (-30 : Int) ≤ γ 16 ∧ γ 16 ≤ 30 from by omega)⟩, (show (0 ≤ γ 4 + n ∧ γ 4 + n ≤ 9999 * (zPC (((D : Nat) : Int)).toNat : Int)) ∧ (12 ≤ γ 5 ∧ γ 5 ≤ 60 + 60 * (zPC (((D : Nat) : Int)).toNat : Int)) ∧ (0 ≤ γ 8 ∧ γ 8 ≤ 99 * (zPC (((D : Nat) : Int)).toNat : Int)) ∧ γ 9 ≤ 200 from by rw [Int.toNat_natCast]; omega)⟩
