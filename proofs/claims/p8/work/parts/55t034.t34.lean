/-! ===== a text: the class ===== -/
/-- what the class has read -/
def zSC (b : Nat) (h : cv_H) (s : zSg) : Prop := ri_at h 50 3 = s.1 ∧ zLT b h s.2.1 ∧ (ri_at h b 2 = s.2.2.1 ∧ ri_at h b 3 = s.2.2.1 ∧ 0 ≤ s.2.2.1 ∧ s.2.2.1 ≤ 64) ∧ (ri_at h b 9 = s.2.2.2.1.length ∧ zNm h (b + 7) 0 s.2.2.2.1) ∧ (ri_at h b 14 = s.2.2.2.2.1.length ∧ zNm h (b + 8) 0 s.2.2.2.2.1) ∧ (ri_at h b 19 = s.2.2.2.2.2.length ∧ zNm h (b + 12) 0 s.2.2.2.2.2) ∧ ∀ i, s.2.2.2.1.length ≤ i → i < 4 → ri_at h (b + 16 + 2 * i) 14 = 0 ∧ ri_at h (b + 16 + 2 * i) 15 = 0
section ZS
variable {b m : Nat} {h h' : cv_H}
theorem sc_3 (C : cw_Fr cw_Ds cw_sh m h h') (q : cw_bit m 5 3 = false) : ri_at h' 50 3 = ri_at h 50 3 := ri_frf C (k := 50) (d := 5) rfl rfl q
theorem sc_lt {lt : Int → Int} (hb : b = 2 ∨ b = 26) (C : cw_Fr cw_Ds cw_sh m h h') (q : (cw_bit m 30 0 || cw_bit m 30 1) = false) (q' : (cw_bit m 31 0 || cw_bit m 31 1) = false) (hl : zLT b h lt) : zLT b h' lt :=
  zLT_eq hl (fun i => ri_frr C (k := b + 3) (d := 30) (by rcases hb with rfl | rfl <;> rfl) rfl q) (fun i => ri_frr C (k := b + 4) (d := 31) (by rcases hb with rfl | rfl <;> rfl) rfl q')
theorem sc_f (hb : b = 2 ∨ b = 26) (C : cw_Fr cw_Ds cw_sh m h h') (i : Nat) (q : cw_bit m 4 i = false) : ri_at h' b i = ri_at h b i := ri_frf C (k := b) (d := 4) (by rcases hb with rfl | rfl <;> rfl) rfl q
theorem sc_kn {kn : Int} (hb : b = 2 ∨ b = 26) (C : cw_Fr cw_Ds cw_sh m h h') (q : cw_bit m 4 2 = false) (q' : cw_bit m 4 3 = false) (hk : ri_at h b 2 = kn ∧ ri_at h b 3 = kn ∧ 0 ≤ kn ∧ kn ≤ 64) : ri_at h' b 2 = kn ∧ ri_at h' b 3 = kn ∧ 0 ≤ kn ∧ kn ≤ 64 := ⟨(sc_f hb C 2 q).trans hk.1, (sc_f hb C 3 q').trans hk.2.1, hk.2.2⟩
theorem sc_g {l : List Int} (hb : b = 2 ∨ b = 26) (C : cw_Fr cw_Ds cw_sh m h h') (q : cw_bit m 4 9 = false) (q' : (cw_bit m 34 0 || cw_bit m 34 1) = false) (hl : ri_at h b 9 = l.length ∧ zNm h (b + 7) 0 l) : ri_at h' b 9 = l.length ∧ zNm h' (b + 7) 0 l := ⟨(sc_f hb C 9 q).trans hl.1, zNm_eq hl.2 (fun i => ri_frr C (k := b + 7) (d := 34) (by rcases hb with rfl | rfl <;> rfl) rfl q')⟩
theorem sc_w {l : List Int} (hb : b = 2 ∨ b = 26) (C : cw_Fr cw_Ds cw_sh m h h') (q : cw_bit m 4 14 = false) (q' : (cw_bit m 35 0 || cw_bit m 35 1) = false) (hl : ri_at h b 14 = l.length ∧ zNm h (b + 8) 0 l) : ri_at h' b 14 = l.length ∧ zNm h' (b + 8) 0 l := ⟨(sc_f hb C 14 q).trans hl.1, zNm_eq hl.2 (fun i => ri_frr C (k := b + 8) (d := 35) (by rcases hb with rfl | rfl <;> rfl) rfl q')⟩
theorem sc_c {l : List Int} (hb : b = 2 ∨ b = 26) (C : cw_Fr cw_Ds cw_sh m h h') (q : cw_bit m 4 19 = false) (q' : (cw_bit m 39 0 || cw_bit m 39 1) = false) (hl : ri_at h b 19 = l.length ∧ zNm h (b + 12) 0 l) : ri_at h' b 19 = l.length ∧ zNm h' (b + 12) 0 l := ⟨(sc_f hb C 19 q).trans hl.1, zNm_eq hl.2 (fun i => ri_frr C (k := b + 12) (d := 39) (by rcases hb with rfl | rfl <;> rfl) rfl q')⟩
theorem sc_t {k : Nat} (hb : b = 2 ∨ b = 26) (C : cw_Fr cw_Ds cw_sh m h h') (q : cw_bit m 7 14 = false) (q' : cw_bit m 7 15 = false) (hl : ∀ i, k ≤ i → i < 4 → ri_at h (b + 16 + 2 * i) 14 = 0 ∧ ri_at h (b + 16 + 2 * i) 15 = 0) : ∀ i, k ≤ i → i < 4 → ri_at h' (b + 16 + 2 * i) 14 = 0 ∧ ri_at h' (b + 16 + 2 * i) 15 = 0 := fun i h1 h2 => ⟨(ri_frf C (sh_told hb h2) rfl q).trans (hl i h1 h2).1, (ri_frf C (sh_told hb h2) rfl q').trans (hl i h1 h2).2⟩
end ZS
def zSem {α β : Type} (t : Nat → Int) (n : Nat) (f : α → β) (v : α) (q : Nat) : (Int × Nat) ⊕ (β × Nat) := if zk t n q = 4 ∧ zw t n q = 59 then .inr (f v, zx t n q) else .inl (1, za t n q)
theorem zsm_g {α β : Type} {t : Nat → Int} {n q' : Nat} {z : (Int × Nat) ⊕ (α × Nat)} {f : α → β} (h : zbd (zst z) (zsm t n) = .inr q') : ∃ v q, z = .inr (v, q) ∧ zb2 z (zSem t n f) = .inr (f v, q') := by
  rcases z with e | ⟨v, q⟩
  · cases h
  · refine ⟨v, q, rfl, ?_⟩
    replace h : zsm t n q = .inr q' := h
    show zSem t n f v q = _
    unfold zsm at h
    unfold zSem
    by_cases c : zk t n q = 4 ∧ zw t n q = 59
    · rw [if_pos c] at h ⊢; cases h; rfl
    · rw [if_neg c] at h; cases h
theorem zsm_b {α β : Type} {t : Nat → Int} {n : Nat} {e : Int × Nat} {z : (Int × Nat) ⊕ (α × Nat)} {f : α → β} (h : zbd (zst z) (zsm t n) = .inl e) : zb2 z (zSem t n f) = .inl e := by
  rcases z with e' | ⟨v, q⟩
  · cases h; rfl
  · replace h : zsm t n q = .inl e := h
    show zSem t n f v q = _
    unfold zsm at h
    unfold zSem
    by_cases c : zk t n q = 4 ∧ zw t n q = 59
    · rw [if_pos c] at h; cases h
    · rw [if_neg c] at h ⊢; cases h; rfl
theorem zl0_a {α β : Type} {t : Nat → Int} {n : Nat} {z : (Int × Nat) ⊕ (α × Nat)} {f : α → β} : (zb2 (zb2 z fun v q => .inr (f v, q)) fun (s : β) q => if zk t n q = 4 ∧ zw t n q = 59 then .inr (s, zx t n q) else .inl (1, za t n q)) = zb2 z (zSem t n f) := by
  rcases z with e | ⟨v, q⟩ <;> rfl
theorem zll_lc {β : Type} {t : Nat → Int} {n p : Nat} {lt : Int → Int} {kn : Int} {f : Int × Int → β} : zb2 (zll t n lt kn p) (zSem t n f) = zb2 (zlc t n lt kn p) (zSem t n f) := by
  unfold zll zlc
  by_cases c : zk t n (zx t n p) = 1 ∧ 5 ≤ zw t n (zx t n p) ∧ zw t n (zx t n p) ≤ 8
  · rw [if_pos c, if_pos c]
    by_cases d : lt (zw t n (zx t n p) - 5) = 0
    · rw [if_pos d, if_pos d]
      have a : ∀ z : (Int × Nat) ⊕ (Int × Nat), zb2 (zb2 z fun k q => .inr ((zw t n (zx t n p) - 5, k), q)) (zSem t n f) = zb2 z fun k q => if zk t n q = 4 ∧ zw t n q = 59 then (fun k q => Sum.inr (f (zw t n (zx t n p) - 5, k), zx t n q)) k q else .inl (1, za t n q) := fun z => by rcases z with e | ⟨v, q⟩ <;> rfl
      rw [a, a, zfc_fm 901 [] kn 1 1 _ (Int.le_refl 0)]
    · rw [if_neg d, if_neg d]
  · rw [if_neg c, if_neg c]
def zTc (S : (Int × Nat) ⊕ (zSg × Int)) (x : Int32) (h : cv_H) : Prop := match S with
  | .inl (f, a) => x.toInt = -1 ∧ ri_at h 50 4 = f ∧ ri_at h 50 5 = a
  | .inr (_, k) => x.toInt = k ∧ ri_at h 50 4 = 0 ∧ ri_at h 50 5 = -1
def mk_rx : Nat := 0x10000000000000000000000000000000000000001000000000000000000010000000000000000000100000000000000000001000000000000000000010000000000000000000100000000000000000001000000000000000000010000000000000000000100000000000000000000000000000000000000010000000000000000000100000000000000000001000000000000000000010000000000000000000100000000000000000000000000000000000000000000000000000000000000000000000000000000000000000000000000000000000000000000000000000000000000000000000000000000000000000000000000000000000000000000000000000000000000000000000000000000000000000000000100000000000000000000000000000000000000000000000000000000000000000000000000000000000000000000000000000000000000000000000000000000000000000000000000000000000000000000000000000000ffff00000000000000000078000000000000000000380000000000000008420c000000000000000000000000000000000000000000000000000000000000000000000000000000fc
theorem zSC_sem {b : Nat} {h h' : cv_H} {s : zSg} (hb : b = 2 ∨ b = 26) (C : cw_Fr cw_Ds cw_sh kk_X5_readSemicolon.2.2.2.2.2.1 h h') (hs : zSC b h s) : zSC b h' s := by
  obtain ⟨c3, clt, ckn, cg, cw, cc, cto⟩ := hs
  exact ⟨(sc_3 C (by decide +kernel)).trans c3, sc_lt hb C (by decide +kernel) (by decide +kernel) clt, sc_kn hb C (by decide +kernel) (by decide +kernel) ckn, sc_g hb C (by decide +kernel) (by decide +kernel) cg, sc_w hb C (by decide +kernel) (by decide +kernel) cw, sc_c hb C (by decide +kernel) (by decide +kernel) cc, sc_t hb C (by decide +kernel) (by decide +kernel) cto⟩
section TZ
variable {G : Int} {X : cv_X} {Q : cv_O → Prop} {t : Nat → Int}
theorem oq_X5_readText_0 : cw_ho 60 0 (.aload_n 0) 1 0 0 0 := rfl
theorem oq_X5_readText_1 : cw_ho 60 1 (.aload_n 1) 1 0 0 0 := rfl
theorem oq_X5_readText_2 : cw_ho 60 2 (.putfield 33) 3 5 2 4 := rfl
theorem oq_X5_readText_5 : cw_ho 60 5 (.aload_n 0) 1 0 0 0 := rfl
theorem oq_X5_readText_6 : cw_ho 60 6 (.getfield 33) 3 5 2 4 := rfl
theorem oq_X5_readText_9 : cw_ho 60 9 (.invokevirtual 37) 3 49 0 4 := rfl
theorem oq_X5_readText_12 : cw_ho 60 12 (.aload_n 0) 1 0 0 0 := rfl
theorem oq_X5_readText_13 : cw_ho 60 13 (.iconst 0) 1 0 0 0 := rfl
theorem oq_X5_readText_14 : cw_ho 60 14 (.putfield 42) 3 5 3 2 := rfl
theorem oq_X5_readText_17 : cw_ho 60 17 (.aload_n 0) 1 0 0 0 := rfl
theorem oq_X5_readText_18 : cw_ho 60 18 (.iconst 0) 1 0 0 0 := rfl
theorem oq_X5_readText_19 : cw_ho 60 19 (.putfield 46) 3 5 4 0 := rfl
theorem oq_X5_readText_22 : cw_ho 60 22 (.aload_n 0) 1 0 0 0 := rfl
theorem oq_X5_readText_23 : cw_ho 60 23 (.iconst (-1)) 1 0 0 0 := rfl
theorem oq_X5_readText_24 : cw_ho 60 24 (.putfield 9) 3 5 5 0 := rfl
theorem oq_X5_readText_27 : cw_ho 60 27 (.aload_n 0) 1 0 0 0 := rfl
theorem oq_X5_readText_28 : cw_ho 60 28 (.getfield 20) 3 5 0 4 := rfl
theorem oq_X5_readText_31 : cw_ho 60 31 (.iload_n 2) 1 0 0 0 := rfl
theorem oq_X5_readText_32 : cw_ho 60 32 (.invokevirtual 49) 3 77 1 6 := rfl
theorem oq_X5_readText_35 : cw_ho 60 35 (.iconst 0) 1 0 0 0 := rfl
theorem oq_X5_readText_36 : cw_ho 60 36 (.istore_n 3) 1 0 0 0 := rfl
theorem oq_X5_readText_37 : cw_ho 60 37 (.iload_n 3) 1 0 0 0 := rfl
theorem oq_X5_readText_38 : cw_ho 60 38 (.sipush 900) 3 0 0 0 := rfl
theorem oq_X5_readText_41 : cw_ho 60 41 (.if_icmp .gt 131) 3 0 0 0 := rfl
theorem oq_X5_readText_44 : cw_ho 60 44 (.aload_n 0) 1 0 0 0 := rfl
theorem oq_X5_readText_45 : cw_ho 60 45 (.getfield 20) 3 5 0 4 := rfl
theorem oq_X5_readText_48 : cw_ho 60 48 (.getfield 53) 3 6 4 0 := rfl
theorem oq_X5_readText_51 : cw_ho 60 51 (.ifCond .ne 5) 3 0 0 0 := rfl
theorem oq_X5_readText_54 : cw_ho 60 54 (.iload_n 3) 1 0 0 0 := rfl
theorem oq_X5_readText_55 : cw_ho 60 55 (.ireturn) 1 0 0 0 := rfl
theorem oq_X5_readText_56 : cw_ho 60 56 (.aload_n 0) 1 0 0 0 := rfl
theorem oq_X5_readText_57 : cw_ho 60 57 (.getfield 20) 3 5 0 4 := rfl
theorem oq_X5_readText_60 : cw_ho 60 60 (.getfield 53) 3 6 4 0 := rfl
theorem oq_X5_readText_63 : cw_ho 60 63 (.iconst 2) 1 0 0 0 := rfl
theorem oq_X5_readText_64 : cw_ho 60 64 (.if_icmp .ne 13) 3 0 0 0 := rfl
theorem oq_X5_readText_67 : cw_ho 60 67 (.aload_n 0) 1 0 0 0 := rfl
theorem oq_X5_readText_68 : cw_ho 60 68 (.getfield 20) 3 5 0 4 := rfl
theorem oq_X5_readText_71 : cw_ho 60 71 (.getfield 56) 3 6 6 0 := rfl
theorem oq_X5_readText_74 : cw_ho 60 74 (.goto 4) 3 0 0 0 := rfl
theorem oq_X5_readText_77 : cw_ho 60 77 (.iconst (-1)) 1 0 0 0 := rfl
theorem oq_X5_readText_78 : cw_ho 60 78 (.tableswitch 69 0 4 #[34, 41, 48, 55, 62]) 34 0 0 0 := rfl
theorem oq_X5_readText_112 : cw_ho 60 112 (.aload_n 0) 1 0 0 0 := rfl
theorem oq_X5_readText_113 : cw_ho 60 113 (.invokevirtual 59) 3 65 0 5 := rfl
theorem oq_X5_readText_116 : cw_ho 60 116 (.goto 37) 3 0 0 0 := rfl
theorem oq_X5_readText_119 : cw_ho 60 119 (.aload_n 0) 1 0 0 0 := rfl
theorem oq_X5_readText_120 : cw_ho 60 120 (.invokevirtual 62) 3 66 0 5 := rfl
theorem oq_X5_readText_123 : cw_ho 60 123 (.goto 30) 3 0 0 0 := rfl
theorem oq_X5_readText_126 : cw_ho 60 126 (.aload_n 0) 1 0 0 0 := rfl
theorem oq_X5_readText_127 : cw_ho 60 127 (.invokevirtual 65) 3 67 0 5 := rfl
theorem oq_X5_readText_130 : cw_ho 60 130 (.goto 23) 3 0 0 0 := rfl
theorem oq_X5_readText_133 : cw_ho 60 133 (.aload_n 0) 1 0 0 0 := rfl
theorem oq_X5_readText_134 : cw_ho 60 134 (.invokevirtual 68) 3 71 0 5 := rfl
theorem oq_X5_readText_137 : cw_ho 60 137 (.goto 16) 3 0 0 0 := rfl
theorem oq_X5_readText_140 : cw_ho 60 140 (.aload_n 0) 1 0 0 0 := rfl
theorem oq_X5_readText_141 : cw_ho 60 141 (.invokevirtual 71) 3 74 0 5 := rfl
theorem oq_X5_readText_144 : cw_ho 60 144 (.goto 9) 3 0 0 0 := rfl
theorem oq_X5_readText_147 : cw_ho 60 147 (.aload_n 0) 1 0 0 0 := rfl
theorem oq_X5_readText_148 : cw_ho 60 148 (.iconst 1) 1 0 0 0 := rfl
theorem oq_X5_readText_149 : cw_ho 60 149 (.invokevirtual 74) 3 61 1 5 := rfl
theorem oq_X5_readText_152 : cw_ho 60 152 (.pop) 1 0 0 0 := rfl
theorem oq_X5_readText_153 : cw_ho 60 153 (.aload_n 0) 1 0 0 0 := rfl
theorem oq_X5_readText_154 : cw_ho 60 154 (.invokevirtual 78) 3 62 0 5 := rfl
theorem oq_X5_readText_157 : cw_ho 60 157 (.aload_n 0) 1 0 0 0 := rfl
theorem oq_X5_readText_158 : cw_ho 60 158 (.getfield 46) 3 5 4 0 := rfl
theorem oq_X5_readText_161 : cw_ho 60 161 (.ifCond .eq 5) 3 0 0 0 := rfl
theorem oq_X5_readText_164 : cw_ho 60 164 (.iconst (-1)) 1 0 0 0 := rfl
theorem oq_X5_readText_165 : cw_ho 60 165 (.ireturn) 1 0 0 0 := rfl
theorem oq_X5_readText_166 : cw_ho 60 166 (.iinc 3 1) 3 0 0 0 := rfl
theorem oq_X5_readText_169 : cw_ho 60 169 (.goto (-132)) 3 0 0 0 := rfl
set_option maxHeartbeats 8000000 in
theorem tx_tail {h0 : cv_H} {n p u : Nat} (ht : ∀ i, t i = ri_at h0 1 i % 256) (hwd : ∀ i, i < 34 → ri_at h0 52 i = tz_wc.getD i 0) (hn9 : n ≤ 900)  {b : Nat} (hb : b = 2 ∨ b = 26) (hpl : zPL b h0) {α : Type} {z : (Int × Nat) ⊕ (α × Nat)} {f : α → zSg} {s : zSg} {k : Int} {E : (Int × Nat) ⊕ (zSg × Int)} (hQ : ∀ (x : Int32) h', cw_T G h' → cw_Fr cw_Ds cw_sh mk_rx h0 h' → zTc (E) x h' → Q (some (cv_i x), h')) (hpn : p ≤ n) (hE : ztx t n (u + 1) k s p = E) (hk0 : ¬ zk t n p = 0) (hln : zln t n s p = zb2 z (zSem t n f)) {h : cv_H} (hD : ∀ v q, z = .inr (v, q) → zSC b h (f v)) (hK : ∀ (L : cv_L) (I : Int32) (s' : zSg) (q' : Nat) (h' : cv_H), cw_T G h' → cw_Fr cw_Ds cw_sh mk_rx h0 h' → zCs t n (.inr q') h' → zSC b h' s' → p < q' → ztx t n u (k + 1) s' q' = E → I.toInt = k + 1 → cv_get L 0 = some (cv_r 50) → cv_get L 3 = some (cv_i I) → cw_X X 60 Q 37 L [] h') (L : cv_L) (I : Int32) (hT : cw_T G h) (Fh : cw_Fr cw_Ds cw_sh mk_rx h0 h) (hS : zCs t n (zst z) h) (hI : I.toInt = k ∧ 0 ≤ k ∧ k ≤ 900) (g0 : cv_get L 0 = some (cv_r 50)) (g3 : cv_get L 3 = some (cv_i I)) : cw_X X 60 Q 153 L [] h := by
  have Fh0 : cw_Fr cw_Ds cw_sh mk_rx h0 h0 := cw_Fr_refl
  have hA : ∀ h, cw_Fr cw_Ds cw_sh mk_rx h0 h → ∀ i, ri_at h 1 i = ri_at h0 1 i := fun h F i => ri_frr F (k := 1) (d := 13) rfl rfl (by decide +kernel)
  have hB : ∀ h, cw_Fr cw_Ds cw_sh mk_rx h0 h → ∀ i, ri_at h 52 i = ri_at h0 52 i := fun h F i => ri_frr F (k := 52) (d := 43) rfl rfl (by decide +kernel)
  have hPL : ∀ h, cw_Fr cw_Ds cw_sh mk_rx h0 h → zPL b h := fun h F => zPL_fr hb F (by decide +kernel) hpl
  have hb4 : cw_sh[b]? = some 4 := by rcases hb with rfl | rfl <;> rfl
  have hkb1 : cw_sh[b + 1]? = some 28 := by rcases hb with rfl | rfl <;> rfl
  have hkb2 : cw_sh[b + 2]? = some 29 := by rcases hb with rfl | rfl <;> rfl
  have hkb3 : cw_sh[b + 3]? = some 30 := by rcases hb with rfl | rfl <;> rfl
  have hkb4 : cw_sh[b + 4]? = some 31 := by rcases hb with rfl | rfl <;> rfl
  have hkb5 : cw_sh[b + 5]? = some 32 := by rcases hb with rfl | rfl <;> rfl
  have hkb6 : cw_sh[b + 6]? = some 33 := by rcases hb with rfl | rfl <;> rfl
  have hkb7 : cw_sh[b + 7]? = some 34 := by rcases hb with rfl | rfl <;> rfl
  have hkb8 : cw_sh[b + 8]? = some 35 := by rcases hb with rfl | rfl <;> rfl
  have hkb9 : cw_sh[b + 9]? = some 36 := by rcases hb with rfl | rfl <;> rfl
  have hkb10 : cw_sh[b + 10]? = some 37 := by rcases hb with rfl | rfl <;> rfl
  have hkb11 : cw_sh[b + 11]? = some 38 := by rcases hb with rfl | rfl <;> rfl
  have hkb12 : cw_sh[b + 12]? = some 39 := by rcases hb with rfl | rfl <;> rfl
  have hkb13 : cw_sh[b + 13]? = some 40 := by rcases hb with rfl | rfl <;> rfl
  have hkb14 : cw_sh[b + 14]? = some 41 := by rcases hb with rfl | rfl <;> rfl
  have hkb15 : cw_sh[b + 15]? = some 42 := by rcases hb with rfl | rfl <;> rfl
  refine ex_al oq_X5_readText_153 g0 ?_
  refine ex_cv oq_X5_readText_154 (by decide) hT (k := 50) (d := 5) (as := []) (stk := []) rfl rfl rfl rfl rfl rfl ⟨rfl, rfl⟩ (R := fun o => ∃ hb : cv_H, o = (none, hb) ∧ cw_T G hb ∧ cw_Fr cw_Ds cw_sh kk_X5_readSemicolon.2.2.2.2.2.1 h hb ∧ zCs t n (zbd (zst z) (zsm t n)) hb) (ct_semicolon (t := t) (n := n) (fun i => by rw [ht, ← hA _ Fh]) (fun i hi => by rw [hB _ Fh]; exact hwd i hi) hn9 hT hS (fun hb b1 b2 b3 => ⟨hb, rfl, b1, b2, b3⟩)) (fun o ho => ?_)
  obtain ⟨h101, rfl, Th101, Ch101, Sh101⟩ := ho
  show cw_X _ _ _ _ _ [] h101
  have Fh101 : cw_Fr cw_Ds cw_sh mk_rx h0 h101 := cw_Fr_tr Fh (cw_Fr_mono (by decide +kernel) Ch101)
  refine ex_al oq_X5_readText_157 g0 ?_
  obtain ⟨x102, ax102, rx102, lx102, ux102⟩ := ri_fld (k := 50) (d := 5) (f := 4) Th101 rfl rfl rfl
  try dsimp only at lx102 ux102
  refine ex_gf oq_X5_readText_158 Th101 (k := 50) (d := 5) rfl rfl ax102 ?_
  clear lx102 ux102
  refine ex_if0 oq_X5_readText_161 (t := 166) rfl rfl (fun (c103 : x102.toInt = 0) => ?_) (fun (c103 : ¬ (x102.toInt = 0)) => ?_)
  · obtain ⟨q2, gq⟩ := zCs_good Sh101 (by omega)
    rw [gq] at Sh101
    obtain ⟨v, q, e1, e2⟩ := zsm_g (f := f) gq
    refine ex_incA oq_X5_readText_166 (v := I) (m := 1) g3 (by decide) (by omega) (fun L105 x104 hx104 gL105_3 kL105 => ?_)
    have gL105_0 : cv_get L105 0 = some (cv_r 50) := kL105 0 _ (by decide) (fun q => absurd q (by decide)) g0
    refine ex_go oq_X5_readText_169 (t := 37) rfl rfl ?_
    rw [ztx_s, if_neg hk0, hln, zb2_r e2] at hE
    have hge := zln_ge (t := t) hpn (hln.trans e2)
    exact hK L105 x104 (f v) q2 h101 Th101 Fh101 Sh101 (zSC_sem hb Ch101 (hD v q e1)) (by omega) hE (by omega) gL105_0 gL105_3
  · replace c103 : ¬ x102.toInt = 0 := by omega
    obtain ⟨⟨fc, fa⟩, gq⟩ := zCs_bad Sh101 (by omega)
    rw [gq] at Sh101
    have e2 := zsm_b (f := f) gq
    refine ex_ic oq_X5_readText_164 (m := (-1)) (by decide) (fun x106 hx106 => ?_)
    rw [ztx_s, if_neg hk0, hln, zb2_l e2] at hE
    exact ex_reti oq_X5_readText_165 rfl (hQ x106 h101 Th101 Fh101 (by rw [← hE]; exact ⟨by omega, Sh101.1, Sh101.2.1⟩))
set_option maxHeartbeats 16000000 in
theorem tx_lp {h0 : cv_H} {n : Nat} (ht : ∀ i, t i = ri_at h0 1 i % 256) (hwd : ∀ i, i < 34 → ri_at h0 52 i = tz_wc.getD i 0) (hn9 : n ≤ 900)  {b : Nat} (hb : b = 2 ∨ b = 26) (hpl : zPL b h0) {E : (Int × Nat) ⊕ (zSg × Int)} (hQ : ∀ (x : Int32) h', cw_T G h' → cw_Fr cw_Ds cw_sh mk_rx h0 h' → zTc (E) x h' → Q (some (cv_i x), h')) : ∀ (u ii : Nat) (L : cv_L) (I : Int32) (s : zSg) (p : Nat) (h : cv_H), ii + u = 901 → cw_T G h → cw_Fr cw_Ds cw_sh mk_rx h0 h → zCs t n (.inr p) h → zSC b h s → n < u + p → ztx t n u ii s p = E → I.toInt = ii → cv_get L 0 = some (cv_r 50) → cv_get L 3 = some (cv_i I) → cw_X X 60 Q 37 L [] h := by
  have Fh0 : cw_Fr cw_Ds cw_sh mk_rx h0 h0 := cw_Fr_refl
  have hA : ∀ h, cw_Fr cw_Ds cw_sh mk_rx h0 h → ∀ i, ri_at h 1 i = ri_at h0 1 i := fun h F i => ri_frr F (k := 1) (d := 13) rfl rfl (by decide +kernel)
  have hB : ∀ h, cw_Fr cw_Ds cw_sh mk_rx h0 h → ∀ i, ri_at h 52 i = ri_at h0 52 i := fun h F i => ri_frr F (k := 52) (d := 43) rfl rfl (by decide +kernel)
  have hPL : ∀ h, cw_Fr cw_Ds cw_sh mk_rx h0 h → zPL b h := fun h F => zPL_fr hb F (by decide +kernel) hpl
  have hb4 : cw_sh[b]? = some 4 := by rcases hb with rfl | rfl <;> rfl
  have hkb1 : cw_sh[b + 1]? = some 28 := by rcases hb with rfl | rfl <;> rfl
  have hkb2 : cw_sh[b + 2]? = some 29 := by rcases hb with rfl | rfl <;> rfl
  have hkb3 : cw_sh[b + 3]? = some 30 := by rcases hb with rfl | rfl <;> rfl
  have hkb4 : cw_sh[b + 4]? = some 31 := by rcases hb with rfl | rfl <;> rfl
  have hkb5 : cw_sh[b + 5]? = some 32 := by rcases hb with rfl | rfl <;> rfl
  have hkb6 : cw_sh[b + 6]? = some 33 := by rcases hb with rfl | rfl <;> rfl
  have hkb7 : cw_sh[b + 7]? = some 34 := by rcases hb with rfl | rfl <;> rfl
  have hkb8 : cw_sh[b + 8]? = some 35 := by rcases hb with rfl | rfl <;> rfl
  have hkb9 : cw_sh[b + 9]? = some 36 := by rcases hb with rfl | rfl <;> rfl
  have hkb10 : cw_sh[b + 10]? = some 37 := by rcases hb with rfl | rfl <;> rfl
  have hkb11 : cw_sh[b + 11]? = some 38 := by rcases hb with rfl | rfl <;> rfl
  have hkb12 : cw_sh[b + 12]? = some 39 := by rcases hb with rfl | rfl <;> rfl
  have hkb13 : cw_sh[b + 13]? = some 40 := by rcases hb with rfl | rfl <;> rfl
  have hkb14 : cw_sh[b + 14]? = some 41 := by rcases hb with rfl | rfl <;> rfl
  have hkb15 : cw_sh[b + 15]? = some 42 := by rcases hb with rfl | rfl <;> rfl
  intro u
  induction u with
  | zero =>
    intro ii L I s p h hiu hT Fh hS hs hnp hE hI g0 g3
    have := hS.1
    exfalso
    omega
  | succ u ih =>
    intro ii L I s p h hiu hT Fh hS hs hnp hE hI g0 g3
    have hpn := hS.1
    obtain ⟨c3, clt, ckn, cg, cw, cc, cto⟩ := id hs
    have hg4 : s.2.2.2.1.length ≤ 4 := by
      obtain ⟨x, -, r1, r2, r3⟩ := ri_fld (k := b) (d := 4) (f := 9) hT hb4 rfl rfl
      have := cg.1
      dsimp only at r2 r3
      omega
    have hw6 : s.2.2.2.2.1.length ≤ 6 := by
      obtain ⟨x, -, r1, r2, r3⟩ := ri_fld (k := b) (d := 4) (f := 14) hT hb4 rfl rfl
      have := cw.1
      dsimp only at r2 r3
      omega
    have hc6 : s.2.2.2.2.2.length ≤ 6 := by
      obtain ⟨x, -, r1, r2, r3⟩ := ri_fld (k := b) (d := 4) (f := 19) hT hb4 rfl rfl
      have := cc.1
      dsimp only at r2 r3
      omega
    refine ex_il oq_X5_readText_37 g3 ?_
    refine ex_si oq_X5_readText_38 (m := 900) (by decide) (fun x301 hx301 => ?_)
    refine ex_if oq_X5_readText_41 (t := 172) rfl rfl (fun (c302 : x301.toInt < I.toInt) => ?_) (fun (c302 : ¬ (x301.toInt < I.toInt)) => ?_)
    · exfalso; omega
    · refine ex_al oq_X5_readText_44 g0 ?_
      refine ex_gf oq_X5_readText_45 hT (k := 50) (d := 5) rfl rfl (ri_ref (k := 50) (k' := 51) (d := 5) (f := 0) hT rfl rfl rfl (by decide) (ri_uniq (by decide +kernel))) ?_
      obtain ⟨pnh, yah, ybh, ych, ydh, yfh⟩ := zCs_at hS
      obtain ⟨kch, ykh⟩ : ∃ k, ri_at h 51 4 = k := ⟨_, rfl⟩
      obtain ⟨vch, yvh⟩ : ∃ k, ri_at h 51 6 = k := ⟨_, rfl⟩
      rw [ykh, yvh] at ydh
      replace ydh := zhd_i ydh
      have zlh := zx_le (t := t) (n := n) (p := p) (by omega)
      obtain ⟨x303, ax303, rx303, lx303, ux303⟩ := ri_fld (k := 51) (d := 6) (f := 4) hT rfl rfl rfl
      try dsimp only at lx303 ux303
      refine ex_gf oq_X5_readText_48 hT (k := 51) (d := 6) rfl rfl ax303 ?_
      clear lx303 ux303
      have rx303 := (rx303.symm.trans ykh : x303.toInt = kch)
      refine ex_if0 oq_X5_readText_51 (t := 56) rfl rfl (fun (c304 : ¬ x303.toInt = 0) => ?_) (fun (c304 : ¬ (¬ x303.toInt = 0)) => ?_)
      · have re := rl_end (show tz_rel _ _ _ _ from ydh)
        refine ex_al oq_X5_readText_56 g0 ?_
        refine ex_gf oq_X5_readText_57 hT (k := 50) (d := 5) rfl rfl (ri_ref (k := 50) (k' := 51) (d := 5) (f := 0) hT rfl rfl rfl (by decide) (ri_uniq (by decide +kernel))) ?_
        obtain ⟨x305, ax305, rx305, lx305, ux305⟩ := ri_fld (k := 51) (d := 6) (f := 4) hT rfl rfl rfl
        try dsimp only at lx305 ux305
        refine ex_gf oq_X5_readText_60 hT (k := 51) (d := 6) rfl rfl ax305 ?_
        clear lx305 ux305
        have rx305 := (rx305.symm.trans ykh : x305.toInt = kch)
        refine ex_ic oq_X5_readText_63 (m := 2) (by decide) (fun x306 hx306 => ?_)
        refine ex_if oq_X5_readText_64 (t := 77) rfl rfl (fun (c307 : ¬ x305.toInt = x306.toInt) => ?_) (fun (c307 : ¬ (¬ x305.toInt = x306.toInt)) => ?_)
        · have rb := rl_pw (show tz_rel _ _ _ _ from ydh)
          refine ex_ic oq_X5_readText_77 (m := (-1)) (by decide) (fun x308 hx308 => ?_)
          refine ex_tsw oq_X5_readText_78 rfl (fun c309 => ⟨rfl, ?_⟩) (fun i hi c309 => ?_)
          · show cw_X _ _ _ 147 _ _ _
            refine ex_al oq_X5_readText_147 g0 ?_
            refine ex_ic oq_X5_readText_148 (m := 1) (by decide) (fun x310 hx310 => ?_)
            refine ex_cv oq_X5_readText_149 (by decide) hT (k := 50) (d := 5) (as := [cv_i x310]) (stk := []) rfl rfl rfl rfl rfl rfl ⟨rfl, rfl⟩ (R := fun o => ∃ (x : Int32) (hb : cv_H), o = (some (cv_i x), hb) ∧ cw_T G hb ∧ cw_Fr cw_Ds cw_sh kk_X5_fail.2.2.2.2.2.1 h hb ∧ x.toInt = 0 ∧ zCs t n (.inl (1, za t n p)) hb) (ct_failP (t := t) (n := n) (p := p) hT hS x310 hx310 (by decide) (fun x hb b1 b2 b3 b4 => ⟨x, hb, rfl, b1, b2, b3, b4⟩)) (fun o ho => ?_)
            obtain ⟨x311, h312, rfl, Th312, Ch312, zh312, Sh312⟩ := ho
            show cw_X _ _ _ _ _ [cv_i x311] h312
            have Fh312 : cw_Fr cw_Ds cw_sh mk_rx h0 h312 := cw_Fr_tr Fh (cw_Fr_mono (by decide +kernel) Ch312)
            refine ex_pop oq_X5_readText_152 rfl ?_
            have hln : zln t n s p = zb2 (.inl (1, za t n p) : (Int × Nat) ⊕ (Unit × Nat)) (zSem t n (fun _ => s)) := by unfold zln; rw [if_neg (by omega)]; rfl
            exact tx_tail ht hwd hn9 hb hpl (z := (.inl (1, za t n p) : (Int × Nat) ⊕ (Unit × Nat))) (f := fun _ => s) hQ hpn hE (by omega) hln (fun v q e => nomatch e) (fun L I s' q' h' c1 c2 c3 c4 c5 c6 c7 c8 c9 => ih (ii + 1) L I s' q' h' (by omega) c1 c2 c3 c4 (by omega) (by rw [show ((ii + 1 : Nat) : Int) = (ii : Int) + 1 from by omega]; exact c6) (by omega) c8 c9) L I Th312 Fh312 Sh312 (by omega) g0 g3
          · match i, hi, c309 with
            | 0, _, c309 =>
              refine ⟨rfl, ?_⟩
              show cw_X _ _ _ 112 _ _ _
              exfalso; omega
            | 1, _, c309 =>
              refine ⟨rfl, ?_⟩
              show cw_X _ _ _ 119 _ _ _
              exfalso; omega
            | 2, _, c309 =>
              refine ⟨rfl, ?_⟩
              show cw_X _ _ _ 126 _ _ _
              exfalso; omega
            | 3, _, c309 =>
              refine ⟨rfl, ?_⟩
              show cw_X _ _ _ 133 _ _ _
              exfalso; omega
            | 4, _, c309 =>
              refine ⟨rfl, ?_⟩
              show cw_X _ _ _ 140 _ _ _
              exfalso; omega
            | i + 5, hi, _ => exact absurd hi (by show ¬ i + 5 < 5; omega)
        · have rb := rl_pw (show tz_rel _ _ _ _ from ydh)
          refine ex_al oq_X5_readText_67 g0 ?_
          refine ex_gf oq_X5_readText_68 hT (k := 50) (d := 5) rfl rfl (ri_ref (k := 50) (k' := 51) (d := 5) (f := 0) hT rfl rfl rfl (by decide) (ri_uniq (by decide +kernel))) ?_
          obtain ⟨x313, ax313, rx313, lx313, ux313⟩ := ri_fld (k := 51) (d := 6) (f := 6) hT rfl rfl rfl
          try dsimp only at lx313 ux313
          refine ex_gf oq_X5_readText_71 hT (k := 51) (d := 6) rfl rfl ax313 ?_
          clear lx313 ux313
          have rx313 := (rx313.symm.trans yvh : x313.toInt = vch)
          refine ex_go oq_X5_readText_74 (t := 78) rfl rfl ?_
          refine ex_tsw oq_X5_readText_78 rfl (fun c314 => ⟨rfl, ?_⟩) (fun i hi c314 => ?_)
          · show cw_X _ _ _ 147 _ _ _
            refine ex_al oq_X5_readText_147 g0 ?_
            refine ex_ic oq_X5_readText_148 (m := 1) (by decide) (fun x315 hx315 => ?_)
            refine ex_cv oq_X5_readText_149 (by decide) hT (k := 50) (d := 5) (as := [cv_i x315]) (stk := []) rfl rfl rfl rfl rfl rfl ⟨rfl, rfl⟩ (R := fun o => ∃ (x : Int32) (hb : cv_H), o = (some (cv_i x), hb) ∧ cw_T G hb ∧ cw_Fr cw_Ds cw_sh kk_X5_fail.2.2.2.2.2.1 h hb ∧ x.toInt = 0 ∧ zCs t n (.inl (1, za t n p)) hb) (ct_failP (t := t) (n := n) (p := p) hT hS x315 hx315 (by decide) (fun x hb b1 b2 b3 b4 => ⟨x, hb, rfl, b1, b2, b3, b4⟩)) (fun o ho => ?_)
            obtain ⟨x316, h317, rfl, Th317, Ch317, zh317, Sh317⟩ := ho
            show cw_X _ _ _ _ _ [cv_i x316] h317
            have Fh317 : cw_Fr cw_Ds cw_sh mk_rx h0 h317 := cw_Fr_tr Fh (cw_Fr_mono (by decide +kernel) Ch317)
            refine ex_pop oq_X5_readText_152 rfl ?_
            have hln : zln t n s p = zb2 (.inl (1, za t n p) : (Int × Nat) ⊕ (Unit × Nat)) (zSem t n (fun _ => s)) := by unfold zln; rw [if_neg (by omega)]; rfl
            exact tx_tail ht hwd hn9 hb hpl (z := (.inl (1, za t n p) : (Int × Nat) ⊕ (Unit × Nat))) (f := fun _ => s) hQ hpn hE (by omega) hln (fun v q e => nomatch e) (fun L I s' q' h' c1 c2 c3 c4 c5 c6 c7 c8 c9 => ih (ii + 1) L I s' q' h' (by omega) c1 c2 c3 c4 (by omega) (by rw [show ((ii + 1 : Nat) : Int) = (ii : Int) + 1 from by omega]; exact c6) (by omega) c8 c9) L I Th317 Fh317 Sh317 (by omega) g0 g3
          · match i, hi, c314 with
            | 0, _, c314 =>
              refine ⟨rfl, ?_⟩
              show cw_X _ _ _ 112 _ _ _
              have hw0 : zk t n p = 1 ∧ zw t n p = 0 := by omega
              refine ex_al oq_X5_readText_112 g0 ?_
              refine ex_cv oq_X5_readText_113 (by decide) hT (k := 50) (d := 5) (as := []) (stk := []) rfl rfl rfl rfl rfl rfl ⟨rfl, rfl⟩ (R := fun o => ∃ hb : cv_H, o = (none, hb) ∧ cw_T G hb ∧ cw_Fr cw_Ds cw_sh kk_X5_readGround.2.2.2.2.2.1 h hb ∧ zCs t n (zst (zgl t n s.1 p)) hb ∧ (∀ v q, zgl t n s.1 p = .inr (v, q) → ri_at hb 50 3 = 1)) (ct_readGround (t := t) (n := n) (p := p) (fun i => by rw [ht, ← hA _ Fh]) (fun i hi => by rw [hB _ Fh]; exact hwd i hi) hn9 hT hb (hPL _ Fh) hS c3 (fun hb b1 b2 b3 => ⟨hb, rfl, b1, b2, b3⟩)) (fun o ho => ?_)
              obtain ⟨h318, rfl, Th318, Ch318, Sh318, Dh318⟩ := ho
              show cw_X _ _ _ _ _ [] h318
              have Fh318 : cw_Fr cw_Ds cw_sh mk_rx h0 h318 := cw_Fr_tr Fh (cw_Fr_mono (by decide +kernel) Ch318)
              refine ex_go oq_X5_readText_116 (t := 153) rfl rfl ?_
              have hln : zln t n s p = zb2 (zgl t n s.1 p) (zSem t n (fun (_ : List Int) => ((1, s.2) : zSg))) := by
                unfold zln zl0
                rw [if_pos (show zk t n p = 1 ∧ zw t n p ≤ 4 by omega), if_pos (by omega)]
                exact zl0_a
              exact tx_tail ht hwd hn9 hb hpl (z := zgl t n s.1 p) (f := fun (_ : List Int) => ((1, s.2) : zSg)) hQ hpn hE (by omega) hln (fun v q e => ⟨Dh318 v q e, sc_lt hb Ch318 (by decide +kernel) (by decide +kernel) clt, sc_kn hb Ch318 (by decide +kernel) (by decide +kernel) ckn, sc_g hb Ch318 (by decide +kernel) (by decide +kernel) cg, sc_w hb Ch318 (by decide +kernel) (by decide +kernel) cw, sc_c hb Ch318 (by decide +kernel) (by decide +kernel) cc, sc_t hb Ch318 (by decide +kernel) (by decide +kernel) cto⟩) (fun L I s' q' h' c1 c2 c3 c4 c5 c6 c7 c8 c9 => ih (ii + 1) L I s' q' h' (by omega) c1 c2 c3 c4 (by omega) (by rw [show ((ii + 1 : Nat) : Int) = (ii : Int) + 1 from by omega]; exact c6) (by omega) c8 c9) L I Th318 Fh318 Sh318 (by omega) g0 g3
            | 1, _, c314 =>
              refine ⟨rfl, ?_⟩
              show cw_X _ _ _ 119 _ _ _
              have hw1 : zk t n p = 1 ∧ zw t n p = 1 := by omega
              refine ex_al oq_X5_readText_119 g0 ?_
              refine ex_cv oq_X5_readText_120 (by decide) hT (k := 50) (d := 5) (as := []) (stk := []) rfl rfl rfl rfl rfl rfl ⟨rfl, rfl⟩ (R := fun o => ∃ hb : cv_H, o = (none, hb) ∧ cw_T G hb ∧ cw_Fr cw_Ds cw_sh kk_X5_readLaw.2.2.2.2.2.1 h hb ∧ zCs t n (zst (zlc t n s.2.1 s.2.2.1 p)) hb ∧ (∀ v q, zlc t n s.2.1 s.2.2.1 p = .inr (v, q) → zLT b hb (fun i => if i = v.1 then 1 else s.2.1 i) ∧ ri_at hb b 2 = v.2 ∧ ri_at hb b 3 = v.2 ∧ 0 ≤ v.2 ∧ v.2 ≤ 64)) (ct_readLaw (t := t) (n := n) (p := p) (fun i => by rw [ht, ← hA _ Fh]) (fun i hi => by rw [hB _ Fh]; exact hwd i hi) hn9 hT hb (hPL _ Fh) hS clt ckn.1 ckn.2.1 ckn.2.2.1 ckn.2.2.2 (fun hb b1 b2 b3 => ⟨hb, rfl, b1, b2, b3⟩)) (fun o ho => ?_)
              obtain ⟨h319, rfl, Th319, Ch319, Sh319, Dh319⟩ := ho
              show cw_X _ _ _ _ _ [] h319
              have Fh319 : cw_Fr cw_Ds cw_sh mk_rx h0 h319 := cw_Fr_tr Fh (cw_Fr_mono (by decide +kernel) Ch319)
              refine ex_go oq_X5_readText_123 (t := 153) rfl rfl ?_
              have hln : zln t n s p = zb2 (zlc t n s.2.1 s.2.2.1 p) (zSem t n (fun (a : Int × Int) => ((s.1, (fun i => if i = a.1 then 1 else s.2.1 i), a.2, s.2.2.2) : zSg))) := by
                unfold zln zl0
                rw [if_pos (show zk t n p = 1 ∧ zw t n p ≤ 4 by omega), if_neg (by omega), if_pos (by omega)]
                rw [← zll_lc]
                exact zl0_a
              exact tx_tail ht hwd hn9 hb hpl (z := zlc t n s.2.1 s.2.2.1 p) (f := fun (a : Int × Int) => ((s.1, (fun i => if i = a.1 then 1 else s.2.1 i), a.2, s.2.2.2) : zSg)) hQ hpn hE (by omega) hln (fun v q e => ⟨(sc_3 Ch319 (by decide +kernel)).trans c3, (Dh319 v q e).1, (Dh319 v q e).2, sc_g hb Ch319 (by decide +kernel) (by decide +kernel) cg, sc_w hb Ch319 (by decide +kernel) (by decide +kernel) cw, sc_c hb Ch319 (by decide +kernel) (by decide +kernel) cc, sc_t hb Ch319 (by decide +kernel) (by decide +kernel) cto⟩) (fun L I s' q' h' c1 c2 c3 c4 c5 c6 c7 c8 c9 => ih (ii + 1) L I s' q' h' (by omega) c1 c2 c3 c4 (by omega) (by rw [show ((ii + 1 : Nat) : Int) = (ii : Int) + 1 from by omega]; exact c6) (by omega) c8 c9) L I Th319 Fh319 Sh319 (by omega) g0 g3
            | 2, _, c314 =>
              refine ⟨rfl, ?_⟩
              show cw_X _ _ _ 126 _ _ _
              have hw2 : zk t n p = 1 ∧ zw t n p = 2 := by omega
              refine ex_al oq_X5_readText_126 g0 ?_
              refine ex_cv oq_X5_readText_127 (by decide) hT (k := 50) (d := 5) (as := []) (stk := []) rfl rfl rfl rfl rfl rfl ⟨rfl, rfl⟩ (R := fun o => ∃ hb : cv_H, o = (none, hb) ∧ cw_T G hb ∧ cw_Fr cw_Ds cw_sh kk_X5_readGate.2.2.2.2.2.1 h hb ∧ zCs t n (zst (zgt t n s.2.2.2.1 s.2.2.2.2.2 p)) hb ∧ (∀ v q, zgt t n s.2.2.2.1 s.2.2.2.2.2 p = .inr (v, q) → ri_at hb b 9 = s.2.2.2.1.length + 1 ∧ zNm hb (b + 7) 0 (s.2.2.2.1 ++ [v]) ∧ zOT (b + 16 + 2 * s.2.2.2.1.length) h hb)) (ct_readGate (t := t) (n := n) (p := p) (fun i => by rw [ht, ← hA _ Fh]) (fun i hi => by rw [hB _ Fh]; exact hwd i hi) hn9 hT hb (hPL _ Fh) hS cg.1 hg4 cg.2 cc.1 hc6 cc.2 cto (fun hb b1 b2 b3 => ⟨hb, rfl, b1, b2, b3⟩)) (fun o ho => ?_)
              obtain ⟨h320, rfl, Th320, Ch320, Sh320, Dh320⟩ := ho
              show cw_X _ _ _ _ _ [] h320
              have Fh320 : cw_Fr cw_Ds cw_sh mk_rx h0 h320 := cw_Fr_tr Fh (cw_Fr_mono (by decide +kernel) Ch320)
              refine ex_go oq_X5_readText_130 (t := 153) rfl rfl ?_
              have hln : zln t n s p = zb2 (zgt t n s.2.2.2.1 s.2.2.2.2.2 p) (zSem t n (fun (nm : Int) => ((s.1, s.2.1, s.2.2.1, s.2.2.2.1 ++ [nm], s.2.2.2.2) : zSg))) := by
                unfold zln zl0
                rw [if_pos (show zk t n p = 1 ∧ zw t n p ≤ 4 by omega), if_neg (by omega), if_neg (by omega), if_pos (by omega)]
                exact zl0_a
              exact tx_tail ht hwd hn9 hb hpl (z := zgt t n s.2.2.2.1 s.2.2.2.2.2 p) (f := fun (nm : Int) => ((s.1, s.2.1, s.2.2.1, s.2.2.2.1 ++ [nm], s.2.2.2.2) : zSg)) hQ hpn hE (by omega) hln (fun v q e => ⟨(sc_3 Ch320 (by decide +kernel)).trans c3, sc_lt hb Ch320 (by decide +kernel) (by decide +kernel) clt, sc_kn hb Ch320 (by decide +kernel) (by decide +kernel) ckn, ⟨by rw [List.length_append]; exact (Dh320 v q e).1, (Dh320 v q e).2.1⟩, sc_w hb Ch320 (by decide +kernel) (by decide +kernel) cw, sc_c hb Ch320 (by decide +kernel) (by decide +kernel) cc, fun i h1 h2 => by rw [List.length_append] at h1; have h3 : s.2.2.2.1.length + 1 ≤ i := h1; have := (Dh320 v q e).2.2 (b + 16 + 2 * i) (sh_told hb h2) (by omega); exact ⟨this.1.trans (cto i (by omega) h2).1, this.2.trans (cto i (by omega) h2).2⟩⟩) (fun L I s' q' h' c1 c2 c3 c4 c5 c6 c7 c8 c9 => ih (ii + 1) L I s' q' h' (by omega) c1 c2 c3 c4 (by omega) (by rw [show ((ii + 1 : Nat) : Int) = (ii : Int) + 1 from by omega]; exact c6) (by omega) c8 c9) L I Th320 Fh320 Sh320 (by omega) g0 g3
            | 3, _, c314 =>
              refine ⟨rfl, ?_⟩
              show cw_X _ _ _ 133 _ _ _
              have hw3 : zk t n p = 1 ∧ zw t n p = 3 := by omega
              refine ex_al oq_X5_readText_133 g0 ?_
              refine ex_cv oq_X5_readText_134 (by decide) hT (k := 50) (d := 5) (as := []) (stk := []) rfl rfl rfl rfl rfl rfl ⟨rfl, rfl⟩ (R := fun o => ∃ hb : cv_H, o = (none, hb) ∧ cw_T G hb ∧ cw_Fr cw_Ds cw_sh kk_X5_readWork.2.2.2.2.2.1 h hb ∧ zCs t n (zst (zwl t n s.2.2.2.2.1 p)) hb ∧ (∀ v q, zwl t n s.2.2.2.2.1 p = .inr (v, q) → ri_at hb b 14 = s.2.2.2.2.1.length + 1 ∧ zNm hb (b + 8) 0 (s.2.2.2.2.1 ++ [v]))) (ct_readWork (t := t) (n := n) (p := p) (fun i => by rw [ht, ← hA _ Fh]) (fun i hi => by rw [hB _ Fh]; exact hwd i hi) hn9 hT hb (hPL _ Fh) hS cw.1 hw6 cw.2 (fun hb b1 b2 b3 => ⟨hb, rfl, b1, b2, b3⟩)) (fun o ho => ?_)
              obtain ⟨h321, rfl, Th321, Ch321, Sh321, Dh321⟩ := ho
              show cw_X _ _ _ _ _ [] h321
              have Fh321 : cw_Fr cw_Ds cw_sh mk_rx h0 h321 := cw_Fr_tr Fh (cw_Fr_mono (by decide +kernel) Ch321)
              refine ex_go oq_X5_readText_137 (t := 153) rfl rfl ?_
              have hln : zln t n s p = zb2 (zwl t n s.2.2.2.2.1 p) (zSem t n (fun (nm : Int) => ((s.1, s.2.1, s.2.2.1, s.2.2.2.1, s.2.2.2.2.1 ++ [nm], s.2.2.2.2.2) : zSg))) := by
                unfold zln zl0
                rw [if_pos (show zk t n p = 1 ∧ zw t n p ≤ 4 by omega), if_neg (by omega), if_neg (by omega), if_neg (by omega), if_pos (by omega)]
                exact zl0_a
              exact tx_tail ht hwd hn9 hb hpl (z := zwl t n s.2.2.2.2.1 p) (f := fun (nm : Int) => ((s.1, s.2.1, s.2.2.1, s.2.2.2.1, s.2.2.2.2.1 ++ [nm], s.2.2.2.2.2) : zSg)) hQ hpn hE (by omega) hln (fun v q e => ⟨(sc_3 Ch321 (by decide +kernel)).trans c3, sc_lt hb Ch321 (by decide +kernel) (by decide +kernel) clt, sc_kn hb Ch321 (by decide +kernel) (by decide +kernel) ckn, sc_g hb Ch321 (by decide +kernel) (by decide +kernel) cg, ⟨by rw [List.length_append]; exact (Dh321 v q e).1, (Dh321 v q e).2⟩, sc_c hb Ch321 (by decide +kernel) (by decide +kernel) cc, sc_t hb Ch321 (by decide +kernel) (by decide +kernel) cto⟩) (fun L I s' q' h' c1 c2 c3 c4 c5 c6 c7 c8 c9 => ih (ii + 1) L I s' q' h' (by omega) c1 c2 c3 c4 (by omega) (by rw [show ((ii + 1 : Nat) : Int) = (ii : Int) + 1 from by omega]; exact c6) (by omega) c8 c9) L I Th321 Fh321 Sh321 (by omega) g0 g3
            | 4, _, c314 =>
              refine ⟨rfl, ?_⟩
              show cw_X _ _ _ 140 _ _ _
              have hw4 : zk t n p = 1 ∧ zw t n p = 4 := by omega
              refine ex_al oq_X5_readText_140 g0 ?_
              refine ex_cv oq_X5_readText_141 (by decide) hT (k := 50) (d := 5) (as := []) (stk := []) rfl rfl rfl rfl rfl rfl ⟨rfl, rfl⟩ (R := fun o => ∃ hb : cv_H, o = (none, hb) ∧ cw_T G hb ∧ cw_Fr cw_Ds cw_sh kk_X5_readCause.2.2.2.2.2.1 h hb ∧ zCs t n (zst (zcl t n s.2.2.2.2.2 p)) hb ∧ (∀ v q, zcl t n s.2.2.2.2.2 p = .inr (v, q) → ri_at hb b 19 = s.2.2.2.2.2.length + 1 ∧ zNm hb (b + 12) 0 (s.2.2.2.2.2 ++ [v]))) (ct_readCause (t := t) (n := n) (p := p) (fun i => by rw [ht, ← hA _ Fh]) (fun i hi => by rw [hB _ Fh]; exact hwd i hi) hn9 hT hb (hPL _ Fh) hS cc.1 hc6 cc.2 (fun hb b1 b2 b3 => ⟨hb, rfl, b1, b2, b3⟩)) (fun o ho => ?_)
              obtain ⟨h322, rfl, Th322, Ch322, Sh322, Dh322⟩ := ho
              show cw_X _ _ _ _ _ [] h322
              have Fh322 : cw_Fr cw_Ds cw_sh mk_rx h0 h322 := cw_Fr_tr Fh (cw_Fr_mono (by decide +kernel) Ch322)
              refine ex_go oq_X5_readText_144 (t := 153) rfl rfl ?_
              have hln : zln t n s p = zb2 (zcl t n s.2.2.2.2.2 p) (zSem t n (fun (nm : Int) => ((s.1, s.2.1, s.2.2.1, s.2.2.2.1, s.2.2.2.2.1, s.2.2.2.2.2 ++ [nm]) : zSg))) := by
                unfold zln zl0
                rw [if_pos (show zk t n p = 1 ∧ zw t n p ≤ 4 by omega), if_neg (by omega), if_neg (by omega), if_neg (by omega), if_neg (by omega)]
                exact zl0_a
              exact tx_tail ht hwd hn9 hb hpl (z := zcl t n s.2.2.2.2.2 p) (f := fun (nm : Int) => ((s.1, s.2.1, s.2.2.1, s.2.2.2.1, s.2.2.2.2.1, s.2.2.2.2.2 ++ [nm]) : zSg)) hQ hpn hE (by omega) hln (fun v q e => ⟨(sc_3 Ch322 (by decide +kernel)).trans c3, sc_lt hb Ch322 (by decide +kernel) (by decide +kernel) clt, sc_kn hb Ch322 (by decide +kernel) (by decide +kernel) ckn, sc_g hb Ch322 (by decide +kernel) (by decide +kernel) cg, sc_w hb Ch322 (by decide +kernel) (by decide +kernel) cw, ⟨by rw [List.length_append]; exact (Dh322 v q e).1, (Dh322 v q e).2⟩, sc_t hb Ch322 (by decide +kernel) (by decide +kernel) cto⟩) (fun L I s' q' h' c1 c2 c3 c4 c5 c6 c7 c8 c9 => ih (ii + 1) L I s' q' h' (by omega) c1 c2 c3 c4 (by omega) (by rw [show ((ii + 1 : Nat) : Int) = (ii : Int) + 1 from by omega]; exact c6) (by omega) c8 c9) L I Th322 Fh322 Sh322 (by omega) g0 g3
            | i + 5, hi, _ => exact absurd hi (by show ¬ i + 5 < 5; omega)
      · replace c304 : x303.toInt = 0 := by omega
        have re := rl_end (show tz_rel _ _ _ _ from ydh)
        refine ex_il oq_X5_readText_54 g3 ?_
        rw [ztx_s, if_pos (by omega)] at hE
        exact ex_reti oq_X5_readText_55 rfl (hQ I h hT Fh (by rw [← hE]; exact ⟨by omega, hS.2.2.1, hS.2.2.2⟩))
set_option maxHeartbeats 8000000 in
theorem ct_readText {h0 : cv_H} {n : Nat} (ht : ∀ i, t i = ri_at h0 1 i % 256) (hwd : ∀ i, i < 34 → ri_at h0 52 i = tz_wc.getD i 0) (hn9 : n ≤ 900) (hT : cw_T G h0) {b : Nat} (hb : b = 2 ∨ b = 26) (hpm : zPM b h0) {N : Int32} (hN : N.toInt = n) (hQ : ∀ (x : Int32) h', cw_T G h' → cw_Fr cw_Ds cw_sh kk_X5_readText.2.2.2.2.2.1 h0 h' → zTc (ztx t n 901 0 (0, (fun _ => 0), 0, [], [], []) 0) x h' → Q (some (cv_i x), h')) : cw_X X 60 Q 0 (cv_ent 0 [cv_r 50, cv_r b, cv_i N]) [] h0 := by
  have Fh0 : cw_Fr cw_Ds cw_sh kk_X5_readText.2.2.2.2.2.1 h0 h0 := cw_Fr_refl
  have hA : ∀ h, cw_Fr cw_Ds cw_sh kk_X5_readText.2.2.2.2.2.1 h0 h → ∀ i, ri_at h 1 i = ri_at h0 1 i := fun h F i => ri_frr F (k := 1) (d := 13) rfl rfl (by decide +kernel)
  have hB : ∀ h, cw_Fr cw_Ds cw_sh kk_X5_readText.2.2.2.2.2.1 h0 h → ∀ i, ri_at h 52 i = ri_at h0 52 i := fun h F i => ri_frr F (k := 52) (d := 43) rfl rfl (by decide +kernel)
  have hb4 : cw_sh[b]? = some 4 := by rcases hb with rfl | rfl <;> rfl
  have hkb1 : cw_sh[b + 1]? = some 28 := by rcases hb with rfl | rfl <;> rfl
  have hkb2 : cw_sh[b + 2]? = some 29 := by rcases hb with rfl | rfl <;> rfl
  have hkb3 : cw_sh[b + 3]? = some 30 := by rcases hb with rfl | rfl <;> rfl
  have hkb4 : cw_sh[b + 4]? = some 31 := by rcases hb with rfl | rfl <;> rfl
  have hkb5 : cw_sh[b + 5]? = some 32 := by rcases hb with rfl | rfl <;> rfl
  have hkb6 : cw_sh[b + 6]? = some 33 := by rcases hb with rfl | rfl <;> rfl
  have hkb7 : cw_sh[b + 7]? = some 34 := by rcases hb with rfl | rfl <;> rfl
  have hkb8 : cw_sh[b + 8]? = some 35 := by rcases hb with rfl | rfl <;> rfl
  have hkb9 : cw_sh[b + 9]? = some 36 := by rcases hb with rfl | rfl <;> rfl
  have hkb10 : cw_sh[b + 10]? = some 37 := by rcases hb with rfl | rfl <;> rfl
  have hkb11 : cw_sh[b + 11]? = some 38 := by rcases hb with rfl | rfl <;> rfl
  have hkb12 : cw_sh[b + 12]? = some 39 := by rcases hb with rfl | rfl <;> rfl
  have hkb13 : cw_sh[b + 13]? = some 40 := by rcases hb with rfl | rfl <;> rfl
  have hkb14 : cw_sh[b + 14]? = some 41 := by rcases hb with rfl | rfl <;> rfl
  have hkb15 : cw_sh[b + 15]? = some 42 := by rcases hb with rfl | rfl <;> rfl
  refine ex_al oq_X5_readText_0 rfl ?_
  refine ex_al oq_X5_readText_1 rfl ?_
  refine ex_pfr oq_X5_readText_2 hT (k := 50) (d := 5) (v := b) rfl rfl rfl (by decide) hb4 rfl (fun h501 Th501 wh501 => ?_)
  have Fh501 : cw_Fr cw_Ds cw_sh kk_X5_readText.2.2.2.2.2.1 h0 h501 := cw_Fr_tr Fh0 (cw_Fr_wrf wh501 (k := 50) (d := 5) rfl rfl (by decide +kernel))
  have eh501_50_4 : ri_at h501 50 4 = ri_at h0 50 4 := ri_ne wh501 (.inr (by decide))
  have eh501_50_5 : ri_at h501 50 5 = ri_at h0 50 5 := ri_ne wh501 (.inr (by decide))
  have eh501_50_3 : ri_at h501 50 3 = ri_at h0 50 3 := ri_ne wh501 (.inr (by decide))
  refine ex_al oq_X5_readText_5 rfl ?_
  refine ex_gf oq_X5_readText_6 Th501 (k := 50) (d := 5) rfl rfl (wh501.1) ?_
  have pmh501 : zPM b h501 := zPM_fr hb Fh501 (by decide +kernel) hpm
  refine ex_cv oq_X5_readText_9 (by decide) Th501 (k := b) (d := 4) (as := []) (stk := []) hb4 rfl rfl rfl rfl rfl ⟨rfl, rfl⟩ (R := fun o => ∃ hb : cv_H, o = (none, hb) ∧ cw_T G hb ∧ cw_Fr cw_Ds cw_sh kk_X4_clear.2.2.2.2.2.1 h501 hb ∧ ri_at hb b 2 = 0 ∧ ri_at hb b 3 = 0 ∧ ri_at hb b 9 = 0 ∧ ri_at hb b 14 = 0 ∧ ri_at hb b 19 = 0 ∧ zY b 4 hb ∧ zZ b 4 hb) (ct_clear4 Th501 hb pmh501 (fun hb b1 b2 b3 b4 b5 b6 b7 b8 b9 => ⟨hb, rfl, b1, b2, b3, b4, b5, b6, b7, b8, b9⟩)) (fun o ho => ?_)
  obtain ⟨h502, rfl, Th502, Ch502, m1, m2, m3, m4, m5, m6, m7⟩ := ho
  show cw_X _ _ _ _ _ [] h502
  have Fh502 : cw_Fr cw_Ds cw_sh kk_X5_readText.2.2.2.2.2.1 h0 h502 := cw_Fr_tr Fh501 (cw_Fr_mono (by decide +kernel) Ch502)
  have eh502_50_4 : ri_at h502 50 4 = ri_at h0 50 4 := (ri_frf Ch502 (k := 50) (d := 5) rfl rfl (by decide +kernel)).trans eh501_50_4
  clear eh501_50_4
  have eh502_50_5 : ri_at h502 50 5 = ri_at h0 50 5 := (ri_frf Ch502 (k := 50) (d := 5) rfl rfl (by decide +kernel)).trans eh501_50_5
  clear eh501_50_5
  have eh502_50_3 : ri_at h502 50 3 = ri_at h0 50 3 := (ri_frf Ch502 (k := 50) (d := 5) rfl rfl (by decide +kernel)).trans eh501_50_3
  clear eh501_50_3
  refine ex_al oq_X5_readText_12 rfl ?_
  refine ex_ic oq_X5_readText_13 (m := 0) (by decide) (fun x503 hx503 => ?_)
  refine ex_pfb oq_X5_readText_14 Th502 (k := 50) (d := 5) rfl rfl rfl (by omega) (by omega) (fun h504 Th504 wh504 => ?_)
  have Fh504 : cw_Fr cw_Ds cw_sh kk_X5_readText.2.2.2.2.2.1 h0 h504 := cw_Fr_tr Fh502 (cw_Fr_wrf wh504 (k := 50) (d := 5) rfl rfl (by decide +kernel))
  have eh504_50_4 : ri_at h504 50 4 = ri_at h0 50 4 := (ri_ne wh504 (.inr (by decide))).trans eh502_50_4
  clear eh502_50_4
  have eh504_50_5 : ri_at h504 50 5 = ri_at h0 50 5 := (ri_ne wh504 (.inr (by decide))).trans eh502_50_5
  clear eh502_50_5
  have eh504_50_3 : ri_at h504 50 3 = x503.toInt := ri_self wh504
  refine ex_al oq_X5_readText_17 rfl ?_
  refine ex_ic oq_X5_readText_18 (m := 0) (by decide) (fun x505 hx505 => ?_)
  refine ex_pfi oq_X5_readText_19 Th504 (k := 50) (d := 5) rfl rfl rfl (cw_i32 _).1 (cw_i32 _).2 (fun h506 Th506 wh506 => ?_)
  have Fh506 : cw_Fr cw_Ds cw_sh kk_X5_readText.2.2.2.2.2.1 h0 h506 := cw_Fr_tr Fh504 (cw_Fr_wrf wh506 (k := 50) (d := 5) rfl rfl (by decide +kernel))
  have eh506_50_4 : ri_at h506 50 4 = x505.toInt := ri_self wh506
  have eh506_50_5 : ri_at h506 50 5 = ri_at h0 50 5 := (ri_ne wh506 (.inr (by decide))).trans eh504_50_5
  clear eh504_50_5
  have eh506_50_3 : ri_at h506 50 3 = x503.toInt := (ri_ne wh506 (.inr (by decide))).trans eh504_50_3
  clear eh504_50_3
  refine ex_al oq_X5_readText_22 rfl ?_
  refine ex_ic oq_X5_readText_23 (m := (-1)) (by decide) (fun x507 hx507 => ?_)
  refine ex_pfi oq_X5_readText_24 Th506 (k := 50) (d := 5) rfl rfl rfl (cw_i32 _).1 (cw_i32 _).2 (fun h508 Th508 wh508 => ?_)
  have Fh508 : cw_Fr cw_Ds cw_sh kk_X5_readText.2.2.2.2.2.1 h0 h508 := cw_Fr_tr Fh506 (cw_Fr_wrf wh508 (k := 50) (d := 5) rfl rfl (by decide +kernel))
  have eh508_50_4 : ri_at h508 50 4 = x505.toInt := (ri_ne wh508 (.inr (by decide))).trans eh506_50_4
  clear eh506_50_4
  have eh508_50_5 : ri_at h508 50 5 = x507.toInt := ri_self wh508
  have eh508_50_3 : ri_at h508 50 3 = x503.toInt := (ri_ne wh508 (.inr (by decide))).trans eh506_50_3
  clear eh506_50_3
  refine ex_al oq_X5_readText_27 rfl ?_
  refine ex_gf oq_X5_readText_28 Th508 (k := 50) (d := 5) rfl rfl (ri_ref (k := 50) (k' := 51) (d := 5) (f := 0) Th508 rfl rfl rfl (by decide) (ri_uniq (by decide +kernel))) ?_
  refine ex_il oq_X5_readText_31 rfl ?_
  refine ex_cv oq_X5_readText_32 (by decide) Th508 (k := 51) (d := 6) (as := [cv_i N]) (stk := []) rfl rfl rfl rfl rfl rfl ⟨rfl, rfl⟩ (R := fun o => ∃ hb : cv_H, o = (none, hb) ∧ cw_T G hb ∧ cw_Fr cw_Ds cw_sh kk_X6_begin.2.2.2.2.2.1 h508 hb ∧ zC t n 0 hb) (ct_begin (t := t) (n := n) (fun i => by rw [ht, ← hA _ Fh508]) (fun i hi => by rw [hB _ Fh508]; exact hwd i hi) hn9 Th508 hN (fun hb b1 b2 b3 => ⟨hb, rfl, b1, b2, b3⟩)) (fun o ho => ?_)
  obtain ⟨h509, rfl, Th509, Ch509, Zh509⟩ := ho
  show cw_X _ _ _ _ _ [] h509
  have Fh509 : cw_Fr cw_Ds cw_sh kk_X5_readText.2.2.2.2.2.1 h0 h509 := cw_Fr_tr Fh508 (cw_Fr_mono (by decide +kernel) Ch509)
  have eh509_50_4 : ri_at h509 50 4 = x505.toInt := (ri_frf Ch509 (k := 50) (d := 5) rfl rfl (by decide +kernel)).trans eh508_50_4
  clear eh508_50_4
  have eh509_50_5 : ri_at h509 50 5 = x507.toInt := (ri_frf Ch509 (k := 50) (d := 5) rfl rfl (by decide +kernel)).trans eh508_50_5
  clear eh508_50_5
  have eh509_50_3 : ri_at h509 50 3 = x503.toInt := (ri_frf Ch509 (k := 50) (d := 5) rfl rfl (by decide +kernel)).trans eh508_50_3
  clear eh508_50_3
  refine ex_ic oq_X5_readText_35 (m := 0) (by decide) (fun x510 hx510 => ?_)
  refine ex_isA oq_X5_readText_36 (fun L511 gL511_3 kL511 => ?_)
  have gL511_0 : cv_get L511 0 = some (cv_r 50) := kL511 0 _ (by decide) (fun q => absurd q (by decide)) rfl
  have gL511_1 : cv_get L511 1 = some (cv_r b) := kL511 1 _ (by decide) (fun q => absurd q (by decide)) rfl
  have gL511_2 : cv_get L511 2 = some (cv_i N) := kL511 2 _ (by decide) (fun _ => rfl) rfl
  have p2e : cw_at h509 50 2 = some (cv_r b) := ((Ch509.2 50 5 2 rfl (by decide +kernel)).trans ((wh508.2.1 50 2 (.inr (by decide))).trans ((wh506.2.1 50 2 (.inr (by decide))).trans ((wh504.2.1 50 2 (.inr (by decide))).trans ((Ch502.2 50 5 2 rfl (by decide +kernel)).trans wh501.1)))))
  have pme : zPM b h509 := zPM_fr hb Fh509 (by decide +kernel) hpm
  have b4 : cw_sh[b]? = some 4 := by rcases hb with rfl | rfl <;> rfl
  have n2 : ri_at h509 b 2 = 0 := (((ri_frf Ch509 (k := b) (d := 4) hb4 rfl (by decide +kernel)).trans ((ri_ne wh508 (.inl (cw_kne (k := b) (d := 4) (k' := 50) (d' := 5) hb4 rfl (by decide)))).trans ((ri_ne wh506 (.inl (cw_kne (k := b) (d := 4) (k' := 50) (d' := 5) hb4 rfl (by decide)))).trans (ri_ne wh504 (.inl (cw_kne (k := b) (d := 4) (k' := 50) (d' := 5) hb4 rfl (by decide))))))).trans m1)
  have n3 : ri_at h509 b 3 = 0 := (((ri_frf Ch509 (k := b) (d := 4) hb4 rfl (by decide +kernel)).trans ((ri_ne wh508 (.inl (cw_kne (k := b) (d := 4) (k' := 50) (d' := 5) hb4 rfl (by decide)))).trans ((ri_ne wh506 (.inl (cw_kne (k := b) (d := 4) (k' := 50) (d' := 5) hb4 rfl (by decide)))).trans (ri_ne wh504 (.inl (cw_kne (k := b) (d := 4) (k' := 50) (d' := 5) hb4 rfl (by decide))))))).trans m2)
  have n9 : ri_at h509 b 9 = 0 := (((ri_frf Ch509 (k := b) (d := 4) hb4 rfl (by decide +kernel)).trans ((ri_ne wh508 (.inl (cw_kne (k := b) (d := 4) (k' := 50) (d' := 5) hb4 rfl (by decide)))).trans ((ri_ne wh506 (.inl (cw_kne (k := b) (d := 4) (k' := 50) (d' := 5) hb4 rfl (by decide)))).trans (ri_ne wh504 (.inl (cw_kne (k := b) (d := 4) (k' := 50) (d' := 5) hb4 rfl (by decide))))))).trans m3)
  have n14 : ri_at h509 b 14 = 0 := (((ri_frf Ch509 (k := b) (d := 4) hb4 rfl (by decide +kernel)).trans ((ri_ne wh508 (.inl (cw_kne (k := b) (d := 4) (k' := 50) (d' := 5) hb4 rfl (by decide)))).trans ((ri_ne wh506 (.inl (cw_kne (k := b) (d := 4) (k' := 50) (d' := 5) hb4 rfl (by decide)))).trans (ri_ne wh504 (.inl (cw_kne (k := b) (d := 4) (k' := 50) (d' := 5) hb4 rfl (by decide))))))).trans m4)
  have n19 : ri_at h509 b 19 = 0 := (((ri_frf Ch509 (k := b) (d := 4) hb4 rfl (by decide +kernel)).trans ((ri_ne wh508 (.inl (cw_kne (k := b) (d := 4) (k' := 50) (d' := 5) hb4 rfl (by decide)))).trans ((ri_ne wh506 (.inl (cw_kne (k := b) (d := 4) (k' := 50) (d' := 5) hb4 rfl (by decide)))).trans (ri_ne wh504 (.inl (cw_kne (k := b) (d := 4) (k' := 50) (d' := 5) hb4 rfl (by decide))))))).trans m5)
  have hlt : zLT b h509 (fun _ => 0) := fun i hi => .inr ⟨rfl, by have := m6 i hi; rw [show ri_at h509 (b + 4) i = ri_at h502 (b + 4) i from ((ri_frr Ch509 (k := (b + 4)) (d := 31) hkb4 rfl (by decide +kernel)).trans ((ri_ne wh508 (.inl (cw_kne (k := (b + 4)) (d := 31) (k' := 50) (d' := 5) hkb4 rfl (by decide)))).trans ((ri_ne wh506 (.inl (cw_kne (k := (b + 4)) (d := 31) (k' := 50) (d' := 5) hkb4 rfl (by decide)))).trans (ri_ne wh504 (.inl (cw_kne (k := (b + 4)) (d := 31) (k' := 50) (d' := 5) hkb4 rfl (by decide))))))), show ri_at h509 (b + 3) i = ri_at h502 (b + 3) i from ((ri_frr Ch509 (k := (b + 3)) (d := 30) hkb3 rfl (by decide +kernel)).trans ((ri_ne wh508 (.inl (cw_kne (k := (b + 3)) (d := 30) (k' := 50) (d' := 5) hkb3 rfl (by decide)))).trans ((ri_ne wh506 (.inl (cw_kne (k := (b + 3)) (d := 30) (k' := 50) (d' := 5) hkb3 rfl (by decide)))).trans (ri_ne wh504 (.inl (cw_kne (k := (b + 3)) (d := 30) (k' := 50) (d' := 5) hkb3 rfl (by decide)))))))]; omega⟩
  have hto : ∀ i, 0 ≤ i → i < 4 → ri_at h509 (b + 16 + 2 * i) 14 = 0 ∧ ri_at h509 (b + 16 + 2 * i) 15 = 0 := fun i _ hi => ⟨((ri_frf Ch509 (sh_told hb hi) rfl (by decide +kernel)).trans ((ri_ne wh508 (.inl (cw_kne (sh_told hb hi) (rfl : cw_sh[50]? = some 5) (by decide)))).trans ((ri_ne wh506 (.inl (cw_kne (sh_told hb hi) (rfl : cw_sh[50]? = some 5) (by decide)))).trans ((ri_ne wh504 (.inl (cw_kne (sh_told hb hi) (rfl : cw_sh[50]? = some 5) (by decide)))).trans (m7 i hi).1)))), ((ri_frf Ch509 (sh_told hb hi) rfl (by decide +kernel)).trans ((ri_ne wh508 (.inl (cw_kne (sh_told hb hi) (rfl : cw_sh[50]? = some 5) (by decide)))).trans ((ri_ne wh506 (.inl (cw_kne (sh_told hb hi) (rfl : cw_sh[50]? = some 5) (by decide)))).trans ((ri_ne wh504 (.inl (cw_kne (sh_told hb hi) (rfl : cw_sh[50]? = some 5) (by decide)))).trans (m7 i hi).2))))⟩
  have hsc : zSC b h509 (0, (fun _ => 0), 0, [], [], []) := ⟨by show _ = (0 : Int); omega, hlt, ⟨n2, n3, Int.le_refl 0, by decide⟩, ⟨n9, fun k hk => absurd hk (Nat.not_lt_zero k)⟩, ⟨n14, fun k hk => absurd hk (Nat.not_lt_zero k)⟩, ⟨n19, fun k hk => absurd hk (Nat.not_lt_zero k)⟩, hto⟩
  have hA2 : ∀ i, ri_at h509 1 i = ri_at h0 1 i := fun i => ri_frr Fh509 (k := 1) (d := 13) rfl rfl (by decide +kernel)
  have hB2 : ∀ i, ri_at h509 52 i = ri_at h0 52 i := fun i => ri_frr Fh509 (k := 52) (d := 43) rfl rfl (by decide +kernel)
  exact tx_lp (h0 := h509) (fun i => by rw [ht, ← hA2]) (fun i hi => by rw [hB2]; exact hwd i hi) hn9 hb ⟨p2e, pme⟩ (fun x h' c1 c2 c3 => hQ x h' c1 (cw_Fr_tr Fh509 (cw_Fr_mono (by decide +kernel) c2)) c3) 901 0 L511 x510 (0, (fun _ => 0), 0, [], [], []) 0 h509 (by omega) Th509 cw_Fr_refl ⟨Nat.zero_le _, Zh509, by omega, by omega⟩ hsc (by omega) rfl (by omega) gL511_0 gL511_3
end TZ
