/-! ===== works and their undoing: the reference ===== -/
theorem zNV_w {h h' : cv_H} {j : Nat} {x : Int32} {γ : Nat → Int} {v : Int} (w : cw_Wr h h' 131 j (cv_i x)) (e : x.toInt = v) (hj : j < 11) (g : zNV h γ) : zNV h' (zgU γ (zni j) v) := by
  intro i hi
  by_cases c : i = j
  · subst c; rw [zgU_eq, ri_self w, e]
  · have inj : ∀ a b : Fin 11, zni a.1 = zni b.1 → a = b := by decide
    rw [zgU_ne (fun q => c (congrArg Fin.val (inj ⟨i, hi⟩ ⟨j, hj⟩ q))), ri_ne w (.inr c)]
    exact g i hi
theorem zni_r {j : Nat} (h : j < 11) : 1 ≤ zni j ∧ zni j ≤ 11 := by
  have : ∀ a : Fin 11, 1 ≤ zni a.1 ∧ zni a.1 ≤ 11 := by decide
  exact this ⟨j, h⟩
theorem zNV_e {h : cv_H} {a b : Nat → Int} (g : zNV h a) (e : ∀ j, 1 ≤ j ∧ j ≤ 11 → a j = b j) : zNV h b := fun j hj => (g j hj).trans (e _ (zni_r hj))
theorem fr17 {m j : Nat} {r : Int × Int} (h1 : 17 * m + 1 ≤ j) (h2 : j < 17 * m + 1 + 16) (h : ([(0, 3), (-2147483648, 2147483647), (-2147483648, 2147483647), (-2147483648, 2147483647), (-2147483648, 2147483647), (-2147483648, 2147483647), (-2147483648, 2147483647), (-2147483648, 2147483647), (-2147483648, 2147483647), (-2147483648, 2147483647), (-2147483648, 2147483647), (-2147483648, 2147483647), (-2147483648, 2147483647), (-2147483648, 2147483647), (-2147483648, 2147483647), (-2147483648, 2147483647), (-2147483648, 2147483647)] : List (Int × Int))[j % 17]? = some r) : r = (-2147483648, 2147483647) := by
  obtain ⟨i, hi, e⟩ : ∃ i : Nat, i < 16 ∧ j % 17 = i + 1 := ⟨j % 17 - 1, by omega, by omega⟩
  rw [e] at h
  have : ∀ i : Fin 16, ([(0, 3), (-2147483648, 2147483647), (-2147483648, 2147483647), (-2147483648, 2147483647), (-2147483648, 2147483647), (-2147483648, 2147483647), (-2147483648, 2147483647), (-2147483648, 2147483647), (-2147483648, 2147483647), (-2147483648, 2147483647), (-2147483648, 2147483647), (-2147483648, 2147483647), (-2147483648, 2147483647), (-2147483648, 2147483647), (-2147483648, 2147483647), (-2147483648, 2147483647), (-2147483648, 2147483647)] : List (Int × Int))[i.1 + 1]? = some (-2147483648, 2147483647) := by decide
  have q := this ⟨i, hi⟩
  dsimp only at q
  rw [q] at h
  cases h
  rfl
theorem fr17_0 {m : Nat} {r : Int × Int} (h : ([(0, 3), (-2147483648, 2147483647), (-2147483648, 2147483647), (-2147483648, 2147483647), (-2147483648, 2147483647), (-2147483648, 2147483647), (-2147483648, 2147483647), (-2147483648, 2147483647), (-2147483648, 2147483647), (-2147483648, 2147483647), (-2147483648, 2147483647), (-2147483648, 2147483647), (-2147483648, 2147483647), (-2147483648, 2147483647), (-2147483648, 2147483647), (-2147483648, 2147483647), (-2147483648, 2147483647)] : List (Int × Int))[17 * m % 17]? = some r) : r = (0, 3) := by
  rw [show 17 * m % 17 = 0 from by omega] at h
  cases h
  rfl
/-- what the reference holds of works done -/
def zRU (h : cv_H) (m : Nat) (ν : Nat → Nat) (υ : Nat → Nat → Int) : Prop := ri_at h 111 50 = m ∧ m ≤ 20 ∧ ∀ i, i < m → ri_at h 135 (17 * i) = ν i ∧ ∀ j, j < 11 → ri_at h 135 (17 * i + 1 + j) = υ i (zni j)
/-- what a work, an undo may change -/
def zQU (h h' : cv_H) : Prop := (∀ k : Nat, k ≠ 111 → k ≠ 130 → k ≠ 131 → k ≠ 135 → h'[k]? = h[k]?) ∧ ∀ i, i ≠ 2 → i ≠ 50 → cw_at h' 111 i = cw_at h 111 i
theorem zQU_tr {h h' h'' : cv_H} (a : zQU h h') (b : zQU h' h'') : zQU h h'' := ⟨fun k p q r s => (b.1 k p q r s).trans (a.1 k p q r s), fun i p q => (b.2 i p q).trans (a.2 i p q)⟩
theorem zQU_c {h h' : cv_H} {R : Nat} (hR : R = 130 ∨ R = 131 ∨ R = 135) (c : cp_F R h h') : zQU h h' := ⟨fun k p q r s => c k (by omega), fun i _ _ => cp_at c (by omega)⟩
theorem zQU_w {h h' : cv_H} {i : Nat} {v : cv_V} (hi : i = 2 ∨ i = 50) (w : cw_Wr h h' 111 i v) : zQU h h' := ⟨fun k p _ _ _ => w.2.2 k p, fun j p q => w.2.1 111 j (.inr (by omega))⟩
theorem zQU_u {h h' : cv_H} {i : Nat} {v : cv_V} (w : cw_Wr h h' 135 i v) : zQU h h' := ⟨fun k _ _ _ p => w.2.2 k p, fun j _ _ => w.2.1 111 j (.inl (by decide))⟩
/-- on the way of the earliest one out -/
def zSE (h0 h : cv_H) (i : Nat) : Prop := cp_F 135 h0 h ∧ (∀ j, j < i → ri_at h 135 j = ri_at h0 135 (j + 17)) ∧ ∀ j, i ≤ j → ri_at h 135 j = ri_at h0 135 j
theorem zRU_sh {h h' : cv_H} {ν : Nat → Nat} {υ : Nat → Nat → Int} (S : zRU h 20 ν υ) (a : ∀ j, j < 323 → ri_at h' 135 j = ri_at h 135 (j + 17)) (b : ri_at h' 111 50 = 19) : zRU h' 19 (fun i => ν (i + 1)) (fun i => υ (i + 1)) := by
  refine ⟨b, by decide, fun i hi => ?_⟩
  have s := S.2.2 (i + 1) (by omega)
  refine ⟨(a _ (by omega)).trans ?_, fun j hj => (a _ (by omega)).trans ?_⟩
  · rw [show 17 * i + 17 = 17 * (i + 1) from by omega]; exact s.1
  · rw [show 17 * i + 1 + j + 17 = 17 * (i + 1) + 1 + j from by omega]; exact s.2 j hj
section GN
variable {G : Int} {X : cv_X} {Q : cv_O → Prop} {h0 h : cv_H}
theorem oq_X12_does_0 : cw_ho 226 0 (.aload_n 0) 1 0 0 0 := rfl
theorem oq_X12_does_1 : cw_ho 226 1 (.getfield 45) 3 12 29 4 := rfl
theorem oq_X12_does_4 : cw_ho 226 4 (.iconst 3) 1 0 0 0 := rfl
theorem oq_X12_does_5 : cw_ho 226 5 (.iload_n 1) 1 0 0 0 := rfl
theorem oq_X12_does_6 : cw_ho 226 6 (.imul) 1 0 0 0 := rfl
theorem oq_X12_does_7 : cw_ho 226 7 (.iconst 2) 1 0 0 0 := rfl
theorem oq_X12_does_8 : cw_ho 226 8 (.iadd) 1 0 0 0 := rfl
theorem oq_X12_does_9 : cw_ho 226 9 (.iaload) 1 0 0 0 := rfl
theorem oq_X12_does_10 : cw_ho 226 10 (.istore_n 2) 1 0 0 0 := rfl
theorem oq_X12_does_11 : cw_ho 226 11 (.aload_n 0) 1 0 0 0 := rfl
theorem oq_X12_does_12 : cw_ho 226 12 (.getfield 45) 3 12 29 4 := rfl
theorem oq_X12_does_15 : cw_ho 226 15 (.iconst 3) 1 0 0 0 := rfl
theorem oq_X12_does_16 : cw_ho 226 16 (.iload_n 1) 1 0 0 0 := rfl
theorem oq_X12_does_17 : cw_ho 226 17 (.imul) 1 0 0 0 := rfl
theorem oq_X12_does_18 : cw_ho 226 18 (.iconst 1) 1 0 0 0 := rfl
theorem oq_X12_does_19 : cw_ho 226 19 (.iadd) 1 0 0 0 := rfl
theorem oq_X12_does_20 : cw_ho 226 20 (.iaload) 1 0 0 0 := rfl
theorem oq_X12_does_21 : cw_ho 226 21 (.tableswitch 117 0 5 #[39, 50, 60, 73, 83, 96]) 39 0 0 0 := rfl
theorem oq_X12_does_60 : cw_ho 226 60 (.aload_n 0) 1 0 0 0 := rfl
theorem oq_X12_does_61 : cw_ho 226 61 (.getfield 72) 3 12 45 4 := rfl
theorem oq_X12_does_64 : cw_ho 226 64 (.bipush 7) 2 0 0 0 := rfl
theorem oq_X12_does_66 : cw_ho 226 66 (.iconst 1) 1 0 0 0 := rfl
theorem oq_X12_does_67 : cw_ho 226 67 (.iastore) 1 0 0 0 := rfl
theorem oq_X12_does_68 : cw_ho 226 68 (.goto 87) 3 0 0 0 := rfl
theorem oq_X12_does_71 : cw_ho 226 71 (.aload_n 0) 1 0 0 0 := rfl
theorem oq_X12_does_72 : cw_ho 226 72 (.getfield 72) 3 12 45 4 := rfl
theorem oq_X12_does_75 : cw_ho 226 75 (.iconst 1) 1 0 0 0 := rfl
theorem oq_X12_does_76 : cw_ho 226 76 (.iconst 0) 1 0 0 0 := rfl
theorem oq_X12_does_77 : cw_ho 226 77 (.iastore) 1 0 0 0 := rfl
theorem oq_X12_does_78 : cw_ho 226 78 (.goto 77) 3 0 0 0 := rfl
theorem oq_X12_does_81 : cw_ho 226 81 (.aload_n 0) 1 0 0 0 := rfl
theorem oq_X12_does_82 : cw_ho 226 82 (.getfield 72) 3 12 45 4 := rfl
theorem oq_X12_does_85 : cw_ho 226 85 (.iconst 3) 1 0 0 0 := rfl
theorem oq_X12_does_86 : cw_ho 226 86 (.dup2) 1 0 0 0 := rfl
theorem oq_X12_does_87 : cw_ho 226 87 (.iaload) 1 0 0 0 := rfl
theorem oq_X12_does_88 : cw_ho 226 88 (.iload_n 2) 1 0 0 0 := rfl
theorem oq_X12_does_89 : cw_ho 226 89 (.iadd) 1 0 0 0 := rfl
theorem oq_X12_does_90 : cw_ho 226 90 (.iastore) 1 0 0 0 := rfl
theorem oq_X12_does_91 : cw_ho 226 91 (.goto 64) 3 0 0 0 := rfl
theorem oq_X12_does_94 : cw_ho 226 94 (.aload_n 0) 1 0 0 0 := rfl
theorem oq_X12_does_95 : cw_ho 226 95 (.getfield 72) 3 12 45 4 := rfl
theorem oq_X12_does_98 : cw_ho 226 98 (.iconst 4) 1 0 0 0 := rfl
theorem oq_X12_does_99 : cw_ho 226 99 (.iload_n 2) 1 0 0 0 := rfl
theorem oq_X12_does_100 : cw_ho 226 100 (.iastore) 1 0 0 0 := rfl
theorem oq_X12_does_101 : cw_ho 226 101 (.goto 54) 3 0 0 0 := rfl
theorem oq_X12_does_104 : cw_ho 226 104 (.aload_n 0) 1 0 0 0 := rfl
theorem oq_X12_does_105 : cw_ho 226 105 (.getfield 72) 3 12 45 4 := rfl
theorem oq_X12_does_108 : cw_ho 226 108 (.iconst 5) 1 0 0 0 := rfl
theorem oq_X12_does_109 : cw_ho 226 109 (.dup2) 1 0 0 0 := rfl
theorem oq_X12_does_110 : cw_ho 226 110 (.iaload) 1 0 0 0 := rfl
theorem oq_X12_does_111 : cw_ho 226 111 (.iload_n 2) 1 0 0 0 := rfl
theorem oq_X12_does_112 : cw_ho 226 112 (.iadd) 1 0 0 0 := rfl
theorem oq_X12_does_113 : cw_ho 226 113 (.iastore) 1 0 0 0 := rfl
theorem oq_X12_does_114 : cw_ho 226 114 (.goto 41) 3 0 0 0 := rfl
theorem oq_X12_does_117 : cw_ho 226 117 (.aload_n 0) 1 0 0 0 := rfl
theorem oq_X12_does_118 : cw_ho 226 118 (.getfield 72) 3 12 45 4 := rfl
theorem oq_X12_does_121 : cw_ho 226 121 (.iconst 0) 1 0 0 0 := rfl
theorem oq_X12_does_122 : cw_ho 226 122 (.iconst 0) 1 0 0 0 := rfl
theorem oq_X12_does_123 : cw_ho 226 123 (.iastore) 1 0 0 0 := rfl
theorem oq_X12_does_124 : cw_ho 226 124 (.aload_n 0) 1 0 0 0 := rfl
theorem oq_X12_does_125 : cw_ho 226 125 (.getfield 72) 3 12 45 4 := rfl
theorem oq_X12_does_128 : cw_ho 226 128 (.bipush 6) 2 0 0 0 := rfl
theorem oq_X12_does_130 : cw_ho 226 130 (.dup2) 1 0 0 0 := rfl
theorem oq_X12_does_131 : cw_ho 226 131 (.iaload) 1 0 0 0 := rfl
theorem oq_X12_does_132 : cw_ho 226 132 (.iload_n 2) 1 0 0 0 := rfl
theorem oq_X12_does_133 : cw_ho 226 133 (.iadd) 1 0 0 0 := rfl
theorem oq_X12_does_134 : cw_ho 226 134 (.iastore) 1 0 0 0 := rfl
theorem oq_X12_does_135 : cw_ho 226 135 (.goto 20) 3 0 0 0 := rfl
theorem oq_X12_does_138 : cw_ho 226 138 (.aload_n 0) 1 0 0 0 := rfl
theorem oq_X12_does_139 : cw_ho 226 139 (.getfield 72) 3 12 45 4 := rfl
theorem oq_X12_does_142 : cw_ho 226 142 (.iconst 2) 1 0 0 0 := rfl
theorem oq_X12_does_143 : cw_ho 226 143 (.iconst 0) 1 0 0 0 := rfl
theorem oq_X12_does_144 : cw_ho 226 144 (.iastore) 1 0 0 0 := rfl
theorem oq_X12_does_145 : cw_ho 226 145 (.aload_n 0) 1 0 0 0 := rfl
theorem oq_X12_does_146 : cw_ho 226 146 (.getfield 72) 3 12 45 4 := rfl
theorem oq_X12_does_149 : cw_ho 226 149 (.iconst 3) 1 0 0 0 := rfl
theorem oq_X12_does_150 : cw_ho 226 150 (.dup2) 1 0 0 0 := rfl
theorem oq_X12_does_151 : cw_ho 226 151 (.iaload) 1 0 0 0 := rfl
theorem oq_X12_does_152 : cw_ho 226 152 (.iload_n 2) 1 0 0 0 := rfl
theorem oq_X12_does_153 : cw_ho 226 153 (.iadd) 1 0 0 0 := rfl
theorem oq_X12_does_154 : cw_ho 226 154 (.iastore) 1 0 0 0 := rfl
theorem oq_X12_does_155 : cw_ho 226 155 (.aload_n 0) 1 0 0 0 := rfl
theorem oq_X12_does_156 : cw_ho 226 156 (.getfield 72) 3 12 45 4 := rfl
theorem oq_X12_does_159 : cw_ho 226 159 (.bipush 9) 2 0 0 0 := rfl
theorem oq_X12_does_161 : cw_ho 226 161 (.dup2) 1 0 0 0 := rfl
theorem oq_X12_does_162 : cw_ho 226 162 (.iaload) 1 0 0 0 := rfl
theorem oq_X12_does_163 : cw_ho 226 163 (.iconst 1) 1 0 0 0 := rfl
theorem oq_X12_does_164 : cw_ho 226 164 (.iload_n 1) 1 0 0 0 := rfl
theorem oq_X12_does_165 : cw_ho 226 165 (.ishl) 1 0 0 0 := rfl
theorem oq_X12_does_166 : cw_ho 226 166 (.ior) 1 0 0 0 := rfl
theorem oq_X12_does_167 : cw_ho 226 167 (.iastore) 1 0 0 0 := rfl
theorem oq_X12_does_168 : cw_ho 226 168 (.return_) 1 0 0 0 := rfl
theorem rl_does (hT : cw_T G h) {γ : Nat → Int} (Nh : zNV h γ) (r4 : -200000000 ≤ γ 4 ∧ γ 4 ≤ 200000000) (r5 : 0 ≤ γ 5 ∧ γ 5 ≤ 100000) (r8 : 0 ≤ γ 8 ∧ γ 8 ≤ 100000) (r10 : 0 ≤ γ 10 ∧ γ 10 < 64) {w : Int32} {wn : Nat} (hwn : w.toInt = wn) (hwl : wn < 6) {kk nn : Int} (dK : ri_at h 122 (3 * wn + 1) = kk) (dN : ri_at h 122 (3 * wn + 2) = nn) (rk : 0 ≤ kk ∧ kk ≤ 6) (rn : 0 ≤ nn ∧ nn ≤ 9999) (hQ : ∀ h', cw_T G h' → cp_F 131 h h' → zNV h' (gTake γ kk nn wn) → Q (none, h')) : cw_X X 226 Q 0 (cv_ent 0 [cv_r 111, cv_i w]) [] h := by
  refine ex_al oq_X12_does_0 rfl ?_
  refine ex_gf oq_X12_does_1 hT (k := 111) (d := 12) rfl rfl (fr_workHas hT) ?_
  refine ex_ic oq_X12_does_4 (m := 3) (by decide) (fun x11 hx11 => ?_)
  refine ex_il oq_X12_does_5 rfl ?_
  refine ex_mul oq_X12_does_6 (m := 3 * w.toInt) (by rw [hx11]) (by omega) (fun x12 hx12 => ?_)
  refine ex_ic oq_X12_does_7 (m := 2) (by decide) (fun x13 hx13 => ?_)
  refine ex_add oq_X12_does_8 (by omega) (fun x14 hx14 => ?_)
  refine ex_iap oq_X12_does_9 hT (k := 122) (d := 61) (j := 3 * wn + 2) rfl rfl (by omega) (by omega) (fun x15 hx15 => ?_)
  have hx15 := (hx15.symm.trans dN : x15.toInt = nn)
  refine ex_isA oq_X12_does_10 (fun L16 gL16_2 kL16 => ?_)
  have gL16_0 : cv_get L16 0 = some (cv_r 111) := kL16 0 _ (by decide) (fun q => absurd q (by decide)) rfl
  have gL16_1 : cv_get L16 1 = some (cv_i w) := kL16 1 _ (by decide) (fun _ => rfl) rfl
  refine ex_al oq_X12_does_11 gL16_0 ?_
  refine ex_gf oq_X12_does_12 hT (k := 111) (d := 12) rfl rfl (fr_workHas hT) ?_
  refine ex_ic oq_X12_does_15 (m := 3) (by decide) (fun x17 hx17 => ?_)
  refine ex_il oq_X12_does_16 gL16_1 ?_
  refine ex_mul oq_X12_does_17 (m := 3 * w.toInt) (by rw [hx17]) (by omega) (fun x18 hx18 => ?_)
  refine ex_ic oq_X12_does_18 (m := 1) (by decide) (fun x19 hx19 => ?_)
  refine ex_add oq_X12_does_19 (by omega) (fun x20 hx20 => ?_)
  refine ex_iap oq_X12_does_20 hT (k := 122) (d := 61) (j := 3 * wn + 1) rfl rfl (by omega) (by omega) (fun x21 hx21 => ?_)
  have hx21 := (hx21.symm.trans dK : x21.toInt = kk)
  refine ex_tsw oq_X12_does_21 rfl (fun c22 => ⟨rfl, ?_⟩) (fun i hi c22 => ?_)
  · show cw_X _ _ _ 138 _ _ _
    have hkk : kk = 6 := by omega
    refine ex_al oq_X12_does_138 gL16_0 ?_
    refine ex_gf oq_X12_does_139 hT (k := 111) (d := 12) rfl rfl (fr_now hT) ?_
    refine ex_ic oq_X12_does_142 (m := 2) (by decide) (fun x23 hx23 => ?_)
    refine ex_ic oq_X12_does_143 (m := 0) (by decide) (fun x24 hx24 => ?_)
    refine ex_iw1 oq_X12_does_144 hT (k := 131) (d := 70) (j := 2) rfl rfl (by omega) (by omega) ⟨(cw_i32 _).1, (cw_i32 _).2⟩ (fun h25 Th25 wh25 => ?_)
    have Nh25 : zNV h25 (zgU (γ) 3 ((0 : Int))) := zNV_w wh25 (show x24.toInt = (0 : Int) from by omega) (by decide) Nh
    have cfh25 : cp_F 131 h h25 := cp_w wh25 cp_0
    refine ex_al oq_X12_does_145 gL16_0 ?_
    refine ex_gf oq_X12_does_146 Th25 (k := 111) (d := 12) rfl rfl (fr_now Th25) ?_
    refine ex_ic oq_X12_does_149 (m := 3) (by decide) (fun x26 hx26 => ?_)
    refine ex_dup2 oq_X12_does_150 rfl rfl ?_
    refine ex_ia1 oq_X12_does_151 Th25 (k := 131) (d := 70) (j := 3) rfl rfl (by omega) (by omega) (fun x27 hx27 lx27 ux27 => ?_)
    have hx27 := (hx27.symm.trans (Nh25 3 (by decide)) : x27.toInt = γ 4)
    refine ex_il oq_X12_does_152 gL16_2 ?_
    refine ex_add oq_X12_does_153 (by omega) (fun x28 hx28 => ?_)
    refine ex_iw1 oq_X12_does_154 Th25 (k := 131) (d := 70) (j := 3) rfl rfl (by omega) (by omega) ⟨(cw_i32 _).1, (cw_i32 _).2⟩ (fun h29 Th29 wh29 => ?_)
    have Nh29 : zNV h29 (zgU (zgU (γ) 3 ((0 : Int))) 4 (γ 4 + nn)) := zNV_w wh29 (show x28.toInt = γ 4 + nn from by omega) (by decide) Nh25
    have cfh29 : cp_F 131 h h29 := cp_w wh29 cfh25
    refine ex_al oq_X12_does_155 gL16_0 ?_
    refine ex_gf oq_X12_does_156 Th29 (k := 111) (d := 12) rfl rfl (fr_now Th29) ?_
    refine ex_bi oq_X12_does_159 (m := 9) (by decide) (fun x30 hx30 => ?_)
    refine ex_dup2 oq_X12_does_161 rfl rfl ?_
    refine ex_ia1 oq_X12_does_162 Th29 (k := 131) (d := 70) (j := 9) rfl rfl (by omega) (by omega) (fun x31 hx31 lx31 ux31 => ?_)
    have hx31 := (hx31.symm.trans (Nh29 9 (by decide)) : x31.toInt = γ 10)
    refine ex_ic oq_X12_does_163 (m := 1) (by decide) (fun x32 hx32 => ?_)
    refine ex_il oq_X12_does_164 gL16_1 ?_
    refine ex_shlE oq_X12_does_165 (fun x33 hx33 => ?_)
    refine ex_orE oq_X12_does_166 (fun x34 hx34 => ?_)
    refine ex_iw1 oq_X12_does_167 Th29 (k := 131) (d := 70) (j := 9) rfl rfl (by omega) (by omega) ⟨(cw_i32 _).1, (cw_i32 _).2⟩ (fun h35 Th35 wh35 => ?_)
    have Nh35 : zNV h35 (zgU (zgU (zgU (γ) 3 ((0 : Int))) 4 (γ 4 + nn)) 10 ((((γ 10).toNat ||| 2 ^ wn : Nat) : Int))) := zNV_w wh35 (show x34.toInt = (((γ 10).toNat ||| 2 ^ wn : Nat) : Int) from (by rw [hx34, hx33]; exact bt_or (m := (γ 10).toNat) (by omega) (by omega) hwn (by omega) hx32)) (by decide) Nh29
    have cfh35 : cp_F 131 h h35 := cp_w wh35 cfh29
    exact ex_retv oq_X12_does_168 rfl (hQ h35 Th35 cfh35 (zNV_e Nh35 (by rw [gTake_6 hkk]; exact fun j hj => by rcases (by omega : j = 1 ∨ j = 2 ∨ j = 3 ∨ j = 4 ∨ j = 5 ∨ j = 6 ∨ j = 7 ∨ j = 8 ∨ j = 9 ∨ j = 10 ∨ j = 11) with rfl | rfl | rfl | rfl | rfl | rfl | rfl | rfl | rfl | rfl | rfl <;> rfl)))
  · match i, hi, c22 with
    | 0, _, c22 =>
      refine ⟨rfl, ?_⟩
      show cw_X _ _ _ 60 _ _ _
      have hkk : kk = 0 := by omega
      refine ex_al oq_X12_does_60 gL16_0 ?_
      refine ex_gf oq_X12_does_61 hT (k := 111) (d := 12) rfl rfl (fr_now hT) ?_
      refine ex_bi oq_X12_does_64 (m := 7) (by decide) (fun x36 hx36 => ?_)
      refine ex_ic oq_X12_does_66 (m := 1) (by decide) (fun x37 hx37 => ?_)
      refine ex_iw1 oq_X12_does_67 hT (k := 131) (d := 70) (j := 7) rfl rfl (by omega) (by omega) ⟨(cw_i32 _).1, (cw_i32 _).2⟩ (fun h38 Th38 wh38 => ?_)
      have Nh38 : zNV h38 (zgU (γ) 6 ((1 : Int))) := zNV_w wh38 (show x37.toInt = (1 : Int) from by omega) (by decide) Nh
      have cfh38 : cp_F 131 h h38 := cp_w wh38 cp_0
      refine ex_go oq_X12_does_68 (t := 155) rfl rfl ?_
      refine ex_al oq_X12_does_155 gL16_0 ?_
      refine ex_gf oq_X12_does_156 Th38 (k := 111) (d := 12) rfl rfl (fr_now Th38) ?_
      refine ex_bi oq_X12_does_159 (m := 9) (by decide) (fun x39 hx39 => ?_)
      refine ex_dup2 oq_X12_does_161 rfl rfl ?_
      refine ex_ia1 oq_X12_does_162 Th38 (k := 131) (d := 70) (j := 9) rfl rfl (by omega) (by omega) (fun x40 hx40 lx40 ux40 => ?_)
      have hx40 := (hx40.symm.trans (Nh38 9 (by decide)) : x40.toInt = γ 10)
      refine ex_ic oq_X12_does_163 (m := 1) (by decide) (fun x41 hx41 => ?_)
      refine ex_il oq_X12_does_164 gL16_1 ?_
      refine ex_shlE oq_X12_does_165 (fun x42 hx42 => ?_)
      refine ex_orE oq_X12_does_166 (fun x43 hx43 => ?_)
      refine ex_iw1 oq_X12_does_167 Th38 (k := 131) (d := 70) (j := 9) rfl rfl (by omega) (by omega) ⟨(cw_i32 _).1, (cw_i32 _).2⟩ (fun h44 Th44 wh44 => ?_)
      have Nh44 : zNV h44 (zgU (zgU (γ) 6 ((1 : Int))) 10 ((((γ 10).toNat ||| 2 ^ wn : Nat) : Int))) := zNV_w wh44 (show x43.toInt = (((γ 10).toNat ||| 2 ^ wn : Nat) : Int) from (by rw [hx43, hx42]; exact bt_or (m := (γ 10).toNat) (by omega) (by omega) hwn (by omega) hx41)) (by decide) Nh38
      have cfh44 : cp_F 131 h h44 := cp_w wh44 cfh38
      exact ex_retv oq_X12_does_168 rfl (hQ h44 Th44 cfh44 (zNV_e Nh44 (by rw [gTake_0 hkk]; exact fun j hj => by rcases (by omega : j = 1 ∨ j = 2 ∨ j = 3 ∨ j = 4 ∨ j = 5 ∨ j = 6 ∨ j = 7 ∨ j = 8 ∨ j = 9 ∨ j = 10 ∨ j = 11) with rfl | rfl | rfl | rfl | rfl | rfl | rfl | rfl | rfl | rfl | rfl <;> rfl)))
    | 1, _, c22 =>
      refine ⟨rfl, ?_⟩
      show cw_X _ _ _ 71 _ _ _
      have hkk : kk = 1 := by omega
      refine ex_al oq_X12_does_71 gL16_0 ?_
      refine ex_gf oq_X12_does_72 hT (k := 111) (d := 12) rfl rfl (fr_now hT) ?_
      refine ex_ic oq_X12_does_75 (m := 1) (by decide) (fun x45 hx45 => ?_)
      refine ex_ic oq_X12_does_76 (m := 0) (by decide) (fun x46 hx46 => ?_)
      refine ex_iw1 oq_X12_does_77 hT (k := 131) (d := 70) (j := 1) rfl rfl (by omega) (by omega) ⟨(cw_i32 _).1, (cw_i32 _).2⟩ (fun h47 Th47 wh47 => ?_)
      have Nh47 : zNV h47 (zgU (γ) 2 ((0 : Int))) := zNV_w wh47 (show x46.toInt = (0 : Int) from by omega) (by decide) Nh
      have cfh47 : cp_F 131 h h47 := cp_w wh47 cp_0
      refine ex_go oq_X12_does_78 (t := 155) rfl rfl ?_
      refine ex_al oq_X12_does_155 gL16_0 ?_
      refine ex_gf oq_X12_does_156 Th47 (k := 111) (d := 12) rfl rfl (fr_now Th47) ?_
      refine ex_bi oq_X12_does_159 (m := 9) (by decide) (fun x48 hx48 => ?_)
      refine ex_dup2 oq_X12_does_161 rfl rfl ?_
      refine ex_ia1 oq_X12_does_162 Th47 (k := 131) (d := 70) (j := 9) rfl rfl (by omega) (by omega) (fun x49 hx49 lx49 ux49 => ?_)
      have hx49 := (hx49.symm.trans (Nh47 9 (by decide)) : x49.toInt = γ 10)
      refine ex_ic oq_X12_does_163 (m := 1) (by decide) (fun x50 hx50 => ?_)
      refine ex_il oq_X12_does_164 gL16_1 ?_
      refine ex_shlE oq_X12_does_165 (fun x51 hx51 => ?_)
      refine ex_orE oq_X12_does_166 (fun x52 hx52 => ?_)
      refine ex_iw1 oq_X12_does_167 Th47 (k := 131) (d := 70) (j := 9) rfl rfl (by omega) (by omega) ⟨(cw_i32 _).1, (cw_i32 _).2⟩ (fun h53 Th53 wh53 => ?_)
      have Nh53 : zNV h53 (zgU (zgU (γ) 2 ((0 : Int))) 10 ((((γ 10).toNat ||| 2 ^ wn : Nat) : Int))) := zNV_w wh53 (show x52.toInt = (((γ 10).toNat ||| 2 ^ wn : Nat) : Int) from (by rw [hx52, hx51]; exact bt_or (m := (γ 10).toNat) (by omega) (by omega) hwn (by omega) hx50)) (by decide) Nh47
      have cfh53 : cp_F 131 h h53 := cp_w wh53 cfh47
      exact ex_retv oq_X12_does_168 rfl (hQ h53 Th53 cfh53 (zNV_e Nh53 (by rw [gTake_1 hkk]; exact fun j hj => by rcases (by omega : j = 1 ∨ j = 2 ∨ j = 3 ∨ j = 4 ∨ j = 5 ∨ j = 6 ∨ j = 7 ∨ j = 8 ∨ j = 9 ∨ j = 10 ∨ j = 11) with rfl | rfl | rfl | rfl | rfl | rfl | rfl | rfl | rfl | rfl | rfl <;> rfl)))
    | 2, _, c22 =>
      refine ⟨rfl, ?_⟩
      show cw_X _ _ _ 81 _ _ _
      have hkk : kk = 2 := by omega
      refine ex_al oq_X12_does_81 gL16_0 ?_
      refine ex_gf oq_X12_does_82 hT (k := 111) (d := 12) rfl rfl (fr_now hT) ?_
      refine ex_ic oq_X12_does_85 (m := 3) (by decide) (fun x54 hx54 => ?_)
      refine ex_dup2 oq_X12_does_86 rfl rfl ?_
      refine ex_ia1 oq_X12_does_87 hT (k := 131) (d := 70) (j := 3) rfl rfl (by omega) (by omega) (fun x55 hx55 lx55 ux55 => ?_)
      have hx55 := (hx55.symm.trans (Nh 3 (by decide)) : x55.toInt = γ 4)
      refine ex_il oq_X12_does_88 gL16_2 ?_
      refine ex_add oq_X12_does_89 (by omega) (fun x56 hx56 => ?_)
      refine ex_iw1 oq_X12_does_90 hT (k := 131) (d := 70) (j := 3) rfl rfl (by omega) (by omega) ⟨(cw_i32 _).1, (cw_i32 _).2⟩ (fun h57 Th57 wh57 => ?_)
      have Nh57 : zNV h57 (zgU (γ) 4 (γ 4 + nn)) := zNV_w wh57 (show x56.toInt = γ 4 + nn from by omega) (by decide) Nh
      have cfh57 : cp_F 131 h h57 := cp_w wh57 cp_0
      refine ex_go oq_X12_does_91 (t := 155) rfl rfl ?_
      refine ex_al oq_X12_does_155 gL16_0 ?_
      refine ex_gf oq_X12_does_156 Th57 (k := 111) (d := 12) rfl rfl (fr_now Th57) ?_
      refine ex_bi oq_X12_does_159 (m := 9) (by decide) (fun x58 hx58 => ?_)
      refine ex_dup2 oq_X12_does_161 rfl rfl ?_
      refine ex_ia1 oq_X12_does_162 Th57 (k := 131) (d := 70) (j := 9) rfl rfl (by omega) (by omega) (fun x59 hx59 lx59 ux59 => ?_)
      have hx59 := (hx59.symm.trans (Nh57 9 (by decide)) : x59.toInt = γ 10)
      refine ex_ic oq_X12_does_163 (m := 1) (by decide) (fun x60 hx60 => ?_)
      refine ex_il oq_X12_does_164 gL16_1 ?_
      refine ex_shlE oq_X12_does_165 (fun x61 hx61 => ?_)
      refine ex_orE oq_X12_does_166 (fun x62 hx62 => ?_)
      refine ex_iw1 oq_X12_does_167 Th57 (k := 131) (d := 70) (j := 9) rfl rfl (by omega) (by omega) ⟨(cw_i32 _).1, (cw_i32 _).2⟩ (fun h63 Th63 wh63 => ?_)
      have Nh63 : zNV h63 (zgU (zgU (γ) 4 (γ 4 + nn)) 10 ((((γ 10).toNat ||| 2 ^ wn : Nat) : Int))) := zNV_w wh63 (show x62.toInt = (((γ 10).toNat ||| 2 ^ wn : Nat) : Int) from (by rw [hx62, hx61]; exact bt_or (m := (γ 10).toNat) (by omega) (by omega) hwn (by omega) hx60)) (by decide) Nh57
      have cfh63 : cp_F 131 h h63 := cp_w wh63 cfh57
      exact ex_retv oq_X12_does_168 rfl (hQ h63 Th63 cfh63 (zNV_e Nh63 (by rw [gTake_2 hkk]; exact fun j hj => by rcases (by omega : j = 1 ∨ j = 2 ∨ j = 3 ∨ j = 4 ∨ j = 5 ∨ j = 6 ∨ j = 7 ∨ j = 8 ∨ j = 9 ∨ j = 10 ∨ j = 11) with rfl | rfl | rfl | rfl | rfl | rfl | rfl | rfl | rfl | rfl | rfl <;> rfl)))
    | 3, _, c22 =>
      refine ⟨rfl, ?_⟩
      show cw_X _ _ _ 94 _ _ _
      have hkk : kk = 3 := by omega
      refine ex_al oq_X12_does_94 gL16_0 ?_
      refine ex_gf oq_X12_does_95 hT (k := 111) (d := 12) rfl rfl (fr_now hT) ?_
      refine ex_ic oq_X12_does_98 (m := 4) (by decide) (fun x64 hx64 => ?_)
      refine ex_il oq_X12_does_99 gL16_2 ?_
      refine ex_iw1 oq_X12_does_100 hT (k := 131) (d := 70) (j := 4) rfl rfl (by omega) (by omega) ⟨(cw_i32 _).1, (cw_i32 _).2⟩ (fun h65 Th65 wh65 => ?_)
      have Nh65 : zNV h65 (zgU (γ) 7 (nn)) := zNV_w wh65 (show x15.toInt = nn from by omega) (by decide) Nh
      have cfh65 : cp_F 131 h h65 := cp_w wh65 cp_0
      refine ex_go oq_X12_does_101 (t := 155) rfl rfl ?_
      refine ex_al oq_X12_does_155 gL16_0 ?_
      refine ex_gf oq_X12_does_156 Th65 (k := 111) (d := 12) rfl rfl (fr_now Th65) ?_
      refine ex_bi oq_X12_does_159 (m := 9) (by decide) (fun x66 hx66 => ?_)
      refine ex_dup2 oq_X12_does_161 rfl rfl ?_
      refine ex_ia1 oq_X12_does_162 Th65 (k := 131) (d := 70) (j := 9) rfl rfl (by omega) (by omega) (fun x67 hx67 lx67 ux67 => ?_)
      have hx67 := (hx67.symm.trans (Nh65 9 (by decide)) : x67.toInt = γ 10)
      refine ex_ic oq_X12_does_163 (m := 1) (by decide) (fun x68 hx68 => ?_)
      refine ex_il oq_X12_does_164 gL16_1 ?_
      refine ex_shlE oq_X12_does_165 (fun x69 hx69 => ?_)
      refine ex_orE oq_X12_does_166 (fun x70 hx70 => ?_)
      refine ex_iw1 oq_X12_does_167 Th65 (k := 131) (d := 70) (j := 9) rfl rfl (by omega) (by omega) ⟨(cw_i32 _).1, (cw_i32 _).2⟩ (fun h71 Th71 wh71 => ?_)
      have Nh71 : zNV h71 (zgU (zgU (γ) 7 (nn)) 10 ((((γ 10).toNat ||| 2 ^ wn : Nat) : Int))) := zNV_w wh71 (show x70.toInt = (((γ 10).toNat ||| 2 ^ wn : Nat) : Int) from (by rw [hx70, hx69]; exact bt_or (m := (γ 10).toNat) (by omega) (by omega) hwn (by omega) hx68)) (by decide) Nh65
      have cfh71 : cp_F 131 h h71 := cp_w wh71 cfh65
      exact ex_retv oq_X12_does_168 rfl (hQ h71 Th71 cfh71 (zNV_e Nh71 (by rw [gTake_3 hkk]; exact fun j hj => by rcases (by omega : j = 1 ∨ j = 2 ∨ j = 3 ∨ j = 4 ∨ j = 5 ∨ j = 6 ∨ j = 7 ∨ j = 8 ∨ j = 9 ∨ j = 10 ∨ j = 11) with rfl | rfl | rfl | rfl | rfl | rfl | rfl | rfl | rfl | rfl | rfl <;> rfl)))
    | 4, _, c22 =>
      refine ⟨rfl, ?_⟩
      show cw_X _ _ _ 104 _ _ _
      have hkk : kk = 4 := by omega
      refine ex_al oq_X12_does_104 gL16_0 ?_
      refine ex_gf oq_X12_does_105 hT (k := 111) (d := 12) rfl rfl (fr_now hT) ?_
      refine ex_ic oq_X12_does_108 (m := 5) (by decide) (fun x72 hx72 => ?_)
      refine ex_dup2 oq_X12_does_109 rfl rfl ?_
      refine ex_ia1 oq_X12_does_110 hT (k := 131) (d := 70) (j := 5) rfl rfl (by omega) (by omega) (fun x73 hx73 lx73 ux73 => ?_)
      have hx73 := (hx73.symm.trans (Nh 5 (by decide)) : x73.toInt = γ 8)
      refine ex_il oq_X12_does_111 gL16_2 ?_
      refine ex_add oq_X12_does_112 (by omega) (fun x74 hx74 => ?_)
      refine ex_iw1 oq_X12_does_113 hT (k := 131) (d := 70) (j := 5) rfl rfl (by omega) (by omega) ⟨(cw_i32 _).1, (cw_i32 _).2⟩ (fun h75 Th75 wh75 => ?_)
      have Nh75 : zNV h75 (zgU (γ) 8 (γ 8 + nn)) := zNV_w wh75 (show x74.toInt = γ 8 + nn from by omega) (by decide) Nh
      have cfh75 : cp_F 131 h h75 := cp_w wh75 cp_0
      refine ex_go oq_X12_does_114 (t := 155) rfl rfl ?_
      refine ex_al oq_X12_does_155 gL16_0 ?_
      refine ex_gf oq_X12_does_156 Th75 (k := 111) (d := 12) rfl rfl (fr_now Th75) ?_
      refine ex_bi oq_X12_does_159 (m := 9) (by decide) (fun x76 hx76 => ?_)
      refine ex_dup2 oq_X12_does_161 rfl rfl ?_
      refine ex_ia1 oq_X12_does_162 Th75 (k := 131) (d := 70) (j := 9) rfl rfl (by omega) (by omega) (fun x77 hx77 lx77 ux77 => ?_)
      have hx77 := (hx77.symm.trans (Nh75 9 (by decide)) : x77.toInt = γ 10)
      refine ex_ic oq_X12_does_163 (m := 1) (by decide) (fun x78 hx78 => ?_)
      refine ex_il oq_X12_does_164 gL16_1 ?_
      refine ex_shlE oq_X12_does_165 (fun x79 hx79 => ?_)
      refine ex_orE oq_X12_does_166 (fun x80 hx80 => ?_)
      refine ex_iw1 oq_X12_does_167 Th75 (k := 131) (d := 70) (j := 9) rfl rfl (by omega) (by omega) ⟨(cw_i32 _).1, (cw_i32 _).2⟩ (fun h81 Th81 wh81 => ?_)
      have Nh81 : zNV h81 (zgU (zgU (γ) 8 (γ 8 + nn)) 10 ((((γ 10).toNat ||| 2 ^ wn : Nat) : Int))) := zNV_w wh81 (show x80.toInt = (((γ 10).toNat ||| 2 ^ wn : Nat) : Int) from (by rw [hx80, hx79]; exact bt_or (m := (γ 10).toNat) (by omega) (by omega) hwn (by omega) hx78)) (by decide) Nh75
      have cfh81 : cp_F 131 h h81 := cp_w wh81 cfh75
      exact ex_retv oq_X12_does_168 rfl (hQ h81 Th81 cfh81 (zNV_e Nh81 (by rw [gTake_4 hkk]; exact fun j hj => by rcases (by omega : j = 1 ∨ j = 2 ∨ j = 3 ∨ j = 4 ∨ j = 5 ∨ j = 6 ∨ j = 7 ∨ j = 8 ∨ j = 9 ∨ j = 10 ∨ j = 11) with rfl | rfl | rfl | rfl | rfl | rfl | rfl | rfl | rfl | rfl | rfl <;> rfl)))
    | 5, _, c22 =>
      refine ⟨rfl, ?_⟩
      show cw_X _ _ _ 117 _ _ _
      have hkk : kk = 5 := by omega
      refine ex_al oq_X12_does_117 gL16_0 ?_
      refine ex_gf oq_X12_does_118 hT (k := 111) (d := 12) rfl rfl (fr_now hT) ?_
      refine ex_ic oq_X12_does_121 (m := 0) (by decide) (fun x82 hx82 => ?_)
      refine ex_ic oq_X12_does_122 (m := 0) (by decide) (fun x83 hx83 => ?_)
      refine ex_iw1 oq_X12_does_123 hT (k := 131) (d := 70) (j := 0) rfl rfl (by omega) (by omega) ⟨(cw_i32 _).1, (cw_i32 _).2⟩ (fun h84 Th84 wh84 => ?_)
      have Nh84 : zNV h84 (zgU (γ) 1 ((0 : Int))) := zNV_w wh84 (show x83.toInt = (0 : Int) from by omega) (by decide) Nh
      have cfh84 : cp_F 131 h h84 := cp_w wh84 cp_0
      refine ex_al oq_X12_does_124 gL16_0 ?_
      refine ex_gf oq_X12_does_125 Th84 (k := 111) (d := 12) rfl rfl (fr_now Th84) ?_
      refine ex_bi oq_X12_does_128 (m := 6) (by decide) (fun x85 hx85 => ?_)
      refine ex_dup2 oq_X12_does_130 rfl rfl ?_
      refine ex_ia1 oq_X12_does_131 Th84 (k := 131) (d := 70) (j := 6) rfl rfl (by omega) (by omega) (fun x86 hx86 lx86 ux86 => ?_)
      have hx86 := (hx86.symm.trans (Nh84 6 (by decide)) : x86.toInt = γ 5)
      refine ex_il oq_X12_does_132 gL16_2 ?_
      refine ex_add oq_X12_does_133 (by omega) (fun x87 hx87 => ?_)
      refine ex_iw1 oq_X12_does_134 Th84 (k := 131) (d := 70) (j := 6) rfl rfl (by omega) (by omega) ⟨(cw_i32 _).1, (cw_i32 _).2⟩ (fun h88 Th88 wh88 => ?_)
      have Nh88 : zNV h88 (zgU (zgU (γ) 1 ((0 : Int))) 5 (γ 5 + nn)) := zNV_w wh88 (show x87.toInt = γ 5 + nn from by omega) (by decide) Nh84
      have cfh88 : cp_F 131 h h88 := cp_w wh88 cfh84
      refine ex_go oq_X12_does_135 (t := 155) rfl rfl ?_
      refine ex_al oq_X12_does_155 gL16_0 ?_
      refine ex_gf oq_X12_does_156 Th88 (k := 111) (d := 12) rfl rfl (fr_now Th88) ?_
      refine ex_bi oq_X12_does_159 (m := 9) (by decide) (fun x89 hx89 => ?_)
      refine ex_dup2 oq_X12_does_161 rfl rfl ?_
      refine ex_ia1 oq_X12_does_162 Th88 (k := 131) (d := 70) (j := 9) rfl rfl (by omega) (by omega) (fun x90 hx90 lx90 ux90 => ?_)
      have hx90 := (hx90.symm.trans (Nh88 9 (by decide)) : x90.toInt = γ 10)
      refine ex_ic oq_X12_does_163 (m := 1) (by decide) (fun x91 hx91 => ?_)
      refine ex_il oq_X12_does_164 gL16_1 ?_
      refine ex_shlE oq_X12_does_165 (fun x92 hx92 => ?_)
      refine ex_orE oq_X12_does_166 (fun x93 hx93 => ?_)
      refine ex_iw1 oq_X12_does_167 Th88 (k := 131) (d := 70) (j := 9) rfl rfl (by omega) (by omega) ⟨(cw_i32 _).1, (cw_i32 _).2⟩ (fun h94 Th94 wh94 => ?_)
      have Nh94 : zNV h94 (zgU (zgU (zgU (γ) 1 ((0 : Int))) 5 (γ 5 + nn)) 10 ((((γ 10).toNat ||| 2 ^ wn : Nat) : Int))) := zNV_w wh94 (show x93.toInt = (((γ 10).toNat ||| 2 ^ wn : Nat) : Int) from (by rw [hx93, hx92]; exact bt_or (m := (γ 10).toNat) (by omega) (by omega) hwn (by omega) hx91)) (by decide) Nh88
      have cfh94 : cp_F 131 h h94 := cp_w wh94 cfh88
      exact ex_retv oq_X12_does_168 rfl (hQ h94 Th94 cfh94 (zNV_e Nh94 (by rw [gTake_5 hkk]; exact fun j hj => by rcases (by omega : j = 1 ∨ j = 2 ∨ j = 3 ∨ j = 4 ∨ j = 5 ∨ j = 6 ∨ j = 7 ∨ j = 8 ∨ j = 9 ∨ j = 10 ∨ j = 11) with rfl | rfl | rfl | rfl | rfl | rfl | rfl | rfl | rfl | rfl | rfl <;> rfl)))
    | i + 6, hi, _ => exact absurd hi (by show ¬ i + 6 < 6; omega)
theorem ru_sh {g w : Int32} (kk : ∀ h L, cw_T G h → zSE h0 h 323 → cv_get L 0 = some (cv_r 111) → cv_get L 1 = some (cv_i g) → cv_get L 2 = some (cv_i w) → cw_X X 227 Q 85 L [] h) : ∀ (f i : Nat) (I : Int32) (h : cv_H) (L : cv_L), 323 - i = f → i ≤ 323 → I.toInt = i → cw_T G h → zSE h0 h i → cv_get L 0 = some (cv_r 111) → cv_get L 1 = some (cv_i g) → cv_get L 2 = some (cv_i w) → cv_get L 3 = some (cv_i I) → cw_X X 227 Q 57 L [] h := by
  intro f
  induction f with
  | zero =>
    intro i I h L hf hi hI' hT hI g0 g1 g2 g3
    refine ex_il oq_X12_work_57 g3 ?_
    refine ex_si oq_X12_work_58 (m := 323) (by decide) (fun x101 hx101 => ?_)
    refine ex_if oq_X12_work_61 (t := 85) rfl rfl (fun (c102 : x101.toInt ≤ I.toInt) => ?_) (fun (c102 : ¬ (x101.toInt ≤ I.toInt)) => ?_)
    · exact kk h L hT (by rw [show i = 323 from by omega] at hI; exact hI) g0 g1 g2
    · exfalso; omega
  | succ f ih =>
    intro i I h L hf hi hI' hT hI g0 g1 g2 g3
    refine ex_il oq_X12_work_57 g3 ?_
    refine ex_si oq_X12_work_58 (m := 323) (by decide) (fun x101 hx101 => ?_)
    refine ex_if oq_X12_work_61 (t := 85) rfl rfl (fun (c102 : x101.toInt ≤ I.toInt) => ?_) (fun (c102 : ¬ (x101.toInt ≤ I.toInt)) => ?_)
    · exfalso; omega
    · refine ex_al oq_X12_work_64 g0 ?_
      refine ex_gf oq_X12_work_65 hT (k := 111) (d := 12) rfl rfl (fr_undo hT) ?_
      refine ex_il oq_X12_work_68 g3 ?_
      refine ex_al oq_X12_work_69 g0 ?_
      refine ex_gf oq_X12_work_70 hT (k := 111) (d := 12) rfl rfl (fr_undo hT) ?_
      refine ex_il oq_X12_work_73 g3 ?_
      refine ex_bi oq_X12_work_74 (m := 17) (by decide) (fun x103 hx103 => ?_)
      refine ex_add oq_X12_work_76 (by omega) (fun x104 hx104 => ?_)
      refine ex_ia oq_X12_work_77 hT (k := 135) (d := 74) (j := i + 17) rfl rfl (by omega) (by omega) (fun x105 hx105 rx105 => ?_)
      refine ex_iw oq_X12_work_78 hT (k := 135) (d := 74) (j := i) rfl rfl (by omega) (by omega) (fun r hr => by obtain ⟨r2, q1, q2⟩ := rx105; rw [show (i + 17) % 17 = i % 17 from by omega] at q1; rw [q1] at hr; cases hr; exact q2) (fun h106 Th106 wh106 => ?_)
      refine ex_incA oq_X12_work_79 (v := I) (m := 1) g3 (by decide) (by omega) (fun L108 x107 hx107 gL108_3 kL108 => ?_)
      have gL108_0 : cv_get L108 0 = some (cv_r 111) := kL108 0 _ (by decide) (fun q => absurd q (by decide)) g0
      have gL108_1 : cv_get L108 1 = some (cv_i g) := kL108 1 _ (by decide) (fun q => absurd q (by decide)) g1
      have gL108_2 : cv_get L108 2 = some (cv_i w) := kL108 2 _ (by decide) (fun _ => rfl) g2
      refine ex_go oq_X12_work_82 (t := 57) rfl rfl ?_
      refine ih (i + 1) x107 h106 L108 (by omega) (by omega) (by omega) Th106 ⟨cp_w wh106 hI.1, fun j q => ?_, fun j q => (ri_ne wh106 (.inr (by omega))).trans (hI.2.2 j (by omega))⟩ gL108_0 gL108_1 gL108_2 gL108_3
      by_cases cj : j = i
      · subst cj
        exact (ri_self wh106).trans ((ri_of hx105).symm.trans (hI.2.2 _ (by omega)))
      · exact (ri_ne wh106 (.inr cj)).trans (hI.2.1 j (by omega))
theorem ru_95 (hT : cw_T G h) {m : Nat} {ν : Nat → Nat} {υ : Nat → Nat → Int} (S : zRU h m ν υ) (hm : m < 20) {ng : Nat} {γs : Nat → Nat → Int} (hng : ng ≤ 4) {gn : Nat} {g : Int32} (hg : g.toInt = gn) (hgn : gn < ng) (r4 : -200000000 ≤ γs gn 4 ∧ γs gn 4 ≤ 200000000) (r5 : 0 ≤ γs gn 5 ∧ γs gn 5 ≤ 100000) (r8 : 0 ≤ γs gn 8 ∧ γs gn 8 ≤ 100000) (r10 : 0 ≤ γs gn 10 ∧ γs gn 10 < 64) {w : Int32} {wn : Nat} (hwn : w.toInt = wn) (hwl : wn < 6) {kk nn : Int} (rk : 0 ≤ kk ∧ kk ≤ 6) (rn : 0 ≤ nn ∧ nn ≤ 9999) (sS : zSS h ng γs) (dK : ri_at h 122 (3 * wn + 1) = kk) (dN : ri_at h 122 (3 * wn + 2) = nn) {L : cv_L} (g0 : cv_get L 0 = some (cv_r 111)) (g1 : cv_get L 1 = some (cv_i g)) (g2 : cv_get L 2 = some (cv_i w)) (hQ : ∀ (x : Int32) h', cw_T G h' → x.toInt = 1 → zQU h h' → zRU h' (m + 1) (zfU ν m gn) (zfU υ m (γs gn)) → zSS h' ng (zfU γs gn (gTake (γs gn) kk nn wn)) → Q (some (cv_i x), h')) : cw_X X 227 Q 95 L [] h := by
  refine ex_al oq_X12_work_95 g0 ?_
  refine ex_gf oq_X12_work_96 hT (k := 111) (d := 12) rfl rfl (fr_undo hT) ?_
  refine ex_bi oq_X12_work_99 (m := 17) (by decide) (fun x101 hx101 => ?_)
  refine ex_al oq_X12_work_101 g0 ?_
  obtain ⟨x102, ax102, rx102, lx102, ux102⟩ := fi_undos hT
  refine ex_gf oq_X12_work_102 hT (k := 111) (d := 12) rfl rfl ax102 ?_
  have rx102 := (rx102.symm.trans S.1 : x102.toInt = (m : Int))
  refine ex_mul oq_X12_work_105 (m := 17 * x102.toInt) (by rw [hx101]) (by omega) (fun x103 hx103 => ?_)
  refine ex_il oq_X12_work_106 g1 ?_
  refine ex_iw oq_X12_work_107 hT (k := 135) (d := 74) (j := 17 * m) rfl rfl (by omega) (by omega) (fun r hr => by have e := fr17_0 hr; subst e; exact ⟨by omega, by omega⟩) (fun h104 Th104 wh104 => ?_)
  have eh104_111_50 : ri_at h104 111 50 = (m : Int) := (ri_ne wh104 (.inl (by decide))).trans S.1
  refine ex_al oq_X12_work_108 g0 ?_
  refine ex_gf oq_X12_work_109 Th104 (k := 111) (d := 12) rfl rfl (fr_undo Th104) ?_
  refine ex_bi oq_X12_work_112 (m := 17) (by decide) (fun x105 hx105 => ?_)
  refine ex_al oq_X12_work_114 g0 ?_
  obtain ⟨x106, ax106, rx106, lx106, ux106⟩ := fi_undos Th104
  refine ex_gf oq_X12_work_115 Th104 (k := 111) (d := 12) rfl rfl ax106 ?_
  have rx106 := (rx106.symm.trans eh104_111_50 : x106.toInt = (m : Int))
  refine ex_mul oq_X12_work_118 (m := 17 * x106.toInt) (by rw [hx105]) (by omega) (fun x107 hx107 => ?_)
  refine ex_ic oq_X12_work_119 (m := 1) (by decide) (fun x108 hx108 => ?_)
  refine ex_add oq_X12_work_120 (by omega) (fun x109 hx109 => ?_)
  refine ex_al oq_X12_work_121 g0 ?_
  refine ex_gf oq_X12_work_122 Th104 (k := 111) (d := 12) rfl rfl (fr_state Th104) ?_
  refine ex_bi oq_X12_work_125 (m := 16) (by decide) (fun x110 hx110 => ?_)
  refine ex_il oq_X12_work_127 g1 ?_
  refine ex_mul oq_X12_work_128 (m := 16 * g.toInt) (by rw [hx110]) (by omega) (fun x111 hx111 => ?_)
  refine ex_cs oq_X12_work_129 (by decide) (as := [cv_r 135, cv_i x109, cv_r 130, cv_i x111]) (stk := []) rfl rfl rfl ⟨rfl, rfl⟩ (R := fun o => ∃ hb : cv_H, o = (none, hb) ∧ cw_T G hb ∧ cp_F 135 h104 hb ∧ (∀ i, i < 16 → ri_at hb 135 (17 * m + 1 + i) = ri_at h104 130 (16 * gn + i)) ∧ (∀ i, (i < 17 * m + 1 ∨ 17 * m + 1 + 16 ≤ i) → ri_at hb 135 i = ri_at h104 135 i)) (rt_lays Th104 (R1 := 135) (d1 := 74) (R2 := 130) (d2 := 69) (a := 17 * m + 1) (b := 16 * gn) rfl rfl rfl rfl (by decide) (by omega) (by omega) (by omega) (by omega) (by decide) (by decide) (fun j q1 q2 r hr => fr17 q1 q2 hr) (fun hb b1 b2 b3 b4 => ⟨hb, rfl, b1, b2, b3, b4⟩)) (fun o ho => ?_)
  obtain ⟨h112, rfl, Th112, ch112, yh112, nh112⟩ := ho
  show cw_X _ _ _ _ _ [] h112
  refine ex_al oq_X12_work_132 g0 ?_
  refine ex_dup oq_X12_work_133 rfl ?_
  obtain ⟨x113, ax113, rx113, lx113, ux113⟩ := fi_undos Th112
  refine ex_gf oq_X12_work_134 Th112 (k := 111) (d := 12) rfl rfl ax113 ?_
  have rx113 := (rx113.symm.trans ((ri_eq (cp_at ch112 (by decide))).trans eh104_111_50) : x113.toInt = (m : Int))
  refine ex_ic oq_X12_work_137 (m := 1) (by decide) (fun x114 hx114 => ?_)
  refine ex_add oq_X12_work_138 (by omega) (fun x115 hx115 => ?_)
  refine ex_pfi oq_X12_work_139 Th112 (k := 111) (d := 12) rfl rfl rfl (by omega) (by omega) (fun h116 Th116 wh116 => ?_)
  have eh116_111_50 : ri_at h116 111 50 = x115.toInt := ri_self wh116
  refine ex_al oq_X12_work_142 g0 ?_
  refine ex_il oq_X12_work_143 g1 ?_
  have e130 : ∀ i, ri_at h116 130 i = ri_at h 130 i := fun i => (ri_ne wh116 (.inl (by decide))).trans ((ri_eq (cp_at ch112 (by decide))).trans (ri_ne wh104 (.inl (by decide))))
  refine ex_cv oq_X12_work_144 (by decide) Th116 (k := 111) (d := 12) (as := [cv_i g]) (stk := []) rfl rfl rfl rfl rfl rfl ⟨rfl, rfl⟩ (R := fun o => ∃ hb : cv_H, o = (none, hb) ∧ cw_T G hb ∧ cp_F 131 h116 hb ∧ zNV hb (γs gn)) (rl_loads Th116 hg (by omega) (fun j q => (e130 _).trans (sS gn hgn j q)) (fun hb b1 b2 b3 => ⟨hb, rfl, b1, b2, b3⟩)) (fun o ho => ?_)
  obtain ⟨h117, rfl, Th117, ch117, Nh117⟩ := ho
  show cw_X _ _ _ _ _ [] h117
  refine ex_al oq_X12_work_147 g0 ?_
  refine ex_il oq_X12_work_148 g2 ?_
  have e122 : ∀ i, ri_at h117 122 i = ri_at h 122 i := fun i => (ri_eq (cp_at ch117 (by decide))).trans ((ri_ne wh116 (.inl (by decide))).trans ((ri_eq (cp_at ch112 (by decide))).trans (ri_ne wh104 (.inl (by decide)))))
  refine ex_cv oq_X12_work_149 (by decide) Th117 (k := 111) (d := 12) (as := [cv_i w]) (stk := []) rfl rfl rfl rfl rfl rfl ⟨rfl, rfl⟩ (R := fun o => ∃ hb : cv_H, o = (none, hb) ∧ cw_T G hb ∧ cp_F 131 h117 hb ∧ zNV hb (gTake (γs gn) kk nn wn)) (rl_does Th117 Nh117 r4 r5 r8 r10 hwn hwl ((e122 _).trans dK) ((e122 _).trans dN) rk rn (fun hb b1 b2 b3 => ⟨hb, rfl, b1, b2, b3⟩)) (fun o ho => ?_)
  obtain ⟨h118, rfl, Th118, ch118, Nh118⟩ := ho
  show cw_X _ _ _ _ _ [] h118
  refine ex_al oq_X12_work_152 g0 ?_
  refine ex_gf oq_X12_work_153 Th118 (k := 111) (d := 12) rfl rfl (fr_state Th118) ?_
  refine ex_bi oq_X12_work_156 (m := 16) (by decide) (fun x119 hx119 => ?_)
  refine ex_il oq_X12_work_158 g1 ?_
  refine ex_mul oq_X12_work_159 (m := 16 * g.toInt) (by rw [hx119]) (by omega) (fun x120 hx120 => ?_)
  refine ex_al oq_X12_work_160 g0 ?_
  refine ex_gf oq_X12_work_161 Th118 (k := 111) (d := 12) rfl rfl (fr_now Th118) ?_
  refine ex_ic oq_X12_work_164 (m := 0) (by decide) (fun x121 hx121 => ?_)
  refine ex_cs oq_X12_work_165 (by decide) (as := [cv_r 130, cv_i x120, cv_r 131, cv_i x121]) (stk := []) rfl rfl rfl ⟨rfl, rfl⟩ (R := fun o => ∃ hb : cv_H, o = (none, hb) ∧ cw_T G hb ∧ cp_F 130 h118 hb ∧ (∀ i, i < 16 → ri_at hb 130 (16 * gn + i) = ri_at h118 131 (0 + i)) ∧ (∀ i, (i < 16 * gn ∨ 16 * gn + 16 ≤ i) → ri_at hb 130 i = ri_at h118 130 i)) (rt_lays Th118 (R1 := 130) (d1 := 69) (R2 := 131) (d2 := 70) (a := 16 * gn) (b := 0) rfl rfl rfl rfl (by decide) (by omega) (by omega) (by omega) (by omega) (by decide) (by decide) (fun j _ _ r hr => free1 hr) (fun hb b1 b2 b3 b4 => ⟨hb, rfl, b1, b2, b3, b4⟩)) (fun o ho => ?_)
  obtain ⟨h122, rfl, Th122, ch122, yh122, nh122⟩ := ho
  show cw_X _ _ _ _ _ [] h122
  refine ex_ic oq_X12_work_168 (m := 1) (by decide) (fun x123 hx123 => ?_)
  have e135 : ∀ i, ri_at h122 135 i = ri_at h112 135 i := fun i => (ri_eq (cp_at ch122 (by decide))).trans ((ri_eq (cp_at ch118 (by decide))).trans ((ri_eq (cp_at ch117 (by decide))).trans (ri_ne wh116 (.inl (by decide)))))
  refine ex_retb oq_X12_work_169 rfl (by omega) (by omega) (hQ x123 h122 Th122 (by omega) (zQU_tr (zQU_u wh104) (zQU_tr (zQU_c (.inr (.inr rfl)) ch112) (zQU_tr (zQU_w (.inr rfl) wh116) (zQU_tr (zQU_c (.inr (.inl rfl)) ch117) (zQU_tr (zQU_c (.inr (.inl rfl)) ch118) (zQU_c (.inl rfl) ch122)))))) ⟨?_, by omega, fun i hi => ?_⟩ (fun g q j r => ?_))
  · exact (ri_eq (cp_at ch122 (by decide))).trans ((ri_eq (cp_at ch118 (by decide))).trans ((ri_eq (cp_at ch117 (by decide))).trans ((ri_self wh116).trans (by omega))))
  · by_cases ci : i = m
    · subst ci
      rw [zfU_eq, zfU_eq]
      exact ⟨(e135 _).trans ((nh112 _ (.inl (by omega))).trans ((ri_self wh104).trans hg)), fun j hj => (e135 _).trans ((yh112 j (by omega)).trans ((ri_ne wh104 (.inl (by decide))).trans (sS gn hgn j hj)))⟩
    · rw [zfU_ne ci, zfU_ne ci]
      have s := S.2.2 i (by omega)
      exact ⟨(e135 _).trans ((nh112 _ (.inl (by omega))).trans ((ri_ne wh104 (.inr (by omega))).trans s.1)), fun j hj => (e135 _).trans ((nh112 _ (.inl (by omega))).trans ((ri_ne wh104 (.inr (by omega))).trans (s.2 j hj)))⟩
  · have e130b : ∀ i, ri_at h118 130 i = ri_at h 130 i := fun i => (ri_eq (cp_at ch118 (by decide))).trans ((ri_eq (cp_at ch117 (by decide))).trans (e130 i))
    by_cases cg : g = gn
    · subst cg
      rw [zfU_eq, yh122 j (by omega), Nat.zero_add]
      exact Nh118 j r
    · rw [zfU_ne cg, nh122 _ (by omega), e130b]
      exact sS g q j r
theorem ru_46 (hT : cw_T G h) {m : Nat} {ν : Nat → Nat} {υ : Nat → Nat → Int} (S : zRU h m ν υ) {ng : Nat} {γs : Nat → Nat → Int} (hng : ng ≤ 4) {gn : Nat} {g : Int32} (hg : g.toInt = gn) (hgn : gn < ng) (r4 : -200000000 ≤ γs gn 4 ∧ γs gn 4 ≤ 200000000) (r5 : 0 ≤ γs gn 5 ∧ γs gn 5 ≤ 100000) (r8 : 0 ≤ γs gn 8 ∧ γs gn 8 ≤ 100000) (r10 : 0 ≤ γs gn 10 ∧ γs gn 10 < 64) {w : Int32} {wn : Nat} (hwn : w.toInt = wn) (hwl : wn < 6) {kk nn : Int} (rk : 0 ≤ kk ∧ kk ≤ 6) (rn : 0 ≤ nn ∧ nn ≤ 9999) (sS : zSS h ng γs) (dK : ri_at h 122 (3 * wn + 1) = kk) (dN : ri_at h 122 (3 * wn + 2) = nn) {L : cv_L} (g0 : cv_get L 0 = some (cv_r 111)) (g1 : cv_get L 1 = some (cv_i g)) (g2 : cv_get L 2 = some (cv_i w)) (hQ : ∀ (x : Int32) h', cw_T G h' → x.toInt = 1 → zQU h h' → zRU h' (min (m + 1) 20) (uP m ν gn) (uP m υ (γs gn)) → zSS h' ng (zfU γs gn (gTake (γs gn) kk nn wn)) → Q (some (cv_i x), h')) : cw_X X 227 Q 46 L [] h := by
  have hm2 := S.2.1
  refine ex_al oq_X12_work_46 g0 ?_
  obtain ⟨x101, ax101, rx101, lx101, ux101⟩ := fi_undos hT
  refine ex_gf oq_X12_work_47 hT (k := 111) (d := 12) rfl rfl ax101 ?_
  have rx101 := (rx101.symm.trans S.1 : x101.toInt = (m : Int))
  refine ex_bi oq_X12_work_50 (m := 20) (by decide) (fun x102 hx102 => ?_)
  refine ex_if oq_X12_work_52 (t := 95) rfl rfl (fun (c103 : ¬ x101.toInt = x102.toInt) => ?_) (fun (c103 : ¬ (¬ x101.toInt = x102.toInt)) => ?_)
  · exact ru_95 hT S (by omega) hng hg hgn r4 r5 r8 r10 hwn hwl rk rn sS dK dN g0 g1 g2 (fun x h' q1 q2 q3 q4 q5 => hQ x h' q1 q2 q3 (by rw [uP_0 (by omega), uP_0 (by omega), show min (m + 1) 20 = m + 1 from by omega]; exact q4) q5)
  · refine ex_ic oq_X12_work_55 (m := 0) (by decide) (fun x104 hx104 => ?_)
    refine ex_isA oq_X12_work_56 (fun L105 gL105_3 kL105 => ?_)
    have gL105_0 : cv_get L105 0 = some (cv_r 111) := kL105 0 _ (by decide) (fun q => absurd q (by decide)) g0
    have gL105_1 : cv_get L105 1 = some (cv_i g) := kL105 1 _ (by decide) (fun q => absurd q (by decide)) g1
    have gL105_2 : cv_get L105 2 = some (cv_i w) := kL105 2 _ (by decide) (fun _ => rfl) g2
    have hm20 : m = 20 := by omega
    subst hm20
    refine ru_sh (fun h3 L3 T3 sE g30 g31 g32 => ?_) 323 0 x104 h L105 (by decide) (by decide) (by omega) hT ⟨cp_0, fun j q => absurd q (by omega), fun _ _ => rfl⟩ gL105_0 gL105_1 gL105_2 gL105_3
    refine ex_al oq_X12_work_85 g30 ?_
    refine ex_dup oq_X12_work_86 rfl ?_
    obtain ⟨x106, ax106, rx106, lx106, ux106⟩ := fi_undos T3
    refine ex_gf oq_X12_work_87 T3 (k := 111) (d := 12) rfl rfl ax106 ?_
    have rx106 := (rx106.symm.trans ((ri_eq (cp_at sE.1 (by decide))).trans S.1) : x106.toInt = ((20 : Nat) : Int))
    refine ex_ic oq_X12_work_90 (m := 1) (by decide) (fun x107 hx107 => ?_)
    refine ex_sub oq_X12_work_91 (by omega) (fun x108 hx108 => ?_)
    refine ex_pfi oq_X12_work_92 T3 (k := 111) (d := 12) rfl rfl rfl (by omega) (by omega) (fun h109 Th109 wh109 => ?_)
    have eh109_111_50 : ri_at h109 111 50 = x108.toInt := ri_self wh109
    have S2 := zRU_sh (h' := h109) S (fun j q => (ri_ne wh109 (.inl (by decide))).trans (sE.2.1 j q)) ((ri_self wh109).trans (by omega))
    have hE : ∀ k i, k ≠ 111 → k ≠ 135 → ri_at h109 k i = ri_at h k i := fun k i p q => (ri_ne wh109 (.inl p)).trans (ri_eq (cp_at sE.1 q))
    exact ru_95 Th109 S2 (by decide) hng hg hgn r4 r5 r8 r10 hwn hwl rk rn (fun g q j r => (hE 130 _ (by decide) (by decide)).trans (sS g q j r)) ((hE 122 _ (by decide) (by decide)).trans dK) ((hE 122 _ (by decide) (by decide)).trans dN) g30 g31 g32 (fun x h' q1 q2 q3 q4 q5 => hQ x h' q1 q2 (zQU_tr (zQU_c (.inr (.inr rfl)) sE.1) (zQU_tr (zQU_w (.inr rfl) wh109) q3)) (by rw [uP_1 (by decide), uP_1 (by decide)]; exact q4) q5)
theorem rq_work (hT : cw_T G h0) {m : Nat} {ν : Nat → Nat} {υ : Nat → Nat → Int} (S : zRU h0 m ν υ) {ng : Nat} {γs : Nat → Nat → Int} (hng : ng ≤ 4) (hG : ri_at h0 111 12 = ng) (hr10 : ∀ g, g < ng → 0 ≤ γs g 10 ∧ γs g 10 < 64) (hr : ∀ g, g < ng → (-200000000 ≤ γs g 4 ∧ γs g 4 ≤ 200000000) ∧ (0 ≤ γs g 5 ∧ γs g 5 ≤ 100000) ∧ (0 ≤ γs g 8 ∧ γs g 8 ≤ 100000)) (sS : zSS h0 ng γs) {nw : Nat} (hWn : ri_at h0 111 13 = nw) (hnw : nw ≤ 6) {wk wn' : Nat → Int} (hW : ∀ w, w < nw → (0 ≤ wk w ∧ wk w ≤ 6) ∧ (0 ≤ wn' w ∧ wn' w ≤ 9999) ∧ ri_at h0 122 (3 * w + 1) = wk w ∧ ri_at h0 122 (3 * w + 2) = wn' w) {g w : Int32} (hQ1 : ∀ (x : Int32) h', cw_T G h' → x.toInt = 0 → zQU h0 h' → (∃ z : Int32, cw_Wr h0 h' 111 2 (cv_i z)) → ¬ ((0 ≤ g.toInt ∧ g.toInt < (ng : Int)) ∧ (0 ≤ w.toInt ∧ w.toInt < (nw : Int)) ∧ ¬ (γs g.toInt.toNat 10).toNat.testBit w.toInt.toNat = true) → Q (some (cv_i x), h')) (hQ2 : ∀ gn wn : Nat, g.toInt = gn → gn < ng → w.toInt = wn → wn < nw → ¬ (γs gn 10).toNat.testBit wn = true → ∀ (x : Int32) h', cw_T G h' → x.toInt = 1 → zQU h0 h' → zRU h' (min (m + 1) 20) (uP m ν gn) (uP m υ (γs gn)) → zSS h' ng (zfU γs gn (gTake (γs gn) (wk wn) (wn' wn) wn)) → Q (some (cv_i x), h')) : cw_X X 227 Q 0 (cv_ent 0 [cv_r 111, cv_i g, cv_i w]) [] h0 := by
  refine ex_al oq_X12_work_0 rfl ?_
  refine ex_ic oq_X12_work_1 (m := 0) (by decide) (fun x101 hx101 => ?_)
  refine ex_pfi oq_X12_work_2 hT (k := 111) (d := 12) rfl rfl rfl (cw_i32 _).1 (cw_i32 _).2 (fun h102 Th102 wh102 => ?_)
  have eh102_111_13 : ri_at h102 111 13 = (nw : Int) := (ri_ne wh102 (.inr (by decide))).trans hWn
  have eh102_111_2 : ri_at h102 111 2 = x101.toInt := ri_self wh102
  have Fh102 : zQU h0 h102 := zQU_w (.inl rfl) wh102
  refine ex_al oq_X12_work_5 rfl ?_
  refine ex_il oq_X12_work_6 rfl ?_
  refine ex_cv oq_X12_work_7 (by decide) Th102 (k := 111) (d := 12) (as := [cv_i g]) (stk := []) rfl rfl rfl rfl rfl rfl ⟨rfl, rfl⟩ (R := fun o => ∃ x : Int32, o = (some (cv_i x), h102) ∧ (x.toInt = 1 ∧ (0 ≤ g.toInt ∧ g.toInt < (ng : Int)) ∨ x.toInt = 0 ∧ ¬ (0 ≤ g.toInt ∧ g.toInt < (ng : Int)))) (rt_isGate Th102 ((ri_eq (Fh102.2 12 (by decide) (by decide))).trans hG) g (fun x q => ⟨x, rfl, q⟩)) (fun o ho => ?_)
  obtain ⟨x103, rfl, dx103⟩ := ho
  show cw_X _ _ _ _ _ [cv_i x103] h102
  refine ex_if0 oq_X12_work_10 (t := 44) rfl rfl (fun (c104 : x103.toInt = 0) => ?_) (fun (c104 : ¬ (x103.toInt = 0)) => ?_)
  · refine ex_ic oq_X12_work_44 (m := 0) (by decide) (fun x105 hx105 => ?_)
    exact ex_retb oq_X12_work_45 rfl (by omega) (by omega) (hQ1 x105 h102 Th102 (by omega) Fh102 ⟨_, wh102⟩ (fun q => by have q1 := q.1; have q2 := q.2.1; omega))
  · refine ex_il oq_X12_work_13 rfl ?_
    refine ex_if0 oq_X12_work_14 (t := 44) rfl rfl (fun (c106 : w.toInt < 0) => ?_) (fun (c106 : ¬ (w.toInt < 0)) => ?_)
    · refine ex_ic oq_X12_work_44 (m := 0) (by decide) (fun x107 hx107 => ?_)
      exact ex_retb oq_X12_work_45 rfl (by omega) (by omega) (hQ1 x107 h102 Th102 (by omega) Fh102 ⟨_, wh102⟩ (fun q => by have q1 := q.1; have q2 := q.2.1; omega))
    · refine ex_il oq_X12_work_17 rfl ?_
      refine ex_al oq_X12_work_18 rfl ?_
      obtain ⟨x108, ax108, rx108, lx108, ux108⟩ := fi_works Th102
      refine ex_gf oq_X12_work_19 Th102 (k := 111) (d := 12) rfl rfl ax108 ?_
      have rx108 := (rx108.symm.trans eh102_111_13 : x108.toInt = (nw : Int))
      refine ex_if oq_X12_work_22 (t := 44) rfl rfl (fun (c109 : x108.toInt ≤ w.toInt) => ?_) (fun (c109 : ¬ (x108.toInt ≤ w.toInt)) => ?_)
      · refine ex_ic oq_X12_work_44 (m := 0) (by decide) (fun x110 hx110 => ?_)
        exact ex_retb oq_X12_work_45 rfl (by omega) (by omega) (hQ1 x110 h102 Th102 (by omega) Fh102 ⟨_, wh102⟩ (fun q => by have q1 := q.1; have q2 := q.2.1; omega))
      · refine ex_al oq_X12_work_25 rfl ?_
        refine ex_gf oq_X12_work_26 Th102 (k := 111) (d := 12) rfl rfl (fr_state Th102) ?_
        refine ex_bi oq_X12_work_29 (m := 16) (by decide) (fun x111 hx111 => ?_)
        refine ex_il oq_X12_work_31 rfl ?_
        refine ex_mul oq_X12_work_32 (m := 16 * g.toInt) (by rw [hx111]) (by omega) (fun x112 hx112 => ?_)
        refine ex_bi oq_X12_work_33 (m := 9) (by decide) (fun x113 hx113 => ?_)
        refine ex_add oq_X12_work_35 (by omega) (fun x114 hx114 => ?_)
        obtain ⟨gn, hg⟩ : ∃ gn : Nat, g.toInt = gn := ⟨g.toInt.toNat, by omega⟩
        have hgn : gn < ng := by omega
        obtain ⟨wn, hwn⟩ : ∃ wn : Nat, w.toInt = wn := ⟨w.toInt.toNat, by omega⟩
        have hwnl : wn < nw := by omega
        have r10 := hr10 gn hgn
        refine ex_ia1 oq_X12_work_36 Th102 (k := 130) (d := 69) (j := 16 * gn + 9) rfl rfl (by omega) (by omega) (fun x115 hx115 lx115 ux115 => ?_)
        have dx115 : x115.toInt = γs gn 10 := hx115.symm.trans ((ri_ne wh102 (.inl (by decide))).trans (sS gn hgn 9 (by decide)))
        refine ex_il oq_X12_work_37 rfl ?_
        refine ex_cs oq_X12_work_38 (by decide) (as := [cv_i x115, cv_i w]) (stk := []) rfl rfl rfl ⟨rfl, rfl⟩ (R := fun o => ∃ y : Int32, o = (some (cv_i y), h102) ∧ (y.toInt = 1 ∧ (γs gn 10).toNat.testBit wn = true ∨ y.toInt = 0 ∧ ¬ (γs gn 10).toNat.testBit wn = true)) (rt_isOf (m := (γs gn 10).toNat) (by omega) (by omega) hwn (by omega) (fun y q => ⟨y, rfl, q⟩)) (fun o ho => ?_)
        obtain ⟨x116, rfl, dx116⟩ := ho
        show cw_X _ _ _ _ _ [cv_i x116] h102
        refine ex_if0 oq_X12_work_41 (t := 46) rfl rfl (fun (c117 : x116.toInt = 0) => ?_) (fun (c117 : ¬ (x116.toInt = 0)) => ?_)
        · have hb0 : ¬ (γs gn 10).toNat.testBit wn = true := by rcases dx116 with ⟨q1, q2⟩ | ⟨q1, q2⟩; exact absurd q1 (by omega); exact q2
          obtain ⟨w1, w2, w3, w4⟩ := hW wn hwnl
          exact ru_46 Th102 (m := m) (ν := ν) (υ := υ) ⟨(ri_ne wh102 (.inr (by decide))).trans S.1, S.2.1, fun i q => ⟨(ri_ne wh102 (.inl (by decide))).trans (S.2.2 i q).1, fun j r => (ri_ne wh102 (.inl (by decide))).trans ((S.2.2 i q).2 j r)⟩⟩ hng hg hgn (hr gn hgn).1 (hr gn hgn).2.1 (hr gn hgn).2.2 r10 hwn (by omega) w1 w2 (fun g q j r => (ri_ne wh102 (.inl (by decide))).trans (sS g q j r)) ((ri_ne wh102 (.inl (by decide))).trans w3) ((ri_ne wh102 (.inl (by decide))).trans w4) rfl rfl rfl (fun x h' q1 q2 q3 q4 q5 => hQ2 gn wn hg hgn hwn hwnl hb0 x h' q1 q2 (zQU_tr Fh102 q3) q4 q5)
        · refine ex_ic oq_X12_work_44 (m := 0) (by decide) (fun x118 hx118 => ?_)
          exact ex_retb oq_X12_work_45 rfl (by omega) (by omega) (hQ1 x118 h102 Th102 (by omega) Fh102 ⟨_, wh102⟩ (fun q => by rcases dx116 with ⟨q1, q2⟩ | ⟨q1, q2⟩; exact q.2.2 (by rw [show g.toInt.toNat = gn from by omega, show w.toInt.toNat = wn from by omega]; exact q2); omega))
end GN
