/-! ===== stand of the reference puts back what it tried ===== -/
section SD
variable {X : cv_X} {G : Int} {h0 h : cv_H} {Q : cv_O → Prop}
theorem oq_X12_sizeOf_0 : cw_ho 158 0 (.iload_n 0) 1 0 0 0 := rfl
theorem oq_X12_sizeOf_1 : cw_ho 158 1 (.ifCond .ge 8) 3 0 0 0 := rfl
theorem oq_X12_sizeOf_4 : cw_ho 158 4 (.iload_n 0) 1 0 0 0 := rfl
theorem oq_X12_sizeOf_5 : cw_ho 158 5 (.ineg) 1 0 0 0 := rfl
theorem oq_X12_sizeOf_6 : cw_ho 158 6 (.goto 4) 3 0 0 0 := rfl
theorem oq_X12_sizeOf_9 : cw_ho 158 9 (.iload_n 0) 1 0 0 0 := rfl
theorem oq_X12_sizeOf_10 : cw_ho 158 10 (.ireturn) 1 0 0 0 := rfl
theorem rs_size {n : Int32} (hn : -1000 ≤ n.toInt ∧ n.toInt ≤ 1000) (hQ : ∀ x : Int32, Q (some (cv_i x), h)) : cw_X X 158 Q 0 (cv_ent 0 [cv_i n]) [] h := by
  refine ex_il oq_X12_sizeOf_0 rfl ?_
  refine ex_if0 oq_X12_sizeOf_1 (t := 9) rfl rfl (fun (c11 : 0 ≤ n.toInt) => ?_) (fun (c11 : ¬ (0 ≤ n.toInt)) => ?_)
  · refine ex_il oq_X12_sizeOf_9 rfl ?_
    exact ex_reti oq_X12_sizeOf_10 rfl (hQ n)
  · refine ex_il oq_X12_sizeOf_4 rfl ?_
    refine ex_neg oq_X12_sizeOf_5 (by omega) (fun x12 hx12 => ?_)
    refine ex_go oq_X12_sizeOf_6 (t := 10) rfl rfl ?_
    exact ex_reti oq_X12_sizeOf_10 rfl (hQ x12)
/-- what is tried on the way -/
def zSd (gn : Nat) (h0 h : cv_H) : Prop := ∀ i, i ≠ 16 * gn + 5 → i ≠ 16 * gn + 6 → ri_at h 119 i = ri_at h0 119 i
theorem pp_sd {h h' : cv_H} {gn j : Nat} {v : cv_V} (hj : j = 16 * gn + 5 ∨ j = 16 * gn + 6) (w : cw_Wr h h' 119 j v) (hP : cw_PP G h) : cw_PP G h' := by
  refine cw_PPok G h h' hP (fun k d i hk hp => w.2.1 k i ?_)
  by_cases c : k = 119
  · refine .inr (fun e => ?_)
    subst c e
    have hd : d = 58 := by
      have : cw_sh[119]? = some 58 := rfl
      rw [this] at hk
      cases hk
      rfl
    subst hd
    have e1 : cw_prot cw_Ds cw_dp 58 i = cw_bit cw_dp 58 (1 + i % 16) := rfl
    rw [e1] at hp
    have c5 : cw_bit cw_dp 58 6 = false := by decide +kernel
    have c6 : cw_bit cw_dp 58 7 = false := by decide +kernel
    rcases hj with e | e
    · rw [show 1 + i % 16 = 6 from by omega, c5] at hp; cases hp
    · rw [show 1 + i % 16 = 7 from by omega, c6] at hp; cases hp
  · exact .inl c
theorem pp_thr {h h' : cv_H} {v : cv_V} (w : cw_Wr h h' 111 2 v) (hP : cw_PP G h) : cw_PP G h' := by
  refine cw_PPok G h h' hP (fun k d i hk hp => w.2.1 k i ?_)
  by_cases c : k = 111
  · refine .inr (fun e => ?_)
    subst c e
    have hd : d = 12 := by
      have : cw_sh[111]? = some 12 := rfl
      rw [this] at hk
      cases hk
      rfl
    subst hd
    have c5 : cw_prot cw_Ds cw_dp 12 2 = false := by decide +kernel
    rw [c5] at hp
    cases hp
  · exact .inl c
theorem gateW {g x : Int32} (tg : x.toInt ≠ 0 → (∀ t ∈ kk_X12_isGate.2.2.2.1, ∃ w, [cv_r 111, cv_i g][t.1]? = some w ∧ cw_ga G cw_sh t.2 w) ∧ ∀ t ∈ kk_X12_isGate.2.2.2.2.1, ∃ x y z : Int32, [cv_r 111, cv_i g][t.1]? = some (cv_i x) ∧ [cv_r 111, cv_i g][t.2.1]? = some (cv_i y) ∧ [cv_r 111, cv_i g][t.2.2]? = some (cv_i z) ∧ y.toInt ≤ x.toInt ∧ x.toInt ≤ z.toInt) (hx : ¬ x.toInt = 0) : cw_wok G (0, 3, 2) g.toInt := by
  obtain ⟨w, e, ga⟩ := (tg hx).1 (1, .inl (0, 3, 2)) (List.mem_singleton.mpr rfl)
  have e' : some (cv_i g) = some w := e
  cases e'
  obtain ⟨y, e2, ok⟩ := ga
  cases e2
  exact ok
theorem oq_X12_stand_97 : cw_ho 264 97 (.iload 11) 2 0 0 0 := rfl
theorem oq_X12_stand_99 : cw_ho 264 99 (.bipush 31) 2 0 0 0 := rfl
theorem oq_X12_stand_101 : cw_ho 264 101 (.if_icmp .ge 106) 3 0 0 0 := rfl
theorem oq_X12_stand_104 : cw_ho 264 104 (.iload 6) 2 0 0 0 := rfl
theorem oq_X12_stand_106 : cw_ho 264 106 (.ifCond .lt 22) 3 0 0 0 := rfl
theorem oq_X12_stand_109 : cw_ho 264 109 (.iload 10) 2 0 0 0 := rfl
theorem oq_X12_stand_111 : cw_ho 264 111 (.invokestatic 491) 3 158 1 0 := rfl
theorem oq_X12_stand_114 : cw_ho 264 114 (.iload 11) 2 0 0 0 := rfl
theorem oq_X12_stand_116 : cw_ho 264 116 (.invokestatic 491) 3 158 1 0 := rfl
theorem oq_X12_stand_119 : cw_ho 264 119 (.iadd) 1 0 0 0 := rfl
theorem oq_X12_stand_120 : cw_ho 264 120 (.iload 6) 2 0 0 0 := rfl
theorem oq_X12_stand_122 : cw_ho 264 122 (.if_icmp .lt 6) 3 0 0 0 := rfl
theorem oq_X12_stand_125 : cw_ho 264 125 (.goto 76) 3 0 0 0 := rfl
theorem oq_X12_stand_128 : cw_ho 264 128 (.aload_n 0) 1 0 0 0 := rfl
theorem oq_X12_stand_129 : cw_ho 264 129 (.getfield 36) 3 12 26 4 := rfl
theorem oq_X12_stand_132 : cw_ho 264 132 (.bipush 16) 2 0 0 0 := rfl
theorem oq_X12_stand_134 : cw_ho 264 134 (.iload_n 1) 1 0 0 0 := rfl
theorem oq_X12_stand_135 : cw_ho 264 135 (.imul) 1 0 0 0 := rfl
theorem oq_X12_stand_136 : cw_ho 264 136 (.iconst 5) 1 0 0 0 := rfl
theorem oq_X12_stand_137 : cw_ho 264 137 (.iadd) 1 0 0 0 := rfl
theorem oq_X12_stand_138 : cw_ho 264 138 (.iload 10) 2 0 0 0 := rfl
theorem oq_X12_stand_140 : cw_ho 264 140 (.iastore) 1 0 0 0 := rfl
theorem oq_X12_stand_141 : cw_ho 264 141 (.aload_n 0) 1 0 0 0 := rfl
theorem oq_X12_stand_142 : cw_ho 264 142 (.getfield 36) 3 12 26 4 := rfl
theorem oq_X12_stand_145 : cw_ho 264 145 (.bipush 16) 2 0 0 0 := rfl
theorem oq_X12_stand_147 : cw_ho 264 147 (.iload_n 1) 1 0 0 0 := rfl
theorem oq_X12_stand_148 : cw_ho 264 148 (.imul) 1 0 0 0 := rfl
theorem oq_X12_stand_149 : cw_ho 264 149 (.bipush 6) 2 0 0 0 := rfl
theorem oq_X12_stand_151 : cw_ho 264 151 (.iadd) 1 0 0 0 := rfl
theorem oq_X12_stand_152 : cw_ho 264 152 (.iload 11) 2 0 0 0 := rfl
theorem oq_X12_stand_154 : cw_ho 264 154 (.iastore) 1 0 0 0 := rfl
theorem oq_X12_stand_155 : cw_ho 264 155 (.aload_n 0) 1 0 0 0 := rfl
theorem oq_X12_stand_156 : cw_ho 264 156 (.iload_n 1) 1 0 0 0 := rfl
theorem oq_X12_stand_157 : cw_ho 264 157 (.invokevirtual 478) 3 258 1 12 := rfl
theorem oq_X12_stand_160 : cw_ho 264 160 (.iload 9) 2 0 0 0 := rfl
theorem oq_X12_stand_162 : cw_ho 264 162 (.iand) 1 0 0 0 := rfl
theorem oq_X12_stand_163 : cw_ho 264 163 (.iload 9) 2 0 0 0 := rfl
theorem oq_X12_stand_165 : cw_ho 264 165 (.if_icmp .ne 36) 3 0 0 0 := rfl
theorem oq_X12_stand_168 : cw_ho 264 168 (.aload_n 0) 1 0 0 0 := rfl
theorem oq_X12_stand_169 : cw_ho 264 169 (.iload_n 1) 1 0 0 0 := rfl
theorem oq_X12_stand_170 : cw_ho 264 170 (.invokevirtual 488) 3 262 1 12 := rfl
theorem oq_X12_stand_173 : cw_ho 264 173 (.iload_n 2) 1 0 0 0 := rfl
theorem oq_X12_stand_174 : cw_ho 264 174 (.if_icmp .ge 6) 3 0 0 0 := rfl
theorem oq_X12_stand_177 : cw_ho 264 177 (.goto 24) 3 0 0 0 := rfl
theorem oq_X12_stand_180 : cw_ho 264 180 (.iload 10) 2 0 0 0 := rfl
theorem oq_X12_stand_182 : cw_ho 264 182 (.invokestatic 491) 3 158 1 0 := rfl
theorem oq_X12_stand_185 : cw_ho 264 185 (.iload 11) 2 0 0 0 := rfl
theorem oq_X12_stand_187 : cw_ho 264 187 (.invokestatic 491) 3 158 1 0 := rfl
theorem oq_X12_stand_190 : cw_ho 264 190 (.iadd) 1 0 0 0 := rfl
theorem oq_X12_stand_191 : cw_ho 264 191 (.istore 6) 2 0 0 0 := rfl
theorem oq_X12_stand_193 : cw_ho 264 193 (.iload 10) 2 0 0 0 := rfl
theorem oq_X12_stand_195 : cw_ho 264 195 (.istore 7) 2 0 0 0 := rfl
theorem oq_X12_stand_197 : cw_ho 264 197 (.iload 11) 2 0 0 0 := rfl
theorem oq_X12_stand_199 : cw_ho 264 199 (.istore 8) 2 0 0 0 := rfl
theorem oq_X12_stand_201 : cw_ho 264 201 (.iinc 11 1) 3 0 0 0 := rfl
theorem oq_X12_stand_204 : cw_ho 264 204 (.goto (-107)) 3 0 0 0 := rfl
theorem rs_in (hX : cw_Xok X) {g a w : Int32} {gn : Nat} (hg : g.toInt = gn) (hg4 : gn < 4) (gW : cw_wok G (0, 3, 2) g.toInt) {v5 v6 AL : Int32} {XX : Int32} (hXX : -30 ≤ XX.toInt ∧ XX.toInt ≤ 30) (kk : ∀ (h : cv_H) (L : cv_L) (B BO BA : Int32), cw_T G h → cw_PP G h → zSd gn h0 h → cv_get L 0 = some (cv_r 111) → cv_get L 1 = some (cv_i g) → cv_get L 2 = some (cv_i a) → cv_get L 3 = some (cv_i w) → cv_get L 4 = some (cv_i v5) → cv_get L 5 = some (cv_i v6) → cv_get L 6 = some (cv_i B) → cv_get L 7 = some (cv_i BO) → cv_get L 8 = some (cv_i BA) → cv_get L 9 = some (cv_i AL) → cv_get L 10 = some (cv_i XX) → cw_X X 264 Q 207 L [] h) : ∀ (f kn : Nat) (YY B BO BA : Int32) (h : cv_H) (L : cv_L), 61 - kn = f → kn ≤ 61 → YY.toInt = (kn : Int) - 30 → cw_T G h → cw_PP G h → zSd gn h0 h → cv_get L 0 = some (cv_r 111) → cv_get L 1 = some (cv_i g) → cv_get L 2 = some (cv_i a) → cv_get L 3 = some (cv_i w) → cv_get L 4 = some (cv_i v5) → cv_get L 5 = some (cv_i v6) → cv_get L 6 = some (cv_i B) → cv_get L 7 = some (cv_i BO) → cv_get L 8 = some (cv_i BA) → cv_get L 9 = some (cv_i AL) → cv_get L 10 = some (cv_i XX) → cv_get L 11 = some (cv_i YY) → cw_X X 264 Q 97 L [] h := by
  intro f
  induction f with
  | zero =>
    intro kn YY B BO BA h L hf hkn hY hT hP hI g0 g1 g2 g3 g4 g5 g6 g7 g8 g9 g10 g11
    refine ex_ilw oq_X12_stand_97 g11 ?_
    refine ex_bi oq_X12_stand_99 (m := 31) (by decide) (fun x101 hx101 => ?_)
    refine ex_if oq_X12_stand_101 (t := 207) rfl rfl (fun (c102 : x101.toInt ≤ YY.toInt) => ?_) (fun (c102 : ¬ (x101.toInt ≤ YY.toInt)) => ?_)
    · exact kk h L B BO BA hT hP hI g0 g1 g2 g3 g4 g5 g6 g7 g8 g9 g10
    · exfalso; omega
  | succ f ih =>
    intro kn YY B BO BA h L hf hkn hY hT hP hI g0 g1 g2 g3 g4 g5 g6 g7 g8 g9 g10 g11
    refine ex_ilw oq_X12_stand_97 g11 ?_
    refine ex_bi oq_X12_stand_99 (m := 31) (by decide) (fun x101 hx101 => ?_)
    refine ex_if oq_X12_stand_101 (t := 207) rfl rfl (fun (c102 : x101.toInt ≤ YY.toInt) => ?_) (fun (c102 : ¬ (x101.toInt ≤ YY.toInt)) => ?_)
    · exfalso; omega
    · refine ex_ilw oq_X12_stand_104 g6 ?_
      refine ex_if0 oq_X12_stand_106 (t := 128) rfl rfl (fun (c103 : B.toInt < 0) => ?_) (fun (c103 : ¬ (B.toInt < 0)) => ?_)
      · refine ex_al oq_X12_stand_128 g0 ?_
        refine ex_gf oq_X12_stand_129 hT (k := 111) (d := 12) rfl rfl (fr_gateHas hT) ?_
        refine ex_bi oq_X12_stand_132 (m := 16) (by decide) (fun x104 hx104 => ?_)
        refine ex_il oq_X12_stand_134 g1 ?_
        refine ex_mul oq_X12_stand_135 (m := 16 * g.toInt) (by rw [hx104]) (by omega) (fun x105 hx105 => ?_)
        refine ex_ic oq_X12_stand_136 (m := 5) (by decide) (fun x106 hx106 => ?_)
        refine ex_add oq_X12_stand_137 (by omega) (fun x107 hx107 => ?_)
        refine ex_ilw oq_X12_stand_138 g10 ?_
        refine ex_iw oq_X12_stand_140 hT (k := 119) (d := 58) (j := 16 * gn + 5) rfl rfl (by omega) (by omega) (fun r hr => gh_get hr _ (cw_i32 _)) (fun h108 Th108 wh108 => ?_)
        have Ph108 : cw_PP G h108 := pp_sd (gn := gn) (by omega) wh108 hP
        have Ih108 : zSd gn h0 h108 := fun i p q => (ri_ne wh108 (.inr (by omega))).trans (hI i p q)
        refine ex_al oq_X12_stand_141 g0 ?_
        refine ex_gf oq_X12_stand_142 Th108 (k := 111) (d := 12) rfl rfl (fr_gateHas Th108) ?_
        refine ex_bi oq_X12_stand_145 (m := 16) (by decide) (fun x109 hx109 => ?_)
        refine ex_il oq_X12_stand_147 g1 ?_
        refine ex_mul oq_X12_stand_148 (m := 16 * g.toInt) (by rw [hx109]) (by omega) (fun x110 hx110 => ?_)
        refine ex_bi oq_X12_stand_149 (m := 6) (by decide) (fun x111 hx111 => ?_)
        refine ex_add oq_X12_stand_151 (by omega) (fun x112 hx112 => ?_)
        refine ex_ilw oq_X12_stand_152 g11 ?_
        refine ex_iw oq_X12_stand_154 Th108 (k := 119) (d := 58) (j := 16 * gn + 6) rfl rfl (by omega) (by omega) (fun r hr => gh_get hr _ (cw_i32 _)) (fun h113 Th113 wh113 => ?_)
        have Ph113 : cw_PP G h113 := pp_sd (gn := gn) (by omega) wh113 Ph108
        have Ih113 : zSd gn h0 h113 := fun i p q => (ri_ne wh113 (.inr (by omega))).trans (Ih108 i p q)
        refine ex_al oq_X12_stand_155 g0 ?_
        refine ex_il oq_X12_stand_156 g1 ?_
        refine ex_cv oq_X12_stand_157 (by decide) Th113 (k := 111) (d := 12) (as := [cv_i g]) (stk := []) rfl rfl rfl rfl rfl rfl ⟨rfl, rfl⟩ (cw_HX (av := [cv_r 111, cv_i g]) hz_X12_shutsFrom rfl (cw_Xok_no2 hX) ⟨Th113, Ph113⟩ ⟨.inl ⟨by decide, 111, rfl, rfl⟩, ⟨g, rfl, gW⟩, trivial⟩ (fun t ht => absurd ht List.not_mem_nil)) (fun o ho => ?_)
        obtain ⟨x114, h115, rfl, rx114, Th115, Ph115, Ch115, tx114⟩ := po_int ho rfl
        show cw_X _ _ _ _ _ [cv_i x114] h115
        have Ih115 : zSd gn h0 h115 := fun i p q => (ri_eq (fr_same Th113 Th115 Ch115 (k := 119) (d := 58) rfl (by decide +kernel) i)).trans (Ih113 i p q)
        have lx114 := rx114.1
        have ux114 := rx114.2.1
        try dsimp only at lx114 ux114
        refine ex_ilw oq_X12_stand_160 g9 ?_
        refine ex_any (f := fun x y => some x) oq_X12_stand_162 rfl (fun x116 => ?_)
        refine ex_ilw oq_X12_stand_163 g9 ?_
        refine ex_if oq_X12_stand_165 (t := 201) rfl rfl (fun (c117 : ¬ x116.toInt = AL.toInt) => ?_) (fun (c117 : ¬ (¬ x116.toInt = AL.toInt)) => ?_)
        · refine ex_incA oq_X12_stand_201 (v := YY) (m := 1) g11 (by decide) (by omega) (fun L119 x118 hx118 gL119_11 kL119 => ?_)
          have gL119_0 : cv_get L119 0 = some (cv_r 111) := kL119 0 _ (by decide) (fun q => absurd q (by decide)) g0
          have gL119_1 : cv_get L119 1 = some (cv_i g) := kL119 1 _ (by decide) (fun q => absurd q (by decide)) g1
          have gL119_2 : cv_get L119 2 = some (cv_i a) := kL119 2 _ (by decide) (fun q => absurd q (by decide)) g2
          have gL119_3 : cv_get L119 3 = some (cv_i w) := kL119 3 _ (by decide) (fun q => absurd q (by decide)) g3
          have gL119_4 : cv_get L119 4 = some (cv_i v5) := kL119 4 _ (by decide) (fun q => absurd q (by decide)) g4
          have gL119_5 : cv_get L119 5 = some (cv_i v6) := kL119 5 _ (by decide) (fun q => absurd q (by decide)) g5
          have gL119_6 : cv_get L119 6 = some (cv_i B) := kL119 6 _ (by decide) (fun q => absurd q (by decide)) g6
          have gL119_7 : cv_get L119 7 = some (cv_i BO) := kL119 7 _ (by decide) (fun q => absurd q (by decide)) g7
          have gL119_8 : cv_get L119 8 = some (cv_i BA) := kL119 8 _ (by decide) (fun q => absurd q (by decide)) g8
          have gL119_9 : cv_get L119 9 = some (cv_i AL) := kL119 9 _ (by decide) (fun q => absurd q (by decide)) g9
          have gL119_10 : cv_get L119 10 = some (cv_i XX) := kL119 10 _ (by decide) (fun _ => rfl) g10
          refine ex_go oq_X12_stand_204 (t := 97) rfl rfl ?_
          exact ih (kn + 1) x118 B BO BA h115 L119 (by omega) (by omega) (by omega) Th115 Ph115 Ih115 gL119_0 gL119_1 gL119_2 gL119_3 gL119_4 gL119_5 gL119_6 gL119_7 gL119_8 gL119_9 gL119_10 gL119_11
        · refine ex_al oq_X12_stand_168 g0 ?_
          refine ex_il oq_X12_stand_169 g1 ?_
          refine ex_cv oq_X12_stand_170 (by decide) Th115 (k := 111) (d := 12) (as := [cv_i g]) (stk := []) rfl rfl rfl rfl rfl rfl ⟨rfl, rfl⟩ (cw_HX (av := [cv_r 111, cv_i g]) hz_X12_opensTo rfl (cw_Xok_no2 hX) ⟨Th115, Ph115⟩ ⟨.inl ⟨by decide, 111, rfl, rfl⟩, ⟨g, rfl, gW⟩, trivial⟩ (fun t ht => absurd ht List.not_mem_nil)) (fun o ho => ?_)
          obtain ⟨x120, h121, rfl, rx120, Th121, Ph121, Ch121, tx120⟩ := po_int ho rfl
          show cw_X _ _ _ _ _ [cv_i x120] h121
          have Ih121 : zSd gn h0 h121 := fun i p q => (ri_eq (fr_same Th115 Th121 Ch121 (k := 119) (d := 58) rfl (by decide +kernel) i)).trans (Ih115 i p q)
          have lx120 := rx120.1
          have ux120 := rx120.2.1
          try dsimp only at lx120 ux120
          refine ex_il oq_X12_stand_173 g2 ?_
          refine ex_if oq_X12_stand_174 (t := 180) rfl rfl (fun (c122 : a.toInt ≤ x120.toInt) => ?_) (fun (c122 : ¬ (a.toInt ≤ x120.toInt)) => ?_)
          · refine ex_ilw oq_X12_stand_180 g10 ?_
            refine ex_cs oq_X12_stand_182 (by decide) (as := [cv_i XX]) (stk := []) rfl rfl rfl ⟨rfl, rfl⟩ (R := fun o => ∃ x : Int32, o = (some (cv_i x), h121)) (rs_size (by omega) (fun x => ⟨x, rfl⟩)) (fun o ho => ?_)
            obtain ⟨x123, rfl⟩ := ho
            show cw_X _ _ _ _ _ [cv_i x123] h121
            refine ex_ilw oq_X12_stand_185 g11 ?_
            refine ex_cs oq_X12_stand_187 (by decide) (as := [cv_i YY]) (stk := [cv_i x123]) rfl rfl rfl ⟨rfl, rfl⟩ (R := fun o => ∃ x : Int32, o = (some (cv_i x), h121)) (rs_size (by omega) (fun x => ⟨x, rfl⟩)) (fun o ho => ?_)
            obtain ⟨x124, rfl⟩ := ho
            show cw_X _ _ _ _ _ [cv_i x124, cv_i x123] h121
            refine ex_any (f := fun x y => some x) oq_X12_stand_190 rfl (fun x125 => ?_)
            refine ex_iswA oq_X12_stand_191 (fun L126 gL126_6 kL126 => ?_)
            have gL126_0 : cv_get L126 0 = some (cv_r 111) := kL126 0 _ (by decide) (fun q => absurd q (by decide)) g0
            have gL126_1 : cv_get L126 1 = some (cv_i g) := kL126 1 _ (by decide) (fun q => absurd q (by decide)) g1
            have gL126_2 : cv_get L126 2 = some (cv_i a) := kL126 2 _ (by decide) (fun q => absurd q (by decide)) g2
            have gL126_3 : cv_get L126 3 = some (cv_i w) := kL126 3 _ (by decide) (fun q => absurd q (by decide)) g3
            have gL126_4 : cv_get L126 4 = some (cv_i v5) := kL126 4 _ (by decide) (fun q => absurd q (by decide)) g4
            have gL126_5 : cv_get L126 5 = some (cv_i v6) := kL126 5 _ (by decide) (fun _ => rfl) g5
            have gL126_7 : cv_get L126 7 = some (cv_i BO) := kL126 7 _ (by decide) (fun q => absurd q (by decide)) g7
            have gL126_8 : cv_get L126 8 = some (cv_i BA) := kL126 8 _ (by decide) (fun q => absurd q (by decide)) g8
            have gL126_9 : cv_get L126 9 = some (cv_i AL) := kL126 9 _ (by decide) (fun q => absurd q (by decide)) g9
            have gL126_10 : cv_get L126 10 = some (cv_i XX) := kL126 10 _ (by decide) (fun q => absurd q (by decide)) g10
            have gL126_11 : cv_get L126 11 = some (cv_i YY) := kL126 11 _ (by decide) (fun q => absurd q (by decide)) g11
            refine ex_ilw oq_X12_stand_193 gL126_10 ?_
            refine ex_iswA oq_X12_stand_195 (fun L127 gL127_7 kL127 => ?_)
            have gL127_6 : cv_get L127 6 = some (cv_i x125) := kL127 6 _ (by decide) (fun _ => rfl) gL126_6
            have gL127_0 : cv_get L127 0 = some (cv_r 111) := kL127 0 _ (by decide) (fun q => absurd q (by decide)) gL126_0
            have gL127_1 : cv_get L127 1 = some (cv_i g) := kL127 1 _ (by decide) (fun q => absurd q (by decide)) gL126_1
            have gL127_2 : cv_get L127 2 = some (cv_i a) := kL127 2 _ (by decide) (fun q => absurd q (by decide)) gL126_2
            have gL127_3 : cv_get L127 3 = some (cv_i w) := kL127 3 _ (by decide) (fun q => absurd q (by decide)) gL126_3
            have gL127_4 : cv_get L127 4 = some (cv_i v5) := kL127 4 _ (by decide) (fun q => absurd q (by decide)) gL126_4
            have gL127_5 : cv_get L127 5 = some (cv_i v6) := kL127 5 _ (by decide) (fun q => absurd q (by decide)) gL126_5
            have gL127_8 : cv_get L127 8 = some (cv_i BA) := kL127 8 _ (by decide) (fun q => absurd q (by decide)) gL126_8
            have gL127_9 : cv_get L127 9 = some (cv_i AL) := kL127 9 _ (by decide) (fun q => absurd q (by decide)) gL126_9
            have gL127_10 : cv_get L127 10 = some (cv_i XX) := kL127 10 _ (by decide) (fun q => absurd q (by decide)) gL126_10
            have gL127_11 : cv_get L127 11 = some (cv_i YY) := kL127 11 _ (by decide) (fun q => absurd q (by decide)) gL126_11
            refine ex_ilw oq_X12_stand_197 gL127_11 ?_
            refine ex_iswA oq_X12_stand_199 (fun L128 gL128_8 kL128 => ?_)
            have gL128_7 : cv_get L128 7 = some (cv_i XX) := kL128 7 _ (by decide) (fun _ => rfl) gL127_7
            have gL128_6 : cv_get L128 6 = some (cv_i x125) := kL128 6 _ (by decide) (fun q => absurd q (by decide)) gL127_6
            have gL128_0 : cv_get L128 0 = some (cv_r 111) := kL128 0 _ (by decide) (fun q => absurd q (by decide)) gL127_0
            have gL128_1 : cv_get L128 1 = some (cv_i g) := kL128 1 _ (by decide) (fun q => absurd q (by decide)) gL127_1
            have gL128_2 : cv_get L128 2 = some (cv_i a) := kL128 2 _ (by decide) (fun q => absurd q (by decide)) gL127_2
            have gL128_3 : cv_get L128 3 = some (cv_i w) := kL128 3 _ (by decide) (fun q => absurd q (by decide)) gL127_3
            have gL128_4 : cv_get L128 4 = some (cv_i v5) := kL128 4 _ (by decide) (fun q => absurd q (by decide)) gL127_4
            have gL128_5 : cv_get L128 5 = some (cv_i v6) := kL128 5 _ (by decide) (fun q => absurd q (by decide)) gL127_5
            have gL128_9 : cv_get L128 9 = some (cv_i AL) := kL128 9 _ (by decide) (fun q => absurd q (by decide)) gL127_9
            have gL128_10 : cv_get L128 10 = some (cv_i XX) := kL128 10 _ (by decide) (fun q => absurd q (by decide)) gL127_10
            have gL128_11 : cv_get L128 11 = some (cv_i YY) := kL128 11 _ (by decide) (fun q => absurd q (by decide)) gL127_11
            refine ex_incA oq_X12_stand_201 (v := YY) (m := 1) gL128_11 (by decide) (by omega) (fun L130 x129 hx129 gL130_11 kL130 => ?_)
            have gL130_8 : cv_get L130 8 = some (cv_i YY) := kL130 8 _ (by decide) (fun q => absurd q (by decide)) gL128_8
            have gL130_7 : cv_get L130 7 = some (cv_i XX) := kL130 7 _ (by decide) (fun q => absurd q (by decide)) gL128_7
            have gL130_6 : cv_get L130 6 = some (cv_i x125) := kL130 6 _ (by decide) (fun q => absurd q (by decide)) gL128_6
            have gL130_0 : cv_get L130 0 = some (cv_r 111) := kL130 0 _ (by decide) (fun q => absurd q (by decide)) gL128_0
            have gL130_1 : cv_get L130 1 = some (cv_i g) := kL130 1 _ (by decide) (fun q => absurd q (by decide)) gL128_1
            have gL130_2 : cv_get L130 2 = some (cv_i a) := kL130 2 _ (by decide) (fun q => absurd q (by decide)) gL128_2
            have gL130_3 : cv_get L130 3 = some (cv_i w) := kL130 3 _ (by decide) (fun q => absurd q (by decide)) gL128_3
            have gL130_4 : cv_get L130 4 = some (cv_i v5) := kL130 4 _ (by decide) (fun q => absurd q (by decide)) gL128_4
            have gL130_5 : cv_get L130 5 = some (cv_i v6) := kL130 5 _ (by decide) (fun q => absurd q (by decide)) gL128_5
            have gL130_9 : cv_get L130 9 = some (cv_i AL) := kL130 9 _ (by decide) (fun q => absurd q (by decide)) gL128_9
            have gL130_10 : cv_get L130 10 = some (cv_i XX) := kL130 10 _ (by decide) (fun _ => rfl) gL128_10
            refine ex_go oq_X12_stand_204 (t := 97) rfl rfl ?_
            exact ih (kn + 1) x129 x125 XX YY h121 L130 (by omega) (by omega) (by omega) Th121 Ph121 Ih121 gL130_0 gL130_1 gL130_2 gL130_3 gL130_4 gL130_5 gL130_6 gL130_7 gL130_8 gL130_9 gL130_10 gL130_11
          · refine ex_go oq_X12_stand_177 (t := 201) rfl rfl ?_
            refine ex_incA oq_X12_stand_201 (v := YY) (m := 1) g11 (by decide) (by omega) (fun L132 x131 hx131 gL132_11 kL132 => ?_)
            have gL132_0 : cv_get L132 0 = some (cv_r 111) := kL132 0 _ (by decide) (fun q => absurd q (by decide)) g0
            have gL132_1 : cv_get L132 1 = some (cv_i g) := kL132 1 _ (by decide) (fun q => absurd q (by decide)) g1
            have gL132_2 : cv_get L132 2 = some (cv_i a) := kL132 2 _ (by decide) (fun q => absurd q (by decide)) g2
            have gL132_3 : cv_get L132 3 = some (cv_i w) := kL132 3 _ (by decide) (fun q => absurd q (by decide)) g3
            have gL132_4 : cv_get L132 4 = some (cv_i v5) := kL132 4 _ (by decide) (fun q => absurd q (by decide)) g4
            have gL132_5 : cv_get L132 5 = some (cv_i v6) := kL132 5 _ (by decide) (fun q => absurd q (by decide)) g5
            have gL132_6 : cv_get L132 6 = some (cv_i B) := kL132 6 _ (by decide) (fun q => absurd q (by decide)) g6
            have gL132_7 : cv_get L132 7 = some (cv_i BO) := kL132 7 _ (by decide) (fun q => absurd q (by decide)) g7
            have gL132_8 : cv_get L132 8 = some (cv_i BA) := kL132 8 _ (by decide) (fun q => absurd q (by decide)) g8
            have gL132_9 : cv_get L132 9 = some (cv_i AL) := kL132 9 _ (by decide) (fun q => absurd q (by decide)) g9
            have gL132_10 : cv_get L132 10 = some (cv_i XX) := kL132 10 _ (by decide) (fun _ => rfl) g10
            refine ex_go oq_X12_stand_204 (t := 97) rfl rfl ?_
            exact ih (kn + 1) x131 B BO BA h121 L132 (by omega) (by omega) (by omega) Th121 Ph121 Ih121 gL132_0 gL132_1 gL132_2 gL132_3 gL132_4 gL132_5 gL132_6 gL132_7 gL132_8 gL132_9 gL132_10 gL132_11
      · refine ex_ilw oq_X12_stand_109 g10 ?_
        refine ex_cs oq_X12_stand_111 (by decide) (as := [cv_i XX]) (stk := []) rfl rfl rfl ⟨rfl, rfl⟩ (R := fun o => ∃ x : Int32, o = (some (cv_i x), h)) (rs_size (by omega) (fun x => ⟨x, rfl⟩)) (fun o ho => ?_)
        obtain ⟨x133, rfl⟩ := ho
        show cw_X _ _ _ _ _ [cv_i x133] h
        refine ex_ilw oq_X12_stand_114 g11 ?_
        refine ex_cs oq_X12_stand_116 (by decide) (as := [cv_i YY]) (stk := [cv_i x133]) rfl rfl rfl ⟨rfl, rfl⟩ (R := fun o => ∃ x : Int32, o = (some (cv_i x), h)) (rs_size (by omega) (fun x => ⟨x, rfl⟩)) (fun o ho => ?_)
        obtain ⟨x134, rfl⟩ := ho
        show cw_X _ _ _ _ _ [cv_i x134, cv_i x133] h
        refine ex_any (f := fun x y => some x) oq_X12_stand_119 rfl (fun x135 => ?_)
        refine ex_ilw oq_X12_stand_120 g6 ?_
        refine ex_if oq_X12_stand_122 (t := 128) rfl rfl (fun (c136 : x135.toInt < B.toInt) => ?_) (fun (c136 : ¬ (x135.toInt < B.toInt)) => ?_)
        · refine ex_al oq_X12_stand_128 g0 ?_
          refine ex_gf oq_X12_stand_129 hT (k := 111) (d := 12) rfl rfl (fr_gateHas hT) ?_
          refine ex_bi oq_X12_stand_132 (m := 16) (by decide) (fun x137 hx137 => ?_)
          refine ex_il oq_X12_stand_134 g1 ?_
          refine ex_mul oq_X12_stand_135 (m := 16 * g.toInt) (by rw [hx137]) (by omega) (fun x138 hx138 => ?_)
          refine ex_ic oq_X12_stand_136 (m := 5) (by decide) (fun x139 hx139 => ?_)
          refine ex_add oq_X12_stand_137 (by omega) (fun x140 hx140 => ?_)
          refine ex_ilw oq_X12_stand_138 g10 ?_
          refine ex_iw oq_X12_stand_140 hT (k := 119) (d := 58) (j := 16 * gn + 5) rfl rfl (by omega) (by omega) (fun r hr => gh_get hr _ (cw_i32 _)) (fun h141 Th141 wh141 => ?_)
          have Ph141 : cw_PP G h141 := pp_sd (gn := gn) (by omega) wh141 hP
          have Ih141 : zSd gn h0 h141 := fun i p q => (ri_ne wh141 (.inr (by omega))).trans (hI i p q)
          refine ex_al oq_X12_stand_141 g0 ?_
          refine ex_gf oq_X12_stand_142 Th141 (k := 111) (d := 12) rfl rfl (fr_gateHas Th141) ?_
          refine ex_bi oq_X12_stand_145 (m := 16) (by decide) (fun x142 hx142 => ?_)
          refine ex_il oq_X12_stand_147 g1 ?_
          refine ex_mul oq_X12_stand_148 (m := 16 * g.toInt) (by rw [hx142]) (by omega) (fun x143 hx143 => ?_)
          refine ex_bi oq_X12_stand_149 (m := 6) (by decide) (fun x144 hx144 => ?_)
          refine ex_add oq_X12_stand_151 (by omega) (fun x145 hx145 => ?_)
          refine ex_ilw oq_X12_stand_152 g11 ?_
          refine ex_iw oq_X12_stand_154 Th141 (k := 119) (d := 58) (j := 16 * gn + 6) rfl rfl (by omega) (by omega) (fun r hr => gh_get hr _ (cw_i32 _)) (fun h146 Th146 wh146 => ?_)
          have Ph146 : cw_PP G h146 := pp_sd (gn := gn) (by omega) wh146 Ph141
          have Ih146 : zSd gn h0 h146 := fun i p q => (ri_ne wh146 (.inr (by omega))).trans (Ih141 i p q)
          refine ex_al oq_X12_stand_155 g0 ?_
          refine ex_il oq_X12_stand_156 g1 ?_
          refine ex_cv oq_X12_stand_157 (by decide) Th146 (k := 111) (d := 12) (as := [cv_i g]) (stk := []) rfl rfl rfl rfl rfl rfl ⟨rfl, rfl⟩ (cw_HX (av := [cv_r 111, cv_i g]) hz_X12_shutsFrom rfl (cw_Xok_no2 hX) ⟨Th146, Ph146⟩ ⟨.inl ⟨by decide, 111, rfl, rfl⟩, ⟨g, rfl, gW⟩, trivial⟩ (fun t ht => absurd ht List.not_mem_nil)) (fun o ho => ?_)
          obtain ⟨x147, h148, rfl, rx147, Th148, Ph148, Ch148, tx147⟩ := po_int ho rfl
          show cw_X _ _ _ _ _ [cv_i x147] h148
          have Ih148 : zSd gn h0 h148 := fun i p q => (ri_eq (fr_same Th146 Th148 Ch148 (k := 119) (d := 58) rfl (by decide +kernel) i)).trans (Ih146 i p q)
          have lx147 := rx147.1
          have ux147 := rx147.2.1
          try dsimp only at lx147 ux147
          refine ex_ilw oq_X12_stand_160 g9 ?_
          refine ex_any (f := fun x y => some x) oq_X12_stand_162 rfl (fun x149 => ?_)
          refine ex_ilw oq_X12_stand_163 g9 ?_
          refine ex_if oq_X12_stand_165 (t := 201) rfl rfl (fun (c150 : ¬ x149.toInt = AL.toInt) => ?_) (fun (c150 : ¬ (¬ x149.toInt = AL.toInt)) => ?_)
          · refine ex_incA oq_X12_stand_201 (v := YY) (m := 1) g11 (by decide) (by omega) (fun L152 x151 hx151 gL152_11 kL152 => ?_)
            have gL152_0 : cv_get L152 0 = some (cv_r 111) := kL152 0 _ (by decide) (fun q => absurd q (by decide)) g0
            have gL152_1 : cv_get L152 1 = some (cv_i g) := kL152 1 _ (by decide) (fun q => absurd q (by decide)) g1
            have gL152_2 : cv_get L152 2 = some (cv_i a) := kL152 2 _ (by decide) (fun q => absurd q (by decide)) g2
            have gL152_3 : cv_get L152 3 = some (cv_i w) := kL152 3 _ (by decide) (fun q => absurd q (by decide)) g3
            have gL152_4 : cv_get L152 4 = some (cv_i v5) := kL152 4 _ (by decide) (fun q => absurd q (by decide)) g4
            have gL152_5 : cv_get L152 5 = some (cv_i v6) := kL152 5 _ (by decide) (fun q => absurd q (by decide)) g5
            have gL152_6 : cv_get L152 6 = some (cv_i B) := kL152 6 _ (by decide) (fun q => absurd q (by decide)) g6
            have gL152_7 : cv_get L152 7 = some (cv_i BO) := kL152 7 _ (by decide) (fun q => absurd q (by decide)) g7
            have gL152_8 : cv_get L152 8 = some (cv_i BA) := kL152 8 _ (by decide) (fun q => absurd q (by decide)) g8
            have gL152_9 : cv_get L152 9 = some (cv_i AL) := kL152 9 _ (by decide) (fun q => absurd q (by decide)) g9
            have gL152_10 : cv_get L152 10 = some (cv_i XX) := kL152 10 _ (by decide) (fun _ => rfl) g10
            refine ex_go oq_X12_stand_204 (t := 97) rfl rfl ?_
            exact ih (kn + 1) x151 B BO BA h148 L152 (by omega) (by omega) (by omega) Th148 Ph148 Ih148 gL152_0 gL152_1 gL152_2 gL152_3 gL152_4 gL152_5 gL152_6 gL152_7 gL152_8 gL152_9 gL152_10 gL152_11
          · refine ex_al oq_X12_stand_168 g0 ?_
            refine ex_il oq_X12_stand_169 g1 ?_
            refine ex_cv oq_X12_stand_170 (by decide) Th148 (k := 111) (d := 12) (as := [cv_i g]) (stk := []) rfl rfl rfl rfl rfl rfl ⟨rfl, rfl⟩ (cw_HX (av := [cv_r 111, cv_i g]) hz_X12_opensTo rfl (cw_Xok_no2 hX) ⟨Th148, Ph148⟩ ⟨.inl ⟨by decide, 111, rfl, rfl⟩, ⟨g, rfl, gW⟩, trivial⟩ (fun t ht => absurd ht List.not_mem_nil)) (fun o ho => ?_)
            obtain ⟨x153, h154, rfl, rx153, Th154, Ph154, Ch154, tx153⟩ := po_int ho rfl
            show cw_X _ _ _ _ _ [cv_i x153] h154
            have Ih154 : zSd gn h0 h154 := fun i p q => (ri_eq (fr_same Th148 Th154 Ch154 (k := 119) (d := 58) rfl (by decide +kernel) i)).trans (Ih148 i p q)
            have lx153 := rx153.1
            have ux153 := rx153.2.1
            try dsimp only at lx153 ux153
            refine ex_il oq_X12_stand_173 g2 ?_
            refine ex_if oq_X12_stand_174 (t := 180) rfl rfl (fun (c155 : a.toInt ≤ x153.toInt) => ?_) (fun (c155 : ¬ (a.toInt ≤ x153.toInt)) => ?_)
            · refine ex_ilw oq_X12_stand_180 g10 ?_
              refine ex_cs oq_X12_stand_182 (by decide) (as := [cv_i XX]) (stk := []) rfl rfl rfl ⟨rfl, rfl⟩ (R := fun o => ∃ x : Int32, o = (some (cv_i x), h154)) (rs_size (by omega) (fun x => ⟨x, rfl⟩)) (fun o ho => ?_)
              obtain ⟨x156, rfl⟩ := ho
              show cw_X _ _ _ _ _ [cv_i x156] h154
              refine ex_ilw oq_X12_stand_185 g11 ?_
              refine ex_cs oq_X12_stand_187 (by decide) (as := [cv_i YY]) (stk := [cv_i x156]) rfl rfl rfl ⟨rfl, rfl⟩ (R := fun o => ∃ x : Int32, o = (some (cv_i x), h154)) (rs_size (by omega) (fun x => ⟨x, rfl⟩)) (fun o ho => ?_)
              obtain ⟨x157, rfl⟩ := ho
              show cw_X _ _ _ _ _ [cv_i x157, cv_i x156] h154
              refine ex_any (f := fun x y => some x) oq_X12_stand_190 rfl (fun x158 => ?_)
              refine ex_iswA oq_X12_stand_191 (fun L159 gL159_6 kL159 => ?_)
              have gL159_0 : cv_get L159 0 = some (cv_r 111) := kL159 0 _ (by decide) (fun q => absurd q (by decide)) g0
              have gL159_1 : cv_get L159 1 = some (cv_i g) := kL159 1 _ (by decide) (fun q => absurd q (by decide)) g1
              have gL159_2 : cv_get L159 2 = some (cv_i a) := kL159 2 _ (by decide) (fun q => absurd q (by decide)) g2
              have gL159_3 : cv_get L159 3 = some (cv_i w) := kL159 3 _ (by decide) (fun q => absurd q (by decide)) g3
              have gL159_4 : cv_get L159 4 = some (cv_i v5) := kL159 4 _ (by decide) (fun q => absurd q (by decide)) g4
              have gL159_5 : cv_get L159 5 = some (cv_i v6) := kL159 5 _ (by decide) (fun _ => rfl) g5
              have gL159_7 : cv_get L159 7 = some (cv_i BO) := kL159 7 _ (by decide) (fun q => absurd q (by decide)) g7
              have gL159_8 : cv_get L159 8 = some (cv_i BA) := kL159 8 _ (by decide) (fun q => absurd q (by decide)) g8
              have gL159_9 : cv_get L159 9 = some (cv_i AL) := kL159 9 _ (by decide) (fun q => absurd q (by decide)) g9
              have gL159_10 : cv_get L159 10 = some (cv_i XX) := kL159 10 _ (by decide) (fun q => absurd q (by decide)) g10
              have gL159_11 : cv_get L159 11 = some (cv_i YY) := kL159 11 _ (by decide) (fun q => absurd q (by decide)) g11
              refine ex_ilw oq_X12_stand_193 gL159_10 ?_
              refine ex_iswA oq_X12_stand_195 (fun L160 gL160_7 kL160 => ?_)
              have gL160_6 : cv_get L160 6 = some (cv_i x158) := kL160 6 _ (by decide) (fun _ => rfl) gL159_6
              have gL160_0 : cv_get L160 0 = some (cv_r 111) := kL160 0 _ (by decide) (fun q => absurd q (by decide)) gL159_0
              have gL160_1 : cv_get L160 1 = some (cv_i g) := kL160 1 _ (by decide) (fun q => absurd q (by decide)) gL159_1
              have gL160_2 : cv_get L160 2 = some (cv_i a) := kL160 2 _ (by decide) (fun q => absurd q (by decide)) gL159_2
              have gL160_3 : cv_get L160 3 = some (cv_i w) := kL160 3 _ (by decide) (fun q => absurd q (by decide)) gL159_3
              have gL160_4 : cv_get L160 4 = some (cv_i v5) := kL160 4 _ (by decide) (fun q => absurd q (by decide)) gL159_4
              have gL160_5 : cv_get L160 5 = some (cv_i v6) := kL160 5 _ (by decide) (fun q => absurd q (by decide)) gL159_5
              have gL160_8 : cv_get L160 8 = some (cv_i BA) := kL160 8 _ (by decide) (fun q => absurd q (by decide)) gL159_8
              have gL160_9 : cv_get L160 9 = some (cv_i AL) := kL160 9 _ (by decide) (fun q => absurd q (by decide)) gL159_9
              have gL160_10 : cv_get L160 10 = some (cv_i XX) := kL160 10 _ (by decide) (fun q => absurd q (by decide)) gL159_10
              have gL160_11 : cv_get L160 11 = some (cv_i YY) := kL160 11 _ (by decide) (fun q => absurd q (by decide)) gL159_11
              refine ex_ilw oq_X12_stand_197 gL160_11 ?_
              refine ex_iswA oq_X12_stand_199 (fun L161 gL161_8 kL161 => ?_)
              have gL161_7 : cv_get L161 7 = some (cv_i XX) := kL161 7 _ (by decide) (fun _ => rfl) gL160_7
              have gL161_6 : cv_get L161 6 = some (cv_i x158) := kL161 6 _ (by decide) (fun q => absurd q (by decide)) gL160_6
              have gL161_0 : cv_get L161 0 = some (cv_r 111) := kL161 0 _ (by decide) (fun q => absurd q (by decide)) gL160_0
              have gL161_1 : cv_get L161 1 = some (cv_i g) := kL161 1 _ (by decide) (fun q => absurd q (by decide)) gL160_1
              have gL161_2 : cv_get L161 2 = some (cv_i a) := kL161 2 _ (by decide) (fun q => absurd q (by decide)) gL160_2
              have gL161_3 : cv_get L161 3 = some (cv_i w) := kL161 3 _ (by decide) (fun q => absurd q (by decide)) gL160_3
              have gL161_4 : cv_get L161 4 = some (cv_i v5) := kL161 4 _ (by decide) (fun q => absurd q (by decide)) gL160_4
              have gL161_5 : cv_get L161 5 = some (cv_i v6) := kL161 5 _ (by decide) (fun q => absurd q (by decide)) gL160_5
              have gL161_9 : cv_get L161 9 = some (cv_i AL) := kL161 9 _ (by decide) (fun q => absurd q (by decide)) gL160_9
              have gL161_10 : cv_get L161 10 = some (cv_i XX) := kL161 10 _ (by decide) (fun q => absurd q (by decide)) gL160_10
              have gL161_11 : cv_get L161 11 = some (cv_i YY) := kL161 11 _ (by decide) (fun q => absurd q (by decide)) gL160_11
              refine ex_incA oq_X12_stand_201 (v := YY) (m := 1) gL161_11 (by decide) (by omega) (fun L163 x162 hx162 gL163_11 kL163 => ?_)
              have gL163_8 : cv_get L163 8 = some (cv_i YY) := kL163 8 _ (by decide) (fun q => absurd q (by decide)) gL161_8
              have gL163_7 : cv_get L163 7 = some (cv_i XX) := kL163 7 _ (by decide) (fun q => absurd q (by decide)) gL161_7
              have gL163_6 : cv_get L163 6 = some (cv_i x158) := kL163 6 _ (by decide) (fun q => absurd q (by decide)) gL161_6
              have gL163_0 : cv_get L163 0 = some (cv_r 111) := kL163 0 _ (by decide) (fun q => absurd q (by decide)) gL161_0
              have gL163_1 : cv_get L163 1 = some (cv_i g) := kL163 1 _ (by decide) (fun q => absurd q (by decide)) gL161_1
              have gL163_2 : cv_get L163 2 = some (cv_i a) := kL163 2 _ (by decide) (fun q => absurd q (by decide)) gL161_2
              have gL163_3 : cv_get L163 3 = some (cv_i w) := kL163 3 _ (by decide) (fun q => absurd q (by decide)) gL161_3
              have gL163_4 : cv_get L163 4 = some (cv_i v5) := kL163 4 _ (by decide) (fun q => absurd q (by decide)) gL161_4
              have gL163_5 : cv_get L163 5 = some (cv_i v6) := kL163 5 _ (by decide) (fun q => absurd q (by decide)) gL161_5
              have gL163_9 : cv_get L163 9 = some (cv_i AL) := kL163 9 _ (by decide) (fun q => absurd q (by decide)) gL161_9
              have gL163_10 : cv_get L163 10 = some (cv_i XX) := kL163 10 _ (by decide) (fun _ => rfl) gL161_10
              refine ex_go oq_X12_stand_204 (t := 97) rfl rfl ?_
              exact ih (kn + 1) x162 x158 XX YY h154 L163 (by omega) (by omega) (by omega) Th154 Ph154 Ih154 gL163_0 gL163_1 gL163_2 gL163_3 gL163_4 gL163_5 gL163_6 gL163_7 gL163_8 gL163_9 gL163_10 gL163_11
            · refine ex_go oq_X12_stand_177 (t := 201) rfl rfl ?_
              refine ex_incA oq_X12_stand_201 (v := YY) (m := 1) g11 (by decide) (by omega) (fun L165 x164 hx164 gL165_11 kL165 => ?_)
              have gL165_0 : cv_get L165 0 = some (cv_r 111) := kL165 0 _ (by decide) (fun q => absurd q (by decide)) g0
              have gL165_1 : cv_get L165 1 = some (cv_i g) := kL165 1 _ (by decide) (fun q => absurd q (by decide)) g1
              have gL165_2 : cv_get L165 2 = some (cv_i a) := kL165 2 _ (by decide) (fun q => absurd q (by decide)) g2
              have gL165_3 : cv_get L165 3 = some (cv_i w) := kL165 3 _ (by decide) (fun q => absurd q (by decide)) g3
              have gL165_4 : cv_get L165 4 = some (cv_i v5) := kL165 4 _ (by decide) (fun q => absurd q (by decide)) g4
              have gL165_5 : cv_get L165 5 = some (cv_i v6) := kL165 5 _ (by decide) (fun q => absurd q (by decide)) g5
              have gL165_6 : cv_get L165 6 = some (cv_i B) := kL165 6 _ (by decide) (fun q => absurd q (by decide)) g6
              have gL165_7 : cv_get L165 7 = some (cv_i BO) := kL165 7 _ (by decide) (fun q => absurd q (by decide)) g7
              have gL165_8 : cv_get L165 8 = some (cv_i BA) := kL165 8 _ (by decide) (fun q => absurd q (by decide)) g8
              have gL165_9 : cv_get L165 9 = some (cv_i AL) := kL165 9 _ (by decide) (fun q => absurd q (by decide)) g9
              have gL165_10 : cv_get L165 10 = some (cv_i XX) := kL165 10 _ (by decide) (fun _ => rfl) g10
              refine ex_go oq_X12_stand_204 (t := 97) rfl rfl ?_
              exact ih (kn + 1) x164 B BO BA h154 L165 (by omega) (by omega) (by omega) Th154 Ph154 Ih154 gL165_0 gL165_1 gL165_2 gL165_3 gL165_4 gL165_5 gL165_6 gL165_7 gL165_8 gL165_9 gL165_10 gL165_11
        · refine ex_go oq_X12_stand_125 (t := 201) rfl rfl ?_
          refine ex_incA oq_X12_stand_201 (v := YY) (m := 1) g11 (by decide) (by omega) (fun L167 x166 hx166 gL167_11 kL167 => ?_)
          have gL167_0 : cv_get L167 0 = some (cv_r 111) := kL167 0 _ (by decide) (fun q => absurd q (by decide)) g0
          have gL167_1 : cv_get L167 1 = some (cv_i g) := kL167 1 _ (by decide) (fun q => absurd q (by decide)) g1
          have gL167_2 : cv_get L167 2 = some (cv_i a) := kL167 2 _ (by decide) (fun q => absurd q (by decide)) g2
          have gL167_3 : cv_get L167 3 = some (cv_i w) := kL167 3 _ (by decide) (fun q => absurd q (by decide)) g3
          have gL167_4 : cv_get L167 4 = some (cv_i v5) := kL167 4 _ (by decide) (fun q => absurd q (by decide)) g4
          have gL167_5 : cv_get L167 5 = some (cv_i v6) := kL167 5 _ (by decide) (fun q => absurd q (by decide)) g5
          have gL167_6 : cv_get L167 6 = some (cv_i B) := kL167 6 _ (by decide) (fun q => absurd q (by decide)) g6
          have gL167_7 : cv_get L167 7 = some (cv_i BO) := kL167 7 _ (by decide) (fun q => absurd q (by decide)) g7
          have gL167_8 : cv_get L167 8 = some (cv_i BA) := kL167 8 _ (by decide) (fun q => absurd q (by decide)) g8
          have gL167_9 : cv_get L167 9 = some (cv_i AL) := kL167 9 _ (by decide) (fun q => absurd q (by decide)) g9
          have gL167_10 : cv_get L167 10 = some (cv_i XX) := kL167 10 _ (by decide) (fun _ => rfl) g10
          refine ex_go oq_X12_stand_204 (t := 97) rfl rfl ?_
          exact ih (kn + 1) x166 B BO BA h L167 (by omega) (by omega) (by omega) hT hP hI gL167_0 gL167_1 gL167_2 gL167_3 gL167_4 gL167_5 gL167_6 gL167_7 gL167_8 gL167_9 gL167_10 gL167_11
theorem oq_X12_stand_86 : cw_ho 264 86 (.iload 10) 2 0 0 0 := rfl
theorem oq_X12_stand_88 : cw_ho 264 88 (.bipush 31) 2 0 0 0 := rfl
theorem oq_X12_stand_90 : cw_ho 264 90 (.if_icmp .ge 123) 3 0 0 0 := rfl
theorem oq_X12_stand_93 : cw_ho 264 93 (.bipush (-30)) 2 0 0 0 := rfl
theorem oq_X12_stand_95 : cw_ho 264 95 (.istore 11) 2 0 0 0 := rfl
theorem oq_X12_stand_207 : cw_ho 264 207 (.iinc 10 1) 3 0 0 0 := rfl
theorem oq_X12_stand_210 : cw_ho 264 210 (.goto (-124)) 3 0 0 0 := rfl
theorem rs_out (hX : cw_Xok X) {g a w : Int32} {gn : Nat} (hg : g.toInt = gn) (hg4 : gn < 4) (gW : cw_wok G (0, 3, 2) g.toInt) {v5 v6 AL : Int32} (kk : ∀ (h : cv_H) (L : cv_L) (B BO BA : Int32), cw_T G h → cw_PP G h → zSd gn h0 h → cv_get L 0 = some (cv_r 111) → cv_get L 1 = some (cv_i g) → cv_get L 2 = some (cv_i a) → cv_get L 3 = some (cv_i w) → cv_get L 4 = some (cv_i v5) → cv_get L 5 = some (cv_i v6) → cv_get L 6 = some (cv_i B) → cv_get L 7 = some (cv_i BO) → cv_get L 8 = some (cv_i BA) → cw_X X 264 Q 213 L [] h) : ∀ (f kn : Nat) (XX B BO BA : Int32) (h : cv_H) (L : cv_L), 61 - kn = f → kn ≤ 61 → XX.toInt = (kn : Int) - 30 → cw_T G h → cw_PP G h → zSd gn h0 h → cv_get L 0 = some (cv_r 111) → cv_get L 1 = some (cv_i g) → cv_get L 2 = some (cv_i a) → cv_get L 3 = some (cv_i w) → cv_get L 4 = some (cv_i v5) → cv_get L 5 = some (cv_i v6) → cv_get L 6 = some (cv_i B) → cv_get L 7 = some (cv_i BO) → cv_get L 8 = some (cv_i BA) → cv_get L 9 = some (cv_i AL) → cv_get L 10 = some (cv_i XX) → cw_X X 264 Q 86 L [] h := by
  intro f
  induction f with
  | zero =>
    intro kn XX B BO BA h L hf hkn hXx hT hP hI g0 g1 g2 g3 g4 g5 g6 g7 g8 g9 g10
    refine ex_ilw oq_X12_stand_86 g10 ?_
    refine ex_bi oq_X12_stand_88 (m := 31) (by decide) (fun x101 hx101 => ?_)
    refine ex_if oq_X12_stand_90 (t := 213) rfl rfl (fun (c102 : x101.toInt ≤ XX.toInt) => ?_) (fun (c102 : ¬ (x101.toInt ≤ XX.toInt)) => ?_)
    · exact kk h L B BO BA hT hP hI g0 g1 g2 g3 g4 g5 g6 g7 g8
    · exfalso; omega
  | succ f ih =>
    intro kn XX B BO BA h L hf hkn hXx hT hP hI g0 g1 g2 g3 g4 g5 g6 g7 g8 g9 g10
    refine ex_ilw oq_X12_stand_86 g10 ?_
    refine ex_bi oq_X12_stand_88 (m := 31) (by decide) (fun x101 hx101 => ?_)
    refine ex_if oq_X12_stand_90 (t := 213) rfl rfl (fun (c102 : x101.toInt ≤ XX.toInt) => ?_) (fun (c102 : ¬ (x101.toInt ≤ XX.toInt)) => ?_)
    · exfalso; omega
    · refine ex_bi oq_X12_stand_93 (m := (-30)) (by decide) (fun x103 hx103 => ?_)
      refine ex_iswA oq_X12_stand_95 (fun L104 gL104_11 kL104 => ?_)
      have gL104_0 : cv_get L104 0 = some (cv_r 111) := kL104 0 _ (by decide) (fun q => absurd q (by decide)) g0
      have gL104_1 : cv_get L104 1 = some (cv_i g) := kL104 1 _ (by decide) (fun q => absurd q (by decide)) g1
      have gL104_2 : cv_get L104 2 = some (cv_i a) := kL104 2 _ (by decide) (fun q => absurd q (by decide)) g2
      have gL104_3 : cv_get L104 3 = some (cv_i w) := kL104 3 _ (by decide) (fun q => absurd q (by decide)) g3
      have gL104_4 : cv_get L104 4 = some (cv_i v5) := kL104 4 _ (by decide) (fun q => absurd q (by decide)) g4
      have gL104_5 : cv_get L104 5 = some (cv_i v6) := kL104 5 _ (by decide) (fun q => absurd q (by decide)) g5
      have gL104_6 : cv_get L104 6 = some (cv_i B) := kL104 6 _ (by decide) (fun q => absurd q (by decide)) g6
      have gL104_7 : cv_get L104 7 = some (cv_i BO) := kL104 7 _ (by decide) (fun q => absurd q (by decide)) g7
      have gL104_8 : cv_get L104 8 = some (cv_i BA) := kL104 8 _ (by decide) (fun q => absurd q (by decide)) g8
      have gL104_9 : cv_get L104 9 = some (cv_i AL) := kL104 9 _ (by decide) (fun q => absurd q (by decide)) g9
      have gL104_10 : cv_get L104 10 = some (cv_i XX) := kL104 10 _ (by decide) (fun _ => rfl) g10
      refine rs_in hX hg hg4 gW (XX := XX) (by omega) (fun h3 L3 B3 BO3 BA3 T3 P3 I3 k0 k1 k2 k3 k4 k5 k6 k7 k8 k9 k10 => ?_) 61 0 x103 B BO BA h L104 (by decide) (by decide) (by omega) hT hP hI gL104_0 gL104_1 gL104_2 gL104_3 gL104_4 gL104_5 gL104_6 gL104_7 gL104_8 gL104_9 gL104_10 gL104_11
      refine ex_incA oq_X12_stand_207 (v := XX) (m := 1) k10 (by decide) (by omega) (fun L106 x105 hx105 gL106_10 kL106 => ?_)
      have gL106_0 : cv_get L106 0 = some (cv_r 111) := kL106 0 _ (by decide) (fun q => absurd q (by decide)) k0
      have gL106_1 : cv_get L106 1 = some (cv_i g) := kL106 1 _ (by decide) (fun q => absurd q (by decide)) k1
      have gL106_2 : cv_get L106 2 = some (cv_i a) := kL106 2 _ (by decide) (fun q => absurd q (by decide)) k2
      have gL106_3 : cv_get L106 3 = some (cv_i w) := kL106 3 _ (by decide) (fun q => absurd q (by decide)) k3
      have gL106_4 : cv_get L106 4 = some (cv_i v5) := kL106 4 _ (by decide) (fun q => absurd q (by decide)) k4
      have gL106_5 : cv_get L106 5 = some (cv_i v6) := kL106 5 _ (by decide) (fun q => absurd q (by decide)) k5
      have gL106_6 : cv_get L106 6 = some (cv_i B3) := kL106 6 _ (by decide) (fun q => absurd q (by decide)) k6
      have gL106_7 : cv_get L106 7 = some (cv_i BO3) := kL106 7 _ (by decide) (fun q => absurd q (by decide)) k7
      have gL106_8 : cv_get L106 8 = some (cv_i BA3) := kL106 8 _ (by decide) (fun q => absurd q (by decide)) k8
      have gL106_9 : cv_get L106 9 = some (cv_i AL) := kL106 9 _ (by decide) (fun _ => rfl) k9
      refine ex_go oq_X12_stand_210 (t := 86) rfl rfl ?_
      exact ih (kn + 1) x105 B3 BO3 BA3 h3 L106 (by omega) (by omega) (by omega) T3 P3 I3 gL106_0 gL106_1 gL106_2 gL106_3 gL106_4 gL106_5 gL106_6 gL106_7 gL106_8 gL106_9 gL106_10
theorem oq_X12_stand_213 : cw_ho 264 213 (.aload_n 0) 1 0 0 0 := rfl
theorem oq_X12_stand_214 : cw_ho 264 214 (.getfield 36) 3 12 26 4 := rfl
theorem oq_X12_stand_217 : cw_ho 264 217 (.bipush 16) 2 0 0 0 := rfl
theorem oq_X12_stand_219 : cw_ho 264 219 (.iload_n 1) 1 0 0 0 := rfl
theorem oq_X12_stand_220 : cw_ho 264 220 (.imul) 1 0 0 0 := rfl
theorem oq_X12_stand_221 : cw_ho 264 221 (.iconst 5) 1 0 0 0 := rfl
theorem oq_X12_stand_222 : cw_ho 264 222 (.iadd) 1 0 0 0 := rfl
theorem oq_X12_stand_223 : cw_ho 264 223 (.iload 4) 2 0 0 0 := rfl
theorem oq_X12_stand_225 : cw_ho 264 225 (.iastore) 1 0 0 0 := rfl
theorem oq_X12_stand_226 : cw_ho 264 226 (.aload_n 0) 1 0 0 0 := rfl
theorem oq_X12_stand_227 : cw_ho 264 227 (.getfield 36) 3 12 26 4 := rfl
theorem oq_X12_stand_230 : cw_ho 264 230 (.bipush 16) 2 0 0 0 := rfl
theorem oq_X12_stand_232 : cw_ho 264 232 (.iload_n 1) 1 0 0 0 := rfl
theorem oq_X12_stand_233 : cw_ho 264 233 (.imul) 1 0 0 0 := rfl
theorem oq_X12_stand_234 : cw_ho 264 234 (.bipush 6) 2 0 0 0 := rfl
theorem oq_X12_stand_236 : cw_ho 264 236 (.iadd) 1 0 0 0 := rfl
theorem oq_X12_stand_237 : cw_ho 264 237 (.iload 5) 2 0 0 0 := rfl
theorem oq_X12_stand_239 : cw_ho 264 239 (.iastore) 1 0 0 0 := rfl
theorem oq_X12_stand_240 : cw_ho 264 240 (.iload 6) 2 0 0 0 := rfl
theorem oq_X12_stand_242 : cw_ho 264 242 (.ifCond .ge 9) 3 0 0 0 := rfl
theorem oq_X12_stand_245 : cw_ho 264 245 (.ldc_w 419) 3 0 0 (-2147483648) := rfl
theorem oq_X12_stand_248 : cw_ho 264 248 (.goto 14) 3 0 0 0 := rfl
theorem oq_X12_stand_251 : cw_ho 264 251 (.iload_n 3) 1 0 0 0 := rfl
theorem oq_X12_stand_252 : cw_ho 264 252 (.ifCond .ne 8) 3 0 0 0 := rfl
theorem oq_X12_stand_255 : cw_ho 264 255 (.iload 7) 2 0 0 0 := rfl
theorem oq_X12_stand_257 : cw_ho 264 257 (.goto 5) 3 0 0 0 := rfl
theorem oq_X12_stand_260 : cw_ho 264 260 (.iload 8) 2 0 0 0 := rfl
theorem oq_X12_stand_262 : cw_ho 264 262 (.ireturn) 1 0 0 0 := rfl
theorem rs_end {g a w : Int32} {gn : Nat} (hg : g.toInt = gn) (hg4 : gn < 4) (gW : cw_wok G (0, 3, 2) g.toInt) {v5 v6 : Int32} (e5 : v5.toInt = ri_at h0 119 (16 * gn + 5)) (e6 : v6.toInt = ri_at h0 119 (16 * gn + 6)) {B BO BA : Int32} {L : cv_L} (hT : cw_T G h) (hP : cw_PP G h) (hI : zSd gn h0 h) (g0 : cv_get L 0 = some (cv_r 111)) (g1 : cv_get L 1 = some (cv_i g)) (g2 : cv_get L 2 = some (cv_i a)) (g3 : cv_get L 3 = some (cv_i w)) (g4 : cv_get L 4 = some (cv_i v5)) (g5 : cv_get L 5 = some (cv_i v6)) (g6 : cv_get L 6 = some (cv_i B)) (g7 : cv_get L 7 = some (cv_i BO)) (g8 : cv_get L 8 = some (cv_i BA)) (hQ : ∀ (x : Int32) h', cw_T G h' → (∀ i, ri_at h' 119 i = ri_at h0 119 i) → Q (some (cv_i x), h')) : cw_X X 264 Q 213 L [] h := by
  refine ex_al oq_X12_stand_213 g0 ?_
  refine ex_gf oq_X12_stand_214 hT (k := 111) (d := 12) rfl rfl (fr_gateHas hT) ?_
  refine ex_bi oq_X12_stand_217 (m := 16) (by decide) (fun x101 hx101 => ?_)
  refine ex_il oq_X12_stand_219 g1 ?_
  refine ex_mul oq_X12_stand_220 (m := 16 * g.toInt) (by rw [hx101]) (by omega) (fun x102 hx102 => ?_)
  refine ex_ic oq_X12_stand_221 (m := 5) (by decide) (fun x103 hx103 => ?_)
  refine ex_add oq_X12_stand_222 (by omega) (fun x104 hx104 => ?_)
  refine ex_ilw oq_X12_stand_223 g4 ?_
  refine ex_iw oq_X12_stand_225 hT (k := 119) (d := 58) (j := 16 * gn + 5) rfl rfl (by omega) (by omega) (fun r hr => gh_get hr _ (cw_i32 _)) (fun h105 Th105 wh105 => ?_)
  have Ph105 : cw_PP G h105 := pp_sd (gn := gn) (by omega) wh105 hP
  have Ih105 : zSd gn h0 h105 := fun i p q => (ri_ne wh105 (.inr (by omega))).trans (hI i p q)
  refine ex_al oq_X12_stand_226 g0 ?_
  refine ex_gf oq_X12_stand_227 Th105 (k := 111) (d := 12) rfl rfl (fr_gateHas Th105) ?_
  refine ex_bi oq_X12_stand_230 (m := 16) (by decide) (fun x106 hx106 => ?_)
  refine ex_il oq_X12_stand_232 g1 ?_
  refine ex_mul oq_X12_stand_233 (m := 16 * g.toInt) (by rw [hx106]) (by omega) (fun x107 hx107 => ?_)
  refine ex_bi oq_X12_stand_234 (m := 6) (by decide) (fun x108 hx108 => ?_)
  refine ex_add oq_X12_stand_236 (by omega) (fun x109 hx109 => ?_)
  refine ex_ilw oq_X12_stand_237 g5 ?_
  refine ex_iw oq_X12_stand_239 Th105 (k := 119) (d := 58) (j := 16 * gn + 6) rfl rfl (by omega) (by omega) (fun r hr => gh_get hr _ (cw_i32 _)) (fun h110 Th110 wh110 => ?_)
  have Ph110 : cw_PP G h110 := pp_sd (gn := gn) (by omega) wh110 Ph105
  have Ih110 : zSd gn h0 h110 := fun i p q => (ri_ne wh110 (.inr (by omega))).trans (Ih105 i p q)
  refine ex_ilw oq_X12_stand_240 g6 ?_
  refine ex_if0 oq_X12_stand_242 (t := 251) rfl rfl (fun (c111 : 0 ≤ B.toInt) => ?_) (fun (c111 : ¬ (0 ≤ B.toInt)) => ?_)
  · refine ex_il oq_X12_stand_251 g3 ?_
    refine ex_if0 oq_X12_stand_252 (t := 260) rfl rfl (fun (c112 : ¬ w.toInt = 0) => ?_) (fun (c112 : ¬ (¬ w.toInt = 0)) => ?_)
    · refine ex_ilw oq_X12_stand_260 g8 ?_
      refine ex_reti oq_X12_stand_262 rfl (hQ BA h110 Th110 (fun i => ?_))
      by_cases c6 : i = 16 * gn + 6
      · subst c6; exact (ri_self wh110).trans e6
      by_cases c5 : i = 16 * gn + 5
      · subst c5; exact (ri_ne wh110 (.inr (by omega))).trans ((ri_self wh105).trans e5)
      exact Ih110 i c5 c6
    · refine ex_ilw oq_X12_stand_255 g7 ?_
      refine ex_go oq_X12_stand_257 (t := 262) rfl rfl ?_
      refine ex_reti oq_X12_stand_262 rfl (hQ BO h110 Th110 (fun i => ?_))
      by_cases c6 : i = 16 * gn + 6
      · subst c6; exact (ri_self wh110).trans e6
      by_cases c5 : i = 16 * gn + 5
      · subst c5; exact (ri_ne wh110 (.inr (by omega))).trans ((ri_self wh105).trans e5)
      exact Ih110 i c5 c6
  · refine ex_ldcw oq_X12_stand_245 (m := (-2147483648)) (by decide) (fun x113 hx113 => ?_)
    refine ex_go oq_X12_stand_248 (t := 262) rfl rfl ?_
    refine ex_reti oq_X12_stand_262 rfl (hQ x113 h110 Th110 (fun i => ?_))
    by_cases c6 : i = 16 * gn + 6
    · subst c6; exact (ri_self wh110).trans e6
    by_cases c5 : i = 16 * gn + 5
    · subst c5; exact (ri_ne wh110 (.inr (by omega))).trans ((ri_self wh105).trans e5)
    exact Ih110 i c5 c6
theorem oq_X12_stand_0 : cw_ho 264 0 (.aload_n 0) 1 0 0 0 := rfl
theorem oq_X12_stand_1 : cw_ho 264 1 (.iconst 0) 1 0 0 0 := rfl
theorem oq_X12_stand_2 : cw_ho 264 2 (.putfield 136) 3 12 2 0 := rfl
theorem oq_X12_stand_5 : cw_ho 264 5 (.aload_n 0) 1 0 0 0 := rfl
theorem oq_X12_stand_6 : cw_ho 264 6 (.iload_n 1) 1 0 0 0 := rfl
theorem oq_X12_stand_7 : cw_ho 264 7 (.invokevirtual 407) 3 216 1 12 := rfl
theorem oq_X12_stand_10 : cw_ho 264 10 (.ifCond .eq 20) 3 0 0 0 := rfl
theorem oq_X12_stand_13 : cw_ho 264 13 (.aload_n 0) 1 0 0 0 := rfl
theorem oq_X12_stand_14 : cw_ho 264 14 (.iload_n 2) 1 0 0 0 := rfl
theorem oq_X12_stand_15 : cw_ho 264 15 (.invokevirtual 472) 3 255 1 12 := rfl
theorem oq_X12_stand_18 : cw_ho 264 18 (.ifCond .eq 12) 3 0 0 0 := rfl
theorem oq_X12_stand_21 : cw_ho 264 21 (.iload_n 3) 1 0 0 0 := rfl
theorem oq_X12_stand_22 : cw_ho 264 22 (.iconst 0) 1 0 0 0 := rfl
theorem oq_X12_stand_23 : cw_ho 264 23 (.iconst 1) 1 0 0 0 := rfl
theorem oq_X12_stand_24 : cw_ho 264 24 (.invokestatic 180) 3 156 3 0 := rfl
theorem oq_X12_stand_27 : cw_ho 264 27 (.ifCond .ne 7) 3 0 0 0 := rfl
theorem oq_X12_stand_30 : cw_ho 264 30 (.ldc_w 419) 3 0 0 (-2147483648) := rfl
theorem oq_X12_stand_33 : cw_ho 264 33 (.ireturn) 1 0 0 0 := rfl
theorem oq_X12_stand_34 : cw_ho 264 34 (.aload_n 0) 1 0 0 0 := rfl
theorem oq_X12_stand_35 : cw_ho 264 35 (.iload_n 1) 1 0 0 0 := rfl
theorem oq_X12_stand_36 : cw_ho 264 36 (.invokevirtual 413) 3 202 1 12 := rfl
theorem oq_X12_stand_39 : cw_ho 264 39 (.aload_n 0) 1 0 0 0 := rfl
theorem oq_X12_stand_40 : cw_ho 264 40 (.getfield 36) 3 12 26 4 := rfl
theorem oq_X12_stand_43 : cw_ho 264 43 (.bipush 16) 2 0 0 0 := rfl
theorem oq_X12_stand_45 : cw_ho 264 45 (.iload_n 1) 1 0 0 0 := rfl
theorem oq_X12_stand_46 : cw_ho 264 46 (.imul) 1 0 0 0 := rfl
theorem oq_X12_stand_47 : cw_ho 264 47 (.iconst 5) 1 0 0 0 := rfl
theorem oq_X12_stand_48 : cw_ho 264 48 (.iadd) 1 0 0 0 := rfl
theorem oq_X12_stand_49 : cw_ho 264 49 (.iaload) 1 0 0 0 := rfl
theorem oq_X12_stand_50 : cw_ho 264 50 (.istore 4) 2 0 0 0 := rfl
theorem oq_X12_stand_52 : cw_ho 264 52 (.aload_n 0) 1 0 0 0 := rfl
theorem oq_X12_stand_53 : cw_ho 264 53 (.getfield 36) 3 12 26 4 := rfl
theorem oq_X12_stand_56 : cw_ho 264 56 (.bipush 16) 2 0 0 0 := rfl
theorem oq_X12_stand_58 : cw_ho 264 58 (.iload_n 1) 1 0 0 0 := rfl
theorem oq_X12_stand_59 : cw_ho 264 59 (.imul) 1 0 0 0 := rfl
theorem oq_X12_stand_60 : cw_ho 264 60 (.bipush 6) 2 0 0 0 := rfl
theorem oq_X12_stand_62 : cw_ho 264 62 (.iadd) 1 0 0 0 := rfl
theorem oq_X12_stand_63 : cw_ho 264 63 (.iaload) 1 0 0 0 := rfl
theorem oq_X12_stand_64 : cw_ho 264 64 (.istore 5) 2 0 0 0 := rfl
theorem oq_X12_stand_66 : cw_ho 264 66 (.iconst (-1)) 1 0 0 0 := rfl
theorem oq_X12_stand_67 : cw_ho 264 67 (.istore 6) 2 0 0 0 := rfl
theorem oq_X12_stand_69 : cw_ho 264 69 (.iconst 0) 1 0 0 0 := rfl
theorem oq_X12_stand_70 : cw_ho 264 70 (.istore 7) 2 0 0 0 := rfl
theorem oq_X12_stand_72 : cw_ho 264 72 (.iconst 0) 1 0 0 0 := rfl
theorem oq_X12_stand_73 : cw_ho 264 73 (.istore 8) 2 0 0 0 := rfl
theorem oq_X12_stand_75 : cw_ho 264 75 (.iconst 2) 1 0 0 0 := rfl
theorem oq_X12_stand_76 : cw_ho 264 76 (.iload_n 2) 1 0 0 0 := rfl
theorem oq_X12_stand_77 : cw_ho 264 77 (.ishl) 1 0 0 0 := rfl
theorem oq_X12_stand_78 : cw_ho 264 78 (.iconst 1) 1 0 0 0 := rfl
theorem oq_X12_stand_79 : cw_ho 264 79 (.isub) 1 0 0 0 := rfl
theorem oq_X12_stand_80 : cw_ho 264 80 (.istore 9) 2 0 0 0 := rfl
theorem oq_X12_stand_82 : cw_ho 264 82 (.bipush (-30)) 2 0 0 0 := rfl
theorem oq_X12_stand_84 : cw_ho 264 84 (.istore 10) 2 0 0 0 := rfl
theorem rq_standF (hX : cw_Xok X) (hT : cw_T G h0) (hP : cw_PP G h0) {g a w : Int32} (hQ : ∀ (x : Int32) h', cw_T G h' → (∀ i, ri_at h' 119 i = ri_at h0 119 i) → Q (some (cv_i x), h')) : cw_X X 264 Q 0 (cv_ent 0 [cv_r 111, cv_i g, cv_i a, cv_i w]) [] h0 := by
  refine ex_al oq_X12_stand_0 rfl ?_
  refine ex_ic oq_X12_stand_1 (m := 0) (by decide) (fun x101 hx101 => ?_)
  refine ex_pfi oq_X12_stand_2 hT (k := 111) (d := 12) rfl rfl rfl (cw_i32 _).1 (cw_i32 _).2 (fun h102 Th102 wh102 => ?_)
  have eh102_111_2 : ri_at h102 111 2 = x101.toInt := ri_self wh102
  have Ph102 : cw_PP G h102 := pp_thr wh102 hP
  have Jh102 : ∀ i, ri_at h102 119 i = ri_at h0 119 i := fun i => ri_ne wh102 (.inl (by decide))
  refine ex_al oq_X12_stand_5 rfl ?_
  refine ex_il oq_X12_stand_6 rfl ?_
  refine ex_cv oq_X12_stand_7 (by decide) Th102 (k := 111) (d := 12) (as := [cv_i g]) (stk := []) rfl rfl rfl rfl rfl rfl ⟨rfl, rfl⟩ (cw_HX (av := [cv_r 111, cv_i g]) hz_X12_isGate rfl (cw_Xok_no2 hX) ⟨Th102, Ph102⟩ ⟨.inl ⟨by decide, 111, rfl, rfl⟩, ⟨_, rfl, cw_top_ok _⟩, trivial⟩ (fun t ht => absurd ht List.not_mem_nil)) (fun o ho => ?_)
  obtain ⟨x103, h104, rfl, rx103, Th104, Ph104, Ch104, tx103⟩ := po_int ho rfl
  show cw_X _ _ _ _ _ [cv_i x103] h104
  have Jh104 : ∀ i, ri_at h104 119 i = ri_at h0 119 i := fun i => (ri_eq (fr_same Th102 Th104 Ch104 (k := 119) (d := 58) rfl (by decide +kernel) i)).trans (Jh102 i)
  have tg := tx103
  refine ex_if0 oq_X12_stand_10 (t := 30) rfl rfl (fun (c105 : x103.toInt = 0) => ?_) (fun (c105 : ¬ (x103.toInt = 0)) => ?_)
  · refine ex_ldcw oq_X12_stand_30 (m := (-2147483648)) (by decide) (fun x106 hx106 => ?_)
    exact ex_reti oq_X12_stand_33 rfl (hQ x106 h104 Th104 Jh104)
  · refine ex_al oq_X12_stand_13 rfl ?_
    refine ex_il oq_X12_stand_14 rfl ?_
    refine ex_cv oq_X12_stand_15 (by decide) Th104 (k := 111) (d := 12) (as := [cv_i a]) (stk := []) rfl rfl rfl rfl rfl rfl ⟨rfl, rfl⟩ (cw_HX (av := [cv_r 111, cv_i a]) hz_X12_isAngle rfl (cw_Xok_no2 hX) ⟨Th104, Ph104⟩ ⟨.inl ⟨by decide, 111, rfl, rfl⟩, ⟨_, rfl, cw_top_ok _⟩, trivial⟩ (fun t ht => absurd ht List.not_mem_nil)) (fun o ho => ?_)
    obtain ⟨x107, h108, rfl, rx107, Th108, Ph108, Ch108, tx107⟩ := po_int ho rfl
    show cw_X _ _ _ _ _ [cv_i x107] h108
    have Jh108 : ∀ i, ri_at h108 119 i = ri_at h0 119 i := fun i => (ri_eq (fr_same Th104 Th108 Ch108 (k := 119) (d := 58) rfl (by decide +kernel) i)).trans (Jh104 i)
    refine ex_if0 oq_X12_stand_18 (t := 30) rfl rfl (fun (c109 : x107.toInt = 0) => ?_) (fun (c109 : ¬ (x107.toInt = 0)) => ?_)
    · refine ex_ldcw oq_X12_stand_30 (m := (-2147483648)) (by decide) (fun x110 hx110 => ?_)
      exact ex_reti oq_X12_stand_33 rfl (hQ x110 h108 Th108 Jh108)
    · refine ex_il oq_X12_stand_21 rfl ?_
      refine ex_ic oq_X12_stand_22 (m := 0) (by decide) (fun x111 hx111 => ?_)
      refine ex_ic oq_X12_stand_23 (m := 1) (by decide) (fun x112 hx112 => ?_)
      refine ex_cs oq_X12_stand_24 (by decide) (as := [cv_i w, cv_i x111, cv_i x112]) (stk := []) rfl rfl rfl ⟨rfl, rfl⟩ (cw_HX (av := [cv_i w, cv_i x111, cv_i x112]) hz_X12_isIn rfl (cw_Xok_no2 hX) ⟨Th108, Ph108⟩ ⟨⟨_, rfl, cw_top_ok _⟩, ⟨_, rfl, cw_top_ok _⟩, ⟨_, rfl, cw_top_ok _⟩, trivial⟩ (fun t ht => absurd ht List.not_mem_nil)) (fun o ho => ?_)
      obtain ⟨x113, h114, rfl, rx113, Th114, Ph114, Ch114, tx113⟩ := po_int ho rfl
      show cw_X _ _ _ _ _ [cv_i x113] h114
      have Jh114 : ∀ i, ri_at h114 119 i = ri_at h0 119 i := fun i => (ri_eq (fr_same Th108 Th114 Ch114 (k := 119) (d := 58) rfl (by decide +kernel) i)).trans (Jh108 i)
      refine ex_if0 oq_X12_stand_27 (t := 34) rfl rfl (fun (c115 : ¬ x113.toInt = 0) => ?_) (fun (c115 : ¬ (¬ x113.toInt = 0)) => ?_)
      · refine ex_al oq_X12_stand_34 rfl ?_
        refine ex_il oq_X12_stand_35 rfl ?_
        have gW : cw_wok G (0, 3, 2) g.toInt := gateW tg (by omega)
        obtain ⟨gn, hg⟩ : ∃ gn : Nat, g.toInt = gn := ⟨g.toInt.toNat, by have := gW.1; omega⟩
        have hg4 : gn < 4 := by have := gW.2.1; dsimp only at this; omega
        refine ex_cv oq_X12_stand_36 (by decide) Th114 (k := 111) (d := 12) (as := [cv_i g]) (stk := []) rfl rfl rfl rfl rfl rfl ⟨rfl, rfl⟩ (cw_HX (av := [cv_r 111, cv_i g]) hz_X12_loads rfl (cw_Xok_no2 hX) ⟨Th114, Ph114⟩ ⟨.inl ⟨by decide, 111, rfl, rfl⟩, ⟨g, rfl, ⟨gW.1, gW.2.1, cw_tg0⟩⟩, trivial⟩ (fun t ht => absurd ht List.not_mem_nil)) (fun o ho => ?_)
        obtain ⟨h116, rfl, Th116, Ph116, Ch116⟩ := po_non ho rfl
        show cw_X _ _ _ _ _ [] h116
        have Jh116 : ∀ i, ri_at h116 119 i = ri_at h0 119 i := fun i => (ri_eq (fr_same Th114 Th116 Ch116 (k := 119) (d := 58) rfl (by decide +kernel) i)).trans (Jh114 i)
        refine ex_al oq_X12_stand_39 rfl ?_
        refine ex_gf oq_X12_stand_40 Th116 (k := 111) (d := 12) rfl rfl (fr_gateHas Th116) ?_
        refine ex_bi oq_X12_stand_43 (m := 16) (by decide) (fun x117 hx117 => ?_)
        refine ex_il oq_X12_stand_45 rfl ?_
        refine ex_mul oq_X12_stand_46 (m := 16 * g.toInt) (by rw [hx117]) (by omega) (fun x118 hx118 => ?_)
        refine ex_ic oq_X12_stand_47 (m := 5) (by decide) (fun x119 hx119 => ?_)
        refine ex_add oq_X12_stand_48 (by omega) (fun x120 hx120 => ?_)
        refine ex_iap oq_X12_stand_49 Th116 (k := 119) (d := 58) (j := 16 * gn + 5) rfl rfl (by omega) (by omega) (fun x121 hx121 => ?_)
        refine ex_iswA oq_X12_stand_50 (fun L122 gL122_4 kL122 => ?_)
        have gL122_0 : cv_get L122 0 = some (cv_r 111) := kL122 0 _ (by decide) (fun q => absurd q (by decide)) rfl
        have gL122_1 : cv_get L122 1 = some (cv_i g) := kL122 1 _ (by decide) (fun q => absurd q (by decide)) rfl
        have gL122_2 : cv_get L122 2 = some (cv_i a) := kL122 2 _ (by decide) (fun q => absurd q (by decide)) rfl
        have gL122_3 : cv_get L122 3 = some (cv_i w) := kL122 3 _ (by decide) (fun _ => rfl) rfl
        refine ex_al oq_X12_stand_52 gL122_0 ?_
        refine ex_gf oq_X12_stand_53 Th116 (k := 111) (d := 12) rfl rfl (fr_gateHas Th116) ?_
        refine ex_bi oq_X12_stand_56 (m := 16) (by decide) (fun x123 hx123 => ?_)
        refine ex_il oq_X12_stand_58 gL122_1 ?_
        refine ex_mul oq_X12_stand_59 (m := 16 * g.toInt) (by rw [hx123]) (by omega) (fun x124 hx124 => ?_)
        refine ex_bi oq_X12_stand_60 (m := 6) (by decide) (fun x125 hx125 => ?_)
        refine ex_add oq_X12_stand_62 (by omega) (fun x126 hx126 => ?_)
        refine ex_iap oq_X12_stand_63 Th116 (k := 119) (d := 58) (j := 16 * gn + 6) rfl rfl (by omega) (by omega) (fun x127 hx127 => ?_)
        refine ex_iswA oq_X12_stand_64 (fun L128 gL128_5 kL128 => ?_)
        have gL128_4 : cv_get L128 4 = some (cv_i x121) := kL128 4 _ (by decide) (fun _ => rfl) gL122_4
        have gL128_0 : cv_get L128 0 = some (cv_r 111) := kL128 0 _ (by decide) (fun q => absurd q (by decide)) gL122_0
        have gL128_1 : cv_get L128 1 = some (cv_i g) := kL128 1 _ (by decide) (fun q => absurd q (by decide)) gL122_1
        have gL128_2 : cv_get L128 2 = some (cv_i a) := kL128 2 _ (by decide) (fun q => absurd q (by decide)) gL122_2
        have gL128_3 : cv_get L128 3 = some (cv_i w) := kL128 3 _ (by decide) (fun q => absurd q (by decide)) gL122_3
        refine ex_ic oq_X12_stand_66 (m := (-1)) (by decide) (fun x129 hx129 => ?_)
        refine ex_iswA oq_X12_stand_67 (fun L130 gL130_6 kL130 => ?_)
        have gL130_5 : cv_get L130 5 = some (cv_i x127) := kL130 5 _ (by decide) (fun _ => rfl) gL128_5
        have gL130_4 : cv_get L130 4 = some (cv_i x121) := kL130 4 _ (by decide) (fun q => absurd q (by decide)) gL128_4
        have gL130_0 : cv_get L130 0 = some (cv_r 111) := kL130 0 _ (by decide) (fun q => absurd q (by decide)) gL128_0
        have gL130_1 : cv_get L130 1 = some (cv_i g) := kL130 1 _ (by decide) (fun q => absurd q (by decide)) gL128_1
        have gL130_2 : cv_get L130 2 = some (cv_i a) := kL130 2 _ (by decide) (fun q => absurd q (by decide)) gL128_2
        have gL130_3 : cv_get L130 3 = some (cv_i w) := kL130 3 _ (by decide) (fun q => absurd q (by decide)) gL128_3
        refine ex_ic oq_X12_stand_69 (m := 0) (by decide) (fun x131 hx131 => ?_)
        refine ex_iswA oq_X12_stand_70 (fun L132 gL132_7 kL132 => ?_)
        have gL132_6 : cv_get L132 6 = some (cv_i x129) := kL132 6 _ (by decide) (fun _ => rfl) gL130_6
        have gL132_5 : cv_get L132 5 = some (cv_i x127) := kL132 5 _ (by decide) (fun q => absurd q (by decide)) gL130_5
        have gL132_4 : cv_get L132 4 = some (cv_i x121) := kL132 4 _ (by decide) (fun q => absurd q (by decide)) gL130_4
        have gL132_0 : cv_get L132 0 = some (cv_r 111) := kL132 0 _ (by decide) (fun q => absurd q (by decide)) gL130_0
        have gL132_1 : cv_get L132 1 = some (cv_i g) := kL132 1 _ (by decide) (fun q => absurd q (by decide)) gL130_1
        have gL132_2 : cv_get L132 2 = some (cv_i a) := kL132 2 _ (by decide) (fun q => absurd q (by decide)) gL130_2
        have gL132_3 : cv_get L132 3 = some (cv_i w) := kL132 3 _ (by decide) (fun q => absurd q (by decide)) gL130_3
        refine ex_ic oq_X12_stand_72 (m := 0) (by decide) (fun x133 hx133 => ?_)
        refine ex_iswA oq_X12_stand_73 (fun L134 gL134_8 kL134 => ?_)
        have gL134_7 : cv_get L134 7 = some (cv_i x131) := kL134 7 _ (by decide) (fun _ => rfl) gL132_7
        have gL134_6 : cv_get L134 6 = some (cv_i x129) := kL134 6 _ (by decide) (fun q => absurd q (by decide)) gL132_6
        have gL134_5 : cv_get L134 5 = some (cv_i x127) := kL134 5 _ (by decide) (fun q => absurd q (by decide)) gL132_5
        have gL134_4 : cv_get L134 4 = some (cv_i x121) := kL134 4 _ (by decide) (fun q => absurd q (by decide)) gL132_4
        have gL134_0 : cv_get L134 0 = some (cv_r 111) := kL134 0 _ (by decide) (fun q => absurd q (by decide)) gL132_0
        have gL134_1 : cv_get L134 1 = some (cv_i g) := kL134 1 _ (by decide) (fun q => absurd q (by decide)) gL132_1
        have gL134_2 : cv_get L134 2 = some (cv_i a) := kL134 2 _ (by decide) (fun q => absurd q (by decide)) gL132_2
        have gL134_3 : cv_get L134 3 = some (cv_i w) := kL134 3 _ (by decide) (fun q => absurd q (by decide)) gL132_3
        refine ex_ic oq_X12_stand_75 (m := 2) (by decide) (fun x135 hx135 => ?_)
        refine ex_il oq_X12_stand_76 gL134_2 ?_
        refine ex_any (f := fun x y => some x) oq_X12_stand_77 rfl (fun x136 => ?_)
        refine ex_ic oq_X12_stand_78 (m := 1) (by decide) (fun x137 hx137 => ?_)
        refine ex_any (f := fun x y => some x) oq_X12_stand_79 rfl (fun x138 => ?_)
        refine ex_iswA oq_X12_stand_80 (fun L139 gL139_9 kL139 => ?_)
        have gL139_8 : cv_get L139 8 = some (cv_i x133) := kL139 8 _ (by decide) (fun _ => rfl) gL134_8
        have gL139_7 : cv_get L139 7 = some (cv_i x131) := kL139 7 _ (by decide) (fun q => absurd q (by decide)) gL134_7
        have gL139_6 : cv_get L139 6 = some (cv_i x129) := kL139 6 _ (by decide) (fun q => absurd q (by decide)) gL134_6
        have gL139_5 : cv_get L139 5 = some (cv_i x127) := kL139 5 _ (by decide) (fun q => absurd q (by decide)) gL134_5
        have gL139_4 : cv_get L139 4 = some (cv_i x121) := kL139 4 _ (by decide) (fun q => absurd q (by decide)) gL134_4
        have gL139_0 : cv_get L139 0 = some (cv_r 111) := kL139 0 _ (by decide) (fun q => absurd q (by decide)) gL134_0
        have gL139_1 : cv_get L139 1 = some (cv_i g) := kL139 1 _ (by decide) (fun q => absurd q (by decide)) gL134_1
        have gL139_2 : cv_get L139 2 = some (cv_i a) := kL139 2 _ (by decide) (fun q => absurd q (by decide)) gL134_2
        have gL139_3 : cv_get L139 3 = some (cv_i w) := kL139 3 _ (by decide) (fun q => absurd q (by decide)) gL134_3
        refine ex_bi oq_X12_stand_82 (m := (-30)) (by decide) (fun x140 hx140 => ?_)
        refine ex_iswA oq_X12_stand_84 (fun L141 gL141_10 kL141 => ?_)
        have gL141_9 : cv_get L141 9 = some (cv_i x138) := kL141 9 _ (by decide) (fun _ => rfl) gL139_9
        have gL141_8 : cv_get L141 8 = some (cv_i x133) := kL141 8 _ (by decide) (fun q => absurd q (by decide)) gL139_8
        have gL141_7 : cv_get L141 7 = some (cv_i x131) := kL141 7 _ (by decide) (fun q => absurd q (by decide)) gL139_7
        have gL141_6 : cv_get L141 6 = some (cv_i x129) := kL141 6 _ (by decide) (fun q => absurd q (by decide)) gL139_6
        have gL141_5 : cv_get L141 5 = some (cv_i x127) := kL141 5 _ (by decide) (fun q => absurd q (by decide)) gL139_5
        have gL141_4 : cv_get L141 4 = some (cv_i x121) := kL141 4 _ (by decide) (fun q => absurd q (by decide)) gL139_4
        have gL141_0 : cv_get L141 0 = some (cv_r 111) := kL141 0 _ (by decide) (fun q => absurd q (by decide)) gL139_0
        have gL141_1 : cv_get L141 1 = some (cv_i g) := kL141 1 _ (by decide) (fun q => absurd q (by decide)) gL139_1
        have gL141_2 : cv_get L141 2 = some (cv_i a) := kL141 2 _ (by decide) (fun q => absurd q (by decide)) gL139_2
        have gL141_3 : cv_get L141 3 = some (cv_i w) := kL141 3 _ (by decide) (fun q => absurd q (by decide)) gL139_3
        have e5 : x121.toInt = ri_at h0 119 (16 * gn + 5) := hx121.symm.trans (Jh116 _)
        have e6 : x127.toInt = ri_at h0 119 (16 * gn + 6) := hx127.symm.trans (Jh116 _)
        exact rs_out hX hg hg4 gW (fun h3 L3 B3 BO3 BA3 T3 P3 I3 k0 k1 k2 k3 k4 k5 k6 k7 k8 => rs_end hg hg4 gW e5 e6 T3 P3 I3 k0 k1 k2 k3 k4 k5 k6 k7 k8 hQ) 61 0 x140 x129 x131 x133 h116 L141 (by decide) (by decide) (by omega) Th116 Ph116 (fun i _ _ => Jh116 i) gL141_0 gL141_1 gL141_2 gL141_3 gL141_4 gL141_5 gL141_6 gL141_7 gL141_8 gL141_9 gL141_10
      · refine ex_ldcw oq_X12_stand_30 (m := (-2147483648)) (by decide) (fun x142 hx142 => ?_)
        exact ex_reti oq_X12_stand_33 rfl (hQ x142 h114 Th114 Jh114)
theorem at_ri {G' : Int} {h' : cv_H} {k d t n p i : Nat} {rs : List (Int × Int)} (hT : cw_T G h) (hT' : cw_T G' h') (hk : cw_sh[k]? = some d) (hD : cw_Ds[d]? = some (.inl (t, n, p, rs))) (e : ri_at h' k i = ri_at h k i) : cw_at h' k i = cw_at h k i := by
  have t1 := hT k d hk
  have t2 := hT' k d hk
  unfold cw_cell at t1 t2
  rw [hD] at t1 t2
  obtain ⟨xs, v1, v2, -⟩ := t1
  obtain ⟨ys, w1, w2, -⟩ := t2
  have a1 : cw_at h k i = (xs[i]?).map cv_i := by unfold cw_at; rw [v1]; rfl
  have a2 : cw_at h' k i = (ys[i]?).map cv_i := by unfold cw_at; rw [w1]; rfl
  by_cases hi : i < n
  · obtain ⟨x, hx⟩ : ∃ x, xs[i]? = some x := ⟨_, List.getElem?_eq_getElem (by omega)⟩
    obtain ⟨y, hy⟩ : ∃ y, ys[i]? = some y := ⟨_, List.getElem?_eq_getElem (by omega)⟩
    rw [hx] at a1
    rw [hy] at a2
    have r1 := ri_of (x := x) a1
    have r2 := ri_of (x := y) a2
    have : y = x := Int32.toInt_inj.mp (by omega)
    rw [a1, a2, this]
  · rw [a1, a2, List.getElem?_eq_none (by omega), List.getElem?_eq_none (by omega)]
end SD
theorem zk_c30 : zkqc kk_X11_stand ec_X11_stand_0 223 3 := ⟨rfl, rfl, rfl, rfl, rfl, rfl, by decide +kernel, by decide⟩
theorem zJ_c30 : zJ 146 264 3 false := by
  intro X Gn h as hX ha hT hP he
  match as, ha with
  | [g, a, w], _ =>
  have hz := he.2
  obtain ⟨-, p, q, -, ⟨⟨f1, f2, -⟩, -⟩, -⟩ := hz
  refine cw_X_imp (zq_c (as := [g, a, w]) hz_X11_stand zk_c30 hX hT hP f1 f2) (fun o w => ?_)
  obtain ⟨po, z⟩ := w
  have hP1 := po.2.1.2
  have hF1 := po.2.2.1
  obtain ⟨x, h1, rfl, -, hT1, -⟩ := po_int po rfl
  refine ⟨x, h1, rfl, hT1, hF1.1 149 rfl, ?_⟩
  refine zX_poI (K := kk_X12_stand) hz_X12_stand (k := 111) (d := 12) (as := [g, a, w]) rfl (by decide) rfl rfl hX hT1 hP1 ?_
  refine rq_standF hX hT1 hP1 (fun y h2 hT2 e119 po2 => ?_)
  have hF2 : cw_Fr cw_Ds cw_sh kk_X12_stand.2.2.2.2.2.1 h1 h2 := po2.2.2.1
  have r : zQR zsl h1 h2 := by
    refine ⟨lg_nc_e hT1 hT2 hF2 (by decide +kernel), fun k i u => ?_, fun i u => ?_⟩
    · by_cases c119 : k = 119
      · subst c119
        exact at_ri hT1 hT2 (k := 119) (d := 58) rfl rfl (e119 i)
      have c : ∀ j : Fin 38, (111 + j.1 = 111 ∨ 111 + j.1 = 119 ∨ 111 + j.1 = 128 ∨ 111 + j.1 = 129 ∨ 131 ≤ 111 + j.1 ∧ 111 + j.1 ≤ 134 ∨ 136 ≤ 111 + j.1 ∧ 111 + j.1 ≤ 147) ∨ ∃ d, d ∈ ([51, 52, 53, 54, 55, 56, 57, 59, 60, 61, 62, 63, 64, 65, 66, 69, 74, 87] : List Nat) ∧ cw_sh[111 + j.1]? = some d := by decide +kernel
      rcases c ⟨k - 111, by omega⟩ with c | ⟨d, hd, hs⟩
      · dsimp only at c; omega
      · dsimp only at hs
        rw [show 111 + (k - 111) = k from by omega] at hs
        have b3 : ([51, 52, 53, 54, 55, 56, 57, 59, 60, 61, 62, 63, 64, 65, 66, 69, 74, 87] : List Nat).all (lg_nk kk_X12_stand.2.2.2.2.2.1) = true := by decide +kernel
        exact fr_same hT1 hT2 hF2 hs (List.all_eq_true.mp b3 d hd) i
    · have b2 : zsl.all (fun i => !cw_bit kk_X12_stand.2.2.2.2.2.1 12 i) = true := by decide +kernel
      have := List.all_eq_true.mp b2 i u
      rw [Bool.not_eq_true'] at this
      exact hF2.2 111 12 i rfl this
  exact ⟨y, Gn, h2, rfl, hT2, po2.2.1.2, lg_E_R (lg_E_C he z) r, (hF2.1 149 rfl).trans (hF1.1 149 rfl), fun q => absurd q Bool.false_ne_true⟩
/-- look of the reference leaves alone what both hold -/
theorem zR_c4 (X : cv_X) (Gn : Int) (h : cv_H) (as : List Int32) (hX : cw_Xok X) (ha : as.length = 2) (hT : cw_T Gn h) (hP : cw_PP Gn h) (he : lg_E h) : cw_X X 218 (fun o => ∃ (y : Int32) (G2 : Int) (h2 : cv_H), o = (some (cv_i y), h2) ∧ cw_T G2 h2 ∧ cw_PP G2 h2 ∧ lg_E h2 ∧ h2[149]? = h[149]?) 0 (cv_ent 0 (cv_r 111 :: as.map cv_i)) [] h := by
  refine cw_X_imp (zqr_x (K := kk_X12_look) (as := as) (sl := zsl) hz_X12_look (by rw [ha]; exact ⟨rfl, rfl, by decide +kernel⟩) hX hT hP) (fun o w => ?_)
  obtain ⟨po, z⟩ := w
  have hP1 := po.2.1.2
  have hF1 := po.2.2.1
  obtain ⟨y, h2, rfl, -, hT2, -⟩ := po_int po rfl
  exact ⟨y, Gn, h2, rfl, hT2, hP1, lg_E_R he z, hF1.1 149 rfl⟩
