/-! ===== firm, works, count: the answers are the same ===== -/
theorem zans {x : Int32} {h : cv_H} {v : Int} (e : x.toInt = v) : ∀ y : Int32, ((some (cv_i x), h) : cv_O).1 = some (cv_i y) → y.toInt = v := fun y q => by
  have q' : some (cv_i x) = some (cv_i y) := q
  cases q'
  exact e
theorem zJ_qt {Kc Kr : cw_K} {E : ef_K} {ie a jc jr : Nat} {wc wr : cw_W} (V : zPp → zQs → Int → Int → List Int32 → Int) (hKc : ∀ Gn, cw_Holds fk_all mt_all cw_Ds cw_sh Gn (cw_PP Gn) Kc) (hKr : ∀ Gn, cw_Holds fk_all mt_all cw_Ds cw_sh Gn (cw_PP Gn) Kr) (koc : zkqc Kc E ie a) (kor : zkr zsl Kr a) (ac : Kc.2.2.1 = some (.inl wc)) (ar : Kr.2.2.1 = some (.inl wr)) (ec : Kc.1.1 = jc) (er : Kr.1.1 = jr)
    (A : ∀ (X : cv_X) (Gn : Int) (h : cv_H) (as : List Int32) (p : zPp) (q : zQs), cw_Xok X → as.length = a → cw_T Gn h → cw_PP Gn h → zGo p q → zCE h p q → cw_X X jc (fun o => ∀ x : Int32, o.1 = some (cv_i x) → x.toInt = V p q (ri_at h 86 9) (ri_at h 86 10) as) 0 (cv_ent 0 (cv_r 0 :: as.map cv_i)) [] h)
    (B : ∀ (X : cv_X) (Gn : Int) (h : cv_H) (as : List Int32) (p : zPp) (q : zQs), cw_Xok X → as.length = a → cw_T Gn h → cw_PP Gn h → zGo p q → zRQ h p q → cw_X X jr (fun o => ∀ x : Int32, o.1 = some (cv_i x) → x.toInt = V p q (ri_at h 111 52) (ri_at h 111 53) as) 0 (cv_ent 0 (cv_r 111 :: as.map cv_i)) [] h) : zJ jc jr a true := by
  subst ec er
  intro X Gn h as hX ha hT hP he
  subst ha
  have he0 := he
  obtain ⟨-, no, p, q, go, ce, rq⟩ := he
  refine cw_X_imp (cw_X_and (A X Gn h as p q hX rfl hT hP go ce) (zq_c (hKc Gn) koc hX hT hP ce.1.1 ce.1.2.1)) (fun o w => ?_)
  obtain ⟨wA, po, z⟩ := w
  have hP1 := po.2.1.2
  have hF1 := po.2.2.1
  obtain ⟨x, h1, rfl, -, hT1, -⟩ := po_int po ac
  refine ⟨x, h1, rfl, hT1, hF1.1 149 rfl, ?_⟩
  refine cw_X_imp (cw_X_and (B X Gn h1 as p q hX rfl hT1 hP1 go (zRQ_c z.1 rq)) (zqr_x (hKr Gn) kor hX hT1 hP1)) (fun o w => ?_)
  obtain ⟨wB, po2, z2⟩ := w
  have hP2 := po2.2.1.2
  have hF2 := po2.2.2.1
  obtain ⟨y, h2, rfl, -, hT2, -⟩ := po_int po2 ar
  have a1 := wA x rfl
  have b1 := wB y rfl
  have e9 : ri_at h1 111 52 = ri_at h 111 52 := ri_eq (z.1 111 52 (by decide) (by decide))
  have e10 : ri_at h1 111 53 = ri_at h 111 53 := ri_eq (z.1 111 53 (by decide) (by decide))
  rw [e9, e10, ← no.1, ← no.2] at b1
  exact ⟨y, Gn, h2, rfl, hT2, hP2, lg_E_R (lg_E_C he0 z) z2, (hF2.1 149 rfl).trans (hF1.1 149 rfl), fun _ => Int32.toInt_inj.mp (a1.trans b1.symm)⟩
/-- a work's cost, kind, number -/
def zWv (c k n : Int) (what : Int) : Int := if what = 0 then c else if what = 1 then k else n
/-- what works of a set cost -/
def zCo (wc : Nat → Int) (S : Nat) : Nat → Int
  | 0 => 0
  | n + 1 => zCo wc S n + (if S.testBit n = true then wc n else 0)
theorem zCo_b {wc : Nat → Int} {S : Nat} : ∀ n, (∀ w, w < n → 1 ≤ wc w ∧ wc w ≤ 999) → 0 ≤ zCo wc S n ∧ zCo wc S n ≤ 999 * n
  | 0, _ => ⟨Int.le_refl 0, Int.le_refl _⟩
  | n + 1, h => by
    have a := zCo_b (wc := wc) (S := S) n (fun w q => h w (by omega))
    have b := h n (by omega)
    unfold zCo
    split <;> omega
theorem zCo_y {wc : Nat → Int} {S n : Nat} (h : S.testBit n = true) : zCo wc S (n + 1) = zCo wc S n + wc n := by
  rw [zCo, if_pos h]
theorem zCo_n {wc : Nat → Int} {S n : Nat} (h : ¬ S.testBit n = true) : zCo wc S (n + 1) = zCo wc S n := by
  rw [zCo, if_neg h]; omega
def zCA2 (wc : Nat → Int) (nw : Nat) (D : Nat → Int) : Nat → Int
  | 0 => 0
  | g + 1 => zCA2 wc nw D g + zCo wc (D g).toNat nw
theorem zCA2_b {wc : Nat → Int} {nw : Nat} {D : Nat → Int} (hnw : nw ≤ 6) (h : ∀ w, w < nw → 1 ≤ wc w ∧ wc w ≤ 999) : ∀ n, 0 ≤ zCA2 wc nw D n ∧ zCA2 wc nw D n ≤ 6000 * n
  | 0 => ⟨Int.le_refl 0, Int.le_refl _⟩
  | n + 1 => by
    have a := zCA2_b (D := D) hnw h n
    have b := zCo_b (S := (D n).toNat) nw h
    unfold zCA2
    omega
theorem zCA2_e {wc : Nat → Int} {nw : Nat} {D D' : Nat → Int} : ∀ n, (∀ g, g < n → D g = D' g) → zCA2 wc nw D n = zCA2 wc nw D' n
  | 0, _ => rfl
  | n + 1, h => by unfold zCA2; rw [zCA2_e n (fun g q => h g (by omega)), h n (by omega)]
theorem zGo_c {p : zPp} {q : zQs} (go : zGo p q) : ∀ w, w < znw p → 1 ≤ zpw p 9 w ∧ zpw p 9 w ≤ 999 := fun w hw => (go.1.1.2.1 w hw).1
section GN
variable {G : Int} {X : cv_X} {Q : cv_O → Prop} {h0 h : cv_H}
theorem oq_X11_firm_0 : cw_ho 120 0 (.iload_n 1) 1 0 0 0 := rfl
theorem oq_X11_firm_1 : cw_ho 120 1 (.invokestatic 220) 3 118 1 0 := rfl
theorem oq_X11_firm_4 : cw_ho 120 4 (.ifCond .eq 14) 3 0 0 0 := rfl
theorem oq_X11_firm_7 : cw_ho 120 7 (.aload_n 0) 1 0 0 0 := rfl
theorem oq_X11_firm_8 : cw_ho 120 8 (.getfield 18) 3 11 2 4 := rfl
theorem oq_X11_firm_11 : cw_ho 120 11 (.iload_n 1) 1 0 0 0 := rfl
theorem oq_X11_firm_12 : cw_ho 120 12 (.invokevirtual 223) 3 53 1 4 := rfl
theorem oq_X11_firm_15 : cw_ho 120 15 (.goto 4) 3 0 0 0 := rfl
theorem oq_X11_firm_18 : cw_ho 120 18 (.iconst (-1)) 1 0 0 0 := rfl
theorem oq_X11_firm_19 : cw_ho 120 19 (.ireturn) 1 0 0 0 := rfl
theorem cq_firm (hT : cw_T G h) {b RG : Nat} (hk0 : cw_sh[b]? = some 4) (hp2 : cw_at h 0 2 = some (cv_r b)) (hRG : cw_sh[RG]? = some 28) (pG : cw_at h b 0 = some (cv_r RG)) {f : Nat → Int} (hG : ∀ j, j < 12 → ri_at h RG j = f j) {w : Int32} (hQ1 : ∀ x : Int32, x.toInt = -1 → ¬ (0 ≤ w.toInt ∧ w.toInt < 2000) → Q (some (cv_i x), h)) (hQ2 : (0 ≤ w.toInt ∧ w.toInt < 2000) → ∀ x : Int32, x.toInt = gFirm f w.toInt → Q (some (cv_i x), h)) : cw_X X 120 Q 0 (cv_ent 0 [cv_r 0, cv_i w]) [] h := by
  refine ex_il oq_X11_firm_0 rfl ?_
  refine ex_cs oq_X11_firm_1 (by decide) (as := [cv_i w]) (stk := []) rfl rfl rfl ⟨rfl, rfl⟩ (R := fun o => ∃ x : Int32, o = (some (cv_i x), h) ∧ (x.toInt = 1 ∧ (0 ≤ w.toInt ∧ w.toInt < 2000) ∨ x.toInt = 0 ∧ ¬ (0 ≤ w.toInt ∧ w.toInt < 2000))) (ct_isWeek w (fun x q => ⟨x, rfl, q⟩)) (fun o ho => ?_)
  obtain ⟨x101, rfl, dx101⟩ := ho
  show cw_X _ _ _ _ _ [cv_i x101] h
  refine ex_if0 oq_X11_firm_4 (t := 18) rfl rfl (fun (c102 : x101.toInt = 0) => ?_) (fun (c102 : ¬ (x101.toInt = 0)) => ?_)
  · refine ex_ic oq_X11_firm_18 (m := (-1)) (by decide) (fun x103 hx103 => ?_)
    exact ex_reti oq_X11_firm_19 rfl (hQ1 x103 (by omega) (by omega))
  · refine ex_al oq_X11_firm_7 rfl ?_
    refine ex_gf oq_X11_firm_8 hT (k := 0) (d := 11) rfl rfl (hp2) ?_
    refine ex_il oq_X11_firm_11 rfl ?_
    refine ex_cv oq_X11_firm_12 (by decide) hT (k := b) (d := 4) (as := [cv_i w]) (stk := []) hk0 rfl rfl rfl rfl rfl ⟨rfl, rfl⟩ (R := fun o => ∃ x : Int32, o = (some (cv_i x), h) ∧ x.toInt = gFirm f w.toInt) (cg_firmIn hT hk0 hRG pG hG (by omega) (fun x q => ⟨x, rfl, q⟩)) (fun o ho => ?_)
    obtain ⟨x104, rfl, hx104⟩ := ho
    show cw_X _ _ _ _ _ [cv_i x104] h
    refine ex_go oq_X11_firm_15 (t := 19) rfl rfl ?_
    exact ex_reti oq_X11_firm_19 rfl (hQ2 (by omega) x104 hx104)
theorem oq_X12_firm_0 : cw_ho 220 0 (.aload_n 0) 1 0 0 0 := rfl
theorem oq_X12_firm_1 : cw_ho 220 1 (.iconst 0) 1 0 0 0 := rfl
theorem oq_X12_firm_2 : cw_ho 220 2 (.putfield 136) 3 12 2 0 := rfl
theorem oq_X12_firm_5 : cw_ho 220 5 (.iload_n 1) 1 0 0 0 := rfl
theorem oq_X12_firm_6 : cw_ho 220 6 (.iconst 0) 1 0 0 0 := rfl
theorem oq_X12_firm_7 : cw_ho 220 7 (.sipush 1999) 3 0 0 0 := rfl
theorem oq_X12_firm_10 : cw_ho 220 10 (.invokestatic 180) 3 156 3 0 := rfl
theorem oq_X12_firm_13 : cw_ho 220 13 (.ifCond .eq 11) 3 0 0 0 := rfl
theorem oq_X12_firm_16 : cw_ho 220 16 (.aload_n 0) 1 0 0 0 := rfl
theorem oq_X12_firm_17 : cw_ho 220 17 (.iload_n 1) 1 0 0 0 := rfl
theorem oq_X12_firm_18 : cw_ho 220 18 (.invokevirtual 383) 3 207 1 12 := rfl
theorem oq_X12_firm_21 : cw_ho 220 21 (.goto 4) 3 0 0 0 := rfl
theorem oq_X12_firm_24 : cw_ho 220 24 (.iconst (-1)) 1 0 0 0 := rfl
theorem oq_X12_firm_25 : cw_ho 220 25 (.ireturn) 1 0 0 0 := rfl
theorem rq_firm (hT : cw_T G h) {f : Nat → Int} (hG : ∀ j, j < 12 → ri_at h 114 j = f j) {w : Int32} (hQ1 : ∀ (x : Int32) h', x.toInt = -1 → ¬ (0 ≤ w.toInt ∧ w.toInt < 2000) → Q (some (cv_i x), h')) (hQ2 : (0 ≤ w.toInt ∧ w.toInt < 2000) → ∀ (x : Int32) h', x.toInt = gFirm f w.toInt → Q (some (cv_i x), h')) : cw_X X 220 Q 0 (cv_ent 0 [cv_r 111, cv_i w]) [] h := by
  refine ex_al oq_X12_firm_0 rfl ?_
  refine ex_ic oq_X12_firm_1 (m := 0) (by decide) (fun x101 hx101 => ?_)
  refine ex_pfi oq_X12_firm_2 hT (k := 111) (d := 12) rfl rfl rfl (cw_i32 _).1 (cw_i32 _).2 (fun h102 Th102 wh102 => ?_)
  have eh102_111_2 : ri_at h102 111 2 = x101.toInt := ri_self wh102
  refine ex_il oq_X12_firm_5 rfl ?_
  refine ex_ic oq_X12_firm_6 (m := 0) (by decide) (fun x103 hx103 => ?_)
  refine ex_si oq_X12_firm_7 (m := 1999) (by decide) (fun x104 hx104 => ?_)
  refine ex_cs oq_X12_firm_10 (by decide) (as := [cv_i w, cv_i x103, cv_i x104]) (stk := []) rfl rfl rfl ⟨rfl, rfl⟩ (R := fun o => ∃ x : Int32, o = (some (cv_i x), h102) ∧ (x.toInt = 1 ∧ x103.toInt ≤ w.toInt ∧ w.toInt ≤ x104.toInt ∨ x.toInt = 0 ∧ (w.toInt < x103.toInt ∨ x104.toInt < w.toInt))) (rt_isIn w x103 x104 (fun x q => ⟨x, rfl, q⟩)) (fun o ho => ?_)
  obtain ⟨x105, rfl, dx105⟩ := ho
  show cw_X _ _ _ _ _ [cv_i x105] h102
  refine ex_if0 oq_X12_firm_13 (t := 24) rfl rfl (fun (c106 : x105.toInt = 0) => ?_) (fun (c106 : ¬ (x105.toInt = 0)) => ?_)
  · refine ex_ic oq_X12_firm_24 (m := (-1)) (by decide) (fun x107 hx107 => ?_)
    exact ex_reti oq_X12_firm_25 rfl (hQ1 x107 _ (by omega) (by omega))
  · refine ex_al oq_X12_firm_16 rfl ?_
    refine ex_il oq_X12_firm_17 rfl ?_
    refine ex_cv oq_X12_firm_18 (by decide) Th102 (k := 111) (d := 12) (as := [cv_i w]) (stk := []) rfl rfl rfl rfl rfl rfl ⟨rfl, rfl⟩ (R := fun o => ∃ x : Int32, o = (some (cv_i x), h102) ∧ x.toInt = gFirm f w.toInt) (rg_firm Th102 (fun j q => (ri_ne wh102 (.inl (by decide))).trans (hG j q)) (by omega) (fun x q => ⟨x, rfl, q⟩)) (fun o ho => ?_)
    obtain ⟨x108, rfl, hx108⟩ := ho
    show cw_X _ _ _ _ _ [cv_i x108] h102
    refine ex_go oq_X12_firm_21 (t := 25) rfl rfl ?_
    exact ex_reti oq_X12_firm_25 rfl (hQ2 (by omega) x108 _ hx108)
theorem oq_X11_works_0 : cw_ho 119 0 (.aload_n 0) 1 0 0 0 := rfl
theorem oq_X11_works_1 : cw_ho 119 1 (.getfield 18) 3 11 2 4 := rfl
theorem oq_X11_works_4 : cw_ho 119 4 (.iload_n 1) 1 0 0 0 := rfl
theorem oq_X11_works_5 : cw_ho 119 5 (.invokevirtual 208) 3 50 1 4 := rfl
theorem oq_X11_works_8 : cw_ho 119 8 (.ifCond .eq 12) 3 0 0 0 := rfl
theorem oq_X11_works_11 : cw_ho 119 11 (.iload_n 2) 1 0 0 0 := rfl
theorem oq_X11_works_12 : cw_ho 119 12 (.ifCond .lt 8) 3 0 0 0 := rfl
theorem oq_X11_works_15 : cw_ho 119 15 (.iload_n 2) 1 0 0 0 := rfl
theorem oq_X11_works_16 : cw_ho 119 16 (.iconst 2) 1 0 0 0 := rfl
theorem oq_X11_works_17 : cw_ho 119 17 (.if_icmp .le 5) 3 0 0 0 := rfl
theorem oq_X11_works_20 : cw_ho 119 20 (.iconst (-1)) 1 0 0 0 := rfl
theorem oq_X11_works_21 : cw_ho 119 21 (.ireturn) 1 0 0 0 := rfl
theorem oq_X11_works_22 : cw_ho 119 22 (.iload_n 2) 1 0 0 0 := rfl
theorem oq_X11_works_23 : cw_ho 119 23 (.ifCond .ne 13) 3 0 0 0 := rfl
theorem oq_X11_works_26 : cw_ho 119 26 (.aload_n 0) 1 0 0 0 := rfl
theorem oq_X11_works_27 : cw_ho 119 27 (.getfield 18) 3 11 2 4 := rfl
theorem oq_X11_works_30 : cw_ho 119 30 (.getfield 211) 3 4 11 4 := rfl
theorem oq_X11_works_33 : cw_ho 119 33 (.iload_n 1) 1 0 0 0 := rfl
theorem oq_X11_works_34 : cw_ho 119 34 (.iaload) 1 0 0 0 := rfl
theorem oq_X11_works_35 : cw_ho 119 35 (.ireturn) 1 0 0 0 := rfl
theorem oq_X11_works_36 : cw_ho 119 36 (.iload_n 2) 1 0 0 0 := rfl
theorem oq_X11_works_37 : cw_ho 119 37 (.iconst 1) 1 0 0 0 := rfl
theorem oq_X11_works_38 : cw_ho 119 38 (.if_icmp .ne 15) 3 0 0 0 := rfl
theorem oq_X11_works_41 : cw_ho 119 41 (.aload_n 0) 1 0 0 0 := rfl
theorem oq_X11_works_42 : cw_ho 119 42 (.getfield 18) 3 11 2 4 := rfl
theorem oq_X11_works_45 : cw_ho 119 45 (.getfield 214) 3 4 12 4 := rfl
theorem oq_X11_works_48 : cw_ho 119 48 (.iload_n 1) 1 0 0 0 := rfl
theorem oq_X11_works_49 : cw_ho 119 49 (.iaload) 1 0 0 0 := rfl
theorem oq_X11_works_50 : cw_ho 119 50 (.goto 12) 3 0 0 0 := rfl
theorem oq_X11_works_53 : cw_ho 119 53 (.aload_n 0) 1 0 0 0 := rfl
theorem oq_X11_works_54 : cw_ho 119 54 (.getfield 18) 3 11 2 4 := rfl
theorem oq_X11_works_57 : cw_ho 119 57 (.getfield 217) 3 4 13 4 := rfl
theorem oq_X11_works_60 : cw_ho 119 60 (.iload_n 1) 1 0 0 0 := rfl
theorem oq_X11_works_61 : cw_ho 119 61 (.iaload) 1 0 0 0 := rfl
theorem oq_X11_works_62 : cw_ho 119 62 (.ireturn) 1 0 0 0 := rfl
theorem cq_works (hT : cw_T G h) {b nw : Nat} {wc wk wn : Nat → Int} (hb : b = 2 ∨ b = 26) (hp2 : cw_at h 0 2 = some (cv_r b)) (kQ : zKQ h b) (hS : zKS h b nw wc wk wn) (hnw : nw ≤ 6) {w what : Int32} (hQ1 : ∀ x : Int32, x.toInt = -1 → ¬ ((0 ≤ w.toInt ∧ w.toInt < (nw : Int)) ∧ 0 ≤ what.toInt ∧ what.toInt ≤ 2) → Q (some (cv_i x), h)) (hQ2 : ∀ wi : Nat, w.toInt = wi → wi < nw → 0 ≤ what.toInt ∧ what.toInt ≤ 2 → ∀ x : Int32, x.toInt = zWv (wc wi) (wk wi) (wn wi) what.toInt → Q (some (cv_i x), h)) : cw_X X 119 Q 0 (cv_ent 0 [cv_r 0, cv_i w, cv_i what]) [] h := by
  have hk0 := (zKi hb).1
  refine ex_al oq_X11_works_0 rfl ?_
  refine ex_gf oq_X11_works_1 hT (k := 0) (d := 11) rfl rfl (hp2) ?_
  refine ex_il oq_X11_works_4 rfl ?_
  refine ex_cv oq_X11_works_5 (by decide) hT (k := b) (d := 4) (as := [cv_i w]) (stk := []) hk0 rfl rfl rfl rfl rfl ⟨rfl, rfl⟩ (R := fun o => ∃ x : Int32, o = (some (cv_i x), h) ∧ (x.toInt = 1 ∧ (0 ≤ w.toInt ∧ w.toInt < (nw : Int)) ∨ x.toInt = 0 ∧ ¬ (0 ≤ w.toInt ∧ w.toInt < (nw : Int)))) (cg_isWork hT hk0 hS.1 hnw w (fun x q => ⟨x, rfl, q⟩)) (fun o ho => ?_)
  obtain ⟨x101, rfl, dx101⟩ := ho
  show cw_X _ _ _ _ _ [cv_i x101] h
  refine ex_if0 oq_X11_works_8 (t := 20) rfl rfl (fun (c102 : x101.toInt = 0) => ?_) (fun (c102 : ¬ (x101.toInt = 0)) => ?_)
  · refine ex_ic oq_X11_works_20 (m := (-1)) (by decide) (fun x103 hx103 => ?_)
    exact ex_reti oq_X11_works_21 rfl (hQ1 x103 (by omega) (fun q => by omega))
  · obtain ⟨wi, hwi⟩ : ∃ wi : Nat, w.toInt = wi := ⟨w.toInt.toNat, by omega⟩
    have hwl : wi < nw := by omega
    obtain ⟨kW1, kW2, kW3⟩ := hS.2 wi hwl
    refine ex_il oq_X11_works_11 rfl ?_
    refine ex_if0 oq_X11_works_12 (t := 20) rfl rfl (fun (c104 : what.toInt < 0) => ?_) (fun (c104 : ¬ (what.toInt < 0)) => ?_)
    · refine ex_ic oq_X11_works_20 (m := (-1)) (by decide) (fun x105 hx105 => ?_)
      exact ex_reti oq_X11_works_21 rfl (hQ1 x105 (by omega) (fun q => by omega))
    · refine ex_il oq_X11_works_15 rfl ?_
      refine ex_ic oq_X11_works_16 (m := 2) (by decide) (fun x106 hx106 => ?_)
      refine ex_if oq_X11_works_17 (t := 22) rfl rfl (fun (c107 : what.toInt ≤ x106.toInt) => ?_) (fun (c107 : ¬ (what.toInt ≤ x106.toInt)) => ?_)
      · refine ex_il oq_X11_works_22 rfl ?_
        refine ex_if0 oq_X11_works_23 (t := 36) rfl rfl (fun (c108 : ¬ what.toInt = 0) => ?_) (fun (c108 : ¬ (¬ what.toInt = 0)) => ?_)
        · refine ex_il oq_X11_works_36 rfl ?_
          refine ex_ic oq_X11_works_37 (m := 1) (by decide) (fun x109 hx109 => ?_)
          refine ex_if oq_X11_works_38 (t := 53) rfl rfl (fun (c110 : ¬ what.toInt = x109.toInt) => ?_) (fun (c110 : ¬ (¬ what.toInt = x109.toInt)) => ?_)
          · refine ex_al oq_X11_works_53 rfl ?_
            refine ex_gf oq_X11_works_54 hT (k := 0) (d := 11) rfl rfl (hp2) ?_
            refine ex_gf oq_X11_works_57 hT (k := b) (d := 4) hk0 rfl (kQ.2.2.2.1) ?_
            refine ex_il oq_X11_works_60 rfl ?_
            refine ex_ia1 oq_X11_works_61 hT (k := (b + 11)) (d := 38) (j := wi) (zKi_9 hb).2.2.2 rfl (by omega) (by omega) (fun x111 hx111 lx111 ux111 => ?_)
            exact ex_reti oq_X11_works_62 rfl (hQ2 wi hwi hwl (by omega) x111 (by unfold zWv; split <;> (try split) <;> omega))
          · refine ex_al oq_X11_works_41 rfl ?_
            refine ex_gf oq_X11_works_42 hT (k := 0) (d := 11) rfl rfl (hp2) ?_
            refine ex_gf oq_X11_works_45 hT (k := b) (d := 4) hk0 rfl (kQ.2.2.1) ?_
            refine ex_il oq_X11_works_48 rfl ?_
            refine ex_ia1 oq_X11_works_49 hT (k := (b + 10)) (d := 37) (j := wi) (zKi_9 hb).2.2.1 rfl (by omega) (by omega) (fun x112 hx112 lx112 ux112 => ?_)
            refine ex_go oq_X11_works_50 (t := 62) rfl rfl ?_
            exact ex_reti oq_X11_works_62 rfl (hQ2 wi hwi hwl (by omega) x112 (by unfold zWv; split <;> (try split) <;> omega))
        · refine ex_al oq_X11_works_26 rfl ?_
          refine ex_gf oq_X11_works_27 hT (k := 0) (d := 11) rfl rfl (hp2) ?_
          refine ex_gf oq_X11_works_30 hT (k := b) (d := 4) hk0 rfl (kQ.2.1) ?_
          refine ex_il oq_X11_works_33 rfl ?_
          refine ex_ia1 oq_X11_works_34 hT (k := (b + 9)) (d := 36) (j := wi) (zKi_9 hb).2.1 rfl (by omega) (by omega) (fun x113 hx113 lx113 ux113 => ?_)
          exact ex_reti oq_X11_works_35 rfl (hQ2 wi hwi hwl (by omega) x113 (by unfold zWv; split <;> (try split) <;> omega))
      · refine ex_ic oq_X11_works_20 (m := (-1)) (by decide) (fun x114 hx114 => ?_)
        exact ex_reti oq_X11_works_21 rfl (hQ1 x114 (by omega) (fun q => by omega))
theorem zRS_v {nw : Nat} {wc wk wn : Nat → Int} (a : zRS h nw wc wk wn) {w j : Nat} (hw : w < nw) (hj : j ≤ 2) : ri_at h 122 (3 * w + j) = zWv (wc w) (wk w) (wn w) j := by
  obtain ⟨a1, a2, a3⟩ := a.2 w hw
  match j, hj with
  | 0, _ => exact a1
  | 1, _ => exact a2
  | 2, _ => exact a3
theorem oq_X12_works_0 : cw_ho 219 0 (.aload_n 0) 1 0 0 0 := rfl
theorem oq_X12_works_1 : cw_ho 219 1 (.iconst 0) 1 0 0 0 := rfl
theorem oq_X12_works_2 : cw_ho 219 2 (.putfield 136) 3 12 2 0 := rfl
theorem oq_X12_works_5 : cw_ho 219 5 (.iload_n 1) 1 0 0 0 := rfl
theorem oq_X12_works_6 : cw_ho 219 6 (.ifCond .lt 20) 3 0 0 0 := rfl
theorem oq_X12_works_9 : cw_ho 219 9 (.iload_n 1) 1 0 0 0 := rfl
theorem oq_X12_works_10 : cw_ho 219 10 (.aload_n 0) 1 0 0 0 := rfl
theorem oq_X12_works_11 : cw_ho 219 11 (.getfield 219) 3 12 13 0 := rfl
theorem oq_X12_works_14 : cw_ho 219 14 (.if_icmp .ge 12) 3 0 0 0 := rfl
theorem oq_X12_works_17 : cw_ho 219 17 (.iload_n 2) 1 0 0 0 := rfl
theorem oq_X12_works_18 : cw_ho 219 18 (.iconst 0) 1 0 0 0 := rfl
theorem oq_X12_works_19 : cw_ho 219 19 (.iconst 2) 1 0 0 0 := rfl
theorem oq_X12_works_20 : cw_ho 219 20 (.invokestatic 180) 3 156 3 0 := rfl
theorem oq_X12_works_23 : cw_ho 219 23 (.ifCond .ne 7) 3 0 0 0 := rfl
theorem oq_X12_works_26 : cw_ho 219 26 (.iconst (-1)) 1 0 0 0 := rfl
theorem oq_X12_works_27 : cw_ho 219 27 (.goto 13) 3 0 0 0 := rfl
theorem oq_X12_works_30 : cw_ho 219 30 (.aload_n 0) 1 0 0 0 := rfl
theorem oq_X12_works_31 : cw_ho 219 31 (.getfield 45) 3 12 29 4 := rfl
theorem oq_X12_works_34 : cw_ho 219 34 (.iconst 3) 1 0 0 0 := rfl
theorem oq_X12_works_35 : cw_ho 219 35 (.iload_n 1) 1 0 0 0 := rfl
theorem oq_X12_works_36 : cw_ho 219 36 (.imul) 1 0 0 0 := rfl
theorem oq_X12_works_37 : cw_ho 219 37 (.iload_n 2) 1 0 0 0 := rfl
theorem oq_X12_works_38 : cw_ho 219 38 (.iadd) 1 0 0 0 := rfl
theorem oq_X12_works_39 : cw_ho 219 39 (.iaload) 1 0 0 0 := rfl
theorem oq_X12_works_40 : cw_ho 219 40 (.ireturn) 1 0 0 0 := rfl
theorem rq_works (hT : cw_T G h) {nw : Nat} {wc wk wn : Nat → Int} (hS : zRS h nw wc wk wn) (hnw : nw ≤ 6) {w what : Int32} (hQ1 : ∀ (x : Int32) h', x.toInt = -1 → ¬ ((0 ≤ w.toInt ∧ w.toInt < (nw : Int)) ∧ 0 ≤ what.toInt ∧ what.toInt ≤ 2) → Q (some (cv_i x), h')) (hQ2 : ∀ wi : Nat, w.toInt = wi → wi < nw → 0 ≤ what.toInt ∧ what.toInt ≤ 2 → ∀ (x : Int32) h', x.toInt = zWv (wc wi) (wk wi) (wn wi) what.toInt → Q (some (cv_i x), h')) : cw_X X 219 Q 0 (cv_ent 0 [cv_r 111, cv_i w, cv_i what]) [] h := by
  refine ex_al oq_X12_works_0 rfl ?_
  refine ex_ic oq_X12_works_1 (m := 0) (by decide) (fun x101 hx101 => ?_)
  refine ex_pfi oq_X12_works_2 hT (k := 111) (d := 12) rfl rfl rfl (cw_i32 _).1 (cw_i32 _).2 (fun h102 Th102 wh102 => ?_)
  have eh102_111_13 : ri_at h102 111 13 = (nw : Int) := (ri_ne wh102 (.inr (by decide))).trans hS.1
  have eh102_111_2 : ri_at h102 111 2 = x101.toInt := ri_self wh102
  refine ex_il oq_X12_works_5 rfl ?_
  refine ex_if0 oq_X12_works_6 (t := 26) rfl rfl (fun (c103 : w.toInt < 0) => ?_) (fun (c103 : ¬ (w.toInt < 0)) => ?_)
  · refine ex_ic oq_X12_works_26 (m := (-1)) (by decide) (fun x104 hx104 => ?_)
    refine ex_go oq_X12_works_27 (t := 40) rfl rfl ?_
    exact ex_reti oq_X12_works_40 rfl (hQ1 x104 _ (by omega) (fun q => by omega))
  · refine ex_il oq_X12_works_9 rfl ?_
    refine ex_al oq_X12_works_10 rfl ?_
    obtain ⟨x105, ax105, rx105, lx105, ux105⟩ := fi_works Th102
    refine ex_gf oq_X12_works_11 Th102 (k := 111) (d := 12) rfl rfl ax105 ?_
    have rx105 := (rx105.symm.trans eh102_111_13 : x105.toInt = (nw : Int))
    refine ex_if oq_X12_works_14 (t := 26) rfl rfl (fun (c106 : x105.toInt ≤ w.toInt) => ?_) (fun (c106 : ¬ (x105.toInt ≤ w.toInt)) => ?_)
    · refine ex_ic oq_X12_works_26 (m := (-1)) (by decide) (fun x107 hx107 => ?_)
      refine ex_go oq_X12_works_27 (t := 40) rfl rfl ?_
      exact ex_reti oq_X12_works_40 rfl (hQ1 x107 _ (by omega) (fun q => by omega))
    · refine ex_il oq_X12_works_17 rfl ?_
      refine ex_ic oq_X12_works_18 (m := 0) (by decide) (fun x108 hx108 => ?_)
      refine ex_ic oq_X12_works_19 (m := 2) (by decide) (fun x109 hx109 => ?_)
      refine ex_cs oq_X12_works_20 (by decide) (as := [cv_i what, cv_i x108, cv_i x109]) (stk := []) rfl rfl rfl ⟨rfl, rfl⟩ (R := fun o => ∃ x : Int32, o = (some (cv_i x), h102) ∧ (x.toInt = 1 ∧ x108.toInt ≤ what.toInt ∧ what.toInt ≤ x109.toInt ∨ x.toInt = 0 ∧ (what.toInt < x108.toInt ∨ x109.toInt < what.toInt))) (rt_isIn what x108 x109 (fun x q => ⟨x, rfl, q⟩)) (fun o ho => ?_)
      obtain ⟨x110, rfl, dx110⟩ := ho
      show cw_X _ _ _ _ _ [cv_i x110] h102
      refine ex_if0 oq_X12_works_23 (t := 30) rfl rfl (fun (c111 : ¬ x110.toInt = 0) => ?_) (fun (c111 : ¬ (¬ x110.toInt = 0)) => ?_)
      · obtain ⟨wi, hwi⟩ : ∃ wi : Nat, w.toInt = wi := ⟨w.toInt.toNat, by omega⟩
        have hwl : wi < nw := by omega
        obtain ⟨wj, hwj⟩ : ∃ wj : Nat, what.toInt = wj := ⟨what.toInt.toNat, by omega⟩
        have kW := zRS_v hS hwl (j := wj) (by omega)
        refine ex_al oq_X12_works_30 rfl ?_
        refine ex_gf oq_X12_works_31 Th102 (k := 111) (d := 12) rfl rfl (fr_workHas Th102) ?_
        refine ex_ic oq_X12_works_34 (m := 3) (by decide) (fun x112 hx112 => ?_)
        refine ex_il oq_X12_works_35 rfl ?_
        refine ex_mul oq_X12_works_36 (m := 3 * w.toInt) (by rw [hx112]) (by omega) (fun x113 hx113 => ?_)
        refine ex_il oq_X12_works_37 rfl ?_
        refine ex_add oq_X12_works_38 (by omega) (fun x114 hx114 => ?_)
        refine ex_iap oq_X12_works_39 Th102 (k := 122) (d := 61) (j := 3 * wi + wj) rfl rfl (by omega) (by omega) (fun x115 hx115 => ?_)
        exact ex_reti oq_X12_works_40 rfl (hQ2 wi hwi hwl (by omega) x115 _ (by rw [hwj]; exact (hx115.symm.trans (ri_ne wh102 (.inl (by decide)))).trans kW))
      · refine ex_ic oq_X12_works_26 (m := (-1)) (by decide) (fun x116 hx116 => ?_)
        refine ex_go oq_X12_works_27 (t := 40) rfl rfl ?_
        exact ex_reti oq_X12_works_40 rfl (hQ1 x116 _ (by omega) (fun q => by omega))
theorem oq_X4_costOf_4 : cw_ho 55 4 (.iload_n 3) 1 0 0 0 := rfl
theorem oq_X4_costOf_5 : cw_ho 55 5 (.aload_n 0) 1 0 0 0 := rfl
theorem oq_X4_costOf_6 : cw_ho 55 6 (.getfield 75) 3 4 14 0 := rfl
theorem oq_X4_costOf_9 : cw_ho 55 9 (.if_icmp .ge 32) 3 0 0 0 := rfl
theorem oq_X4_costOf_12 : cw_ho 55 12 (.iload_n 3) 1 0 0 0 := rfl
theorem oq_X4_costOf_13 : cw_ho 55 13 (.bipush 6) 2 0 0 0 := rfl
theorem oq_X4_costOf_15 : cw_ho 55 15 (.if_icmp .ge 26) 3 0 0 0 := rfl
theorem oq_X4_costOf_18 : cw_ho 55 18 (.iload_n 1) 1 0 0 0 := rfl
theorem oq_X4_costOf_19 : cw_ho 55 19 (.iconst 1) 1 0 0 0 := rfl
theorem oq_X4_costOf_20 : cw_ho 55 20 (.iload_n 3) 1 0 0 0 := rfl
theorem oq_X4_costOf_21 : cw_ho 55 21 (.ishl) 1 0 0 0 := rfl
theorem oq_X4_costOf_22 : cw_ho 55 22 (.iand) 1 0 0 0 := rfl
theorem oq_X4_costOf_23 : cw_ho 55 23 (.ifCond .eq 12) 3 0 0 0 := rfl
theorem oq_X4_costOf_26 : cw_ho 55 26 (.iload_n 2) 1 0 0 0 := rfl
theorem oq_X4_costOf_27 : cw_ho 55 27 (.aload_n 0) 1 0 0 0 := rfl
theorem oq_X4_costOf_28 : cw_ho 55 28 (.getfield 39) 3 4 11 4 := rfl
theorem oq_X4_costOf_31 : cw_ho 55 31 (.iload_n 3) 1 0 0 0 := rfl
theorem oq_X4_costOf_32 : cw_ho 55 32 (.iaload) 1 0 0 0 := rfl
theorem oq_X4_costOf_33 : cw_ho 55 33 (.iadd) 1 0 0 0 := rfl
theorem oq_X4_costOf_34 : cw_ho 55 34 (.istore_n 2) 1 0 0 0 := rfl
theorem oq_X4_costOf_35 : cw_ho 55 35 (.iinc 3 1) 3 0 0 0 := rfl
theorem oq_X4_costOf_38 : cw_ho 55 38 (.goto (-34)) 3 0 0 0 := rfl
theorem oq_X4_costOf_41 : cw_ho 55 41 (.iload_n 2) 1 0 0 0 := rfl
theorem oq_X4_costOf_42 : cw_ho 55 42 (.ireturn) 1 0 0 0 := rfl
theorem cg_coL (hT : cw_T G h) {b : Nat} (hk0 : cw_sh[b]? = some 4) (hk9 : cw_sh[b + 9]? = some 36) (pC : cw_at h b 11 = some (cv_r (b + 9))) {nw : Nat} (hn : ri_at h b 14 = nw) (hnw : nw ≤ 6) {wc : Nat → Int} (hw : ∀ w, w < nw → ri_at h (b + 9) w = wc w) (hwb : ∀ w, w < nw → 1 ≤ wc w ∧ wc w ≤ 999) {s : Int32} {S : Nat} (hSS : s.toInt = S) (hS64 : S < 64) (hQ : ∀ x : Int32, x.toInt = zCo wc S nw → Q (some (cv_i x), h)) : ∀ (fu c : Nat) (M C : Int32) (L : cv_L), nw - c = fu → c ≤ nw → C.toInt = c → M.toInt = zCo wc S c → cv_get L 0 = some (cv_r b) → cv_get L 1 = some (cv_i s) → cv_get L 2 = some (cv_i M) → cv_get L 3 = some (cv_i C) → cw_X X 55 Q 4 L [] h := by
  intro fu
  induction fu with
  | zero =>
    intro c M C L hf hcn hC hM g0 g1 g2 g3
    refine ex_il oq_X4_costOf_4 g3 ?_
    refine ex_al oq_X4_costOf_5 g0 ?_
    obtain ⟨x101, ax101, rx101, lx101, ux101⟩ := ri_fld (k := b) (d := 4) (f := 14) hT hk0 rfl rfl
    try dsimp only at lx101 ux101
    refine ex_gf oq_X4_costOf_6 hT (k := b) (d := 4) hk0 rfl ax101 ?_
    have rx101 := (rx101.symm.trans hn : x101.toInt = (nw : Int))
    refine ex_if oq_X4_costOf_9 (t := 41) rfl rfl (fun (c102 : x101.toInt ≤ C.toInt) => ?_) (fun (c102 : ¬ (x101.toInt ≤ C.toInt)) => ?_)
    · refine ex_il oq_X4_costOf_41 g2 ?_
      exact ex_reti oq_X4_costOf_42 rfl (hQ M (by rw [hM, show c = nw from by omega]))
    · exfalso; omega
  | succ fu ih =>
    intro c M C L hf hcn hC hM g0 g1 g2 g3
    have mb := zCo_b (wc := wc) (S := S) c (fun w q => hwb w (by omega))
    have hv1 := hwb c (by omega)
    refine ex_il oq_X4_costOf_4 g3 ?_
    refine ex_al oq_X4_costOf_5 g0 ?_
    obtain ⟨x101, ax101, rx101, lx101, ux101⟩ := ri_fld (k := b) (d := 4) (f := 14) hT hk0 rfl rfl
    try dsimp only at lx101 ux101
    refine ex_gf oq_X4_costOf_6 hT (k := b) (d := 4) hk0 rfl ax101 ?_
    have rx101 := (rx101.symm.trans hn : x101.toInt = (nw : Int))
    refine ex_if oq_X4_costOf_9 (t := 41) rfl rfl (fun (c102 : x101.toInt ≤ C.toInt) => ?_) (fun (c102 : ¬ (x101.toInt ≤ C.toInt)) => ?_)
    · exfalso; omega
    · refine ex_il oq_X4_costOf_12 g3 ?_
      refine ex_bi oq_X4_costOf_13 (m := 6) (by decide) (fun x103 hx103 => ?_)
      refine ex_if oq_X4_costOf_15 (t := 41) rfl rfl (fun (c104 : x103.toInt ≤ C.toInt) => ?_) (fun (c104 : ¬ (x103.toInt ≤ C.toInt)) => ?_)
      · exfalso; omega
      · refine ex_il oq_X4_costOf_18 g1 ?_
        refine ex_ic oq_X4_costOf_19 (m := 1) (by decide) (fun x105 hx105 => ?_)
        refine ex_il oq_X4_costOf_20 g3 ?_
        refine ex_shlE oq_X4_costOf_21 (fun x106 hx106 => ?_)
        refine ex_andE oq_X4_costOf_22 (fun x107 hx107 => ?_)
        refine ex_if0 oq_X4_costOf_23 (t := 35) rfl rfl (fun (c108 : x107.toInt = 0) => ?_) (fun (c108 : ¬ (x107.toInt = 0)) => ?_)
        · have bz := bt_z (show x107.toInt = _ from by rw [hx107, hx106]; exact bt_an (m := S) (j := c) hSS (by omega) hC (by omega) hx105)
          refine ex_incA oq_X4_costOf_35 (v := C) (m := 1) g3 (by decide) (by omega) (fun L110 x109 hx109 gL110_3 kL110 => ?_)
          have gL110_0 : cv_get L110 0 = some (cv_r b) := kL110 0 _ (by decide) (fun q => absurd q (by decide)) g0
          have gL110_1 : cv_get L110 1 = some (cv_i s) := kL110 1 _ (by decide) (fun q => absurd q (by decide)) g1
          have gL110_2 : cv_get L110 2 = some (cv_i M) := kL110 2 _ (by decide) (fun _ => rfl) g2
          refine ex_go oq_X4_costOf_38 (t := 4) rfl rfl ?_
          exact ih (c + 1) M x109 L110 (by omega) (by omega) (by omega) (by rw [zCo_n (bz.1 (by omega))]; omega) gL110_0 gL110_1 gL110_2 gL110_3
        · have bz := bt_z (show x107.toInt = _ from by rw [hx107, hx106]; exact bt_an (m := S) (j := c) hSS (by omega) hC (by omega) hx105)
          refine ex_il oq_X4_costOf_26 g2 ?_
          refine ex_al oq_X4_costOf_27 g0 ?_
          refine ex_gf oq_X4_costOf_28 hT (k := b) (d := 4) hk0 rfl (pC) ?_
          refine ex_il oq_X4_costOf_31 g3 ?_
          refine ex_ia1 oq_X4_costOf_32 hT (k := (b + 9)) (d := 36) (j := c) hk9 rfl (by omega) (by omega) (fun x111 hx111 lx111 ux111 => ?_)
          have hx111 : x111.toInt = wc c := hx111.symm.trans (hw c (by omega))
          refine ex_add oq_X4_costOf_33 (by omega) (fun x112 hx112 => ?_)
          refine ex_isA oq_X4_costOf_34 (fun L113 gL113_2 kL113 => ?_)
          have gL113_0 : cv_get L113 0 = some (cv_r b) := kL113 0 _ (by decide) (fun q => absurd q (by decide)) g0
          have gL113_1 : cv_get L113 1 = some (cv_i s) := kL113 1 _ (by decide) (fun _ => rfl) g1
          have gL113_3 : cv_get L113 3 = some (cv_i C) := kL113 3 _ (by decide) (fun q => absurd q (by decide)) g3
          refine ex_incA oq_X4_costOf_35 (v := C) (m := 1) gL113_3 (by decide) (by omega) (fun L115 x114 hx114 gL115_3 kL115 => ?_)
          have gL115_2 : cv_get L115 2 = some (cv_i x112) := kL115 2 _ (by decide) (fun _ => rfl) gL113_2
          have gL115_0 : cv_get L115 0 = some (cv_r b) := kL115 0 _ (by decide) (fun q => absurd q (by decide)) gL113_0
          have gL115_1 : cv_get L115 1 = some (cv_i s) := kL115 1 _ (by decide) (fun q => absurd q (by decide)) gL113_1
          refine ex_go oq_X4_costOf_38 (t := 4) rfl rfl ?_
          exact ih (c + 1) x112 x114 L115 (by omega) (by omega) (by omega) (by rw [zCo_y (bz.2 (by omega))]; omega) gL115_0 gL115_1 gL115_2 gL115_3
theorem oq_X4_costOf_0 : cw_ho 55 0 (.iconst 0) 1 0 0 0 := rfl
theorem oq_X4_costOf_1 : cw_ho 55 1 (.istore_n 2) 1 0 0 0 := rfl
theorem oq_X4_costOf_2 : cw_ho 55 2 (.iconst 0) 1 0 0 0 := rfl
theorem oq_X4_costOf_3 : cw_ho 55 3 (.istore_n 3) 1 0 0 0 := rfl
theorem cg_costOf (hT : cw_T G h) {b : Nat} (hk0 : cw_sh[b]? = some 4) (hk9 : cw_sh[b + 9]? = some 36) (pC : cw_at h b 11 = some (cv_r (b + 9))) {nw : Nat} (hn : ri_at h b 14 = nw) (hnw : nw ≤ 6) {wc : Nat → Int} (hw : ∀ w, w < nw → ri_at h (b + 9) w = wc w) (hwb : ∀ w, w < nw → 1 ≤ wc w ∧ wc w ≤ 999) {s : Int32} {S : Nat} (hSS : s.toInt = S) (hS64 : S < 64) (hQ : ∀ x : Int32, x.toInt = zCo wc S nw → Q (some (cv_i x), h)) : cw_X X 55 Q 0 (cv_ent 0 [cv_r b, cv_i s]) [] h := by
  refine ex_ic oq_X4_costOf_0 (m := 0) (by decide) (fun x101 hx101 => ?_)
  refine ex_isA oq_X4_costOf_1 (fun L102 gL102_2 kL102 => ?_)
  have gL102_0 : cv_get L102 0 = some (cv_r b) := kL102 0 _ (by decide) (fun q => absurd q (by decide)) rfl
  have gL102_1 : cv_get L102 1 = some (cv_i s) := kL102 1 _ (by decide) (fun _ => rfl) rfl
  refine ex_ic oq_X4_costOf_2 (m := 0) (by decide) (fun x103 hx103 => ?_)
  refine ex_isA oq_X4_costOf_3 (fun L104 gL104_3 kL104 => ?_)
  have gL104_2 : cv_get L104 2 = some (cv_i x101) := kL104 2 _ (by decide) (fun _ => rfl) gL102_2
  have gL104_0 : cv_get L104 0 = some (cv_r b) := kL104 0 _ (by decide) (fun q => absurd q (by decide)) gL102_0
  have gL104_1 : cv_get L104 1 = some (cv_i s) := kL104 1 _ (by decide) (fun q => absurd q (by decide)) gL102_1
  exact cg_coL hT hk0 hk9 pC hn hnw hw hwb hSS hS64 hQ nw 0 x101 x103 L104 (by omega) (by omega) (by omega) (by show _ = (0 : Int); omega) gL104_0 gL104_1 gL104_2 gL104_3
theorem oq_X12_costOf_4 : cw_ho 231 4 (.iload_n 3) 1 0 0 0 := rfl
theorem oq_X12_costOf_5 : cw_ho 231 5 (.aload_n 0) 1 0 0 0 := rfl
theorem oq_X12_costOf_6 : cw_ho 231 6 (.getfield 219) 3 12 13 0 := rfl
theorem oq_X12_costOf_9 : cw_ho 231 9 (.if_icmp .ge 32) 3 0 0 0 := rfl
theorem oq_X12_costOf_12 : cw_ho 231 12 (.iload_n 2) 1 0 0 0 := rfl
theorem oq_X12_costOf_13 : cw_ho 231 13 (.iload_n 1) 1 0 0 0 := rfl
theorem oq_X12_costOf_14 : cw_ho 231 14 (.iload_n 3) 1 0 0 0 := rfl
theorem oq_X12_costOf_15 : cw_ho 231 15 (.invokestatic 272) 3 157 2 0 := rfl
theorem oq_X12_costOf_18 : cw_ho 231 18 (.ifCond .eq 14) 3 0 0 0 := rfl
theorem oq_X12_costOf_21 : cw_ho 231 21 (.aload_n 0) 1 0 0 0 := rfl
theorem oq_X12_costOf_22 : cw_ho 231 22 (.getfield 45) 3 12 29 4 := rfl
theorem oq_X12_costOf_25 : cw_ho 231 25 (.iconst 3) 1 0 0 0 := rfl
theorem oq_X12_costOf_26 : cw_ho 231 26 (.iload_n 3) 1 0 0 0 := rfl
theorem oq_X12_costOf_27 : cw_ho 231 27 (.imul) 1 0 0 0 := rfl
theorem oq_X12_costOf_28 : cw_ho 231 28 (.iaload) 1 0 0 0 := rfl
theorem oq_X12_costOf_29 : cw_ho 231 29 (.goto 4) 3 0 0 0 := rfl
theorem oq_X12_costOf_32 : cw_ho 231 32 (.iconst 0) 1 0 0 0 := rfl
theorem oq_X12_costOf_33 : cw_ho 231 33 (.iadd) 1 0 0 0 := rfl
theorem oq_X12_costOf_34 : cw_ho 231 34 (.istore_n 2) 1 0 0 0 := rfl
theorem oq_X12_costOf_35 : cw_ho 231 35 (.iinc 3 1) 3 0 0 0 := rfl
theorem oq_X12_costOf_38 : cw_ho 231 38 (.goto (-34)) 3 0 0 0 := rfl
theorem oq_X12_costOf_41 : cw_ho 231 41 (.iload_n 2) 1 0 0 0 := rfl
theorem oq_X12_costOf_42 : cw_ho 231 42 (.ireturn) 1 0 0 0 := rfl
theorem rg_coL (hT : cw_T G h) {nw : Nat} (hn : ri_at h 111 13 = nw) (hnw : nw ≤ 6) {wc : Nat → Int} (hw : ∀ w, w < nw → ri_at h 122 (3 * w) = wc w) (hwb : ∀ w, w < nw → 1 ≤ wc w ∧ wc w ≤ 999) {s : Int32} {S : Nat} (hSS : s.toInt = S) (hS64 : S < 64) (hQ : ∀ x : Int32, x.toInt = zCo wc S nw → Q (some (cv_i x), h)) : ∀ (fu c : Nat) (M C : Int32) (L : cv_L), nw - c = fu → c ≤ nw → C.toInt = c → M.toInt = zCo wc S c → cv_get L 0 = some (cv_r 111) → cv_get L 1 = some (cv_i s) → cv_get L 2 = some (cv_i M) → cv_get L 3 = some (cv_i C) → cw_X X 231 Q 4 L [] h := by
  intro fu
  induction fu with
  | zero =>
    intro c M C L hf hcn hC hM g0 g1 g2 g3
    refine ex_il oq_X12_costOf_4 g3 ?_
    refine ex_al oq_X12_costOf_5 g0 ?_
    obtain ⟨x101, ax101, rx101, lx101, ux101⟩ := fi_works hT
    refine ex_gf oq_X12_costOf_6 hT (k := 111) (d := 12) rfl rfl ax101 ?_
    have rx101 := (rx101.symm.trans hn : x101.toInt = (nw : Int))
    refine ex_if oq_X12_costOf_9 (t := 41) rfl rfl (fun (c102 : x101.toInt ≤ C.toInt) => ?_) (fun (c102 : ¬ (x101.toInt ≤ C.toInt)) => ?_)
    · refine ex_il oq_X12_costOf_41 g2 ?_
      exact ex_reti oq_X12_costOf_42 rfl (hQ M (by rw [hM, show c = nw from by omega]))
    · exfalso; omega
  | succ fu ih =>
    intro c M C L hf hcn hC hM g0 g1 g2 g3
    have mb := zCo_b (wc := wc) (S := S) c (fun w q => hwb w (by omega))
    have hv1 := hwb c (by omega)
    refine ex_il oq_X12_costOf_4 g3 ?_
    refine ex_al oq_X12_costOf_5 g0 ?_
    obtain ⟨x101, ax101, rx101, lx101, ux101⟩ := fi_works hT
    refine ex_gf oq_X12_costOf_6 hT (k := 111) (d := 12) rfl rfl ax101 ?_
    have rx101 := (rx101.symm.trans hn : x101.toInt = (nw : Int))
    refine ex_if oq_X12_costOf_9 (t := 41) rfl rfl (fun (c102 : x101.toInt ≤ C.toInt) => ?_) (fun (c102 : ¬ (x101.toInt ≤ C.toInt)) => ?_)
    · exfalso; omega
    · refine ex_il oq_X12_costOf_12 g2 ?_
      refine ex_il oq_X12_costOf_13 g1 ?_
      refine ex_il oq_X12_costOf_14 g3 ?_
      refine ex_cs oq_X12_costOf_15 (by decide) (as := [cv_i s, cv_i C]) (stk := [cv_i M]) rfl rfl rfl ⟨rfl, rfl⟩ (R := fun o => ∃ x : Int32, o = (some (cv_i x), h) ∧ (x.toInt = 1 ∧ S.testBit c = true ∨ x.toInt = 0 ∧ ¬ S.testBit c = true)) (rt_isOf hSS (by omega) hC (by omega) (fun x q => ⟨x, rfl, q⟩)) (fun o ho => ?_)
      obtain ⟨x103, rfl, dx103⟩ := ho
      show cw_X _ _ _ _ _ [cv_i x103, cv_i M] h
      refine ex_if0 oq_X12_costOf_18 (t := 32) rfl rfl (fun (c104 : x103.toInt = 0) => ?_) (fun (c104 : ¬ (x103.toInt = 0)) => ?_)
      · have bz : ¬ S.testBit c = true := by
          rcases dx103 with dx103 | dx103
          · have := dx103.1; omega
          · exact dx103.2
        refine ex_ic oq_X12_costOf_32 (m := 0) (by decide) (fun x105 hx105 => ?_)
        refine ex_add oq_X12_costOf_33 (by omega) (fun x106 hx106 => ?_)
        refine ex_isA oq_X12_costOf_34 (fun L107 gL107_2 kL107 => ?_)
        have gL107_0 : cv_get L107 0 = some (cv_r 111) := kL107 0 _ (by decide) (fun q => absurd q (by decide)) g0
        have gL107_1 : cv_get L107 1 = some (cv_i s) := kL107 1 _ (by decide) (fun _ => rfl) g1
        have gL107_3 : cv_get L107 3 = some (cv_i C) := kL107 3 _ (by decide) (fun q => absurd q (by decide)) g3
        refine ex_incA oq_X12_costOf_35 (v := C) (m := 1) gL107_3 (by decide) (by omega) (fun L109 x108 hx108 gL109_3 kL109 => ?_)
        have gL109_2 : cv_get L109 2 = some (cv_i x106) := kL109 2 _ (by decide) (fun _ => rfl) gL107_2
        have gL109_0 : cv_get L109 0 = some (cv_r 111) := kL109 0 _ (by decide) (fun q => absurd q (by decide)) gL107_0
        have gL109_1 : cv_get L109 1 = some (cv_i s) := kL109 1 _ (by decide) (fun q => absurd q (by decide)) gL107_1
        refine ex_go oq_X12_costOf_38 (t := 4) rfl rfl ?_
        exact ih (c + 1) x106 x108 L109 (by omega) (by omega) (by omega) (by rw [zCo_n bz]; omega) gL109_0 gL109_1 gL109_2 gL109_3
      · have bz : S.testBit c = true := by
          rcases dx103 with dx103 | dx103
          · exact dx103.2
          · exact absurd dx103.1 c104
        refine ex_al oq_X12_costOf_21 g0 ?_
        refine ex_gf oq_X12_costOf_22 hT (k := 111) (d := 12) rfl rfl (fr_workHas hT) ?_
        refine ex_ic oq_X12_costOf_25 (m := 3) (by decide) (fun x110 hx110 => ?_)
        refine ex_il oq_X12_costOf_26 g3 ?_
        refine ex_mul oq_X12_costOf_27 (m := 3 * C.toInt) (by rw [hx110]) (by omega) (fun x111 hx111 => ?_)
        refine ex_iap oq_X12_costOf_28 hT (k := 122) (d := 61) (j := 3 * c) rfl rfl (by omega) (by omega) (fun x112 hx112 => ?_)
        have hx112 : x112.toInt = wc c := hx112.symm.trans (hw c (by omega))
        refine ex_go oq_X12_costOf_29 (t := 33) rfl rfl ?_
        refine ex_add oq_X12_costOf_33 (by omega) (fun x113 hx113 => ?_)
        refine ex_isA oq_X12_costOf_34 (fun L114 gL114_2 kL114 => ?_)
        have gL114_0 : cv_get L114 0 = some (cv_r 111) := kL114 0 _ (by decide) (fun q => absurd q (by decide)) g0
        have gL114_1 : cv_get L114 1 = some (cv_i s) := kL114 1 _ (by decide) (fun _ => rfl) g1
        have gL114_3 : cv_get L114 3 = some (cv_i C) := kL114 3 _ (by decide) (fun q => absurd q (by decide)) g3
        refine ex_incA oq_X12_costOf_35 (v := C) (m := 1) gL114_3 (by decide) (by omega) (fun L116 x115 hx115 gL116_3 kL116 => ?_)
        have gL116_2 : cv_get L116 2 = some (cv_i x113) := kL116 2 _ (by decide) (fun _ => rfl) gL114_2
        have gL116_0 : cv_get L116 0 = some (cv_r 111) := kL116 0 _ (by decide) (fun q => absurd q (by decide)) gL114_0
        have gL116_1 : cv_get L116 1 = some (cv_i s) := kL116 1 _ (by decide) (fun q => absurd q (by decide)) gL114_1
        refine ex_go oq_X12_costOf_38 (t := 4) rfl rfl ?_
        exact ih (c + 1) x113 x115 L116 (by omega) (by omega) (by omega) (by rw [zCo_y bz]; omega) gL116_0 gL116_1 gL116_2 gL116_3
theorem oq_X12_costOf_0 : cw_ho 231 0 (.iconst 0) 1 0 0 0 := rfl
theorem oq_X12_costOf_1 : cw_ho 231 1 (.istore_n 2) 1 0 0 0 := rfl
theorem oq_X12_costOf_2 : cw_ho 231 2 (.iconst 0) 1 0 0 0 := rfl
theorem oq_X12_costOf_3 : cw_ho 231 3 (.istore_n 3) 1 0 0 0 := rfl
theorem rg_costOf (hT : cw_T G h) {nw : Nat} (hn : ri_at h 111 13 = nw) (hnw : nw ≤ 6) {wc : Nat → Int} (hw : ∀ w, w < nw → ri_at h 122 (3 * w) = wc w) (hwb : ∀ w, w < nw → 1 ≤ wc w ∧ wc w ≤ 999) {s : Int32} {S : Nat} (hSS : s.toInt = S) (hS64 : S < 64) (hQ : ∀ x : Int32, x.toInt = zCo wc S nw → Q (some (cv_i x), h)) : cw_X X 231 Q 0 (cv_ent 0 [cv_r 111, cv_i s]) [] h := by
  refine ex_ic oq_X12_costOf_0 (m := 0) (by decide) (fun x101 hx101 => ?_)
  refine ex_isA oq_X12_costOf_1 (fun L102 gL102_2 kL102 => ?_)
  have gL102_0 : cv_get L102 0 = some (cv_r 111) := kL102 0 _ (by decide) (fun q => absurd q (by decide)) rfl
  have gL102_1 : cv_get L102 1 = some (cv_i s) := kL102 1 _ (by decide) (fun _ => rfl) rfl
  refine ex_ic oq_X12_costOf_2 (m := 0) (by decide) (fun x103 hx103 => ?_)
  refine ex_isA oq_X12_costOf_3 (fun L104 gL104_3 kL104 => ?_)
  have gL104_2 : cv_get L104 2 = some (cv_i x101) := kL104 2 _ (by decide) (fun _ => rfl) gL102_2
  have gL104_0 : cv_get L104 0 = some (cv_r 111) := kL104 0 _ (by decide) (fun q => absurd q (by decide)) gL102_0
  have gL104_1 : cv_get L104 1 = some (cv_i s) := kL104 1 _ (by decide) (fun q => absurd q (by decide)) gL102_1
  exact rg_coL hT hn hnw hw hwb hSS hS64 hQ nw 0 x101 x103 L104 (by omega) (by omega) (by omega) (by show _ = (0 : Int); omega) gL104_0 gL104_1 gL104_2 gL104_3
end GN
