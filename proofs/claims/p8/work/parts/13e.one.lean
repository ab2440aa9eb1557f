section CWB
variable {Ds : List cw_D} {sh : List Nat} {G : Int} {P : cv_H → Prop} {dp wm : Nat} {v0 : cw_U → Option cv_V} {X : cv_X} {pc len a b c n : Nat} {zz : Int} {e : cw_E} {z : cw_Z} {r : cw_R} {L : cv_L} {st : List cv_V} {h : cv_H}
theorem cw_br_ok {off : Int} {t f : Option cw_E} {bb : Bool} {o : Option cv_S} (hr : cw_br pc off t f z = some r) (hI : cw_Inv Ds sh G P h) (hz : cw_Zr G sh (cw_val L h) z st) (ht : bb = true → ∃ e', t = some e' ∧ cw_Er G sh v0 e' (cw_val L h)) (hf : bb = false → ∃ e', f = some e' ∧ cw_Er G sh v0 e' (cw_val L h))
    (ho : o = (bif cv_jmp pc off then some ((bif bb then cv_tgt pc off else pc + len), L, st, h, c, n) else none)) : cw_Rs Ds sh G P wm v0 pc len r h o c n := by
  unfold cw_br at hr
  obtain ⟨h1, h2⟩ := cv_bif hr
  cases h2
  rw [h1, cond_true] at ho
  cases bb with
  | true =>
    obtain ⟨e', rfl, he⟩ := ht rfl
    exact ⟨some (cv_tgt pc off), e', z, L, st, h, by simp, ho, ⟨he, hz, hI⟩, cw_Fr_refl⟩
  | false =>
    obtain ⟨e', rfl, he⟩ := hf rfl
    exact ⟨none, e', z, L, st, h, by simp, ho, ⟨he, hz, hI⟩, cw_Fr_refl⟩
theorem cw_rf2_ok {o : Jvm.ClassFile.Cond} {x y : cw_W} {p p' : cw_P} {m k : Int32} {vl : cw_U → Option cv_V} (hE : cw_Er G sh v0 e vl) (hx : cw_wok G x m.toInt) (hy : cw_wok G y k.toInt) (hp : cw_pr G sh vl p (cv_i m)) (hp' : cw_pr G sh vl p' (cv_i k)) (hc : cw_cmpZ o m.toInt k.toInt) : ∃ e', cw_rf2 e o x p y p' = some e' ∧ cw_Er G sh v0 e' vl := by
  obtain ⟨x', y', h1, h2, h3⟩ := cw_cond_ok hx hy hc
  refine ⟨_, ?_, cw_rfn_ok (cw_rfn_ok hE hp h2) hp' h3⟩
  unfold cw_rf2
  rw [h1]
theorem cw_icmp_ok {o : Jvm.ClassFile.Cond} {off : Int} (hS : cw_St Ds sh G P v0 e z L st h) (hr : cw_one Ds wm dp (pc, .if_icmp o off, len, a, b, zz) e z = some r) : cw_Rs Ds sh G P wm v0 pc len r h (cv_one X (pc, .if_icmp o off, len, a, b, zz) (pc, L, st, h, c, n)) c n := by
  rcases z with _ | ⟨⟨y | y | y, p'⟩, _ | ⟨⟨x | x | x, p⟩, z⟩⟩ <;> first | (cases hr; done) | skip
  match st, hS.2.1 with
  | v1 :: v2 :: st, ⟨⟨⟨k, hk, hy⟩, hp'⟩, ⟨⟨m, hm, hx⟩, hp⟩, hZ⟩ =>
  subst hk hm
  refine cw_br_ok (bb := cv_cmp o m k) (show cw_br pc off (cw_rf2 e o x p y p') (cw_rf2 e (cw_neg o) x p y p') z = some r from hr) hS.2.2 hZ (fun hb => ?_) (fun hb => ?_) rfl
  · exact cw_rf2_ok hS.1 hx hy hp hp' (cw_cmp_Z.mp hb)
  · refine cw_rf2_ok hS.1 hx hy hp hp' (cw_neg_Z.mp fun q => ?_)
    rw [cw_cmp_Z.mpr q] at hb
    cases hb
theorem cw_rf1_ok {o : Jvm.ClassFile.Cond} {x : cw_W} {p : cw_P} {m : Int32} {vl : cw_U → Option cv_V} (hE : cw_Er G sh v0 e vl) (hx : cw_wok G x m.toInt) (hp : cw_pr G sh vl p (cv_i m)) (hc : cw_cmpZ o m.toInt 0) : ∃ e', cw_rf1 e o x p = some e' ∧ cw_Er G sh v0 e' vl := by
  have gen : ∃ e', (match cw_cond o x (0, 0, 0) with
    | some (x', _) => some (cw_rfn e p x')
    | none => none) = some e' ∧ cw_Er G sh v0 e' vl := by
    obtain ⟨x', y', h1, h2, -⟩ := cw_cond_ok (y := (0, 0, 0)) (b := 0) hx ⟨Int.le_refl _, Int.le_refl _, cw_tg0⟩ hc
    exact ⟨_, by rw [h1], cw_rfn_ok hE hp h2⟩
  rcases p with _ | ⟨⟨u, d⟩ | ⟨⟨u, n⟩ | l⟩⟩
  · exact gen
  · exact gen
  · unfold cw_rf1
    dsimp only
    cases hg : cw_get e u with
    | none => exact ⟨e, rfl, hE⟩
    | some ao =>
      obtain ⟨w, oo⟩ := ao
      rcases w with w | w | w
      · exact ⟨e, rfl, hE⟩
      · obtain ⟨v, g1, ⟨y, rfl, g2⟩, -⟩ := cw_get_ok hE hg
        obtain ⟨y', m', k1, k2, k3, k4⟩ := hp
        rw [g1] at k1
        cases k1
        cases k2
        have hc' : cw_cmpZ o y.toInt n := by
          cases o <;> simp only [cw_cmpZ] at hc ⊢ <;> omega
        obtain ⟨w', y'', h1, h2, -⟩ := cw_cond_ok (y := (n, n, 0)) (b := n) g2 ⟨Int.le_refl _, Int.le_refl _, cw_tg0⟩ hc'
        refine ⟨cw_put e u (cw_lng w'), ?_, cw_put_ok hE g1 ⟨y, rfl, h2⟩⟩
        dsimp only
        rw [h1]
      · exact ⟨e, rfl, hE⟩
  · exact gen
theorem cw_ifc_ok {o : Jvm.ClassFile.Cond} {off : Int} (hS : cw_St Ds sh G P v0 e z L st h) (hr : cw_one Ds wm dp (pc, .ifCond o off, len, a, b, zz) e z = some r) : cw_Rs Ds sh G P wm v0 pc len r h (cv_one X (pc, .ifCond o off, len, a, b, zz) (pc, L, st, h, c, n)) c n := by
  rcases z with _ | ⟨⟨x | x | x, p⟩, z⟩
  · cases hr
  rotate_left
  · rcases z with _ | ⟨⟨y | y | y, p2⟩, z⟩ <;> (cases hr; done)
  · rcases z with _ | ⟨⟨y | y | y, p2⟩, z⟩ <;> (cases hr; done)
  match st, hS.2.1 with
  | v1 :: st, ⟨⟨⟨m, hm, hx⟩, hp⟩, hZ⟩ =>
  subst hm
  refine cw_br_ok (bb := cv_cmp o m 0) (show cw_br pc off (cw_rf1 e o x p) (cw_rf1 e (cw_neg o) x p) z = some r from hr) hS.2.2 hZ (fun hb => ?_) (fun hb => ?_) rfl
  · exact cw_rf1_ok hS.1 hx hp (cw_cmp_Z.mp hb)
  · refine cw_rf1_ok hS.1 hx hp (cw_neg_Z.mp fun q => ?_)
    rw [cw_cmp_Z.mpr (show cw_cmpZ o m.toInt (0 : Int32).toInt from q)] at hb
    cases hb
theorem cw_dup_ok (hS : cw_St Ds sh G P v0 e z L st h) (hr : cw_one Ds wm dp (pc, .dup, len, a, b, zz) e z = some r) : cw_Rs Ds sh G P wm v0 pc len r h (cv_one X (pc, .dup, len, a, b, zz) (pc, L, st, h, c, n)) c n := by
  rcases z with _ | ⟨x, z⟩
  · cases hr
  match st, hS.2.1 with
  | v1 :: st, ⟨⟨h1, h2⟩, hZ⟩ =>
  obtain ⟨g1, g2⟩ := cv_bif (show (bif !cw_isL x.1 then some [((none : Option Nat), e, x :: x :: z)] else none) = some r from hr)
  cases g2
  refine cw_pure (st' := v1 :: v1 :: st) hS rfl ?_ ⟨⟨h1, h2⟩, ⟨h1, h2⟩, hZ⟩
  rw [cw_isL_ga h1] at g1
  show (bif !cv_isL v1 then some _ else none) = _
  rw [g1]
  rfl
theorem cw_pop_ok (hS : cw_St Ds sh G P v0 e z L st h) (hr : cw_one Ds wm dp (pc, .pop, len, a, b, zz) e z = some r) : cw_Rs Ds sh G P wm v0 pc len r h (cv_one X (pc, .pop, len, a, b, zz) (pc, L, st, h, c, n)) c n := by
  rcases z with _ | ⟨x, z⟩
  · cases hr
  match st, hS.2.1 with
  | v1 :: st, ⟨⟨h1, h2⟩, hZ⟩ =>
  obtain ⟨g1, g2⟩ := cv_bif (show (bif !cw_isL x.1 then some [((none : Option Nat), e, z)] else none) = some r from hr)
  cases g2
  refine cw_pure (st' := st) hS rfl ?_ hZ
  rw [cw_isL_ga h1] at g1
  show (bif !cv_isL v1 then some _ else none) = _
  rw [g1]
  rfl
theorem cw_dup2_ok (hS : cw_St Ds sh G P v0 e z L st h) (hr : cw_one Ds wm dp (pc, .dup2, len, a, b, zz) e z = some r) : cw_Rs Ds sh G P wm v0 pc len r h (cv_one X (pc, .dup2, len, a, b, zz) (pc, L, st, h, c, n)) c n := by
  rcases z with _ | ⟨x, _ | ⟨y, z⟩⟩
  · cases hr
  · obtain ⟨x1 | x1 | x1, p⟩ := x <;> (cases hr; done)
  match st, hS.2.1 with
  | v1 :: v2 :: st, ⟨⟨h1, h2⟩, ⟨h3, h4⟩, hZ⟩ =>
  obtain ⟨g1, g2⟩ := cv_bif (show (bif !cw_isL x.1 && !cw_isL y.1 then some [((none : Option Nat), e, x :: y :: x :: y :: z)] else none) = some r from hr)
  cases g2
  refine cw_pure (st' := v1 :: v2 :: v1 :: v2 :: st) hS rfl ?_ ⟨⟨h1, h2⟩, ⟨h3, h4⟩, ⟨h1, h2⟩, ⟨h3, h4⟩, hZ⟩
  rw [cw_isL_ga h1, cw_isL_ga h3] at g1
  show (bif !cv_isL v1 && !cv_isL v2 then some _ else none) = _
  rw [g1]
  rfl
theorem cw_ofNat {m : Nat} (h : m ≤ 10000) : (Int32.ofNat m).toInt = m := by
  rw [Int32.toInt_ofNat']
  have e : Int32.size = 4294967296 := rfl
  rw [e]
  exact cw_bm (by omega) (by omega)
theorem cw_alen_ok (hlen : Ds.length ≤ 1000) (hS : cw_St Ds sh G P v0 e z L st h) (hr : cw_one Ds wm dp (pc, .arraylength, len, a, b, zz) e z = some r) : cw_Rs Ds sh G P wm v0 pc len r h (cv_one X (pc, .arraylength, len, a, b, zz) (pc, L, st, h, c, n)) c n := by
  rcases z with _ | ⟨⟨w | w | d, p1⟩, z⟩
  · cases hr
  · rcases z with _ | ⟨⟨x | x | x, p2⟩, z⟩ <;> (cases hr; done)
  · rcases z with _ | ⟨⟨x | x | x, p2⟩, z⟩ <;> (cases hr; done)
  match st, hS.2.1 with
  | v1 :: st, ⟨⟨hd, hp⟩, hZ⟩ =>
  replace hr : (match Ds[d]? with
    | some (.inl (_, n, _, _)) => bif Nat.ble n 10000 then some [((none : Option Nat), e, (cw_int (n, n, 0), (none : cw_P)) :: z)] else none
    | some (.inr (.inr (.inl (_, n, _)))) => bif Nat.ble n 10000 then some [(none, e, (cw_int (n, n, 0), none) :: z)] else none
    | _ => none) = some r := hr
  split at hr
  · rename_i t m p rs hD
    obtain ⟨h1, h2⟩ := cv_bif hr
    cases h2
    obtain ⟨k, rfl, hk, hc⟩ := cw_ref_ok hS.2.2 hd hD hlen
    obtain ⟨xs, hx1, hx2, -⟩ := cw_cell_i hD hc
    have em := cw_ofNat (Nat.le_of_ble_eq_true h1)
    refine cw_pure (st' := cv_i (Int32.ofNat m) :: st) hS rfl ?_ ⟨⟨⟨_, rfl, by rw [em]; exact Int.le_refl _, by rw [em]; exact Int.le_refl _, cw_tg0⟩, trivial⟩, hZ⟩
    show (match h[k]? with
      | some (.inl (_, xs)) => some _
      | some (.inr (.inl xs)) => some _
      | some (.inr (.inr (.inl (_, xs)))) => some _
      | _ => none) = _
    rw [hx1, ← hx2]
  · rename_i t m d' hD
    obtain ⟨h1, h2⟩ := cv_bif hr
    cases h2
    obtain ⟨k, rfl, hk, hc⟩ := cw_ref_ok hS.2.2 hd hD hlen
    obtain ⟨xs, hx1, hx2, -⟩ := cw_cell_r hD hc
    have em := cw_ofNat (Nat.le_of_ble_eq_true h1)
    refine cw_pure (st' := cv_i (Int32.ofNat m) :: st) hS rfl ?_ ⟨⟨⟨_, rfl, by rw [em]; exact Int.le_refl _, by rw [em]; exact Int.le_refl _, cw_tg0⟩, trivial⟩, hZ⟩
    show (match h[k]? with
      | some (.inl (_, xs)) => some _
      | some (.inr (.inl xs)) => some _
      | some (.inr (.inr (.inl (_, xs)))) => some _
      | _ => none) = _
    rw [hx1, ← hx2]
  · cases hr
/-- one number made of one -/
theorem cw_un_i {i : Instr} {w' : cw_W → cw_A} {g : Int32 → cv_V} (hi : ∀ (w : cw_W) (p : cw_P) (z : cw_Z), cw_one Ds wm dp (pc, i, len, a, b, zz) e ((.inl w, p) :: z) = some [(none, e, (w' w, none) :: z)]) (h0 : ∀ z : cw_Z, (∀ w p z', z ≠ (.inl w, p) :: z') → cw_one Ds wm dp (pc, i, len, a, b, zz) e z = none)
    (ho : ∀ x st, cv_one X (pc, i, len, a, b, zz) (pc, L, cv_i x :: st, h, c, n) = some (pc + len, L, g x :: st, h, c, n)) (hg : ∀ w x, cw_wok G w x.toInt → cw_ga G sh (w' w) (g x)) (hS : cw_St Ds sh G P v0 e z L st h) (hr : cw_one Ds wm dp (pc, i, len, a, b, zz) e z = some r) : cw_Rs Ds sh G P wm v0 pc len r h (cv_one X (pc, i, len, a, b, zz) (pc, L, st, h, c, n)) c n := by
  by_cases hz : ∃ w p z', z = (.inl w, p) :: z'
  · obtain ⟨w, p, z', rfl⟩ := hz
    rw [hi] at hr
    cases hr
    match st, hS.2.1 with
    | v1 :: st, ⟨⟨⟨x, hx, hw⟩, hp⟩, hZ⟩ =>
      subst hx
      exact cw_pure hS rfl (ho x st) ⟨⟨hg w x hw, trivial⟩, hZ⟩
  · rw [h0 z fun w p z' q => hz ⟨w, p, z', q⟩] at hr
    cases hr
theorem cw_un_l {i : Instr} {w' : cw_W → cw_A} {g : Int64 → cv_V} (hi : ∀ (w : cw_W) (p : cw_P) (z : cw_Z), cw_one Ds wm dp (pc, i, len, a, b, zz) e ((.inr (.inl w), p) :: z) = some [(none, e, (w' w, none) :: z)]) (h0 : ∀ z : cw_Z, (∀ w p z', z ≠ (.inr (.inl w), p) :: z') → cw_one Ds wm dp (pc, i, len, a, b, zz) e z = none)
    (ho : ∀ x st, cv_one X (pc, i, len, a, b, zz) (pc, L, cv_l x :: st, h, c, n) = some (pc + len, L, g x :: st, h, c, n)) (hg : ∀ w x, cw_wok G w x.toInt → cw_ga G sh (w' w) (g x)) (hS : cw_St Ds sh G P v0 e z L st h) (hr : cw_one Ds wm dp (pc, i, len, a, b, zz) e z = some r) : cw_Rs Ds sh G P wm v0 pc len r h (cv_one X (pc, i, len, a, b, zz) (pc, L, st, h, c, n)) c n := by
  by_cases hz : ∃ w p z', z = (.inr (.inl w), p) :: z'
  · obtain ⟨w, p, z', rfl⟩ := hz
    rw [hi] at hr
    cases hr
    match st, hS.2.1 with
    | v1 :: st, ⟨⟨⟨x, hx, hw⟩, hp⟩, hZ⟩ =>
      subst hx
      exact cw_pure hS rfl (ho x st) ⟨⟨hg w x hw, trivial⟩, hZ⟩
  · rw [h0 z fun w p z' q => hz ⟨w, p, z', q⟩] at hr
    cases hr
theorem cw_tg_nz {w : cw_W} {z z' : Int} (hw : cw_wok G w z) (h : z ≠ 0 → z' ≠ 0) : cw_tg G (bif cw_nz w then 1 else 0) z' := by
  cases hn : cw_nz w with
  | false => exact cw_tg0
  | true => exact ⟨fun _ => h (cw_nz_ok hn hw), fun h => absurd h (by decide), fun h => absurd h (by decide), fun h => absurd h (by decide)⟩
theorem cw_neg_nz {x : Int64} (h : x.toInt ≠ 0) : (-x).toInt ≠ 0 := by
  intro q
  have e : (-x).toInt = (0 : Int64).toInt := q
  have e2 := Int64.toInt_inj.mp e
  have e3 : x = 0 := by rw [← Int64.neg_neg (a := x), e2]; rfl
  exact h (by rw [e3]; rfl)
theorem cw_lcmp_ok (hS : cw_St Ds sh G P v0 e z L st h) (hr : cw_one Ds wm dp (pc, .lcmp, len, a, b, zz) e z = some r) : cw_Rs Ds sh G P wm v0 pc len r h (cv_one X (pc, .lcmp, len, a, b, zz) (pc, L, st, h, c, n)) c n := by
  rcases z with _ | ⟨⟨y | y | y, p'⟩, _ | ⟨⟨x | x | x, p⟩, z⟩⟩ <;> first | (cases hr; done) | skip
  match st, hS.2.1 with
  | v1 :: v2 :: st, ⟨⟨⟨k, hk, hy⟩, hp'⟩, ⟨⟨m, hm, hx⟩, hp⟩, hZ⟩ =>
  subst hk hm
  cases hr
  have hlt : (lg_cmp m k).toInt < 0 ↔ m.toInt < k.toInt := by
    unfold lg_cmp
    by_cases q1 : m > k
    · rw [if_pos q1]
      have := Int64.lt_iff_toInt_lt.mp q1
      constructor
      · intro q; exact absurd q (by decide)
      · intro q; omega
    · rw [if_neg q1]
      have h1 : ¬ k.toInt < m.toInt := fun q => q1 (Int64.lt_iff_toInt_lt.mpr q)
      by_cases q2 : m = k
      · rw [if_pos q2, q2]
        constructor
        · intro q; exact absurd q (by decide)
        · intro q; omega
      · rw [if_neg q2]
        have h2 : ¬ m.toInt = k.toInt := fun q => q2 (Int64.toInt_inj.mp q)
        constructor
        · intro q; omega
        · intro q; decide
  have heq : (lg_cmp m k).toInt = 0 ↔ m.toInt = k.toInt := by
    unfold lg_cmp
    by_cases q1 : m > k
    · rw [if_pos q1]
      have := Int64.lt_iff_toInt_lt.mp q1
      constructor
      · intro q; exact absurd q (by decide)
      · intro q; omega
    · rw [if_neg q1]
      by_cases q2 : m = k
      · rw [if_pos q2, q2]
        exact ⟨fun _ => rfl, fun _ => rfl⟩
      · rw [if_neg q2]
        have h2 : ¬ m.toInt = k.toInt := fun q => q2 (Int64.toInt_inj.mp q)
        constructor
        · intro q; exact absurd q (by decide)
        · intro q; omega
  have hb : -1 ≤ (lg_cmp m k).toInt ∧ (lg_cmp m k).toInt ≤ 1 := by
    unfold lg_cmp
    split
    · decide
    · split <;> decide
  refine cw_pure (st' := cv_i (lg_cmp m k) :: st) hS rfl rfl ⟨⟨⟨_, rfl, hb.1, hb.2, cw_tg0⟩, ?_⟩, hZ⟩
  dsimp only
  cases hc : cw_cst y with
  | false => exact trivial
  | true =>
    rw [cond_true]
    rcases p with _ | ⟨⟨u, d⟩ | ⟨q | l⟩⟩
    · exact trivial
    · dsimp only
      cases hd : decide (d = 0) with
      | false => exact trivial
      | true =>
        simp only [decide_eq_true_eq] at hd
        subst hd
        obtain ⟨w, g1, g2⟩ := hp
        have g2 := cw_eqd_0 g2
        subst g2
        have := cw_cst_ok hc hy
        exact ⟨m, lg_cmp m k, g1, rfl, by rw [← this]; exact hlt, by rw [← this]; exact heq⟩
    · exact trivial
    · exact trivial
theorem cw_lshr_ok (hS : cw_St Ds sh G P v0 e z L st h) (hr : cw_one Ds wm dp (pc, .lshr, len, a, b, zz) e z = some r) : cw_Rs Ds sh G P wm v0 pc len r h (cv_one X (pc, .lshr, len, a, b, zz) (pc, L, st, h, c, n)) c n := by
  rcases z with _ | ⟨⟨y | y | y, p'⟩, _ | ⟨⟨x | x | x, p⟩, z⟩⟩ <;> first | (cases hr; done) | skip
  match st, hS.2.1 with
  | v1 :: v2 :: st, ⟨⟨⟨k, hk, hy⟩, hp'⟩, ⟨⟨m, hm, hx⟩, hp⟩, hZ⟩ =>
  subst hk hm
  cases hr
  exact cw_pure hS rfl rfl ⟨⟨⟨_, rfl, cw_topL_ok _⟩, trivial⟩, hZ⟩
theorem cw_swt_ok {e : cw_E} {z : cw_Z} : ∀ {offs : List Int} {r : cw_R}, cw_swt pc offs e z = some r → ∀ o ∈ offs, cv_jmp pc o = true ∧ (some (cv_tgt pc o), e, z) ∈ r
  | [], r, h, o, ho => absurd ho List.not_mem_nil
  | q :: l, r, h, o, ho => by
    obtain ⟨h1, h2⟩ := cv_bif (show (bif cv_jmp pc q then (match cw_swt pc l e z with
      | some r => some ((some (cv_tgt pc q), e, z) :: r)
      | none => none) else none) = some r from h)
    cases hs : cw_swt pc l e z with
    | none => rw [hs] at h2; cases h2
    | some r' =>
      rw [hs] at h2
      cases h2
      rcases List.mem_cons.mp ho with rfl | ho
      · exact ⟨h1, List.mem_cons_self⟩
      · have := cw_swt_ok hs o ho
        exact ⟨this.1, List.mem_cons_of_mem _ this.2⟩
theorem cw_tsw_ok {d lo hi : Int} {offs : Array Int} (hS : cw_St Ds sh G P v0 e z L st h) (hr : cw_one Ds wm dp (pc, .tableswitch d lo hi offs, len, a, b, zz) e z = some r) : cw_Rs Ds sh G P wm v0 pc len r h (cv_one X (pc, .tableswitch d lo hi offs, len, a, b, zz) (pc, L, st, h, c, n)) c n := by
  rcases z with _ | ⟨⟨x | x | x, p⟩, z⟩
  · cases hr
  rotate_left
  · rcases z with _ | ⟨⟨y | y | y, p2⟩, z⟩ <;> (cases hr; done)
  · rcases z with _ | ⟨⟨y | y | y, p2⟩, z⟩ <;> (cases hr; done)
  match st, hS.2.1 with
  | v1 :: st, ⟨⟨⟨m, hm, hx⟩, hp⟩, hZ⟩ =>
  subst hm
  obtain ⟨h1, h2⟩ := cv_bif (show (bif decide (hi - lo < offs.size) then cw_swt pc (d :: offs.toList) e z else none) = some r from hr)
  simp only [decide_eq_true_eq] at h1
  have key := cw_swt_ok h2
  have go : ∀ o ∈ d :: offs.toList, cv_one X (pc, .tableswitch d lo hi offs, len, a, b, zz) (pc, L, cv_i m :: st, h, c, n) = (bif cv_jmp pc o then some (cv_tgt pc o, L, st, h, c, n) else none) → cw_Rs Ds sh G P wm v0 pc len r h (cv_one X (pc, .tableswitch d lo hi offs, len, a, b, zz) (pc, L, cv_i m :: st, h, c, n)) c n := by
    intro o ho hone
    obtain ⟨k1, k2⟩ := key o ho
    rw [hone, k1]
    exact ⟨_, e, z, L, st, h, k2, rfl, ⟨hS.1, hZ, hS.2.2⟩, cw_Fr_refl⟩
  have hone : cv_one X (pc, .tableswitch d lo hi offs, len, a, b, zz) (pc, L, cv_i m :: st, h, c, n) = (bif decide (m.toInt < lo) || decide (hi < m.toInt) then (bif cv_jmp pc d then some (cv_tgt pc d, L, st, h, c, n) else none) else
        (match offs[(m.toInt - lo).toNat]? with
        | some off => bif cv_jmp pc off then some (cv_tgt pc off, L, st, h, c, n) else none
        | none => none)) := rfl
  cases hc : (decide (m.toInt < lo) || decide (hi < m.toInt)) with
  | true =>
    rw [hc] at hone
    exact go d List.mem_cons_self hone
  | false =>
    rw [hc, cond_false] at hone
    simp only [Bool.or_eq_false_iff, decide_eq_false_iff_not] at hc
    have hlt : (m.toInt - lo).toNat < offs.size := by omega
    rw [Array.getElem?_eq_getElem hlt] at hone
    refine go offs[(m.toInt - lo).toNat] (List.mem_cons_of_mem _ ?_) hone
    rw [Array.mem_toList_iff]
    exact Array.getElem_mem hlt
theorem cw_arith_ok {i : Instr} {x y w : cw_W} {p p' : cw_P} (hb : cw_bin i x y = some w) (hS : cw_St Ds sh G P v0 e ((.inl y, p') :: (.inl x, p) :: z) L st h) : cw_Rs Ds sh G P wm v0 pc len [(none, e, (cw_int w, cw_binP i x p y) :: z)] h (cv_one X (pc, i, len, a, b, zz) (pc, L, st, h, c, n)) c n := by
  match st, hS.2.1 with
  | v1 :: v2 :: st, ⟨⟨⟨k, hk, hy⟩, hp'⟩, ⟨⟨m, hm, hx⟩, hp⟩, hZ⟩ =>
  subst hk hm
  obtain ⟨f, r, h1, h2, h3⟩ := cw_bin_ok hb hx hy
  have hone : cv_one X (pc, i, len, a, b, zz) (pc, L, cv_i k :: cv_i m :: st, h, c, n) = some (pc + len, L, cv_i r :: st, h, c, n) := by
    cases i
    all_goals first | (cases hb; done) | skip
    all_goals
      replace h1 := Option.some.inj h1
      subst h1
      first | (cases h2; rfl) | (show Option.map _ _ = _; rw [h2]; rfl)
  refine cw_pure hS rfl hone ⟨⟨⟨r, rfl, h3⟩, ?_⟩, hZ⟩
  dsimp only
  cases i
  all_goals first | exact trivial | skip
  case iadd =>
    replace h1 := Option.some.inj h1
    subst h1
    cases h2
    rcases p with _ | ⟨⟨u, d⟩ | ⟨q | l⟩⟩
    · exact trivial
    · show cw_pr G sh _ (bif _ then _ else _) _
      cases hc : (cw_cst y && (cw_le (-2147483648) (x.1 + y.1) && cw_le (x.2.1 + y.2.1) 2147483647)) with
      | false => exact trivial
      | true =>
        simp only [Bool.and_eq_true, cw_le_iff] at hc
        have hk := cw_cst_ok hc.1 hy
        obtain ⟨w0, g1, g2⟩ := hp
        refine ⟨w0, g1, cw_eqd_tr g2 (.inr ⟨m, _, rfl, rfl, ?_⟩)⟩
        have := hx.1; have := hx.2.1; have := hy.1; have := hy.2.1
        rw [Int32.toInt_add, cw_bm (by omega) (by omega)]
        omega
    · exact trivial
    · exact trivial
  case isub =>
    replace h1 := Option.some.inj h1
    subst h1
    cases h2
    rcases p with _ | ⟨⟨u, d⟩ | ⟨q | l⟩⟩
    · exact trivial
    · show cw_pr G sh _ (bif _ then _ else _) _
      cases hc : (cw_cst y && (cw_le (-2147483648) (x.1 - y.2.1) && cw_le (x.2.1 - y.1) 2147483647)) with
      | false => exact trivial
      | true =>
        simp only [Bool.and_eq_true, cw_le_iff] at hc
        have hk := cw_cst_ok hc.1 hy
        obtain ⟨w0, g1, g2⟩ := hp
        have e : d - y.1 = d + (- y.1) := rfl
        show ∃ w, _ ∧ cw_eqd w _ (d - y.1)
        rw [e]
        refine ⟨w0, g1, cw_eqd_tr g2 (.inr ⟨m, _, rfl, rfl, ?_⟩)⟩
        have := hx.1; have := hx.2.1; have := hy.1; have := hy.2.1
        rw [Int32.toInt_sub, cw_bm (by omega) (by omega)]
        omega
    · exact trivial
    · exact trivial
theorem cw_arithL_ok {i : Instr} {x y w : cw_W} {p p' : cw_P} (hb : cw_binL i x y = some w) (hS : cw_St Ds sh G P v0 e ((.inr (.inl y), p') :: (.inr (.inl x), p) :: z) L st h) : cw_Rs Ds sh G P wm v0 pc len [(none, e, (cw_lng w, none) :: z)] h (cv_one X (pc, i, len, a, b, zz) (pc, L, st, h, c, n)) c n := by
  match st, hS.2.1 with
  | v1 :: v2 :: st, ⟨⟨⟨k, hk, hy⟩, hp'⟩, ⟨⟨m, hm, hx⟩, hp⟩, hZ⟩ =>
  subst hk hm
  obtain ⟨f, r, h1, h2, h3⟩ := cw_binL_ok hb hx hy
  have hone : cv_one X (pc, i, len, a, b, zz) (pc, L, cv_l k :: cv_l m :: st, h, c, n) = some (pc + len, L, cv_l r :: st, h, c, n) := by
    cases i
    all_goals first | (cases hb; done) | skip
    all_goals
      replace h1 := Option.some.inj h1
      subst h1
      first | (cases h2; rfl) | (show Option.map _ _ = _; rw [h2]; rfl)
  exact cw_pure hS rfl hone ⟨⟨⟨r, rfl, h3⟩, trivial⟩, hZ⟩
end CWB
