section
section CWA
variable {Ds : List cw_D} {sh : List Nat} {G : Int} {P : cv_H → Prop} {dp wm : Nat} {v0 : cw_U → Option cv_V} {X : cv_X} {pc len a b c n : Nat} {zz : Int} {e : cw_E} {z : cw_Z} {r : cw_R} {L : cv_L} {st : List cv_V} {h : cv_H}
theorem cw_ld_ok {q : cv_Q} {i k : Nat} (hl : cv_load q.2.1 = some (i, k)) (hc : cw_push q = none) (hp : cv_push q = none) (hS : cw_St Ds sh G P v0 e z L st h) (hr : cw_one Ds wm dp q e z = some r) : cw_Rs Ds sh G P wm v0 pc q.2.2.1 r h (cv_one X q (pc, L, st, h, c, n)) c n := by
  unfold cw_one at hr
  rw [hc] at hr
  dsimp only at hr
  rw [hl] at hr
  dsimp only at hr
  split at hr
  · rename_i x o hg
    obtain ⟨h1, h2⟩ := cv_bif hr
    cases h2
    exact cw_load_ok hl hp hg h1 hS
  · cases hr
theorem cw_sto_ok {q : cv_Q} {i k : Nat} (hl : cv_store q.2.1 = some (i, k)) (hc : cw_push q = none) (hp : cv_push q = none) (hld : cv_load q.2.1 = none) (hS : cw_St Ds sh G P v0 e z L st h) (hr : cw_one Ds wm dp q e z = some r) : cw_Rs Ds sh G P wm v0 pc q.2.2.1 r h (cv_one X q (pc, L, st, h, c, n)) c n := by
  unfold cw_one at hr
  rw [hc] at hr
  dsimp only at hr
  rw [hld] at hr
  dsimp only at hr
  rw [hl] at hr
  dsimp only at hr
  split at hr
  · rename_i x p z
    obtain ⟨h1, h2⟩ := cv_bif hr
    have := cw_store_ok (X := X) (pc := pc) (wm := wm) (c := c) (n := n) hl hp hld h1 hS
    cases h3 : k == 3 with
    | true => rw [h3] at h2 this; cases h2; exact this
    | false => rw [h3] at h2 this; cases h2; exact this
  · cases hr
theorem cw_psh_ok {q : cv_Q} {x : cw_A} (hc : cw_push q = some x) (hS : cw_St Ds sh G P v0 e z L st h) (hr : cw_one Ds wm dp q e z = some r) : cw_Rs Ds sh G P wm v0 pc q.2.2.1 r h (cv_one X q (pc, L, st, h, c, n)) c n := by
  unfold cw_one at hr
  rw [hc] at hr
  cases hr
  obtain ⟨v, h1, h2⟩ := cw_push_ok (G := G) (sh := sh) hc
  refine cw_pure (st' := v :: st) hS rfl ?_ ⟨⟨h2, trivial⟩, hS.2.1⟩
  unfold cv_one
  dsimp only
  rw [h1]
theorem cw_ar_ok {i : Instr} {x y : cw_W} {p p' : cw_P} (hr : (match cw_bin i x y with
    | some w => some [((none : Option Nat), e, (cw_int w, cw_binP i x p y) :: z)]
    | none => none) = some r) (hS : cw_St Ds sh G P v0 e ((.inl y, p') :: (.inl x, p) :: z) L st h) : cw_Rs Ds sh G P wm v0 pc len r h (cv_one X (pc, i, len, a, b, zz) (pc, L, st, h, c, n)) c n := by
  cases hb : cw_bin i x y with
  | none => rw [hb] at hr; cases hr
  | some w => rw [hb] at hr; cases hr; exact cw_arith_ok hb hS
theorem cw_arL_ok {i : Instr} {x y : cw_W} {p p' : cw_P} (hr : (match cw_binL i x y with
    | some w => some [((none : Option Nat), e, (cw_lng w, (none : cw_P)) :: z)]
    | none => none) = some r) (hS : cw_St Ds sh G P v0 e ((.inr (.inl y), p') :: (.inr (.inl x), p) :: z) L st h) : cw_Rs Ds sh G P wm v0 pc len r h (cv_one X (pc, i, len, a, b, zz) (pc, L, st, h, c, n)) c n := by
  cases hb : cw_binL i x y with
  | none => rw [hb] at hr; cases hr
  | some w => rw [hb] at hr; cases hr; exact cw_arithL_ok hb hS
theorem cw_one_ok (hPok : cw_Pok Ds sh dp P) (hdp : cw_dpok Ds dp) (hlen : Ds.length ≤ 1000) (hX : cw_Xok X) {q : cv_Q} (hq : q.1 = pc) (hS : cw_St Ds sh G P v0 e z L st h) (hr : cw_one Ds wm dp q e z = some r) : cw_Rs Ds sh G P wm v0 pc q.2.2.1 r h (cv_one X q (pc, L, st, h, c, n)) c n := by
  rcases hp : cw_push q with _ | x
  rotate_left
  · exact cw_psh_ok hp hS hr
  obtain ⟨pc', i, len, a, b, zz⟩ := q
  replace hq : pc' = pc := hq
  subst hq
  cases i
  case iload_n => exact cw_ld_ok rfl rfl rfl hS hr
  case iload => exact cw_ld_ok rfl rfl rfl hS hr
  case aload_n => exact cw_ld_ok rfl rfl rfl hS hr
  case aload => exact cw_ld_ok rfl rfl rfl hS hr
  case lload_n => exact cw_ld_ok rfl rfl rfl hS hr
  case lload => exact cw_ld_ok rfl rfl rfl hS hr
  case istore_n => exact cw_sto_ok rfl rfl rfl rfl hS hr
  case istore => exact cw_sto_ok rfl rfl rfl rfl hS hr
  case astore_n => exact cw_sto_ok rfl rfl rfl rfl hS hr
  case astore => exact cw_sto_ok rfl rfl rfl rfl hS hr
  case lstore_n => exact cw_sto_ok rfl rfl rfl rfl hS hr
  case lstore => exact cw_sto_ok rfl rfl rfl rfl hS hr
  case iinc => exact cw_iinc_ok hS hr
  case goto => exact cw_goto_ok hS hr
  case iaload => exact cw_iaload_ok hX hlen hS hr
  case baload => exact cw_baload_ok hlen hS hr
  case laload => exact cw_laload_ok hlen hS hr
  case aaload => exact cw_aaload_ok hlen hS hr
  case iastore => exact cw_iastore_ok hPok hdp hlen hS hr
  case bastore => exact cw_bastore_ok hPok hdp hlen hS hr
  case lastore => exact cw_lastore_ok hPok hdp hlen hS hr
  case aastore => exact cw_aastore_ok hPok hdp hlen hS hr
  case getfield => exact cw_getfield_ok hlen hS hr
  case putfield => exact cw_putfield_ok hPok hdp hlen hS hr
  case if_icmp => exact cw_icmp_ok hS hr
  case ifCond => exact cw_ifc_ok hS hr
  case dup => exact cw_dup_ok hS hr
  case pop => exact cw_pop_ok hS hr
  case dup2 => exact cw_dup2_ok hS hr
  case arraylength => exact cw_alen_ok hlen hS hr
  case lcmp => exact cw_lcmp_ok hS hr
  case lshr => exact cw_lshr_ok hS hr
  case tableswitch => exact cw_tsw_ok hS hr
  case i2b =>
    rcases z with _ | ⟨⟨y | y | y, p'⟩, z⟩
    · cases hr
    · cases hr
      match st, hS.2.1 with
      | v1 :: st, ⟨⟨⟨x, hx, hw⟩, hp⟩, hZ⟩ =>
        subst hx
        exact cw_pure hS rfl rfl ⟨⟨⟨_, rfl, (cw_nar1 x).1, (cw_nar1 x).2, cw_tg0⟩, trivial⟩, hZ⟩
    · rcases z with _ | ⟨⟨x | x | x, p⟩, z⟩ <;> (cases hr; done)
    · rcases z with _ | ⟨⟨x | x | x, p⟩, z⟩ <;> (cases hr; done)
  case i2l =>
    rcases z with _ | ⟨⟨y | y | y, p'⟩, z⟩
    · cases hr
    · cases hr
      match st, hS.2.1 with
      | v1 :: st, ⟨⟨⟨x, hx, hw⟩, hp⟩, hZ⟩ =>
        subst hx
        have e1 := Int32.toInt_toInt64 x
        exact cw_pure hS rfl rfl ⟨⟨⟨_, rfl, by rw [e1]; exact hw.1, by rw [e1]; exact hw.2.1, by rw [e1]; exact cw_tg_nz hw (fun q => q)⟩, trivial⟩, hZ⟩
    · rcases z with _ | ⟨⟨x | x | x, p⟩, z⟩ <;> (cases hr; done)
    · rcases z with _ | ⟨⟨x | x | x, p⟩, z⟩ <;> (cases hr; done)
  case ineg =>
    rcases z with _ | ⟨⟨y | y | y, p'⟩, z⟩
    · cases hr
    · cases hr
      match st, hS.2.1 with
      | v1 :: st, ⟨⟨⟨x, hx, hw⟩, hp⟩, hZ⟩ =>
        subst hx
        exact cw_pure hS rfl rfl ⟨⟨⟨_, rfl, cw_wr_ok (Int32.toInt_neg x) (by have := hw.2.1; omega) (by have := hw.1; omega) cw_tg0⟩, trivial⟩, hZ⟩
    · rcases z with _ | ⟨⟨x | x | x, p⟩, z⟩ <;> (cases hr; done)
    · rcases z with _ | ⟨⟨x | x | x, p⟩, z⟩ <;> (cases hr; done)
  case l2i =>
    rcases z with _ | ⟨⟨y | y | y, p'⟩, z⟩
    · cases hr
    · rcases z with _ | ⟨⟨x | x | x, p⟩, z⟩ <;> (cases hr; done)
    · cases hr
      match st, hS.2.1 with
      | v1 :: st, ⟨⟨⟨x, hx, hw⟩, hp⟩, hZ⟩ =>
        subst hx
        exact cw_pure hS rfl rfl ⟨⟨⟨_, rfl, cw_top_ok _⟩, trivial⟩, hZ⟩
    · rcases z with _ | ⟨⟨x | x | x, p⟩, z⟩ <;> (cases hr; done)
  case lneg =>
    rcases z with _ | ⟨⟨y | y | y, p'⟩, z⟩
    · cases hr
    · rcases z with _ | ⟨⟨x | x | x, p⟩, z⟩ <;> (cases hr; done)
    · cases hr
      match st, hS.2.1 with
      | v1 :: st, ⟨⟨⟨x, hx, hw⟩, hp⟩, hZ⟩ =>
        subst hx
        exact cw_pure hS rfl rfl ⟨⟨⟨_, rfl, (cw_i64 _).1, (cw_i64 _).2, cw_tg_nz hw cw_neg_nz⟩, trivial⟩, hZ⟩
    · rcases z with _ | ⟨⟨x | x | x, p⟩, z⟩ <;> (cases hr; done)
  all_goals
    unfold cw_one at hr
    rw [hp] at hr
    rcases z with _ | ⟨⟨y | y | y, p'⟩, _ | ⟨⟨x | x | x, p⟩, z⟩⟩ <;> first | (cases hr; done) | exact cw_ar_ok hr hS | exact cw_arL_ok hr hS
end CWA
end
section
/-! ===== contracts ===== -/
def cw_gas (G : Int) (sh : List Nat) : List cw_A → List cv_V → Prop
  | [], [] => True
  | a :: l, v :: m => cw_ga G sh a v ∧ cw_gas G sh l m
  | _, _ => False
def cw_Po (Ds : List cw_D) (sh : List Nat) (G : Int) (P : cv_H → Prop) (K : cw_K) (av : List cv_V) (h : cv_H) (o : cv_O) : Prop :=
  (match K.2.2.1, o.1 with
    | some a, some v => cw_ga G sh a v
    | none, none => True
    | _, _ => False) ∧ cw_Inv Ds sh G P o.2 ∧ cw_Fr Ds sh K.2.2.2.2.2.1 h o.2 ∧
  ∀ x : Int32, o.1 = some (cv_i x) → x.toInt ≠ 0 → (∀ t ∈ K.2.2.2.1, ∃ w, av[t.1]? = some w ∧ cw_ga G sh t.2 w) ∧
    ∀ t ∈ K.2.2.2.2.1, ∃ x y z : Int32, av[t.1]? = some (cv_i x) ∧ av[t.2.1]? = some (cv_i y) ∧ av[t.2.2]? = some (cv_i z) ∧ y.toInt ≤ x.toInt ∧ x.toInt ≤ z.toInt
def cw_fpo (G : Int) (sh : List Nat) (h : cv_H) (fp : List (Nat × cw_A)) (v : Option cv_V) : Prop := ∀ t ∈ fp, ∃ w, cw_fld h v t.1 = some w ∧ cw_ga G sh t.2 w
def cw_Holds (F : cv_F) (mt : Nat → cv_M) (Ds : List cw_D) (sh : List Nat) (G : Int) (P : cv_H → Prop) (K : cw_K) : Prop :=
  ∀ (X : cv_X) (h : cv_H) (av : List cv_V), cw_Xok X → cw_Inv Ds sh G P h → cw_gas G sh K.2.1 av → cw_fpo G sh h K.2.2.2.2.2.2 av.head? → ∃ o, cw_Ev F mt X K.1.1 (0, cv_ent 0 av, [], h, 0, 0) o ∧ cw_Po Ds sh G P K av h o
def cw_rmok (mt : Nat → cv_M) (K : cw_K) : Prop := (mt K.1.1).1.2.2.2.1 = K.1.2.1 ∧ (mt K.1.1).2.2.2.2.1 = K.1.2.2.1 ∧ (mt K.1.1).2.2.2.2.2 = K.1.2.2.2 ∧ (mt K.1.1).2.2.1 = 0 ∧ (mt K.1.1).2.2.2.1 = 0
section CWC
variable {F : cv_F} {mt : Nat → cv_M} {Ds : List cw_D} {sh : List Nat} {G : Int} {P : cv_H → Prop} {dp wm : Nat} {v0 : cw_U → Option cv_V} {X : cv_X} {pc mi : Nat} {e : cw_E} {z : cw_Z} {r : cw_R} {L : cv_L} {st : List cv_V} {h : cv_H}
theorem cw_Xok_no2 (hX : cw_Xok X) : cw_Xok (fun j => bif j == 2 then none else X j) := by
  intro j hj
  have : (j == 2) = false := by rcases hj with rfl | rfl <;> rfl
  dsimp only
  rw [this]
  exact hX j hj
theorem cw_Zr_app {vl : cw_U → Option cv_V} : ∀ {z1 : cw_Z} {s1 : List cv_V} {z2 : cw_Z} {s2 : List cv_V}, cw_Zr G sh vl z1 s1 → cw_Zr G sh vl z2 s2 → cw_Zr G sh vl (z1 ++ z2) (s1 ++ s2)
  | [], [], _, _, _, h => h
  | _ :: _, _ :: _, _, _, h1, h2 => ⟨h1.1, cw_Zr_app h1.2 h2⟩
theorem cw_Zr_rev {vl : cw_U → Option cv_V} : ∀ {z : cw_Z} {s : List cv_V}, cw_Zr G sh vl z s → cw_Zr G sh vl z.reverse s.reverse
  | [], [], _ => trivial
  | q :: z, v :: s, h => by
    rw [List.reverse_cons, List.reverse_cons]
    exact cw_Zr_app (cw_Zr_rev h.2) ⟨h.1, trivial⟩
theorem cw_Zr_take {vl : cw_U → Option cv_V} : ∀ (n : Nat) {z : cw_Z} {s : List cv_V}, cw_Zr G sh vl z s → cw_Zr G sh vl (z.take n) (s.take n) ∧ cw_Zr G sh vl (z.drop n) (s.drop n)
  | 0, z, s, h => ⟨by simp only [List.take_zero]; exact trivial, h⟩
  | n + 1, [], [], _ => ⟨trivial, trivial⟩
  | n + 1, q :: z, v :: s, h => by
    have ih := cw_Zr_take n h.2
    exact ⟨⟨h.1, ih.1⟩, ih.2⟩
theorem cw_Zr_get {vl : cw_U → Option cv_V} : ∀ {z : cw_Z} {s : List cv_V} {i : Nat} {q : cw_A × cw_P}, cw_Zr G sh vl z s → z[i]? = some q → ∃ v, s[i]? = some v ∧ cw_ga G sh q.1 v ∧ cw_pr G sh vl q.2 v
  | q' :: z, v :: s, 0, q, h, e => by cases e; exact ⟨v, rfl, h.1⟩
  | q' :: z, v :: s, i + 1, q, h, e => cw_Zr_get (z := z) (s := s) (i := i) h.2 e
theorem cw_subs_ok {vl : cw_U → Option cv_V} : ∀ {z : cw_Z} {s : List cv_V} {l : List cw_A}, cw_Zr G sh vl z s → cw_subs (z.map Prod.fst) l = true → cw_gas G sh l s
  | [], [], [], _, _ => trivial
  | [], [], _ :: _, _, h => by cases h
  | q :: z, v :: s, [], _, h => by cases h
  | q :: z, v :: s, a :: l, h, hs => by
    have hs : (cw_sub q.1 a && cw_subs (z.map Prod.fst) l) = true := hs
    rw [Bool.and_eq_true] at hs
    exact ⟨cw_sub_ok hs.1 h.1.1, cw_subs_ok h.2 hs.2⟩
theorem cw_fld_fr {h' : cv_H} {m k f : Nat} {x : cv_V} (hI : cw_Inv Ds sh G P h) (hI' : cw_Inv Ds sh G P h') (hF : cw_Fr Ds sh m h h') (hb : ∀ d, sh[k]? = some d → cw_bit m d f = false) (hx : cw_fld h (some (cv_r k)) f = some x) : cw_fld h' (some (cv_r k)) f = some x := by
  cases hk : sh[k]? with
  | none =>
    have hh := hF.1 k hk
    unfold cw_fld at hx ⊢
    dsimp only at hx ⊢
    rw [hh]
    exact hx
  | some d =>
    have hc := hI.1 k d hk
    have hc' := hI'.1 k d hk
    cases hD : Ds[d]? with
    | none => unfold cw_cell at hc; rw [hD] at hc; exact hc.elim
    | some D =>
      rcases D with ⟨t, m', p, rs⟩ | m' | ⟨t, m', d'⟩ | ⟨ci, fs⟩
      · obtain ⟨xs, h1, -⟩ := cw_cell_i hD hc
        unfold cw_fld at hx; dsimp only at hx; rw [h1] at hx; cases hx
      · obtain ⟨xs, h1, -⟩ := cw_cell_l hD hc
        unfold cw_fld at hx; dsimp only at hx; rw [h1] at hx; cases hx
      · obtain ⟨xs, h1, -⟩ := cw_cell_r hD hc
        unfold cw_fld at hx; dsimp only at hx; rw [h1] at hx; cases hx
      · obtain ⟨vs, h1, -⟩ := cw_cell_o hD hc
        obtain ⟨vs', h1', -⟩ := cw_cell_o hD hc'
        rw [cw_fld_at h1] at hx
        rw [cw_fld_at h1']
        have ht : cw_tch Ds m d f = false := by unfold cw_tch; rw [hD]; exact hb d hk
        have := hF.2 k d f hk ht
        unfold cw_at at this
        rw [h1, h1'] at this
        have this : vs'[f]? = vs[f]? := this
        rw [this]
        exact hx
theorem cw_keep_ok {K : cw_K} {h' : cv_H} (hI : cw_Inv Ds sh G P h) (hI' : cw_Inv Ds sh G P h') (hF : cw_Fr Ds sh K.2.2.2.2.2.1 h h') (hE : cw_Er G sh v0 e (cw_val L h)) : cw_Er G sh v0 (cw_keep Ds K e) (cw_val L h') := by
  unfold cw_keep
  refine cw_Er_mv hE fun t ht => ?_
  obtain ⟨hm, hk⟩ := List.mem_filter.mp ht
  refine ⟨hm, fun w hw _ => ?_⟩
  rw [Bool.or_eq_true] at hk
  rcases hk with hk | hk
  · simp only [beq_iff_eq] at hk
    unfold cw_val at hw ⊢
    rw [hk] at hw ⊢
    exact hw
  · split at hk
    · rename_i d o hg
      simp only [Bool.and_eq_true, Bool.not_eq_true'] at hk
      obtain ⟨hd, hb1, hk⟩ := hk
      obtain ⟨v, g1, g2, -⟩ := cw_get_ok hE hg
      have g1 : cv_get L t.1.1 = some v := g1
      obtain ⟨k0, rfl, hk0⟩ : ∃ k, v = cv_r k ∧ sh[k]? = some d := by
        rcases g2 with ⟨-, k, h1, h2⟩ | ⟨j, h1, -⟩
        · exact ⟨k, h1, h2⟩
        · have := Nat.le_of_ble_eq_true hd; omega
      refine cw_val_hp hw (fun k x h1 h2 _ h3 => ?_) (fun k k' x h0 h1 h2 h3 => ?_)
      · rw [g1] at h1
        cases h1
        exact cw_fld_fr hI hI' hF (fun d' hd' => by rw [hk0] at hd'; cases hd'; exact hb1) h3
      · rw [g1] at h1
        cases h1
        rw [Bool.or_eq_true] at hk
        rcases hk with hk | hk
        · exact absurd (Nat.le_of_ble_eq_true hk) h0
        · split at hk
          · rename_i ci fs hD
            obtain ⟨vs, hv1, -, hv3⟩ := cw_cell_o hD (hI.1 k0 d hk0)
            rw [cw_fld_at hv1] at h2
            split at hk
            · rename_i d' hf
              simp only [Bool.and_eq_true, Bool.not_eq_true'] at hk
              obtain ⟨v', e1, e2⟩ := hv3 _ _ hf
              rw [h2] at e1
              cases e1
              obtain ⟨hk', e3⟩ : sh[k']? = some d' ∧ True := by
                rcases e2 with ⟨-, k, h1, h2⟩ | ⟨j, h1, -⟩
                · cases h1; exact ⟨h2, trivial⟩
                · have := Nat.le_of_ble_eq_true hk.1; omega
              exact cw_fld_fr hI hI' hF (fun d2 hd2 => by rw [hk'] at hd2; cases hd2; exact hk.2) h3
            · cases hk
          · cases hk
    · cases hk
theorem cw_bit0 {d s : Nat} : cw_bit 0 d s = false := Nat.zero_testBit _
theorem cw_val_fr {h' : cv_H} {m : Nat} {u : cw_U} {w : cv_V} (hI : cw_Inv Ds sh G P h) (hI' : cw_Inv Ds sh G P h') (hF : cw_Fr Ds sh m h h') (hu : (u.2 == 0 || m == 0) = true) (hw : cw_val L h u = some w) : cw_val L h' u = some w := by
  rw [Bool.or_eq_true] at hu
  rcases hu with hu | hu
  · simp only [beq_iff_eq] at hu
    unfold cw_val at hw ⊢
    rw [hu] at hw ⊢
    exact hw
  · simp only [beq_iff_eq] at hu
    subst hu
    exact cw_val_hp hw (fun k x _ _ _ h3 => cw_fld_fr hI hI' hF (fun _ _ => cw_bit0) h3) (fun k k' x _ _ _ h3 => cw_fld_fr hI hI' hF (fun _ _ => cw_bit0) h3)
theorem cw_var0_ok {vl : cw_U → Option cv_V} {zs : cw_Z} {av : List cv_V} {p : Nat} {u : cw_U} (hZ : cw_Zr G sh vl zs av) (h : cw_var0 zs p = some u) : ∃ v, av[p]? = some v ∧ vl u = some v := by
  unfold cw_var0 at h
  split at h
  · rename_i a u' d hz
    obtain ⟨h1, h2⟩ := cv_bif h
    cases h2
    simp only [decide_eq_true_eq] at h1
    subst h1
    obtain ⟨v, g1, -, w, g2, g3⟩ := cw_Zr_get hZ hz
    have := cw_eqd_0 g3
    subst this
    exact ⟨_, g1, g2⟩
  · cases h
theorem cw_w0_ok {vl : cw_U → Option cv_V} {zs : cw_Z} {av : List cv_V} {p : Nat} {w : cw_W} (hZ : cw_Zr G sh vl zs av) (h : cw_w0 zs p = some w) : ∃ x : Int32, av[p]? = some (cv_i x) ∧ cw_wok G w x.toInt := by
  unfold cw_w0 at h
  split at h
  · rename_i w' p' hz
    cases h
    obtain ⟨v, g1, ⟨x, rfl, g2⟩, -⟩ := cw_Zr_get hZ hz
    exact ⟨x, g1, g2⟩
  · cases h
theorem cw_go_ok {M : cv_M} {K : cw_K} {zs : cw_Z} {av stk : List cv_V} {j : Nat} (hr : cw_go Ds M wm K zs e z = some r) (hj : K.1.1 = j) (hM : M = mt mi) (hK : cw_Holds F mt Ds sh G P K) (hrm : cw_rmok mt K) (hX : cw_Xok X) (hI : cw_Inv Ds sh G P h) (hE : cw_Er G sh v0 e (cw_val L h)) (hzs : cw_Zr G sh (cw_val L h) zs av) (hZ : cw_Zr G sh (cw_val L h) z stk) (hs : cw_subs (zs.map Prod.fst) K.2.1 = true) (hfp : cw_fps e zs K.2.2.2.2.2.2 = true) :
    ∃ e' z' o, r = [(none, e', z')] ∧ cv_fits (mt mi) (mt j) 0 0 (cv_wid av) stk = true ∧ cw_Ev F mt (fun j => bif j == 2 then none else X j) j (0, cv_ent 0 av, [], h, 0, 0) o ∧ cw_St Ds sh G P v0 e' z' L (o.1.toList ++ stk) o.2 ∧ cw_Fr Ds sh wm h o.2 ∧ (mt j).2.2.1 = 0 ∧ (mt j).2.2.2.1 = 0 := by
  subst hj hM
  unfold cw_go at hr
  obtain ⟨h1, h2⟩ := cv_bif hr
  simp only [Bool.and_eq_true, Nat.ble_eq] at h1
  obtain ⟨⟨a1, a2, a3, a4⟩, a5⟩ := h1
  obtain ⟨b1, b2, b3, b4, b5⟩ := hrm
  have hfpo : cw_fpo G sh h K.2.2.2.2.2.2 av.head? := by
    intro t ht
    unfold cw_fps at hfp
    split at hfp
    · rename_i q; rw [q] at ht; exact absurd ht List.not_mem_nil
    · rename_i fp hne
      split at hfp
      · rename_i a p zs'
        split at hfp
        · rename_i i hu
          match av, hzs with
          | v :: av, ⟨⟨_, hp⟩, _⟩ =>
          have hv := cw_uref_ok hu hp
          have hf := List.all_eq_true.mp hfp t ht
          rw [Bool.and_eq_true] at hf
          obtain ⟨h98, hf⟩ := hf
          have h98 := Nat.le_of_ble_eq_true h98
          split at hf
          · rename_i a' o' hg
            obtain ⟨w, g1, g2, -⟩ := cw_get_ok hE hg
            refine ⟨w, ?_, cw_sub_ok hf g2⟩
            have g1 : (bif (t.1 + 1) == 0 then cv_get L i else bif Nat.ble (t.1 + 1) 99 then cw_fld h (cv_get L i) (t.1 + 1 - 1) else _) = some w := g1
            rw [Nat.ble_eq_true_of_le (by omega), hv] at g1
            exact g1
          · cases hf
        · cases hfp
      · cases hfp
  obtain ⟨o, ho, p1, p2, p3, p4⟩ := hK _ h av (cw_Xok_no2 hX) hI (cw_subs_ok hzs hs) hfpo
  have hstk : cw_Zr G sh (cw_val L o.2) (cw_clr (fun u => !(u.2 == 0)) z) stk := cw_Zr_clr (fun u hu w hw => by
      have hu0 : u.2 = 0 := by simpa using hu
      unfold cw_val at hw ⊢
      rw [hu0] at hw ⊢
      exact hw) hZ
  refine ⟨_, _, o, (Option.some.inj h2).symm, ?_, ho, ⟨cw_keep_ok hI p2 p3 hE, ?_, p2⟩, cw_Fr_mono a5 p3, b4, b5⟩
  · unfold cv_fits
    rw [b1, b2, b3, b4, b5, ← cw_Zr_wid hzs, ← cw_Zr_wid hZ]
    simp only [Bool.and_eq_true, decide_eq_true_eq]
    exact ⟨a1, by omega, by omega, a2, a3, a4⟩
  · cases hpo : K.2.2.1 with
    | none =>
      rw [hpo] at p1
      cases ho1 : o.1 with
      | none => exact hstk
      | some v => rw [ho1] at p1; exact p1.elim
    | some a =>
      rw [hpo] at p1
      cases ho1 : o.1 with
      | none => rw [ho1] at p1; exact p1.elim
      | some v =>
        rw [ho1] at p1 p4
        refine ⟨⟨p1, ?_⟩, hstk⟩
        dsimp only
        have htl : cw_pr G sh (cw_val L o.2) (some (.inr (.inr (cw_tells K zs)))) v := by
          intro x hx hx0 t ht
          obtain ⟨q1, q2⟩ := p4 x (by rw [hx]) hx0
          unfold cw_tells at ht
          rcases List.mem_append.mp ht with ht | ht
          · obtain ⟨t0, ht0, hm⟩ := List.mem_filterMap.mp ht
            cases hv : cw_var0 zs t0.1 with
            | none => rw [hv] at hm; cases hm
            | some u =>
              rw [hv] at hm
              obtain ⟨hm1, hm2⟩ := cv_bif hm
              cases hm2
              obtain ⟨w, g1, g2⟩ := q1 t0 ht0
              obtain ⟨v', k1, k2⟩ := cw_var0_ok hzs hv
              rw [g1] at k1
              cases k1
              exact ⟨w, cw_val_fr hI p2 p3 hm1 k2, g2⟩
          · obtain ⟨t0, ht0, hm⟩ := List.mem_filterMap.mp ht
            split at hm
            · rename_i u a' b' hv ha hb
              obtain ⟨hm1, hm2⟩ := cv_bif hm
              cases hm2
              obtain ⟨x1, y1, z1, g1, g2, g3, g4, g5⟩ := q2 t0 ht0
              obtain ⟨v', k1, k2⟩ := cw_var0_ok hzs hv
              obtain ⟨y2, c1, c2⟩ := cw_w0_ok hzs ha
              obtain ⟨z2, d1, d2⟩ := cw_w0_ok hzs hb
              rw [g1] at k1
              cases k1
              rw [g2] at c1
              cases c1
              rw [g3] at d1
              cases d1
              refine ⟨_, cw_val_fr hI p2 p3 hm1 k2, x1, rfl, ?_, ?_, cw_tg0⟩
              · have := c2.1; dsimp only; omega
              · have := d2.2.1; dsimp only; omega
            · cases hm
        split
        · exact trivial
        · rename_i l hl
          exact htl
theorem cw_find_ok {Ks : List cw_K} {j : Nat} {zs : cw_Z} {K : cw_K} (h : cw_find Ks j e zs = some K) : K ∈ Ks ∧ K.1.1 = j ∧ cw_subs (zs.map Prod.fst) K.2.1 = true ∧ cw_fps e zs K.2.2.2.2.2.2 = true := by
  unfold cw_find at h
  have h1 := List.mem_of_find?_eq_some h
  have h2 := List.find?_some h
  simp only [Bool.and_eq_true, beq_iff_eq] at h2
  exact ⟨h1, h2⟩
theorem cw_call_ok {Ks : List cw_K} {M : cv_M} {q : cv_Q} (hr : cw_call Ds Ks M wm q e z = some r) (hM : M = mt mi) (hKs : ∀ K ∈ Ks, cw_Holds F mt Ds sh G P K ∧ cw_rmok mt K) (hlen : Ds.length ≤ 1000) (hX : cw_Xok X) (hS : cw_St Ds sh G P v0 e z L st h) :
    ∃ e' z' o j av stk, r = [(none, e', z')] ∧ q.2.2.2.1 < 9000 ∧ cv_call q (pc, L, st, h, 0, 0) = some (j, av, stk) ∧ cv_fits (mt mi) (mt j) 0 0 (cv_wid av) stk = true ∧ cw_Ev F mt (fun j => bif j == 2 then none else X j) j (0, cv_ent 0 av, [], h, 0, 0) o ∧ cw_St Ds sh G P v0 e' z' L (o.1.toList ++ stk) o.2 ∧ cw_Fr Ds sh wm h o.2 ∧ (mt j).2.2.1 = 0 ∧ (mt j).2.2.2.1 = 0 := by
  obtain ⟨hE, hZ, hI⟩ := hS
  unfold cw_call at hr
  dsimp only at hr
  obtain ⟨h1, h2⟩ := cv_bif hr
  simp only [Bool.and_eq_true, Nat.ble_eq] at h1
  have hl := cw_Zr_len hZ
  have hnp : decide (q.2.2.2.2.1 ≤ st.length) = true := decide_eq_true (by omega)
  have htk := cw_Zr_take q.2.2.2.2.1 hZ
  split at h2
  · rename_i ix hi
    split at h2
    · rename_i K hf
      obtain ⟨f1, f2, f3, f4⟩ := cw_find_ok hf
      obtain ⟨e', z', o, g⟩ := cw_go_ok h2 f2 hM (hKs K f1).1 (hKs K f1).2 hX hI hE (cw_Zr_rev htk.1) htk.2 f3 f4
      refine ⟨e', z', o, q.2.2.2.1, _, _, g.1, by omega, ?_, g.2⟩
      unfold cv_call
      dsimp only
      rw [hnp, cond_true, hi]
    · cases h2
  · rename_i ix hi
    split at h2
    · rename_i d p z' hd
      have hdr := htk.2
      rw [hd] at hdr
      cases hst : st.drop q.2.2.2.2.1 with
      | nil => rw [hst] at hdr; exact hdr.elim
      | cons v stk =>
        rw [hst] at hdr
        split at h2
        · rename_i ci fs hD
          obtain ⟨h3, h4⟩ := cv_bif h2
          split at h4
          · rename_i K hf
            obtain ⟨f1, f2, f3, f4⟩ := cw_find_ok hf
            obtain ⟨k, rfl, hk, hc⟩ := cw_ref_ok hI hdr.1.1 hD hlen
            obtain ⟨vs, hv1, -⟩ := cw_cell_o hD hc
            obtain ⟨e', z', o, g⟩ := cw_go_ok (av := cv_r k :: (st.take q.2.2.2.2.1).reverse) h4 f2 hM (hKs K f1).1 (hKs K f1).2 hX hI hE ⟨hdr.1, cw_Zr_rev htk.1⟩ hdr.2 f3 f4
            refine ⟨e', z', o, q.2.2.2.1, _, _, g.1, by omega, ?_, g.2⟩
            rw [Bool.and_eq_true] at h3
            unfold cv_call
            dsimp only
            rw [hnp, cond_true, hi]
            dsimp only
            rw [hst]
            dsimp only
            rw [hv1]
            dsimp only
            rw [h3.1]
            rfl
          · cases h4
        · cases h2
    · cases h2
  · cases h2
theorem cw_max_ok {x y : cw_W} {a b : Int32} (hx : cw_wok G x a.toInt) (hy : cw_wok G y b.toInt) : cw_wok G (cw_mx x.1 y.1, cw_mx x.2.1 y.2.1, 0) (if a < b then b else a).toInt := by
  have h1 : (if a < b then b else a).toInt = if a.toInt < b.toInt then b.toInt else a.toInt := by
    by_cases q : a < b
    · rw [if_pos q, if_pos (Int32.lt_iff_toInt_lt.mp q)]
    · rw [if_neg q, if_neg fun p => q (Int32.lt_iff_toInt_lt.mpr p)]
  rw [h1]
  have := hx.1; have := hx.2.1; have := hy.1; have := hy.2.1
  have k1 := cw_mx_l (a := x.2.1) (b := y.2.1); have k2 := cw_mx_r (a := x.2.1) (b := y.2.1)
  refine ⟨?_, ?_, cw_tg0⟩
  · split <;> refine cw_le_mx ?_ ?_ <;> omega
  · dsimp only; split <;> omega
theorem cw_min_ok {x y : cw_W} {a b : Int32} (hx : cw_wok G x a.toInt) (hy : cw_wok G y b.toInt) : cw_wok G (cw_mn x.1 y.1, cw_mn x.2.1 y.2.1, 0) (if b < a then b else a).toInt := by
  have h1 : (if b < a then b else a).toInt = if b.toInt < a.toInt then b.toInt else a.toInt := by
    by_cases q : b < a
    · rw [if_pos q, if_pos (Int32.lt_iff_toInt_lt.mp q)]
    · rw [if_neg q, if_neg fun p => q (Int32.lt_iff_toInt_lt.mpr p)]
  rw [h1]
  have := hx.1; have := hx.2.1; have := hy.1; have := hy.2.1
  have k1 := cw_mn_l (a := x.1) (b := y.1); have k2 := cw_mn_r (a := x.1) (b := y.1)
  refine ⟨?_, ?_, cw_tg0⟩
  · dsimp only; split <;> omega
  · split <;> refine cw_mn_le ?_ ?_ <;> omega
theorem cw_abs_nz {x : Int64} (h : x.toInt ≠ 0) : (if 0 < x then x else -x).toInt ≠ 0 := by
  split
  · exact h
  · exact cw_neg_nz h
theorem cw_nat_ok {M : cv_M} {q : cv_Q} (hr : cw_nat M q e z = some r) (hS : cw_St Ds sh G P v0 e z L st h) : ∃ z' st', r = [(none, e, z')] ∧ cv_nat M q (pc, L, st, h, 0, 0) = some (pc + q.2.2.1, L, st', h, 0, 0) ∧ cw_St Ds sh G P v0 e z' L st' h := by
  unfold cw_nat at hr
  obtain ⟨h1, h2⟩ := cv_bif hr
  have hb : (decide (1 ≤ M.2.2.2.2.1) && (decide (0 ≤ M.2.2.1) && decide (0 ≤ M.2.2.2.1))) = true := by
    simp only [Bool.and_eq_true, decide_eq_true_eq]
    exact ⟨Nat.le_of_ble_eq_true h1, Nat.zero_le _, Nat.zero_le _⟩
  obtain ⟨hE, hZ, hI⟩ := hS
  split at h2
  · rename_i ix y p' x p z' hi ha
    obtain ⟨h3, h4⟩ := cv_bif h2
    cases h4
    match st, hZ with
    | v1 :: v2 :: st, ⟨⟨⟨k, hk, hy⟩, _⟩, ⟨⟨m, hm, hx⟩, _⟩, hZ⟩ =>
    subst hk hm
    have h3 := Nat.le_of_ble_eq_true h3
    rw [cw_Zr_wid hZ] at h3
    refine ⟨_, cv_i (if m < k then k else m) :: st, rfl, ?_, hE, ⟨⟨⟨_, rfl, cw_max_ok hx hy⟩, trivial⟩, hZ⟩, hI⟩
    unfold cv_nat
    dsimp only
    rw [hb, cond_true, hi, ha]
    show (bif decide _ then some _ else none) = _
    rw [decide_eq_true h3]
    rfl
  · rename_i ix y p' x p z' hi ha
    obtain ⟨h3, h4⟩ := cv_bif h2
    cases h4
    match st, hZ with
    | v1 :: v2 :: st, ⟨⟨⟨k, hk, hy⟩, _⟩, ⟨⟨m, hm, hx⟩, _⟩, hZ⟩ =>
    subst hk hm
    have h3 := Nat.le_of_ble_eq_true h3
    rw [cw_Zr_wid hZ] at h3
    refine ⟨_, cv_i (if k < m then k else m) :: st, rfl, ?_, hE, ⟨⟨⟨_, rfl, cw_min_ok hx hy⟩, trivial⟩, hZ⟩, hI⟩
    unfold cv_nat
    dsimp only
    rw [hb, cond_true, hi, ha]
    show (bif decide _ then some _ else none) = _
    rw [decide_eq_true h3]
    rfl
  · rename_i ix x p z' hi ha
    obtain ⟨h3, h4⟩ := cv_bif h2
    cases h4
    match st, hZ with
    | v1 :: st, ⟨⟨⟨m, hm, hx⟩, _⟩, hZ⟩ =>
    subst hm
    have h3 := Nat.le_of_ble_eq_true h3
    rw [cw_Zr_wid hZ] at h3
    refine ⟨_, cv_i (if 0 ≤ m then m else 0 - m) :: st, rfl, ?_, hE, ⟨⟨⟨_, rfl, cw_top_ok _⟩, trivial⟩, hZ⟩, hI⟩
    unfold cv_nat
    dsimp only
    rw [hb, cond_true, hi, ha]
    show (bif decide _ then some _ else none) = _
    rw [decide_eq_true h3]
    rfl
  · rename_i ix y p' x p z' hi ha
    obtain ⟨h3, h4⟩ := cv_bif h2
    cases h4
    match st, hZ with
    | v1 :: v2 :: st, ⟨⟨⟨k, hk, hy⟩, _⟩, ⟨⟨m, hm, hx⟩, _⟩, hZ⟩ =>
    subst hk hm
    have h3 := Nat.le_of_ble_eq_true h3
    rw [cw_Zr_wid hZ] at h3
    refine ⟨_, cv_l (if k < m then m else k) :: st, rfl, ?_, hE, ⟨⟨⟨_, rfl, cw_topL_ok _⟩, trivial⟩, hZ⟩, hI⟩
    unfold cv_nat
    dsimp only
    rw [hb, cond_true, hi, ha]
    show (bif decide _ then some _ else none) = _
    rw [decide_eq_true h3]
    rfl
  · rename_i ix y p' x p z' hi ha
    obtain ⟨h3, h4⟩ := cv_bif h2
    cases h4
    match st, hZ with
    | v1 :: v2 :: st, ⟨⟨⟨k, hk, hy⟩, _⟩, ⟨⟨m, hm, hx⟩, _⟩, hZ⟩ =>
    subst hk hm
    have h3 := Nat.le_of_ble_eq_true h3
    rw [cw_Zr_wid hZ] at h3
    refine ⟨_, cv_l (if k < m then k else m) :: st, rfl, ?_, hE, ⟨⟨⟨_, rfl, cw_topL_ok _⟩, trivial⟩, hZ⟩, hI⟩
    unfold cv_nat
    dsimp only
    rw [hb, cond_true, hi, ha]
    show (bif decide _ then some _ else none) = _
    rw [decide_eq_true h3]
    rfl
  · rename_i ix x p z' hi ha
    obtain ⟨h3, h4⟩ := cv_bif h2
    cases h4
    match st, hZ with
    | v1 :: st, ⟨⟨⟨m, hm, hx⟩, _⟩, hZ⟩ =>
    subst hm
    have h3 := Nat.le_of_ble_eq_true h3
    rw [cw_Zr_wid hZ] at h3
    refine ⟨_, cv_l (if 0 < m then m else -m) :: st, rfl, ?_, hE, ⟨⟨⟨_, rfl, (cw_i64 _).1, (cw_i64 _).2, cw_tg_nz hx cw_abs_nz⟩, trivial⟩, hZ⟩, hI⟩
    unfold cv_nat
    dsimp only
    rw [hb, cond_true, hi, ha]
    show (bif decide _ then some _ else none) = _
    rw [decide_eq_true h3]
    rfl
  · cases h2
end CWC
end
section
/-! ===== a method that the check passes keeps its contract ===== -/
def cw_cp (vl : cw_U → Option cv_V) (c : Nat × cw_U × Nat) : Nat := match c.1 with
  | 0 => min c.2.2 1000
  | 1 => (match vl c.2.1 with
    | some (.inl x) => (2147483648 - x.toInt).toNat
    | _ => 0)
  | _ => (match vl c.2.1 with
    | some (.inl x) => (x.toInt + 2147483648).toNat
    | _ => 0)
def cw_ms (vl : cw_U → Option cv_V) : List (Nat × cw_U × Nat) → Nat
  | [] => 0
  | c :: l => cw_cp vl c * 8589934592 ^ l.length + cw_ms vl l
section CWV
variable {F : cv_F} {mt : Nat → cv_M} {Ds : List cw_D} {sh : List Nat} {G : Int} {P : cv_H → Prop} {dp : Nat} {v0 : cw_U → Option cv_V} {X : cv_X} {pc mi : Nat} {e : cw_E} {z : cw_Z} {r : cw_R} {L : cv_L} {st : List cv_V} {h : cv_H} {K : cw_K}
theorem cw_cp_lt (vl : cw_U → Option cv_V) (c : Nat × cw_U × Nat) : cw_cp vl c < 8589934592 := by
  unfold cw_cp
  split
  · omega
  · split
    · rename_i x _; have := cw_i32 x; omega
    · omega
  · split
    · rename_i x _; have := cw_i32 x; omega
    · omega
theorem cw_ms_lt (vl : cw_U → Option cv_V) : ∀ l, cw_ms vl l < 8589934592 ^ l.length
  | [] => by show 0 < 1; omega
  | c :: l => by
    have h1 := cw_ms_lt vl l
    have h2 := cw_cp_lt vl c
    show cw_cp vl c * 8589934592 ^ l.length + cw_ms vl l < 8589934592 ^ (l.length + 1)
    rw [Nat.pow_succ]
    have h3 : (cw_cp vl c + 1) * 8589934592 ^ l.length ≤ 8589934592 * 8589934592 ^ l.length := Nat.mul_le_mul_right _ h2
    rw [Nat.add_mul, Nat.one_mul] at h3
    rw [Nat.mul_comm (8589934592 ^ l.length)]
    omega
theorem cw_ms_step {vl v0 : cw_U → Option cv_V} {c d : Nat × cw_U × Nat} {l m : List (Nat × cw_U × Nat)} (hl : l.length = m.length) (h : cw_cp vl d < cw_cp v0 c ∨ (cw_cp vl d = cw_cp v0 c ∧ cw_ms vl m < cw_ms v0 l)) : cw_ms vl (d :: m) < cw_ms v0 (c :: l) := by
  show cw_cp vl d * 8589934592 ^ m.length + cw_ms vl m < cw_cp v0 c * 8589934592 ^ l.length + cw_ms v0 l
  rw [hl]
  rcases h with h | ⟨h1, h2⟩
  · have h3 := cw_ms_lt vl m
    have h4 : (cw_cp vl d + 1) * 8589934592 ^ m.length ≤ cw_cp v0 c * 8589934592 ^ m.length := Nat.mul_le_mul_right _ h
    rw [Nat.add_mul, Nat.one_mul] at h4
    omega
  · rw [h1]
    omega
theorem cw_t1 (a b : Int) (ha : -2147483648 ≤ a ∧ a ≤ 2147483647) (hb : -2147483648 ≤ b ∧ b ≤ 2147483647) (h : b < a) : (2147483648 - a).toNat < (2147483648 - b).toNat := by omega
theorem cw_t2 (a b : Int) (h : a = b) : (2147483648 - a).toNat = (2147483648 - b).toNat := by rw [h]
theorem cw_t3 (a b : Int) (ha : -2147483648 ≤ a ∧ a ≤ 2147483647) (hb : -2147483648 ≤ b ∧ b ≤ 2147483647) (h : a < b) : (a + 2147483648).toNat < (b + 2147483648).toNat := by omega
theorem cw_t4 (a b : Int) (h : a = b) : (a + 2147483648).toNat = (b + 2147483648).toNat := by rw [h]
theorem cw_dec_ok {vl : cw_U → Option cv_V} (hE : cw_Er G sh v0 e vl) : ∀ {l m : List (Nat × cw_U × Nat)}, l.length = m.length → cw_dec e l m = true → cw_ms vl m < cw_ms v0 l
  | [], m, _, h => by cases h
  | c :: l, [], _, h => by obtain ⟨_ | _ | _ | k, u, a⟩ := c <;> cases h
  | ⟨k, u, a⟩ :: l, ⟨k', v, b⟩ :: m, hl, h => by
    have hl' : l.length = m.length := by simpa using hl
    have key : ∀ d : Int, (∃ w, cw_get e u = some (.inl w, some d)) → ∃ x0 x : Int32, v0 u = some (cv_i x0) ∧ vl u = some (cv_i x) ∧ x.toInt = x0.toInt + d := by
      intro d ⟨w, hg⟩
      obtain ⟨y, g1, ⟨x, rfl, -⟩, g3⟩ := cw_get_ok hE hg
      obtain ⟨w0, k1, k2⟩ := g3 d rfl
      rcases k2 with ⟨rfl, rfl⟩ | ⟨x0, x', rfl, e1, e2⟩
      · exact ⟨x, x, k1, g1, by omega⟩
      · cases e1; exact ⟨x0, x, k1, g1, e2⟩
    match k, k', h with
    | 0, 0, h =>
      have g : ((Nat.ble (b + 1) a && Nat.ble a 1000) || (a == b && cw_dec e l m)) = true := h
      simp only [Bool.or_eq_true, Bool.and_eq_true, Nat.ble_eq, beq_iff_eq] at g
      clear h
      refine cw_ms_step hl' ?_
      show min b 1000 < min a 1000 ∨ (min b 1000 = min a 1000 ∧ _)
      rcases g with g | ⟨g0, g⟩
      · left; omega
      · exact .inr ⟨by rw [g0], cw_dec_ok hE hl' g⟩
    | 1, 1, h =>
      have g : (cw_ueq u v && (match cw_get e u with
        | some (.inl _, some d) => cw_le 1 d || (decide (d = 0) && cw_dec e l m)
        | _ => false)) = true := h
      clear h
      rw [Bool.and_eq_true, cw_ueq_iff] at g
      obtain ⟨g0, g⟩ := g
      subst g0
      split at g
      · rename_i w d hg
        obtain ⟨x0, x, g1, g2, g3⟩ := key d ⟨w, hg⟩
        refine cw_ms_step hl' ?_
        show (match vl u with
          | some (.inl x) => (2147483648 - x.toInt).toNat
          | _ => 0) < (match v0 u with
          | some (.inl x) => (2147483648 - x.toInt).toNat
          | _ => 0) ∨ ((match vl u with
          | some (.inl x) => (2147483648 - x.toInt).toNat
          | _ => 0) = (match v0 u with
          | some (.inl x) => (2147483648 - x.toInt).toNat
          | _ => 0) ∧ _)
        rw [g1, g2]
        have i1 := cw_i32 x
        have i2 := cw_i32 x0
        simp only [Bool.or_eq_true, Bool.and_eq_true, cw_le_iff, decide_eq_true_eq] at g
        rcases g with h | ⟨h, h'⟩
        · exact .inl (cw_t1 _ _ i1 i2 (by omega))
        · exact .inr ⟨cw_t2 _ _ (by omega), cw_dec_ok hE hl' h'⟩
      · cases g
    | 2, 2, h =>
      have g : (cw_ueq u v && (match cw_get e u with
        | some (.inl _, some d) => cw_le d (-1) || (decide (d = 0) && cw_dec e l m)
        | _ => false)) = true := h
      clear h
      rw [Bool.and_eq_true, cw_ueq_iff] at g
      obtain ⟨g0, g⟩ := g
      subst g0
      split at g
      · rename_i w d hg
        obtain ⟨x0, x, g1, g2, g3⟩ := key d ⟨w, hg⟩
        refine cw_ms_step hl' ?_
        show (match vl u with
          | some (.inl x) => (x.toInt + 2147483648).toNat
          | _ => 0) < (match v0 u with
          | some (.inl x) => (x.toInt + 2147483648).toNat
          | _ => 0) ∨ ((match vl u with
          | some (.inl x) => (x.toInt + 2147483648).toNat
          | _ => 0) = (match v0 u with
          | some (.inl x) => (x.toInt + 2147483648).toNat
          | _ => 0) ∧ _)
        rw [g1, g2]
        have i1 := cw_i32 x
        have i2 := cw_i32 x0
        simp only [Bool.or_eq_true, Bool.and_eq_true, cw_le_iff, decide_eq_true_eq] at g
        rcases g with h | ⟨h, h'⟩
        · exact .inl (cw_t3 _ _ i1 i2 (by omega))
        · exact .inr ⟨cw_t4 _ _ (by omega), cw_dec_ok hE hl' h'⟩
      · cases g
    | 0, k' + 1, h => cases h
    | 1, 0, h => cases h
    | 1, k' + 2, h => cases h
    | 2, 0, h => cases h
    | 2, 1, h => cases h
    | 2, k' + 3, h => cases h
    | k + 3, k', h => cases h
def cw_co (G : Int) (sh : List Nat) (c : List (cw_U × cw_A)) (vl : cw_U → Option cv_V) : Prop := ∀ t ∈ c, ∃ v, vl t.1 = some v ∧ cw_ga G sh t.2 v
theorem cw_incl_ok {c : List (cw_U × cw_A)} (hI : cw_Inv Ds sh G P h) (hE : cw_Er G sh v0 e (cw_val L h)) (hc : cw_incl Ds e c = true) : cw_co G sh c (cw_val L h) := by
  intro t ht
  have h1 := List.all_eq_true.mp hc t ht
  split at h1
  · rename_i a o hg
    obtain ⟨v, g1, g2, -⟩ := cw_get_ok hE hg
    exact ⟨v, g1, cw_sub_ok h1 g2⟩
  · simp only [Bool.and_eq_true, Nat.ble_eq] at h1
    obtain ⟨h1, h2, h3⟩ := h1
    split at h3
    · rename_i d o hg
      rw [Bool.and_eq_true] at h3
      obtain ⟨h4, h3⟩ := h3
      split at h3
      · rename_i ci fs hD
        split at h3
        · rename_i a hf
          obtain ⟨v, g1, g2, -⟩ := cw_get_ok hE hg
          have g1 : cv_get L t.1.1 = some v := g1
          obtain ⟨k, rfl, hk⟩ : ∃ k, v = cv_r k ∧ sh[k]? = some d := by
            rcases g2 with ⟨-, k, h1, h2⟩ | ⟨j, h1, -⟩
            · exact ⟨k, h1, h2⟩
            · have := Nat.le_of_ble_eq_true h4; omega
          obtain ⟨vs, hv1, -, hv3⟩ := cw_cell_o hD (hI.1 k d hk)
          obtain ⟨v, e1, e2⟩ := hv3 _ _ hf
          refine ⟨v, ?_, cw_sub_ok h3 e2⟩
          unfold cw_val
          have q0 : (t.1.2 == 0) = false := by simp; omega
          rw [q0, cond_false, Nat.ble_eq_true_of_le h2, cond_true, g1, cw_fld_at hv1]
          exact e1
        · cases h3
      · cases h3
    · cases h3
theorem cw_sorted_lt : ∀ {a : cv_Q} {l : List cv_Q}, cw_sorted (a :: l) = true → (∀ x ∈ l, a.1 < x.1) ∧ cw_sorted l = true
  | a, [], _ => ⟨fun x h => absurd h List.not_mem_nil, rfl⟩
  | a, b :: l, h => by
    have h : (Nat.ble (a.1 + 1) b.1 && cw_sorted (b :: l)) = true := h
    rw [Bool.and_eq_true, Nat.ble_eq] at h
    have ih := cw_sorted_lt h.2
    refine ⟨fun x hx => ?_, h.2⟩
    rcases List.mem_cons.mp hx with rfl | hx
    · omega
    · have := ih.1 x hx; omega
theorem cw_op_of : ∀ {full l : List cv_Q} {q : cv_Q}, cw_sorted full = true → (q :: l) <:+ full → full.find? (fun x => x.1 == q.1) = some q
  | [], l, q, _, h => by obtain ⟨p, hp⟩ := h; simp at hp
  | a :: full, l, q, hs, h => by
    rcases List.suffix_cons_iff.mp h with h | h
    · cases h
      exact List.find?_cons_of_pos (by simp)
    · have hs' := cw_sorted_lt hs
      have hm : q ∈ full := h.subset List.mem_cons_self
      have := hs'.1 q hm
      rw [List.find?_cons_of_neg (by simp; omega)]
      exact cw_op_of hs'.2 h
theorem cw_ret_ok {M : cv_M} {q : cv_Q} {av : List cv_V} {h0 : cv_H} (hr : cw_ret M K q e z = true) (hrel : K.2.2.2.2.1 = []) (hv0 : ∀ t ∈ K.2.2.2.1, ∀ v, v0 (t.1, 0) = some v → av[t.1]? = some v) (hS : cw_St Ds sh G P v0 e z L st h) (hF : cw_Fr Ds sh K.2.2.2.2.2.1 h0 h) : ∃ rv, cv_ret M q (pc, L, st, h, 0, 0) = some rv ∧ cw_Po Ds sh G P K av h0 (rv, h) := by
  have hb : (decide (0 ≤ M.2.2.1) && decide (0 ≤ M.2.2.2.1)) = true := by simp
  obtain ⟨hE, hZ, hI⟩ := hS
  unfold cw_ret at hr
  split at hr
  · rename_i w p b hi hM hK
    rw [Bool.and_eq_true] at hr
    match st, hZ with
    | [v], ⟨⟨⟨x, hx, hw⟩, hp⟩, _⟩ =>
    subst hx
    refine ⟨some (cv_i x), ?_, ?_, hI, hF, fun y _ _ => ⟨fun t ht => ?_, fun t ht => ?_⟩⟩
    · unfold cv_ret
      dsimp only
      rw [hb, cond_true, hi, hM]
    · rw [hK]; exact cw_sub_ok hr.1 ⟨x, rfl, hw⟩
    · rw [List.isEmpty_iff.mp hr.2] at ht; exact absurd ht List.not_mem_nil
    · rw [hrel] at ht; exact absurd ht List.not_mem_nil
  · rename_i w p b hi hM hK
    simp only [Bool.and_eq_true, cw_le_iff] at hr
    obtain ⟨r1, r2, r3, r4⟩ := hr
    match st, hZ with
    | [v], ⟨⟨⟨x, hx, hw⟩, hp⟩, _⟩ =>
    subst hx
    have hx01 : x = 0 ∨ x = 1 := by
      have := hw.1; have := hw.2.1
      have : x.toInt = 0 ∨ x.toInt = 1 := by omega
      rcases this with q | q
      · exact .inl (Int32.toInt_inj.mp (by rw [q]; rfl))
      · exact .inr (Int32.toInt_inj.mp (by rw [q]; rfl))
    refine ⟨some (cv_i x), ?_, ?_, hI, hF, fun y hy hy0 => ⟨fun t ht => ?_, fun t ht => ?_⟩⟩
    · unfold cv_ret
      dsimp only
      rw [hb, cond_true, hi, hM]
      dsimp only
      have : (decide (x = 0) || decide (x = 1)) = true := by simpa using hx01
      rw [this]
      rfl
    · rw [hK]; exact cw_sub_ok r1 ⟨x, rfl, hw⟩
    · cases hy
      rw [Bool.or_eq_true, cw_le_iff] at r4
      rcases r4 with r4 | r4
      · have := hw.1; have := hw.2.1; omega
      · have ht1 := List.all_eq_true.mp r4 t ht
        unfold cw_thn at ht1
        split at ht1
        · rename_i a o hg
          rw [Bool.and_eq_true] at ht1
          obtain ⟨t1, t2⟩ := ht1
          obtain ⟨v, g1, g2, g3⟩ := cw_get_ok hE hg
          split at t1
          · rename_i d
            simp only [decide_eq_true_eq] at t1
            subst t1
            obtain ⟨w0, k1, k2⟩ := g3 0 rfl
            have k2 := cw_eqd_0 k2
            subst k2
            refine ⟨w0, hv0 t ht w0 k1, ?_⟩
            rw [Bool.or_eq_true] at t2
            rcases t2 with t2 | t2
            · exact cw_sub_ok t2 g2
            · split at t2
              · rename_i l
                rw [List.any_eq_true] at t2
                obtain ⟨q', hq', hq2⟩ := t2
                rw [Bool.and_eq_true, cw_ueq_iff] at hq2
                obtain ⟨w', m1, m2⟩ := hp x rfl hy0 q' hq'
                rw [hq2.1, g1] at m1
                cases m1
                exact cw_sub_ok hq2.2 m2
              · cases t2
          · cases t1
        · cases ht1
    · rw [hrel] at ht; exact absurd ht List.not_mem_nil
  · rename_i w p b hi hM hK
    rw [Bool.and_eq_true] at hr
    match st, hZ with
    | [v], ⟨⟨⟨x, hx, hw⟩, hp⟩, _⟩ =>
    subst hx
    refine ⟨some (cv_l x), ?_, ?_, hI, hF, fun y hy _ => by cases hy⟩
    · unfold cv_ret
      dsimp only
      rw [hb, cond_true, hi, hM]
    · rw [hK]; exact cw_sub_ok hr.1 ⟨x, rfl, hw⟩
  · rename_i hi hM hK
    match st, hZ with
    | [], _ =>
    refine ⟨none, ?_, ?_, hI, hF, fun y hy _ => by cases hy⟩
    · unfold cv_ret
      dsimp only
      rw [hb, cond_true, hi, hM]
    · rw [hK]; exact trivial
  · cases hr
end CWV
end
section
section CWZ
variable {F : cv_F} {mt : Nat → cv_M} {Ds : List cw_D} {sh : List Nat} {G : Int} {P : cv_H → Prop} {dp : Nat} {v0 : cw_U → Option cv_V} {X : cv_X} {mi : Nat} {K : cw_K}
theorem cw_dw {p : cv_Q → Bool} : ∀ {l : List cv_Q} {x : cv_Q} {xs : List cv_Q}, l.dropWhile p = x :: xs → p x = false
  | [], x, xs, h => by simp at h
  | a :: l, x, xs, h => by
    by_cases hp : p a = true
    · rw [List.dropWhile_cons_of_pos hp] at h
      exact cw_dw h
    · rw [List.dropWhile_cons_of_neg hp] at h
      cases h
      simpa using hp
theorem cw_ev_ok {Ks : List cw_K} {cs : List cw_G} {rk : Option (List (Nat × cw_U × Nat))} {M : cv_M} {av : List cv_V} {h0 : cv_H} (hPok : cw_Pok Ds sh dp P) (hdp : cw_dpok Ds dp) (hlen : Ds.length ≤ 1000) (hX : cw_Xok X) (hM : M = mt mi) (hsort : cw_sorted M.2.1 = true) (hKs : ∀ K ∈ Ks, cw_Holds F mt Ds sh G P K ∧ cw_rmok mt K) (hrel : K.2.2.2.2.1 = []) (hv0 : ∀ t ∈ K.2.2.2.1, ∀ v, v0 (t.1, 0) = some v → av[t.1]? = some v)
    (hcert : ∀ c ∈ cs, ∀ L h, cw_co G sh c.2.1 (cw_val L h) → cw_Inv Ds sh G P h → cw_Fr Ds sh K.2.2.2.2.2.1 h0 h → (∀ rr, rk = some rr → cw_ms (cw_val L h) c.2.2 < cw_ms v0 rr) → ∃ o, cw_Ev F mt X mi (c.1, L, [], h, 0, 0) o ∧ cw_Po Ds sh G P K av h0 o) (hnr : ∀ c ∈ cs, ∀ rr, rk = some rr → rr.length = c.2.2.length) :
    ∀ (fuel : Nat) (b : Bool) (q : cv_Q) (l : List cv_Q) (e : cw_E) (z : cw_Z) (L : cv_L) (st : List cv_V) (h : cv_H), cw_ev Ds Ks M K dp cs rk fuel b (q :: l) e z = true → (q :: l) <:+ M.2.1 → cw_St Ds sh G P v0 e z L st h → cw_Fr Ds sh K.2.2.2.2.2.1 h0 h → ∃ o, cw_Ev F mt X mi (q.1, L, st, h, 0, 0) o ∧ cw_Po Ds sh G P K av h0 o := by
  intro fuel
  induction fuel with
  | zero => intro b q l e z L st h hv; cases hv
  | succ fuel ih =>
    intro b q l e z L st h hv hsuf hS hF
    have hop : cv_op (mt mi) q.1 = some q := by
      unfold cv_op
      rw [← hM]
      exact cw_op_of hsort hsuf
    rw [cw_ev_eq] at hv
    cases hcf : (bif b then none else cs.find? (fun c => c.1 == q.1)) with
    | some c =>
      rw [hcf] at hv
      simp only [Bool.and_eq_true] at hv
      obtain ⟨g1, g2, g3⟩ := hv
      have hb : b = false := by cases b with
        | true => cases hcf
        | false => rfl
      subst hb
      rw [cond_false] at hcf
      have hc1 := List.mem_of_find?_eq_some hcf
      have hc2 := List.find?_some hcf
      simp only [beq_iff_eq] at hc2
      have hz : z = [] := List.isEmpty_iff.mp g1
      subst hz
      match st, hS.2.1 with
      | [], _ =>
      rw [← hc2]
      refine hcert c hc1 L h (cw_incl_ok hS.2.2 hS.1 g2) hS.2.2 hF fun rr hrr => ?_
      subst hrr
      exact cw_dec_ok hS.1 (hnr c hc1 rr rfl) g3
    | none =>
      rw [hcf] at hv
      dsimp only at hv
      -- the run goes on
      have next : ∀ (t : Option Nat) (e' : cw_E) (z' : cw_Z) (L' : cv_L) (st' : List cv_V) (h' : cv_H), cw_go1 (cw_ev Ds Ks M K dp cs rk fuel false) M.2.1 l (q.1 + q.2.2.1) (t, e', z') = true → cw_St Ds sh G P v0 e' z' L' st' h' → cw_Fr Ds sh K.2.2.2.2.2.1 h0 h' → ∃ o, cw_Ev F mt X mi ((match t with
          | none => q.1 + q.2.2.1
          | some p => p), L', st', h', 0, 0) o ∧ cw_Po Ds sh G P K av h0 o := by
        intro t e' z' L' st' h' ht hS' hF'
        cases t with
        | none =>
          have ht : (cw_hd l (q.1 + q.2.2.1) && cw_ev Ds Ks M K dp cs rk fuel false l e' z') = true := ht
          rw [Bool.and_eq_true] at ht
          obtain ⟨t1, t2⟩ := ht
          match l, hsuf, t1, t2 with
          | q' :: l', hsuf, t1, t2 =>
          have e1 : q'.1 = q.1 + q.2.2.1 := beq_iff_eq.mp (show (q'.1 == q.1 + q.2.2.1) = true from t1)
          have := ih false q' l' e' z' L' st' h' t2 (List.IsSuffix.trans (List.suffix_cons _ _) hsuf) hS' hF'
          rw [e1] at this
          exact this
        | some t =>
          have ht : cw_ev Ds Ks M K dp cs rk fuel false (M.2.1.dropWhile (fun q => !(q.1 == t))) e' z' = true := ht
          dsimp only
          cases hd : M.2.1.dropWhile (fun q => !(q.1 == t)) with
          | nil =>
            rw [hd] at ht
            cases fuel <;> cases ht
          | cons q' l' =>
            rw [hd] at ht
            have e1 := cw_dw hd
            have e1 : q'.1 = t := by simpa using e1
            have hs : (q' :: l') <:+ M.2.1 := by rw [← hd]; exact List.dropWhile_suffix _
            have := ih false q' l' e' z' L' st' h' ht hs hS' hF'
            rw [e1] at this
            exact this
      cases h1 : cw_one Ds K.2.2.2.2.2.1 dp q e z with
      | some r =>
        rw [h1] at hv
        dsimp only at hv
        obtain ⟨t, e', z', L', st', h', m1, m2, m3, m4⟩ := cw_one_ok (X := X) (c := 0) (n := 0) hPok hdp hlen hX rfl hS h1
        obtain ⟨o, o1, o2⟩ := next t e' z' L' st' h' (List.all_eq_true.mp hv _ m1) m3 (cw_Fr_tr hF m4)
        exact ⟨o, cw_ev_one hop m2 o1, o2⟩
      | none =>
      rw [h1] at hv
      dsimp only at hv
      cases h2 : cw_nat M q e z with
      | some r =>
        rw [h2] at hv
        dsimp only at hv
        obtain ⟨z', st', rfl, m2, m3⟩ := cw_nat_ok (pc := q.1) h2 hS
        obtain ⟨o, o1, o2⟩ := next none e z' L st' h (List.all_eq_true.mp hv _ (List.mem_singleton_self _)) m3 hF
        rw [hM] at m2
        exact ⟨o, cw_ev_nat hop m2 o1, o2⟩
      | none =>
      rw [h2] at hv
      dsimp only at hv
      cases h3 : cw_call Ds Ks M K.2.2.2.2.2.1 q e z with
      | some r =>
        rw [h3] at hv
        dsimp only at hv
        obtain ⟨e', z', o', j, av', stk, rfl, k1, k2, k3, k4, k5, k6, k7, k8⟩ := cw_call_ok (pc := q.1) h3 hM hKs hlen hX hS
        obtain ⟨o, o1, o2⟩ := next none e' z' L _ o'.2 (List.all_eq_true.mp hv _ (List.mem_singleton_self _)) k5 (cw_Fr_tr hF k6)
        refine ⟨o, cw_ev_call hop k1 k2 k3 k4 ?_, o2⟩
        rw [k7, k8]
        exact o1
      | none =>
      rw [h3] at hv
      dsimp only at hv
      obtain ⟨rv, m1, m2⟩ := cw_ret_ok (pc := q.1) hv hrel hv0 hS hF
      rw [hM] at m1
      exact ⟨(rv, h), cw_ev_ret hop m1, m2⟩
theorem cw_ent_get {G : Int} {sh : List Nat} : ∀ {l : List cw_A} {av : List cv_V} {i : Nat}, cw_gas G sh l av → ∀ t ∈ cw_ent i l, i ≤ t.1.1 ∧ t.1.2 = 0 ∧ t.2.2 = some 0 ∧ ∃ v, cv_get (cv_ent i av) t.1.1 = some v ∧ cw_ga G sh t.2.1 v
  | [], [], i, _, t, ht => absurd ht List.not_mem_nil
  | a :: l, v :: av, i, hg, t, ht => by
    rcases List.mem_cons.mp ht with rfl | ht
    · refine ⟨Nat.le_refl _, rfl, rfl, v, ?_, hg.1⟩
      show Option.map _ (List.find? _ ((i, v) :: _)) = _
      rw [List.find?_cons_of_pos (by simp)]
      rfl
    · rw [cw_isL_ga hg.1] at ht
      have hi : i + 1 ≤ (bif cv_isL v then i + 2 else i + 1) := by cases cv_isL v <;> simp
      obtain ⟨h1, h2, h3, w, h4, h5⟩ := cw_ent_get hg.2 t ht
      refine ⟨by omega, h2, h3, w, ?_, h5⟩
      show Option.map _ (List.find? _ ((i, v) :: cv_ent (bif cv_isL v then i + 2 else i + 1) av)) = _
      rw [List.find?_cons_of_neg (by simp; omega)]
      exact h4
theorem cw_ent_arg : ∀ {l : List cw_A} {av : List cv_V} {i : Nat}, cw_gas G sh l av → l.all (fun x => !cw_isL x) = true → ∀ (p : Nat) (v : cv_V), cv_get (cv_ent i av) (i + p) = some v → av[p]? = some v
  | [], [], i, _, _, p, v, h => by cases h
  | a :: l, w :: av, i, hg, hl, p, v, h => by
    rw [List.all_cons, Bool.and_eq_true] at hl
    have hw : cv_isL w = false := by rw [← cw_isL_ga hg.1]; simpa using hl.1
    have h : Option.map Prod.snd (List.find? (fun q => q.1 == i + p) ((i, w) :: cv_ent (bif cv_isL w then i + 2 else i + 1) av)) = some v := h
    rw [hw, cond_false] at h
    cases p with
    | zero =>
      rw [List.find?_cons_of_pos (by simp)] at h
      exact h
    | succ p =>
      rw [List.find?_cons_of_neg (by simp)] at h
      refine cw_ent_arg (i := i + 1) hg.2 hl.2 p v ?_
      have e : i + 1 + p = i + (p + 1) := by omega
      rw [e]
      exact h
theorem cw_sound {Ks : List cw_K} {cs : List cw_G} {M : cv_M} {nr fuel : Nat} (hPok : cw_Pok Ds sh dp P) (hdp : cw_dpok Ds dp) (hlen : Ds.length ≤ 1000) (hM : M = mt K.1.1) (hKs : ∀ K ∈ Ks, cw_Holds F mt Ds sh G P K ∧ cw_rmok mt K) (hc : cw_chk Ds Ks M K dp cs nr fuel = true) : cw_Holds F mt Ds sh G P K := by
  intro X h0 av hX hI hg hfp
  unfold cw_chk at hc
  simp only [Bool.and_eq_true] at hc
  obtain ⟨hsort, hfirst, hrel, hthn, hf98, hent, hcs⟩ := hc
  have hrel := List.isEmpty_iff.mp hrel
  have hz : ∀ vl, cw_Zr G sh vl [] [] := fun vl => trivial
  -- the places, by how far it still is
  have hplaces : ∀ (N : Nat), ∀ c ∈ cs, ∀ L h, cw_co G sh c.2.1 (cw_val L h) → cw_Inv Ds sh G P h → cw_Fr Ds sh K.2.2.2.2.2.1 h0 h → cw_ms (cw_val L h) c.2.2 < N → ∃ o, cw_Ev F mt X K.1.1 (c.1, L, [], h, 0, 0) o ∧ cw_Po Ds sh G P K av h0 o := by
    intro N
    induction N with
    | zero => intro c _ L h _ _ _ hN; omega
    | succ N ihN =>
      intro c hcm L h hco hIh hFh hN
      have hck := List.all_eq_true.mp hcs c hcm
      rw [Bool.and_eq_true] at hck
      obtain ⟨hn1, hev⟩ := hck
      have hthn0 : K.2.2.2.1 = [] := by
        rw [Bool.or_eq_true] at hthn
        rcases hthn with q | q
        · exact List.isEmpty_iff.mp q
        · rw [Bool.and_eq_true] at q
          rw [List.isEmpty_iff.mp q.1] at hcm
          exact absurd hcm List.not_mem_nil
      cases hd : M.2.1.dropWhile (fun q => !(q.1 == c.1)) with
      | nil =>
        rw [hd] at hev
        cases fuel <;> cases hev
      | cons q l =>
        rw [hd] at hev
        have e1 : q.1 = c.1 := by have := cw_dw hd; simpa using this
        have hs : (q :: l) <:+ M.2.1 := by rw [← hd]; exact List.dropWhile_suffix _
        have hE : cw_Er G sh (cw_val L h) (c.2.1.map (fun t => (t.1, t.2, some 0))) (cw_val L h) := by
          intro t ht
          obtain ⟨t0, ht0, rfl⟩ := List.mem_map.mp ht
          obtain ⟨v, g1, g2⟩ := hco t0 ht0
          exact ⟨v, g1, g2, fun d hd => by cases hd; exact ⟨v, g1, cw_eqd_rf⟩⟩
        have := cw_ev_ok (v0 := cw_val L h) (rk := some c.2.2) (av := av) (h0 := h0) hPok hdp hlen hX hM hsort hKs hrel (by rw [hthn0]; intro t ht; exact absurd ht List.not_mem_nil) (fun c' hc' L' h' k1 k2 k3 k4 => ihN c' hc' L' h' k1 k2 k3 (by have := k4 _ rfl; omega)) (fun c' hc' rr hrr => by
            cases hrr
            have h2 := List.all_eq_true.mp hcs c' hc'
            rw [Bool.and_eq_true] at h2
            have q1 := beq_iff_eq.mp hn1
            have q2 := beq_iff_eq.mp h2.1
            rw [q1, q2]) fuel true q l _ [] L [] h hev hs ⟨hE, hz _, hIh⟩ hFh
        rw [e1] at this
        exact this
  cases hops : M.2.1 with
  | nil => rw [hops] at hfirst; cases hfirst
  | cons q l =>
    rw [hops] at hfirst hent
    have e0 : q.1 = 0 := by simpa using hfirst
    have hE : cw_Er G sh (cw_val (cv_ent 0 av) h0) (cw_ent 0 K.2.1 ++ K.2.2.2.2.2.2.map (fun t => ((0, t.1 + 1), t.2, some 0))) (cw_val (cv_ent 0 av) h0) := by
      intro t ht
      rcases List.mem_append.mp ht with ht | ht
      · obtain ⟨-, h2, h3, v, h4, h5⟩ := cw_ent_get hg t ht
        have hval : cw_val (cv_ent 0 av) h0 t.1 = some v := by
          unfold cw_val
          rw [h2]
          exact h4
        refine ⟨v, hval, h5, fun d hd => ?_⟩
        rw [h3] at hd
        cases hd
        exact ⟨v, hval, cw_eqd_rf⟩
      · obtain ⟨t0, ht0, rfl⟩ := List.mem_map.mp ht
        obtain ⟨w, g1, g2⟩ := hfp t0 ht0
        have h98 := Nat.le_of_ble_eq_true (List.all_eq_true.mp hf98 t0 ht0)
        have hval : cw_val (cv_ent 0 av) h0 (0, t0.1 + 1) = some w := by
          show (bif (t0.1 + 1) == 0 then _ else bif Nat.ble (t0.1 + 1) 99 then cw_fld h0 (cv_get (cv_ent 0 av) 0) (t0.1 + 1 - 1) else _) = some w
          rw [Nat.ble_eq_true_of_le (by omega)]
          have : cv_get (cv_ent 0 av) 0 = av.head? := by
            cases av with
            | nil => rfl
            | cons v av => rfl
          rw [this]
          exact g1
        exact ⟨w, hval, g2, fun d hd => by cases hd; exact ⟨w, hval, cw_eqd_rf⟩⟩
    have := cw_ev_ok (v0 := cw_val (cv_ent 0 av) h0) (rk := none) (av := av) (h0 := h0) hPok hdp hlen hX hM hsort hKs hrel (fun t ht v hv => ?_) (fun c' hc' L' h' k1 k2 k3 _ => hplaces _ c' hc' L' h' k1 k2 k3 (Nat.lt_succ_self _)) (fun _ _ rr hrr => by cases hrr) fuel true q l _ [] (cv_ent 0 av) [] h0 hent (by rw [hops]; exact List.suffix_refl _) ⟨hE, hz _, hI⟩ cw_Fr_refl
    · rw [e0] at this
      exact this
    · rw [Bool.or_eq_true] at hthn
      rcases hthn with q' | q'
      · rw [List.isEmpty_iff.mp q'] at ht
        exact absurd ht List.not_mem_nil
      · rw [Bool.and_eq_true] at q'
        refine cw_ent_arg (i := 0) hg q'.2 t.1 v ?_
        rw [Nat.zero_add]
        exact hv
end CWZ
end
