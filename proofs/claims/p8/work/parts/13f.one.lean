section CWA
variable {Ds : List cw_D} {sh : List Nat} {G : Int} {P : cv_H → Prop} {dp wm : Nat} {v0 : cw_U → Option cv_V} {X : cv_X} {pc len a b c n : Nat} {zz : Int} {e : cw_E} {z : cw_Z} {r : cw_R} {L : cv_L} {st : List cv_V} {h : cv_H}
theorem cw_ld_ok {q : cv_Q} {i k : Nat} (hl : cv_load q.2.1 = some (i, k)) (hc : cw_push q = none) (hp : cv_push q = none) (hS : cw_St Ds sh G P v0 e z L st h) (hr : cw_one Ds wm dp q e z = some r) : cw_Rs Ds sh G P wm v0 pc q.2.2.1 r h (cv_one X q (pc, L, st, h, c, n)) c n := by
  unfold cw_one at hr
  rw [hc] at hr
  dsimp only at hr
  rw [hl] at hr
  dsimp only at hr
  split at hr
  · rename_i x o hg
    obtain ⟨h1, h2⟩ := cv_bif hr
    cases h2
    exact cw_load_ok hl hp hg h1 hS
  · cases hr
theorem cw_sto_ok {q : cv_Q} {i k : Nat} (hl : cv_store q.2.1 = some (i, k)) (hc : cw_push q = none) (hp : cv_push q = none) (hld : cv_load q.2.1 = none) (hS : cw_St Ds sh G P v0 e z L st h) (hr : cw_one Ds wm dp q e z = some r) : cw_Rs Ds sh G P wm v0 pc q.2.2.1 r h (cv_one X q (pc, L, st, h, c, n)) c n := by
  unfold cw_one at hr
  rw [hc] at hr
  dsimp only at hr
  rw [hld] at hr
  dsimp only at hr
  rw [hl] at hr
  dsimp only at hr
  split at hr
  · rename_i x p z
    obtain ⟨h1, h2⟩ := cv_bif hr
    have := cw_store_ok (X := X) (pc := pc) (wm := wm) (c := c) (n := n) hl hp hld h1 hS
    cases h3 : k == 3 with
    | true => rw [h3] at h2 this; cases h2; exact this
    | false => rw [h3] at h2 this; cases h2; exact this
  · cases hr
theorem cw_psh_ok {q : cv_Q} {x : cw_A} (hc : cw_push q = some x) (hS : cw_St Ds sh G P v0 e z L st h) (hr : cw_one Ds wm dp q e z = some r) : cw_Rs Ds sh G P wm v0 pc q.2.2.1 r h (cv_one X q (pc, L, st, h, c, n)) c n := by
  unfold cw_one at hr
  rw [hc] at hr
  cases hr
  obtain ⟨v, h1, h2⟩ := cw_push_ok (G := G) (sh := sh) hc
  refine cw_pure (st' := v :: st) hS rfl ?_ ⟨⟨h2, trivial⟩, hS.2.1⟩
  unfold cv_one
  dsimp only
  rw [h1]
theorem cw_ar_ok {i : Instr} {x y : cw_W} {p p' : cw_P} (hr : (match cw_bin i x y with
    | some w => some [((none : Option Nat), e, (cw_int w, cw_binP i x p y) :: z)]
    | none => none) = some r) (hS : cw_St Ds sh G P v0 e ((.inl y, p') :: (.inl x, p) :: z) L st h) : cw_Rs Ds sh G P wm v0 pc len r h (cv_one X (pc, i, len, a, b, zz) (pc, L, st, h, c, n)) c n := by
  cases hb : cw_bin i x y with
  | none => rw [hb] at hr; cases hr
  | some w => rw [hb] at hr; cases hr; exact cw_arith_ok hb hS
theorem cw_arL_ok {i : Instr} {x y : cw_W} {p p' : cw_P} (hr : (match cw_binL i x y with
    | some w => some [((none : Option Nat), e, (cw_lng w, (none : cw_P)) :: z)]
    | none => none) = some r) (hS : cw_St Ds sh G P v0 e ((.inr (.inl y), p') :: (.inr (.inl x), p) :: z) L st h) : cw_Rs Ds sh G P wm v0 pc len r h (cv_one X (pc, i, len, a, b, zz) (pc, L, st, h, c, n)) c n := by
  cases hb : cw_binL i x y with
  | none => rw [hb] at hr; cases hr
  | some w => rw [hb] at hr; cases hr; exact cw_arithL_ok hb hS
theorem cw_one_ok (hPok : cw_Pok Ds sh dp P) (hdp : cw_dpok Ds dp) (hlen : Ds.length ≤ 1000) (hX : cw_Xok X) {q : cv_Q} (hq : q.1 = pc) (hS : cw_St Ds sh G P v0 e z L st h) (hr : cw_one Ds wm dp q e z = some r) : cw_Rs Ds sh G P wm v0 pc q.2.2.1 r h (cv_one X q (pc, L, st, h, c, n)) c n := by
  rcases hp : cw_push q with _ | x
  rotate_left
  · exact cw_psh_ok hp hS hr
  obtain ⟨pc', i, len, a, b, zz⟩ := q
  replace hq : pc' = pc := hq
  subst hq
  cases i
  case iload_n => exact cw_ld_ok rfl rfl rfl hS hr
  case iload => exact cw_ld_ok rfl rfl rfl hS hr
  case aload_n => exact cw_ld_ok rfl rfl rfl hS hr
  case aload => exact cw_ld_ok rfl rfl rfl hS hr
  case lload_n => exact cw_ld_ok rfl rfl rfl hS hr
  case lload => exact cw_ld_ok rfl rfl rfl hS hr
  case istore_n => exact cw_sto_ok rfl rfl rfl rfl hS hr
  case istore => exact cw_sto_ok rfl rfl rfl rfl hS hr
  case astore_n => exact cw_sto_ok rfl rfl rfl rfl hS hr
  case astore => exact cw_sto_ok rfl rfl rfl rfl hS hr
  case lstore_n => exact cw_sto_ok rfl rfl rfl rfl hS hr
  case lstore => exact cw_sto_ok rfl rfl rfl rfl hS hr
  case iinc => exact cw_iinc_ok hS hr
  case goto => exact cw_goto_ok hS hr
  case iaload => exact cw_iaload_ok hX hlen hS hr
  case baload => exact cw_baload_ok hlen hS hr
  case laload => exact cw_laload_ok hlen hS hr
  case aaload => exact cw_aaload_ok hlen hS hr
  case iastore => exact cw_iastore_ok hPok hdp hlen hS hr
  case bastore => exact cw_bastore_ok hPok hdp hlen hS hr
  case lastore => exact cw_lastore_ok hPok hdp hlen hS hr
  case aastore => exact cw_aastore_ok hPok hdp hlen hS hr
  case getfield => exact cw_getfield_ok hlen hS hr
  case putfield => exact cw_putfield_ok hPok hdp hlen hS hr
  case if_icmp => exact cw_icmp_ok hS hr
  case ifCond => exact cw_ifc_ok hS hr
  case dup => exact cw_dup_ok hS hr
  case pop => exact cw_pop_ok hS hr
  case dup2 => exact cw_dup2_ok hS hr
  case arraylength => exact cw_alen_ok hlen hS hr
  case lcmp => exact cw_lcmp_ok hS hr
  case lshr => exact cw_lshr_ok hS hr
  case tableswitch => exact cw_tsw_ok hS hr
  case i2b =>
    rcases z with _ | ⟨⟨y | y | y, p'⟩, z⟩
    · cases hr
    · cases hr
      match st, hS.2.1 with
      | v1 :: st, ⟨⟨⟨x, hx, hw⟩, hp⟩, hZ⟩ =>
        subst hx
        exact cw_pure hS rfl rfl ⟨⟨⟨_, rfl, (cw_nar1 x).1, (cw_nar1 x).2, cw_tg0⟩, trivial⟩, hZ⟩
    · rcases z with _ | ⟨⟨x | x | x, p⟩, z⟩ <;> (cases hr; done)
    · rcases z with _ | ⟨⟨x | x | x, p⟩, z⟩ <;> (cases hr; done)
  case i2l =>
    rcases z with _ | ⟨⟨y | y | y, p'⟩, z⟩
    · cases hr
    · cases hr
      match st, hS.2.1 with
      | v1 :: st, ⟨⟨⟨x, hx, hw⟩, hp⟩, hZ⟩ =>
        subst hx
        have e1 := Int32.toInt_toInt64 x
        exact cw_pure hS rfl rfl ⟨⟨⟨_, rfl, by rw [e1]; exact hw.1, by rw [e1]; exact hw.2.1, by rw [e1]; exact cw_tg_nz hw (fun q => q)⟩, trivial⟩, hZ⟩
    · rcases z with _ | ⟨⟨x | x | x, p⟩, z⟩ <;> (cases hr; done)
    · rcases z with _ | ⟨⟨x | x | x, p⟩, z⟩ <;> (cases hr; done)
  case ineg =>
    rcases z with _ | ⟨⟨y | y | y, p'⟩, z⟩
    · cases hr
    · cases hr
      match st, hS.2.1 with
      | v1 :: st, ⟨⟨⟨x, hx, hw⟩, hp⟩, hZ⟩ =>
        subst hx
        exact cw_pure hS rfl rfl ⟨⟨⟨_, rfl, cw_wr_ok (Int32.toInt_neg x) (by have := hw.2.1; omega) (by have := hw.1; omega) cw_tg0⟩, trivial⟩, hZ⟩
    · rcases z with _ | ⟨⟨x | x | x, p⟩, z⟩ <;> (cases hr; done)
    · rcases z with _ | ⟨⟨x | x | x, p⟩, z⟩ <;> (cases hr; done)
  case l2i =>
    rcases z with _ | ⟨⟨y | y | y, p'⟩, z⟩
    · cases hr
    · rcases z with _ | ⟨⟨x | x | x, p⟩, z⟩ <;> (cases hr; done)
    · cases hr
      match st, hS.2.1 with
      | v1 :: st, ⟨⟨⟨x, hx, hw⟩, hp⟩, hZ⟩ =>
        subst hx
        exact cw_pure hS rfl rfl ⟨⟨⟨_, rfl, cw_top_ok _⟩, trivial⟩, hZ⟩
    · rcases z with _ | ⟨⟨x | x | x, p⟩, z⟩ <;> (cases hr; done)
  case lneg =>
    rcases z with _ | ⟨⟨y | y | y, p'⟩, z⟩
    · cases hr
    · rcases z with _ | ⟨⟨x | x | x, p⟩, z⟩ <;> (cases hr; done)
    · cases hr
      match st, hS.2.1 with
      | v1 :: st, ⟨⟨⟨x, hx, hw⟩, hp⟩, hZ⟩ =>
        subst hx
        exact cw_pure hS rfl rfl ⟨⟨⟨_, rfl, (cw_i64 _).1, (cw_i64 _).2, cw_tg_nz hw cw_neg_nz⟩, trivial⟩, hZ⟩
    · rcases z with _ | ⟨⟨x | x | x, p⟩, z⟩ <;> (cases hr; done)
  all_goals
    unfold cw_one at hr
    rw [hp] at hr
    rcases z with _ | ⟨⟨y | y | y, p'⟩, _ | ⟨⟨x | x | x, p⟩, z⟩⟩ <;> first | (cases hr; done) | exact cw_ar_ok hr hS | exact cw_arL_ok hr hS
end CWA
