/-! ===== contracts ===== -/
def cw_gas (G : Int) (sh : List Nat) : List cw_A → List cv_V → Prop
  | [], [] => True
  | a :: l, v :: m => cw_ga G sh a v ∧ cw_gas G sh l m
  | _, _ => False
def cw_Po (Ds : List cw_D) (sh : List Nat) (G : Int) (P : cv_H → Prop) (K : cw_K) (av : List cv_V) (h : cv_H) (o : cv_O) : Prop :=
  (match K.2.2.1, o.1 with
    | some a, some v => cw_ga G sh a v
    | none, none => True
    | _, _ => False) ∧ cw_Inv Ds sh G P o.2 ∧ cw_Fr Ds sh K.2.2.2.2.2.1 h o.2 ∧
  ∀ x : Int32, o.1 = some (cv_i x) → x.toInt ≠ 0 → (∀ t ∈ K.2.2.2.1, ∃ w, av[t.1]? = some w ∧ cw_ga G sh t.2 w) ∧
    ∀ t ∈ K.2.2.2.2.1, ∃ x y z : Int32, av[t.1]? = some (cv_i x) ∧ av[t.2.1]? = some (cv_i y) ∧ av[t.2.2]? = some (cv_i z) ∧ y.toInt ≤ x.toInt ∧ x.toInt ≤ z.toInt
def cw_fpo (G : Int) (sh : List Nat) (h : cv_H) (fp : List (Nat × cw_A)) (v : Option cv_V) : Prop := ∀ t ∈ fp, ∃ w, cw_fld h v t.1 = some w ∧ cw_ga G sh t.2 w
def cw_Holds (F : cv_F) (mt : Nat → cv_M) (Ds : List cw_D) (sh : List Nat) (G : Int) (P : cv_H → Prop) (K : cw_K) : Prop :=
  ∀ (X : cv_X) (h : cv_H) (av : List cv_V), cw_Xok X → cw_Inv Ds sh G P h → cw_gas G sh K.2.1 av → cw_fpo G sh h K.2.2.2.2.2.2 av.head? → ∃ o, cw_Ev F mt X K.1.1 (0, cv_ent 0 av, [], h, 0, 0) o ∧ cw_Po Ds sh G P K av h o
def cw_rmok (mt : Nat → cv_M) (K : cw_K) : Prop := (mt K.1.1).1.2.2.2.1 = K.1.2.1 ∧ (mt K.1.1).2.2.2.2.1 = K.1.2.2.1 ∧ (mt K.1.1).2.2.2.2.2 = K.1.2.2.2 ∧ (mt K.1.1).2.2.1 = 0 ∧ (mt K.1.1).2.2.2.1 = 0
section CWC
variable {F : cv_F} {mt : Nat → cv_M} {Ds : List cw_D} {sh : List Nat} {G : Int} {P : cv_H → Prop} {dp wm : Nat} {v0 : cw_U → Option cv_V} {X : cv_X} {pc mi : Nat} {e : cw_E} {z : cw_Z} {r : cw_R} {L : cv_L} {st : List cv_V} {h : cv_H}
theorem cw_Xok_no2 (hX : cw_Xok X) : cw_Xok (fun j => bif j == 2 then none else X j) := by
  intro j hj
  have : (j == 2) = false := by rcases hj with rfl | rfl <;> rfl
  dsimp only
  rw [this]
  exact hX j hj
theorem cw_Zr_app {vl : cw_U → Option cv_V} : ∀ {z1 : cw_Z} {s1 : List cv_V} {z2 : cw_Z} {s2 : List cv_V}, cw_Zr G sh vl z1 s1 → cw_Zr G sh vl z2 s2 → cw_Zr G sh vl (z1 ++ z2) (s1 ++ s2)
  | [], [], _, _, _, h => h
  | _ :: _, _ :: _, _, _, h1, h2 => ⟨h1.1, cw_Zr_app h1.2 h2⟩
theorem cw_Zr_rev {vl : cw_U → Option cv_V} : ∀ {z : cw_Z} {s : List cv_V}, cw_Zr G sh vl z s → cw_Zr G sh vl z.reverse s.reverse
  | [], [], _ => trivial
  | q :: z, v :: s, h => by
    rw [List.reverse_cons, List.reverse_cons]
    exact cw_Zr_app (cw_Zr_rev h.2) ⟨h.1, trivial⟩
theorem cw_Zr_take {vl : cw_U → Option cv_V} : ∀ (n : Nat) {z : cw_Z} {s : List cv_V}, cw_Zr G sh vl z s → cw_Zr G sh vl (z.take n) (s.take n) ∧ cw_Zr G sh vl (z.drop n) (s.drop n)
  | 0, z, s, h => ⟨by simp only [List.take_zero]; exact trivial, h⟩
  | n + 1, [], [], _ => ⟨trivial, trivial⟩
  | n + 1, q :: z, v :: s, h => by
    have ih := cw_Zr_take n h.2
    exact ⟨⟨h.1, ih.1⟩, ih.2⟩
theorem cw_Zr_get {vl : cw_U → Option cv_V} : ∀ {z : cw_Z} {s : List cv_V} {i : Nat} {q : cw_A × cw_P}, cw_Zr G sh vl z s → z[i]? = some q → ∃ v, s[i]? = some v ∧ cw_ga G sh q.1 v ∧ cw_pr G sh vl q.2 v
  | q' :: z, v :: s, 0, q, h, e => by cases e; exact ⟨v, rfl, h.1⟩
  | q' :: z, v :: s, i + 1, q, h, e => cw_Zr_get (z := z) (s := s) (i := i) h.2 e
theorem cw_subs_ok {vl : cw_U → Option cv_V} : ∀ {z : cw_Z} {s : List cv_V} {l : List cw_A}, cw_Zr G sh vl z s → cw_subs (z.map Prod.fst) l = true → cw_gas G sh l s
  | [], [], [], _, _ => trivial
  | [], [], _ :: _, _, h => by cases h
  | q :: z, v :: s, [], _, h => by cases h
  | q :: z, v :: s, a :: l, h, hs => by
    have hs : (cw_sub q.1 a && cw_subs (z.map Prod.fst) l) = true := hs
    rw [Bool.and_eq_true] at hs
    exact ⟨cw_sub_ok hs.1 h.1.1, cw_subs_ok h.2 hs.2⟩
theorem cw_fld_fr {h' : cv_H} {m k f : Nat} {x : cv_V} (hI : cw_Inv Ds sh G P h) (hI' : cw_Inv Ds sh G P h') (hF : cw_Fr Ds sh m h h') (hb : ∀ d, sh[k]? = some d → cw_bit m d f = false) (hx : cw_fld h (some (cv_r k)) f = some x) : cw_fld h' (some (cv_r k)) f = some x := by
  cases hk : sh[k]? with
  | none =>
    have hh := hF.1 k hk
    unfold cw_fld at hx ⊢
    dsimp only at hx ⊢
    rw [hh]
    exact hx
  | some d =>
    have hc := hI.1 k d hk
    have hc' := hI'.1 k d hk
    cases hD : Ds[d]? with
    | none => unfold cw_cell at hc; rw [hD] at hc; exact hc.elim
    | some D =>
      rcases D with ⟨t, m', p, rs⟩ | m' | ⟨t, m', d'⟩ | ⟨ci, fs⟩
      · obtain ⟨xs, h1, -⟩ := cw_cell_i hD hc
        unfold cw_fld at hx; dsimp only at hx; rw [h1] at hx; cases hx
      · obtain ⟨xs, h1, -⟩ := cw_cell_l hD hc
        unfold cw_fld at hx; dsimp only at hx; rw [h1] at hx; cases hx
      · obtain ⟨xs, h1, -⟩ := cw_cell_r hD hc
        unfold cw_fld at hx; dsimp only at hx; rw [h1] at hx; cases hx
      · obtain ⟨vs, h1, -⟩ := cw_cell_o hD hc
        obtain ⟨vs', h1', -⟩ := cw_cell_o hD hc'
        rw [cw_fld_at h1] at hx
        rw [cw_fld_at h1']
        have ht : cw_tch Ds m d f = false := by unfold cw_tch; rw [hD]; exact hb d hk
        have := hF.2 k d f hk ht
        unfold cw_at at this
        rw [h1, h1'] at this
        have this : vs'[f]? = vs[f]? := this
        rw [this]
        exact hx
theorem cw_keep_ok {K : cw_K} {h' : cv_H} (hI : cw_Inv Ds sh G P h) (hI' : cw_Inv Ds sh G P h') (hF : cw_Fr Ds sh K.2.2.2.2.2.1 h h') (hE : cw_Er G sh v0 e (cw_val L h)) : cw_Er G sh v0 (cw_keep Ds K e) (cw_val L h') := by
  unfold cw_keep
  refine cw_Er_mv hE fun t ht => ?_
  obtain ⟨hm, hk⟩ := List.mem_filter.mp ht
  refine ⟨hm, fun w hw _ => ?_⟩
  rw [Bool.or_eq_true] at hk
  rcases hk with hk | hk
  · simp only [beq_iff_eq] at hk
    unfold cw_val at hw ⊢
    rw [hk] at hw ⊢
    exact hw
  · split at hk
    · rename_i d o hg
      simp only [Bool.and_eq_true, Bool.not_eq_true'] at hk
      obtain ⟨hd, hb1, hk⟩ := hk
      obtain ⟨v, g1, g2, -⟩ := cw_get_ok hE hg
      have g1 : cv_get L t.1.1 = some v := g1
      obtain ⟨k0, rfl, hk0⟩ : ∃ k, v = cv_r k ∧ sh[k]? = some d := by
        rcases g2 with ⟨-, k, h1, h2⟩ | ⟨j, h1, -⟩
        · exact ⟨k, h1, h2⟩
        · have := Nat.le_of_ble_eq_true hd; omega
      refine cw_val_hp hw (fun k x h1 h2 _ h3 => ?_) (fun k k' x h0 h1 h2 h3 => ?_)
      · rw [g1] at h1
        cases h1
        exact cw_fld_fr hI hI' hF (fun d' hd' => by rw [hk0] at hd'; cases hd'; exact hb1) h3
      · rw [g1] at h1
        cases h1
        rw [Bool.or_eq_true] at hk
        rcases hk with hk | hk
        · exact absurd (Nat.le_of_ble_eq_true hk) h0
        · split at hk
          · rename_i ci fs hD
            obtain ⟨vs, hv1, -, hv3⟩ := cw_cell_o hD (hI.1 k0 d hk0)
            rw [cw_fld_at hv1] at h2
            split at hk
            · rename_i d' hf
              simp only [Bool.and_eq_true, Bool.not_eq_true'] at hk
              obtain ⟨v', e1, e2⟩ := hv3 _ _ hf
              rw [h2] at e1
              cases e1
              obtain ⟨hk', e3⟩ : sh[k']? = some d' ∧ True := by
                rcases e2 with ⟨-, k, h1, h2⟩ | ⟨j, h1, -⟩
                · cases h1; exact ⟨h2, trivial⟩
                · have := Nat.le_of_ble_eq_true hk.1; omega
              exact cw_fld_fr hI hI' hF (fun d2 hd2 => by rw [hk'] at hd2; cases hd2; exact hk.2) h3
            · cases hk
          · cases hk
    · cases hk
theorem cw_bit0 {d s : Nat} : cw_bit 0 d s = false := Nat.zero_testBit _
theorem cw_val_fr {h' : cv_H} {m : Nat} {u : cw_U} {w : cv_V} (hI : cw_Inv Ds sh G P h) (hI' : cw_Inv Ds sh G P h') (hF : cw_Fr Ds sh m h h') (hu : (u.2 == 0 || m == 0) = true) (hw : cw_val L h u = some w) : cw_val L h' u = some w := by
  rw [Bool.or_eq_true] at hu
  rcases hu with hu | hu
  · simp only [beq_iff_eq] at hu
    unfold cw_val at hw ⊢
    rw [hu] at hw ⊢
    exact hw
  · simp only [beq_iff_eq] at hu
    subst hu
    exact cw_val_hp hw (fun k x _ _ _ h3 => cw_fld_fr hI hI' hF (fun _ _ => cw_bit0) h3) (fun k k' x _ _ _ h3 => cw_fld_fr hI hI' hF (fun _ _ => cw_bit0) h3)
theorem cw_var0_ok {vl : cw_U → Option cv_V} {zs : cw_Z} {av : List cv_V} {p : Nat} {u : cw_U} (hZ : cw_Zr G sh vl zs av) (h : cw_var0 zs p = some u) : ∃ v, av[p]? = some v ∧ vl u = some v := by
  unfold cw_var0 at h
  split at h
  · rename_i a u' d hz
    obtain ⟨h1, h2⟩ := cv_bif h
    cases h2
    simp only [decide_eq_true_eq] at h1
    subst h1
    obtain ⟨v, g1, -, w, g2, g3⟩ := cw_Zr_get hZ hz
    have := cw_eqd_0 g3
    subst this
    exact ⟨_, g1, g2⟩
  · cases h
theorem cw_w0_ok {vl : cw_U → Option cv_V} {zs : cw_Z} {av : List cv_V} {p : Nat} {w : cw_W} (hZ : cw_Zr G sh vl zs av) (h : cw_w0 zs p = some w) : ∃ x : Int32, av[p]? = some (cv_i x) ∧ cw_wok G w x.toInt := by
  unfold cw_w0 at h
  split at h
  · rename_i w' p' hz
    cases h
    obtain ⟨v, g1, ⟨x, rfl, g2⟩, -⟩ := cw_Zr_get hZ hz
    exact ⟨x, g1, g2⟩
  · cases h
theorem cw_go_ok {M : cv_M} {K : cw_K} {zs : cw_Z} {av stk : List cv_V} {j : Nat} (hr : cw_go Ds M wm K zs e z = some r) (hj : K.1.1 = j) (hM : M = mt mi) (hK : cw_Holds F mt Ds sh G P K) (hrm : cw_rmok mt K) (hX : cw_Xok X) (hI : cw_Inv Ds sh G P h) (hE : cw_Er G sh v0 e (cw_val L h)) (hzs : cw_Zr G sh (cw_val L h) zs av) (hZ : cw_Zr G sh (cw_val L h) z stk) (hs : cw_subs (zs.map Prod.fst) K.2.1 = true) (hfp : cw_fps e zs K.2.2.2.2.2.2 = true) :
    ∃ e' z' o, r = [(none, e', z')] ∧ cv_fits (mt mi) (mt j) 0 0 (cv_wid av) stk = true ∧ cw_Ev F mt (fun j => bif j == 2 then none else X j) j (0, cv_ent 0 av, [], h, 0, 0) o ∧ cw_St Ds sh G P v0 e' z' L (o.1.toList ++ stk) o.2 ∧ cw_Fr Ds sh wm h o.2 ∧ (mt j).2.2.1 = 0 ∧ (mt j).2.2.2.1 = 0 := by
  subst hj hM
  unfold cw_go at hr
  obtain ⟨h1, h2⟩ := cv_bif hr
  simp only [Bool.and_eq_true, Nat.ble_eq] at h1
  obtain ⟨⟨a1, a2, a3, a4⟩, a5⟩ := h1
  obtain ⟨b1, b2, b3, b4, b5⟩ := hrm
  have hfpo : cw_fpo G sh h K.2.2.2.2.2.2 av.head? := by
    intro t ht
    unfold cw_fps at hfp
    split at hfp
    · rename_i q; rw [q] at ht; exact absurd ht List.not_mem_nil
    · rename_i fp hne
      split at hfp
      · rename_i a p zs'
        split at hfp
        · rename_i i hu
          match av, hzs with
          | v :: av, ⟨⟨_, hp⟩, _⟩ =>
          have hv := cw_uref_ok hu hp
          have hf := List.all_eq_true.mp hfp t ht
          rw [Bool.and_eq_true] at hf
          obtain ⟨h98, hf⟩ := hf
          have h98 := Nat.le_of_ble_eq_true h98
          split at hf
          · rename_i a' o' hg
            obtain ⟨w, g1, g2, -⟩ := cw_get_ok hE hg
            refine ⟨w, ?_, cw_sub_ok hf g2⟩
            have g1 : (bif (t.1 + 1) == 0 then cv_get L i else bif Nat.ble (t.1 + 1) 99 then cw_fld h (cv_get L i) (t.1 + 1 - 1) else _) = some w := g1
            rw [Nat.ble_eq_true_of_le (by omega), hv] at g1
            exact g1
          · cases hf
        · cases hfp
      · cases hfp
  obtain ⟨o, ho, p1, p2, p3, p4⟩ := hK _ h av (cw_Xok_no2 hX) hI (cw_subs_ok hzs hs) hfpo
  have hstk : cw_Zr G sh (cw_val L o.2) (cw_clr (fun u => !(u.2 == 0)) z) stk := cw_Zr_clr (fun u hu w hw => by
      have hu0 : u.2 = 0 := by simpa using hu
      unfold cw_val at hw ⊢
      rw [hu0] at hw ⊢
      exact hw) hZ
  refine ⟨_, _, o, (Option.some.inj h2).symm, ?_, ho, ⟨cw_keep_ok hI p2 p3 hE, ?_, p2⟩, cw_Fr_mono a5 p3, b4, b5⟩
  · unfold cv_fits
    rw [b1, b2, b3, b4, b5, ← cw_Zr_wid hzs, ← cw_Zr_wid hZ]
    simp only [Bool.and_eq_true, decide_eq_true_eq]
    exact ⟨a1, by omega, by omega, a2, a3, a4⟩
  · cases hpo : K.2.2.1 with
    | none =>
      rw [hpo] at p1
      cases ho1 : o.1 with
      | none => exact hstk
      | some v => rw [ho1] at p1; exact p1.elim
    | some a =>
      rw [hpo] at p1
      cases ho1 : o.1 with
      | none => rw [ho1] at p1; exact p1.elim
      | some v =>
        rw [ho1] at p1 p4
        refine ⟨⟨p1, ?_⟩, hstk⟩
        dsimp only
        have htl : cw_pr G sh (cw_val L o.2) (some (.inr (.inr (cw_tells K zs)))) v := by
          intro x hx hx0 t ht
          obtain ⟨q1, q2⟩ := p4 x (by rw [hx]) hx0
          unfold cw_tells at ht
          rcases List.mem_append.mp ht with ht | ht
          · obtain ⟨t0, ht0, hm⟩ := List.mem_filterMap.mp ht
            cases hv : cw_var0 zs t0.1 with
            | none => rw [hv] at hm; cases hm
            | some u =>
              rw [hv] at hm
              obtain ⟨hm1, hm2⟩ := cv_bif hm
              cases hm2
              obtain ⟨w, g1, g2⟩ := q1 t0 ht0
              obtain ⟨v', k1, k2⟩ := cw_var0_ok hzs hv
              rw [g1] at k1
              cases k1
              exact ⟨w, cw_val_fr hI p2 p3 hm1 k2, g2⟩
          · obtain ⟨t0, ht0, hm⟩ := List.mem_filterMap.mp ht
            split at hm
            · rename_i u a' b' hv ha hb
              obtain ⟨hm1, hm2⟩ := cv_bif hm
              cases hm2
              obtain ⟨x1, y1, z1, g1, g2, g3, g4, g5⟩ := q2 t0 ht0
              obtain ⟨v', k1, k2⟩ := cw_var0_ok hzs hv
              obtain ⟨y2, c1, c2⟩ := cw_w0_ok hzs ha
              obtain ⟨z2, d1, d2⟩ := cw_w0_ok hzs hb
              rw [g1] at k1
              cases k1
              rw [g2] at c1
              cases c1
              rw [g3] at d1
              cases d1
              refine ⟨_, cw_val_fr hI p2 p3 hm1 k2, x1, rfl, ?_, ?_, cw_tg0⟩
              · have := c2.1; dsimp only; omega
              · have := d2.2.1; dsimp only; omega
            · cases hm
        split
        · exact trivial
        · rename_i l hl
          exact htl
theorem cw_find_ok {Ks : List cw_K} {j : Nat} {zs : cw_Z} {K : cw_K} (h : cw_find Ks j e zs = some K) : K ∈ Ks ∧ K.1.1 = j ∧ cw_subs (zs.map Prod.fst) K.2.1 = true ∧ cw_fps e zs K.2.2.2.2.2.2 = true := by
  unfold cw_find at h
  have h1 := List.mem_of_find?_eq_some h
  have h2 := List.find?_some h
  simp only [Bool.and_eq_true, beq_iff_eq] at h2
  exact ⟨h1, h2⟩
theorem cw_call_ok {Ks : List cw_K} {M : cv_M} {q : cv_Q} (hr : cw_call Ds Ks M wm q e z = some r) (hM : M = mt mi) (hKs : ∀ K ∈ Ks, cw_Holds F mt Ds sh G P K ∧ cw_rmok mt K) (hlen : Ds.length ≤ 1000) (hX : cw_Xok X) (hS : cw_St Ds sh G P v0 e z L st h) :
    ∃ e' z' o j av stk, r = [(none, e', z')] ∧ q.2.2.2.1 < 9000 ∧ cv_call q (pc, L, st, h, 0, 0) = some (j, av, stk) ∧ cv_fits (mt mi) (mt j) 0 0 (cv_wid av) stk = true ∧ cw_Ev F mt (fun j => bif j == 2 then none else X j) j (0, cv_ent 0 av, [], h, 0, 0) o ∧ cw_St Ds sh G P v0 e' z' L (o.1.toList ++ stk) o.2 ∧ cw_Fr Ds sh wm h o.2 ∧ (mt j).2.2.1 = 0 ∧ (mt j).2.2.2.1 = 0 := by
  obtain ⟨hE, hZ, hI⟩ := hS
  unfold cw_call at hr
  dsimp only at hr
  obtain ⟨h1, h2⟩ := cv_bif hr
  simp only [Bool.and_eq_true, Nat.ble_eq] at h1
  have hl := cw_Zr_len hZ
  have hnp : decide (q.2.2.2.2.1 ≤ st.length) = true := decide_eq_true (by omega)
  have htk := cw_Zr_take q.2.2.2.2.1 hZ
  split at h2
  · rename_i ix hi
    split at h2
    · rename_i K hf
      obtain ⟨f1, f2, f3, f4⟩ := cw_find_ok hf
      obtain ⟨e', z', o, g⟩ := cw_go_ok h2 f2 hM (hKs K f1).1 (hKs K f1).2 hX hI hE (cw_Zr_rev htk.1) htk.2 f3 f4
      refine ⟨e', z', o, q.2.2.2.1, _, _, g.1, by omega, ?_, g.2⟩
      unfold cv_call
      dsimp only
      rw [hnp, cond_true, hi]
    · cases h2
  · rename_i ix hi
    split at h2
    · rename_i d p z' hd
      have hdr := htk.2
      rw [hd] at hdr
      cases hst : st.drop q.2.2.2.2.1 with
      | nil => rw [hst] at hdr; exact hdr.elim
      | cons v stk =>
        rw [hst] at hdr
        split at h2
        · rename_i ci fs hD
          obtain ⟨h3, h4⟩ := cv_bif h2
          split at h4
          · rename_i K hf
            obtain ⟨f1, f2, f3, f4⟩ := cw_find_ok hf
            obtain ⟨k, rfl, hk, hc⟩ := cw_ref_ok hI hdr.1.1 hD hlen
            obtain ⟨vs, hv1, -⟩ := cw_cell_o hD hc
            obtain ⟨e', z', o, g⟩ := cw_go_ok (av := cv_r k :: (st.take q.2.2.2.2.1).reverse) h4 f2 hM (hKs K f1).1 (hKs K f1).2 hX hI hE ⟨hdr.1, cw_Zr_rev htk.1⟩ hdr.2 f3 f4
            refine ⟨e', z', o, q.2.2.2.1, _, _, g.1, by omega, ?_, g.2⟩
            rw [Bool.and_eq_true] at h3
            unfold cv_call
            dsimp only
            rw [hnp, cond_true, hi]
            dsimp only
            rw [hst]
            dsimp only
            rw [hv1]
            dsimp only
            rw [h3.1]
            rfl
          · cases h4
        · cases h2
    · cases h2
  · cases h2
theorem cw_max_ok {x y : cw_W} {a b : Int32} (hx : cw_wok G x a.toInt) (hy : cw_wok G y b.toInt) : cw_wok G (cw_mx x.1 y.1, cw_mx x.2.1 y.2.1, 0) (if a < b then b else a).toInt := by
  have h1 : (if a < b then b else a).toInt = if a.toInt < b.toInt then b.toInt else a.toInt := by
    by_cases q : a < b
    · rw [if_pos q, if_pos (Int32.lt_iff_toInt_lt.mp q)]
    · rw [if_neg q, if_neg fun p => q (Int32.lt_iff_toInt_lt.mpr p)]
  rw [h1]
  have := hx.1; have := hx.2.1; have := hy.1; have := hy.2.1
  have k1 := cw_mx_l (a := x.2.1) (b := y.2.1); have k2 := cw_mx_r (a := x.2.1) (b := y.2.1)
  refine ⟨?_, ?_, cw_tg0⟩
  · split <;> refine cw_le_mx ?_ ?_ <;> omega
  · dsimp only; split <;> omega
theorem cw_min_ok {x y : cw_W} {a b : Int32} (hx : cw_wok G x a.toInt) (hy : cw_wok G y b.toInt) : cw_wok G (cw_mn x.1 y.1, cw_mn x.2.1 y.2.1, 0) (if b < a then b else a).toInt := by
  have h1 : (if b < a then b else a).toInt = if b.toInt < a.toInt then b.toInt else a.toInt := by
    by_cases q : b < a
    · rw [if_pos q, if_pos (Int32.lt_iff_toInt_lt.mp q)]
    · rw [if_neg q, if_neg fun p => q (Int32.lt_iff_toInt_lt.mpr p)]
  rw [h1]
  have := hx.1; have := hx.2.1; have := hy.1; have := hy.2.1
  have k1 := cw_mn_l (a := x.1) (b := y.1); have k2 := cw_mn_r (a := x.1) (b := y.1)
  refine ⟨?_, ?_, cw_tg0⟩
  · dsimp only; split <;> omega
  · split <;> refine cw_mn_le ?_ ?_ <;> omega
theorem cw_abs_nz {x : Int64} (h : x.toInt ≠ 0) : (if 0 < x then x else -x).toInt ≠ 0 := by
  split
  · exact h
  · exact cw_neg_nz h
theorem cw_nat_ok {M : cv_M} {q : cv_Q} (hr : cw_nat M q e z = some r) (hS : cw_St Ds sh G P v0 e z L st h) : ∃ z' st', r = [(none, e, z')] ∧ cv_nat M q (pc, L, st, h, 0, 0) = some (pc + q.2.2.1, L, st', h, 0, 0) ∧ cw_St Ds sh G P v0 e z' L st' h := by
  unfold cw_nat at hr
  obtain ⟨h1, h2⟩ := cv_bif hr
  have hb : (decide (1 ≤ M.2.2.2.2.1) && (decide (0 ≤ M.2.2.1) && decide (0 ≤ M.2.2.2.1))) = true := by
    simp only [Bool.and_eq_true, decide_eq_true_eq]
    exact ⟨Nat.le_of_ble_eq_true h1, Nat.zero_le _, Nat.zero_le _⟩
  obtain ⟨hE, hZ, hI⟩ := hS
  split at h2
  · rename_i ix y p' x p z' hi ha
    obtain ⟨h3, h4⟩ := cv_bif h2
    cases h4
    match st, hZ with
    | v1 :: v2 :: st, ⟨⟨⟨k, hk, hy⟩, _⟩, ⟨⟨m, hm, hx⟩, _⟩, hZ⟩ =>
    subst hk hm
    have h3 := Nat.le_of_ble_eq_true h3
    rw [cw_Zr_wid hZ] at h3
    refine ⟨_, cv_i (if m < k then k else m) :: st, rfl, ?_, hE, ⟨⟨⟨_, rfl, cw_max_ok hx hy⟩, trivial⟩, hZ⟩, hI⟩
    unfold cv_nat
    dsimp only
    rw [hb, cond_true, hi, ha]
    show (bif decide _ then some _ else none) = _
    rw [decide_eq_true h3]
    rfl
  · rename_i ix y p' x p z' hi ha
    obtain ⟨h3, h4⟩ := cv_bif h2
    cases h4
    match st, hZ with
    | v1 :: v2 :: st, ⟨⟨⟨k, hk, hy⟩, _⟩, ⟨⟨m, hm, hx⟩, _⟩, hZ⟩ =>
    subst hk hm
    have h3 := Nat.le_of_ble_eq_true h3
    rw [cw_Zr_wid hZ] at h3
    refine ⟨_, cv_i (if k < m then k else m) :: st, rfl, ?_, hE, ⟨⟨⟨_, rfl, cw_min_ok hx hy⟩, trivial⟩, hZ⟩, hI⟩
    unfold cv_nat
    dsimp only
    rw [hb, cond_true, hi, ha]
    show (bif decide _ then some _ else none) = _
    rw [decide_eq_true h3]
    rfl
  · rename_i ix x p z' hi ha
    obtain ⟨h3, h4⟩ := cv_bif h2
    cases h4
    match st, hZ with
    | v1 :: st, ⟨⟨⟨m, hm, hx⟩, _⟩, hZ⟩ =>
    subst hm
    have h3 := Nat.le_of_ble_eq_true h3
    rw [cw_Zr_wid hZ] at h3
    refine ⟨_, cv_i (if 0 ≤ m then m else 0 - m) :: st, rfl, ?_, hE, ⟨⟨⟨_, rfl, cw_top_ok _⟩, trivial⟩, hZ⟩, hI⟩
    unfold cv_nat
    dsimp only
    rw [hb, cond_true, hi, ha]
    show (bif decide _ then some _ else none) = _
    rw [decide_eq_true h3]
    rfl
  · rename_i ix y p' x p z' hi ha
    obtain ⟨h3, h4⟩ := cv_bif h2
    cases h4
    match st, hZ with
    | v1 :: v2 :: st, ⟨⟨⟨k, hk, hy⟩, _⟩, ⟨⟨m, hm, hx⟩, _⟩, hZ⟩ =>
    subst hk hm
    have h3 := Nat.le_of_ble_eq_true h3
    rw [cw_Zr_wid hZ] at h3
    refine ⟨_, cv_l (if k < m then m else k) :: st, rfl, ?_, hE, ⟨⟨⟨_, rfl, cw_topL_ok _⟩, trivial⟩, hZ⟩, hI⟩
    unfold cv_nat
    dsimp only
    rw [hb, cond_true, hi, ha]
    show (bif decide _ then some _ else none) = _
    rw [decide_eq_true h3]
    rfl
  · rename_i ix y p' x p z' hi ha
    obtain ⟨h3, h4⟩ := cv_bif h2
    cases h4
    match st, hZ with
    | v1 :: v2 :: st, ⟨⟨⟨k, hk, hy⟩, _⟩, ⟨⟨m, hm, hx⟩, _⟩, hZ⟩ =>
    subst hk hm
    have h3 := Nat.le_of_ble_eq_true h3
    rw [cw_Zr_wid hZ] at h3
    refine ⟨_, cv_l (if k < m then k else m) :: st, rfl, ?_, hE, ⟨⟨⟨_, rfl, cw_topL_ok _⟩, trivial⟩, hZ⟩, hI⟩
    unfold cv_nat
    dsimp only
    rw [hb, cond_true, hi, ha]
    show (bif decide _ then some _ else none) = _
    rw [decide_eq_true h3]
    rfl
  · rename_i ix x p z' hi ha
    obtain ⟨h3, h4⟩ := cv_bif h2
    cases h4
    match st, hZ with
    | v1 :: st, ⟨⟨⟨m, hm, hx⟩, _⟩, hZ⟩ =>
    subst hm
    have h3 := Nat.le_of_ble_eq_true h3
    rw [cw_Zr_wid hZ] at h3
    refine ⟨_, cv_l (if 0 < m then m else -m) :: st, rfl, ?_, hE, ⟨⟨⟨_, rfl, (cw_i64 _).1, (cw_i64 _).2, cw_tg_nz hx cw_abs_nz⟩, trivial⟩, hZ⟩, hI⟩
    unfold cv_nat
    dsimp only
    rw [hb, cond_true, hi, ha]
    show (bif decide _ then some _ else none) = _
    rw [decide_eq_true h3]
    rfl
  · cases h2
end CWC
