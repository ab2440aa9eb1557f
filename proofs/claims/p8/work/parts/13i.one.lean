section CWZ
variable {F : cv_F} {mt : Nat → cv_M} {Ds : List cw_D} {sh : List Nat} {G : Int} {P : cv_H → Prop} {dp : Nat} {v0 : cw_U → Option cv_V} {X : cv_X} {mi : Nat} {K : cw_K}
theorem cw_dw {p : cv_Q → Bool} : ∀ {l : List cv_Q} {x : cv_Q} {xs : List cv_Q}, l.dropWhile p = x :: xs → p x = false
  | [], x, xs, h => by simp at h
  | a :: l, x, xs, h => by
    by_cases hp : p a = true
    · rw [List.dropWhile_cons_of_pos hp] at h
      exact cw_dw h
    · rw [List.dropWhile_cons_of_neg hp] at h
      cases h
      simpa using hp
theorem cw_ev_ok {Ks : List cw_K} {cs : List cw_G} {rk : Option (List (Nat × cw_U × Nat))} {M : cv_M} {av : List cv_V} {h0 : cv_H} (hPok : cw_Pok Ds sh dp P) (hdp : cw_dpok Ds dp) (hlen : Ds.length ≤ 1000) (hX : cw_Xok X) (hM : M = mt mi) (hsort : cw_sorted M.2.1 = true) (hKs : ∀ K ∈ Ks, cw_Holds F mt Ds sh G P K ∧ cw_rmok mt K) (hrel : K.2.2.2.2.1 = []) (hv0 : ∀ t ∈ K.2.2.2.1, ∀ v, v0 (t.1, 0) = some v → av[t.1]? = some v)
    (hcert : ∀ c ∈ cs, ∀ L h, cw_co G sh c.2.1 (cw_val L h) → cw_Inv Ds sh G P h → cw_Fr Ds sh K.2.2.2.2.2.1 h0 h → (∀ rr, rk = some rr → cw_ms (cw_val L h) c.2.2 < cw_ms v0 rr) → ∃ o, cw_Ev F mt X mi (c.1, L, [], h, 0, 0) o ∧ cw_Po Ds sh G P K av h0 o) (hnr : ∀ c ∈ cs, ∀ rr, rk = some rr → rr.length = c.2.2.length) :
    ∀ (fuel : Nat) (b : Bool) (q : cv_Q) (l : List cv_Q) (e : cw_E) (z : cw_Z) (L : cv_L) (st : List cv_V) (h : cv_H), cw_ev Ds Ks M K dp cs rk fuel b (q :: l) e z = true → (q :: l) <:+ M.2.1 → cw_St Ds sh G P v0 e z L st h → cw_Fr Ds sh K.2.2.2.2.2.1 h0 h → ∃ o, cw_Ev F mt X mi (q.1, L, st, h, 0, 0) o ∧ cw_Po Ds sh G P K av h0 o := by
  intro fuel
  induction fuel with
  | zero => intro b q l e z L st h hv; cases hv
  | succ fuel ih =>
    intro b q l e z L st h hv hsuf hS hF
    have hop : cv_op (mt mi) q.1 = some q := by
      unfold cv_op
      rw [← hM]
      exact cw_op_of hsort hsuf
    rw [cw_ev_eq] at hv
    cases hcf : (bif b then none else cs.find? (fun c => c.1 == q.1)) with
    | some c =>
      rw [hcf] at hv
      simp only [Bool.and_eq_true] at hv
      obtain ⟨g1, g2, g3⟩ := hv
      have hb : b = false := by cases b with
        | true => cases hcf
        | false => rfl
      subst hb
      rw [cond_false] at hcf
      have hc1 := List.mem_of_find?_eq_some hcf
      have hc2 := List.find?_some hcf
      simp only [beq_iff_eq] at hc2
      have hz : z = [] := List.isEmpty_iff.mp g1
      subst hz
      match st, hS.2.1 with
      | [], _ =>
      rw [← hc2]
      refine hcert c hc1 L h (cw_incl_ok hS.2.2 hS.1 g2) hS.2.2 hF fun rr hrr => ?_
      subst hrr
      exact cw_dec_ok hS.1 (hnr c hc1 rr rfl) g3
    | none =>
      rw [hcf] at hv
      dsimp only at hv
      -- the run goes on
      have next : ∀ (t : Option Nat) (e' : cw_E) (z' : cw_Z) (L' : cv_L) (st' : List cv_V) (h' : cv_H), cw_go1 (cw_ev Ds Ks M K dp cs rk fuel false) M.2.1 l (q.1 + q.2.2.1) (t, e', z') = true → cw_St Ds sh G P v0 e' z' L' st' h' → cw_Fr Ds sh K.2.2.2.2.2.1 h0 h' → ∃ o, cw_Ev F mt X mi ((match t with
          | none => q.1 + q.2.2.1
          | some p => p), L', st', h', 0, 0) o ∧ cw_Po Ds sh G P K av h0 o := by
        intro t e' z' L' st' h' ht hS' hF'
        cases t with
        | none =>
          have ht : (cw_hd l (q.1 + q.2.2.1) && cw_ev Ds Ks M K dp cs rk fuel false l e' z') = true := ht
          rw [Bool.and_eq_true] at ht
          obtain ⟨t1, t2⟩ := ht
          match l, hsuf, t1, t2 with
          | q' :: l', hsuf, t1, t2 =>
          have e1 : q'.1 = q.1 + q.2.2.1 := beq_iff_eq.mp (show (q'.1 == q.1 + q.2.2.1) = true from t1)
          have := ih false q' l' e' z' L' st' h' t2 (List.IsSuffix.trans (List.suffix_cons _ _) hsuf) hS' hF'
          rw [e1] at this
          exact this
        | some t =>
          have ht : cw_ev Ds Ks M K dp cs rk fuel false (M.2.1.dropWhile (fun q => !(q.1 == t))) e' z' = true := ht
          dsimp only
          cases hd : M.2.1.dropWhile (fun q => !(q.1 == t)) with
          | nil =>
            rw [hd] at ht
            cases fuel <;> cases ht
          | cons q' l' =>
            rw [hd] at ht
            have e1 := cw_dw hd
            have e1 : q'.1 = t := by simpa using e1
            have hs : (q' :: l') <:+ M.2.1 := by rw [← hd]; exact List.dropWhile_suffix _
            have := ih false q' l' e' z' L' st' h' ht hs hS' hF'
            rw [e1] at this
            exact this
      cases h1 : cw_one Ds K.2.2.2.2.2.1 dp q e z with
      | some r =>
        rw [h1] at hv
        dsimp only at hv
        obtain ⟨t, e', z', L', st', h', m1, m2, m3, m4⟩ := cw_one_ok (X := X) (c := 0) (n := 0) hPok hdp hlen hX rfl hS h1
        obtain ⟨o, o1, o2⟩ := next t e' z' L' st' h' (List.all_eq_true.mp hv _ m1) m3 (cw_Fr_tr hF m4)
        exact ⟨o, cw_ev_one hop m2 o1, o2⟩
      | none =>
      rw [h1] at hv
      dsimp only at hv
      cases h2 : cw_nat M q e z with
      | some r =>
        rw [h2] at hv
        dsimp only at hv
        obtain ⟨z', st', rfl, m2, m3⟩ := cw_nat_ok (pc := q.1) h2 hS
        obtain ⟨o, o1, o2⟩ := next none e z' L st' h (List.all_eq_true.mp hv _ (List.mem_singleton_self _)) m3 hF
        rw [hM] at m2
        exact ⟨o, cw_ev_nat hop m2 o1, o2⟩
      | none =>
      rw [h2] at hv
      dsimp only at hv
      cases h3 : cw_call Ds Ks M K.2.2.2.2.2.1 q e z with
      | some r =>
        rw [h3] at hv
        dsimp only at hv
        obtain ⟨e', z', o', j, av', stk, rfl, k1, k2, k3, k4, k5, k6, k7, k8⟩ := cw_call_ok (pc := q.1) h3 hM hKs hlen hX hS
        obtain ⟨o, o1, o2⟩ := next none e' z' L _ o'.2 (List.all_eq_true.mp hv _ (List.mem_singleton_self _)) k5 (cw_Fr_tr hF k6)
        refine ⟨o, cw_ev_call hop k1 k2 k3 k4 ?_, o2⟩
        rw [k7, k8]
        exact o1
      | none =>
      rw [h3] at hv
      dsimp only at hv
      obtain ⟨rv, m1, m2⟩ := cw_ret_ok (pc := q.1) hv hrel hv0 hS hF
      rw [hM] at m1
      exact ⟨(rv, h), cw_ev_ret hop m1, m2⟩
theorem cw_ent_get {G : Int} {sh : List Nat} : ∀ {l : List cw_A} {av : List cv_V} {i : Nat}, cw_gas G sh l av → ∀ t ∈ cw_ent i l, i ≤ t.1.1 ∧ t.1.2 = 0 ∧ t.2.2 = some 0 ∧ ∃ v, cv_get (cv_ent i av) t.1.1 = some v ∧ cw_ga G sh t.2.1 v
  | [], [], i, _, t, ht => absurd ht List.not_mem_nil
  | a :: l, v :: av, i, hg, t, ht => by
    rcases List.mem_cons.mp ht with rfl | ht
    · refine ⟨Nat.le_refl _, rfl, rfl, v, ?_, hg.1⟩
      show Option.map _ (List.find? _ ((i, v) :: _)) = _
      rw [List.find?_cons_of_pos (by simp)]
      rfl
    · rw [cw_isL_ga hg.1] at ht
      have hi : i + 1 ≤ (bif cv_isL v then i + 2 else i + 1) := by cases cv_isL v <;> simp
      obtain ⟨h1, h2, h3, w, h4, h5⟩ := cw_ent_get hg.2 t ht
      refine ⟨by omega, h2, h3, w, ?_, h5⟩
      show Option.map _ (List.find? _ ((i, v) :: cv_ent (bif cv_isL v then i + 2 else i + 1) av)) = _
      rw [List.find?_cons_of_neg (by simp; omega)]
      exact h4
theorem cw_ent_arg : ∀ {l : List cw_A} {av : List cv_V} {i : Nat}, cw_gas G sh l av → l.all (fun x => !cw_isL x) = true → ∀ (p : Nat) (v : cv_V), cv_get (cv_ent i av) (i + p) = some v → av[p]? = some v
  | [], [], i, _, _, p, v, h => by cases h
  | a :: l, w :: av, i, hg, hl, p, v, h => by
    rw [List.all_cons, Bool.and_eq_true] at hl
    have hw : cv_isL w = false := by rw [← cw_isL_ga hg.1]; simpa using hl.1
    have h : Option.map Prod.snd (List.find? (fun q => q.1 == i + p) ((i, w) :: cv_ent (bif cv_isL w then i + 2 else i + 1) av)) = some v := h
    rw [hw, cond_false] at h
    cases p with
    | zero =>
      rw [List.find?_cons_of_pos (by simp)] at h
      exact h
    | succ p =>
      rw [List.find?_cons_of_neg (by simp)] at h
      refine cw_ent_arg (i := i + 1) hg.2 hl.2 p v ?_
      have e : i + 1 + p = i + (p + 1) := by omega
      rw [e]
      exact h
theorem cw_sound {Ks : List cw_K} {cs : List cw_G} {M : cv_M} {nr fuel : Nat} (hPok : cw_Pok Ds sh dp P) (hdp : cw_dpok Ds dp) (hlen : Ds.length ≤ 1000) (hM : M = mt K.1.1) (hKs : ∀ K ∈ Ks, cw_Holds F mt Ds sh G P K ∧ cw_rmok mt K) (hc : cw_chk Ds Ks M K dp cs nr fuel = true) : cw_Holds F mt Ds sh G P K := by
  intro X h0 av hX hI hg hfp
  unfold cw_chk at hc
  simp only [Bool.and_eq_true] at hc
  obtain ⟨hsort, hfirst, hrel, hthn, hf98, hent, hcs⟩ := hc
  have hrel := List.isEmpty_iff.mp hrel
  have hz : ∀ vl, cw_Zr G sh vl [] [] := fun vl => trivial
  -- the places, by how far it still is
  have hplaces : ∀ (N : Nat), ∀ c ∈ cs, ∀ L h, cw_co G sh c.2.1 (cw_val L h) → cw_Inv Ds sh G P h → cw_Fr Ds sh K.2.2.2.2.2.1 h0 h → cw_ms (cw_val L h) c.2.2 < N → ∃ o, cw_Ev F mt X K.1.1 (c.1, L, [], h, 0, 0) o ∧ cw_Po Ds sh G P K av h0 o := by
    intro N
    induction N with
    | zero => intro c _ L h _ _ _ hN; omega
    | succ N ihN =>
      intro c hcm L h hco hIh hFh hN
      have hck := List.all_eq_true.mp hcs c hcm
      rw [Bool.and_eq_true] at hck
      obtain ⟨hn1, hev⟩ := hck
      have hthn0 : K.2.2.2.1 = [] := by
        rw [Bool.or_eq_true] at hthn
        rcases hthn with q | q
        · exact List.isEmpty_iff.mp q
        · rw [Bool.and_eq_true] at q
          rw [List.isEmpty_iff.mp q.1] at hcm
          exact absurd hcm List.not_mem_nil
      cases hd : M.2.1.dropWhile (fun q => !(q.1 == c.1)) with
      | nil =>
        rw [hd] at hev
        cases fuel <;> cases hev
      | cons q l =>
        rw [hd] at hev
        have e1 : q.1 = c.1 := by have := cw_dw hd; simpa using this
        have hs : (q :: l) <:+ M.2.1 := by rw [← hd]; exact List.dropWhile_suffix _
        have hE : cw_Er G sh (cw_val L h) (c.2.1.map (fun t => (t.1, t.2, some 0))) (cw_val L h) := by
          intro t ht
          obtain ⟨t0, ht0, rfl⟩ := List.mem_map.mp ht
          obtain ⟨v, g1, g2⟩ := hco t0 ht0
          exact ⟨v, g1, g2, fun d hd => by cases hd; exact ⟨v, g1, cw_eqd_rf⟩⟩
        have := cw_ev_ok (v0 := cw_val L h) (rk := some c.2.2) (av := av) (h0 := h0) hPok hdp hlen hX hM hsort hKs hrel (by rw [hthn0]; intro t ht; exact absurd ht List.not_mem_nil) (fun c' hc' L' h' k1 k2 k3 k4 => ihN c' hc' L' h' k1 k2 k3 (by have := k4 _ rfl; omega)) (fun c' hc' rr hrr => by
            cases hrr
            have h2 := List.all_eq_true.mp hcs c' hc'
            rw [Bool.and_eq_true] at h2
            have q1 := beq_iff_eq.mp hn1
            have q2 := beq_iff_eq.mp h2.1
            rw [q1, q2]) fuel true q l _ [] L [] h hev hs ⟨hE, hz _, hIh⟩ hFh
        rw [e1] at this
        exact this
  cases hops : M.2.1 with
  | nil => rw [hops] at hfirst; cases hfirst
  | cons q l =>
    rw [hops] at hfirst hent
    have e0 : q.1 = 0 := by simpa using hfirst
    have hE : cw_Er G sh (cw_val (cv_ent 0 av) h0) (cw_ent 0 K.2.1 ++ K.2.2.2.2.2.2.map (fun t => ((0, t.1 + 1), t.2, some 0))) (cw_val (cv_ent 0 av) h0) := by
      intro t ht
      rcases List.mem_append.mp ht with ht | ht
      · obtain ⟨-, h2, h3, v, h4, h5⟩ := cw_ent_get hg t ht
        have hval : cw_val (cv_ent 0 av) h0 t.1 = some v := by
          unfold cw_val
          rw [h2]
          exact h4
        refine ⟨v, hval, h5, fun d hd => ?_⟩
        rw [h3] at hd
        cases hd
        exact ⟨v, hval, cw_eqd_rf⟩
      · obtain ⟨t0, ht0, rfl⟩ := List.mem_map.mp ht
        obtain ⟨w, g1, g2⟩ := hfp t0 ht0
        have h98 := Nat.le_of_ble_eq_true (List.all_eq_true.mp hf98 t0 ht0)
        have hval : cw_val (cv_ent 0 av) h0 (0, t0.1 + 1) = some w := by
          show (bif (t0.1 + 1) == 0 then _ else bif Nat.ble (t0.1 + 1) 99 then cw_fld h0 (cv_get (cv_ent 0 av) 0) (t0.1 + 1 - 1) else _) = some w
          rw [Nat.ble_eq_true_of_le (by omega)]
          have : cv_get (cv_ent 0 av) 0 = av.head? := by
            cases av with
            | nil => rfl
            | cons v av => rfl
          rw [this]
          exact g1
        exact ⟨w, hval, g2, fun d hd => by cases hd; exact ⟨w, hval, cw_eqd_rf⟩⟩
    have := cw_ev_ok (v0 := cw_val (cv_ent 0 av) h0) (rk := none) (av := av) (h0 := h0) hPok hdp hlen hX hM hsort hKs hrel (fun t ht v hv => ?_) (fun c' hc' L' h' k1 k2 k3 _ => hplaces _ c' hc' L' h' k1 k2 k3 (Nat.lt_succ_self _)) (fun _ _ rr hrr => by cases hrr) fuel true q l _ [] (cv_ent 0 av) [] h0 hent (by rw [hops]; exact List.suffix_refl _) ⟨hE, hz _, hI⟩ cw_Fr_refl
    · rw [e0] at this
      exact this
    · rw [Bool.or_eq_true] at hthn
      rcases hthn with q' | q'
      · rw [List.isEmpty_iff.mp q'] at ht
        exact absurd ht List.not_mem_nil
      · rw [Bool.and_eq_true] at q'
        refine cw_ent_arg (i := 0) hg q'.2 t.1 v ?_
        rw [Nat.zero_add]
        exact hv
end CWZ
