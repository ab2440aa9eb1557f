section
/-! ===== the check by cells holds what it says ===== -/
theorem ef_C_none {i : Instr} {pc len a b mc ms : Nat} {zz : Int} {F : cv_F} {M : cv_M} {S : cv_S} (hc : ef_isC i = false) : cv_mk mc ms F (pc, i, len, a, b, zz) S = none ∧ cv_nat M (pc, i, len, a, b, zz) S = none ∧ cv_call (pc, i, len, a, b, zz) S = none ∧ cv_ret M (pc, i, len, a, b, zz) S = none := by
  cases i
  all_goals first | (simp [ef_isC] at hc; done) | skip
  all_goals (refine ⟨rfl, ?_, ?_, ?_⟩)
  all_goals first
    | (simp [cv_nat]; done)
    | (simp [cv_call]; done)
    | (simp [cv_ret]; done)
theorem ef_nat_none {i : Instr} {pc len a b : Nat} {zz : Int} {M : cv_M} {S : cv_S} (ha : a < 9000) (hi : ∀ ix, i ≠ .invokespecial ix) : cv_nat M (pc, i, len, a, b, zz) S = none := by
  unfold cv_nat
  dsimp only
  generalize (decide (1 ≤ M.2.2.2.2.1) && (decide (S.2.2.2.2.1 ≤ M.2.2.1) && decide (S.2.2.2.2.2 ≤ M.2.2.2.1))) = bb
  cases bb with
  | false => rfl
  | true =>
    dsimp only [cond_true]
    split
    all_goals first | rfl | (exfalso; revert ha; decide)
theorem ef_nat_ok {pc len a b k ix : Nat} {zz : Int} {M : cv_M} {L : cv_L} {st : List cv_V} {h : cv_H} {c n : Nat} {S' : cv_S} (hn : ef_nk a = some k) (h1 : cv_nat M (pc, .invokestatic ix, len, a, b, zz) (pc, L, st, h, c, n) = some S') : S'.1 = pc + len ∧ S'.2.1 = L ∧ S'.2.2.2.1 = h ∧ ∃ v, S'.2.2.1 = v :: st.drop k := by
  unfold cv_nat at h1
  obtain ⟨-, h1⟩ := cv_bif h1
  dsimp only at h1
  unfold ef_nk at hn
  split at hn
  all_goals first | (cases hn; done) | skip
  all_goals cases hn
  all_goals (split at h1)
  all_goals first
    | contradiction
    | (simp at h1; done)
    | (obtain ⟨-, h2⟩ := cv_bif h1; cases h2; exact ⟨rfl, rfl, rfl, _, rfl⟩)
section EFS
variable {Ks : List ef_K} {TF : ef_T} {TR : ef_U} {mt : Nat → cv_M} {F : cv_F}
def ef_Post (TF : ef_T) (TR : ef_U) (K : ef_K) (h : cv_H) (o : cv_O) : Prop := ef_fok TF o.2 ∧ ef_rok TR o.2 ∧ ef_fok K.2.2.2.2.1 o.2 ∧ ef_fr K.2.2.2.2.2 h o.2 ∧ o.1.isSome = K.2.2.2.1
theorem ef_ev_eq (M : cv_M) (K : ef_K) (cs : List ef_G) (fuel : Nat) (b : Bool) (pc : Nat) (e : ef_L) (z : List ef_A) (E : ef_T) : ef_ev Ks TF TR M K cs (fuel + 1) b pc e z E = (match cv_op M pc with
    | none => false
    | some q =>
      match (bif b then none else cs.find? (fun c => c.1 == pc)) with
      | some c => z.isEmpty && (ef_incl e c.2.1 && ef_leT E c.2.2)
      | none =>
        match ef_one TF TR K.2.2.2.2.2 q e z E with
        | some r => r.all (fun s => ef_ev Ks TF TR M K cs fuel false s.1 s.2.1 s.2.2.1 s.2.2.2)
        | none =>
        match ef_call Ks K.2.2.2.2.2 q e z E with
        | some r => r.all (fun s => ef_ev Ks TF TR M K cs fuel false s.1 s.2.1 s.2.2.1 s.2.2.2)
        | none => ef_ret K q E) := rfl
theorem ef_go_ok {W : ef_W} {q : cv_Q} {as : List ef_A} {e : ef_L} {z : List ef_A} {E : ef_T} {r : List ef_S} (h : ef_go Ks W q as e z E = some r) : ∃ K, K ∈ Ks ∧ K.1 = q.2.2.2.1 ∧ ef_subs as K.2.1 = true ∧ ef_leT E K.2.2.1 = true ∧ ef_leW K.2.2.2.2.2 W = true ∧ r = [(q.1 + q.2.2.1, e, ef_pu K.2.2.2.1 ++ z, K.2.2.2.2.1 ++ E.filter (fun t => !ef_may K.2.2.2.2.2 t.1 t.2.1))] := by
  unfold ef_go at h
  cases hf : ef_find Ks q.2.2.2.1 as E with
  | none => rw [hf] at h; cases h
  | some K =>
    rw [hf] at h
    obtain ⟨h1, h2⟩ := cv_bif h
    cases h2
    have h3 := List.find?_some hf
    simp only [Bool.and_eq_true, beq_iff_eq] at h3
    exact ⟨K, List.mem_of_find?_eq_some hf, h3.1, h3.2.1, h3.2.2, h1, rfl⟩
/-- a call: the callee's contract gives what stands behind it -/
theorem ef_behind {K' : ef_K} {W : ef_W} {h h0 : cv_H} {o' : cv_O} {E : ef_T} {z : List ef_A} {stk : List cv_V} (hP : ef_Post TF TR K' h o') (hW : ef_leW K'.2.2.2.2.2 W = true) (hE : ef_fok E h) (hz : ef_zok z stk) (hf : ef_fr W h0 h) : ef_zok (ef_pu K'.2.2.2.1 ++ z) (o'.1.toList ++ stk) ∧ ef_fok TF o'.2 ∧ ef_rok TR o'.2 ∧ ef_fok (K'.2.2.2.2.1 ++ E.filter (fun t => !ef_may K'.2.2.2.2.2 t.1 t.2.1)) o'.2 ∧ ef_fr W h0 o'.2 := by
  obtain ⟨p1, p2, p3, p4, p5⟩ := hP
  refine ⟨?_, p1, p2, fun t ht => ?_, ef_fr_tr hf (ef_fr_mono hW p4)⟩
  · rw [← p5]
    cases o'.1 with
    | none => exact hz
    | some v => exact ⟨ef_ok_none, hz⟩
  · rcases List.mem_append.mp ht with ht | ht
    · exact p3 t ht
    · obtain ⟨t1, t2⟩ := List.mem_filter.mp ht
      obtain ⟨c0, c1, c2⟩ := hE t t1
      exact ⟨c0, c1, (p4 _ _ (by simpa using t2)).trans c2⟩
def ef_B (F : cv_F) (mt : Nat → cv_M) (Ks : List ef_K) (TF : ef_T) (TR : ef_U) (css : ef_K → List ef_G × Nat) (N : Nat) : Prop := ∀ K, K ∈ Ks → ∀ (fuel : Nat) (b : Bool) (pc : Nat) (e : ef_L) (z : List ef_A) (E : ef_T), ef_ev Ks TF TR (mt K.1) K (css K).1 fuel b pc e z E = true → ∀ (X : cv_X) (L : cv_L) (st : List cv_V) (h0 h : cv_H) (c n : Nat) (o : cv_O), ef_lok e L → ef_zok z st → ef_fok TF h → ef_rok TR h → ef_fok E h → ef_fr K.2.2.2.2.2 h0 h → cv_run F mt N X K.1 (pc, L, st, h, c, n) = some o → ef_Post TF TR K h0 o
def ef_Aa (F : cv_F) (mt : Nat → cv_M) (Ks : List ef_K) (TF : ef_T) (TR : ef_U) (N : Nat) : Prop := ∀ K, K ∈ Ks → ∀ (X : cv_X) (av : List cv_V) (h : cv_H) (o : cv_O), ef_zok K.2.1 av → ef_fok TF h → ef_rok TR h → ef_fok K.2.2.1 h → cv_run F mt N X K.1 (0, cv_ent 0 av, [], h, 0, 0) = some o → ef_Post TF TR K h o
theorem ef_BA {css : ef_K → List ef_G × Nat} (hc : ∀ K, K ∈ Ks → ef_chk Ks TF TR (mt K.1) K (css K).1 (css K).2 = true) {N : Nat} (hB : ef_B F mt Ks TF TR css N) : ef_Aa F mt Ks TF TR N := by
  intro K hK X av h o hz hT hR hE hr
  have hk := hc K hK
  unfold ef_chk at hk
  rw [Bool.and_eq_true] at hk
  exact hB K hK _ _ _ _ _ _ hk.1 X _ _ h h 0 0 o (ef_ent_ok hz).1 (show ef_zok [] [] from trivial) hT hR hE ef_fr_refl hr
theorem ef_B1 {css : ef_K → List ef_G × Nat} (h9 : ∀ j, ef_nk j ≠ none → (mt j).2.1 = []) {N : Nat} (hB : ef_B F mt Ks TF TR css N) (hA : ef_Aa F mt Ks TF TR N) {K : ef_K} (hK : K ∈ Ks) {fuel : Nat} {b : Bool} {pc : Nat} {e : ef_L} {z : List ef_A} {E : ef_T} (hev : ef_ev Ks TF TR (mt K.1) K (css K).1 (fuel + 1) b pc e z E = true) (hcut : (bif b then none else (css K).1.find? (fun c => c.1 == pc)) = none) {X : cv_X} {L : cv_L} {st : List cv_V} {h0 h : cv_H} {c n : Nat} {o : cv_O} (hl : ef_lok e L) (hz : ef_zok z st) (hT : ef_fok TF h) (hR : ef_rok TR h) (hE : ef_fok E h) (hf : ef_fr K.2.2.2.2.2 h0 h) (hr : cv_run F mt (N + 1) X K.1 (pc, L, st, h, c, n) = some o) : ef_Post TF TR K h0 o := by
  rw [ef_ev_eq] at hev
  rw [cw_eq] at hr
  dsimp only at hr
  cases hop : cv_op (mt K.1) pc with
  | none => rw [hop] at hr; cases hr
  | some q =>
  rw [hop] at hr hev
  dsimp only at hr hev
  rw [hcut] at hev
  dsimp only at hev
  have hpc : q.1 = pc := by
    have := List.find?_some hop
    simpa using this
  subst hpc
  have go : ∀ (s : ef_S) (r : List ef_S) (S' : cv_S), s ∈ r → r.all (fun s => ef_ev Ks TF TR (mt K.1) K (css K).1 fuel false s.1 s.2.1 s.2.2.1 s.2.2.2) = true → ef_R TF TR K.2.2.2.2.2 h s S' → cv_run F mt N X K.1 S' = some o → ef_Post TF TR K h0 o := by
    intro s r S' hs hall hR' hr'
    obtain ⟨e1, e2, e3, e4, e5, e6, e7⟩ := hR'
    obtain ⟨pc', L', st', h', c', n'⟩ := S'
    have e8 := List.all_eq_true.mp hall s hs
    have e1' : s.1 = pc' := e1
    rw [e1'] at e8
    exact hB K hK fuel false pc' _ _ _ e8 X L' st' h0 h' c' n' o e2 e3 e4 e5 e6 (ef_fr_tr hf e7) hr'
  cases hone : ef_one TF TR K.2.2.2.2.2 q e z E with
  | some r =>
    rw [hone] at hev
    dsimp only at hev
    cases h2 : cv_one X q (q.1, L, st, h, c, n) with
    | some S' =>
      rw [h2] at hr
      dsimp only at hr
      obtain ⟨s, hs, hRs⟩ := ef_one_ok hone h2 hl hz hT hR hE
      exact go s r S' hs hev hRs hr
    | none =>
      have hc : ef_isC q.2.1 = false := by
        unfold ef_one at hone
        cases hc : ef_isC q.2.1 with
        | false => rfl
        | true => rw [hc] at hone; cases hone
      obtain ⟨a1, a2, a3, a4⟩ := ef_C_none (pc := q.1) (len := q.2.2.1) (a := q.2.2.2.1) (b := q.2.2.2.2.1) (zz := q.2.2.2.2.2) (mc := (mt K.1).2.2.1) (ms := (mt K.1).2.2.2.1) (F := F) (M := mt K.1) (S := (q.1, L, st, h, c, n)) hc
      rw [h2] at hr
      dsimp only at hr
      rw [show cv_mk (mt K.1).2.2.1 (mt K.1).2.2.2.1 F q (q.1, L, st, h, c, n) = none from a1] at hr
      dsimp only at hr
      rw [show cv_nat (mt K.1) q (q.1, L, st, h, c, n) = none from a2] at hr
      dsimp only at hr
      rw [show cv_call q (q.1, L, st, h, c, n) = none from a3] at hr
      dsimp only at hr
      rw [show cv_ret (mt K.1) q (q.1, L, st, h, c, n) = none from a4] at hr
      cases hr
  | none =>
  rw [hone] at hev
  dsimp only at hev
  cases hcall : ef_call Ks K.2.2.2.2.2 q e z E with
  | some r =>
    rw [hcall] at hev
    dsimp only at hev
    obtain ⟨pc, i, len, a, np, zz⟩ := q
    -- what a call gives
    have kk : ∀ (as : List ef_A) (z' : List ef_A) (av stk : List cv_V), a < 9000 → ef_go Ks K.2.2.2.2.2 (pc, i, len, a, np, zz) as e z' E = some r → ef_zok as av → ef_zok z' stk →
        (bif cv_fits (mt K.1) (mt a) c n (cv_wid av) stk then
          match cv_run F mt N (fun j => bif j == 2 then none else X j) a (0, cv_ent 0 av, [], h, 0, 0) with
          | some o => cv_run F mt N X K.1 (pc + len, L, o.1.toList ++ stk, o.2, c + (mt a).2.2.1, n + (mt a).2.2.2.1)
          | none => none
        else none) = some o → ef_Post TF TR K h0 o := by
      intro as z' av stk _ hgo hav hstk hr'
      obtain ⟨-, hr'⟩ := cv_bif hr'
      obtain ⟨K', k1, k2, k3, k4, k5, k6⟩ := ef_go_ok hgo
      have k2' : K'.1 = a := k2
      cases hrun : cv_run F mt N (fun j => bif j == 2 then none else X j) a (0, cv_ent 0 av, [], h, 0, 0) with
      | none => rw [hrun] at hr'; cases hr'
      | some o' =>
        rw [hrun] at hr'
        dsimp only at hr'
        have hP := hA K' k1 _ av h o' (ef_subs_ok k3 hav) hT hR (ef_leT_ok k4 hE) (by rw [k2']; exact hrun)
        obtain ⟨b1, b2, b3, b4, b5⟩ := ef_behind hP k5 hE hstk hf
        rw [k6] at hev
        have e8 := List.all_eq_true.mp hev _ (List.mem_singleton_self _)
        exact hB K hK fuel false _ _ _ _ e8 X L _ h0 o'.2 _ _ o hl b1 b2 b3 b4 b5 hr'
    cases i
    all_goals first | (simp [ef_call] at hcall; done) | skip
    case invokestatic ix =>
      replace hr : (match cv_nat (mt K.1) (pc, .invokestatic ix, len, a, np, zz) (pc, L, st, h, c, n) with
        | some S' => cv_run F mt N X K.1 S'
        | none =>
        match cv_call (pc, .invokestatic ix, len, a, np, zz) (pc, L, st, h, c, n) with
        | some (j, args, stk) =>
          bif cv_fits (mt K.1) (mt j) c n (cv_wid args) stk then
            match cv_run F mt N (fun j => bif j == 2 then none else X j) j (0, cv_ent 0 args, [], h, 0, 0) with
            | some o => cv_run F mt N X K.1 (pc + len, L, o.1.toList ++ stk, o.2, c + (mt j).2.2.1, n + (mt j).2.2.2.1)
            | none => none
          else none
        | none =>
        match cv_ret (mt K.1) (pc, .invokestatic ix, len, a, np, zz) (pc, L, st, h, c, n) with
        | some r => some (r, h)
        | none => none) = some o := hr
      have hret : cv_ret (mt K.1) (pc, .invokestatic ix, len, a, np, zz) (pc, L, st, h, c, n) = none := by
        unfold cv_ret
        dsimp only
        cases (decide (c ≤ (mt K.1).2.2.1) && decide (n ≤ (mt K.1).2.2.2.1)) <;> rfl
      have hcl : cv_call (pc, .invokestatic ix, len, a, np, zz) (pc, L, st, h, c, n) = bif decide (np ≤ st.length) then some (a, (st.take np).reverse, st.drop np) else none := rfl
      rw [hcl] at hr
      replace hcall : (match ef_nk a with
        | some k => bif Nat.ble k z.length then some [(pc + len, e, none :: z.drop k, E)] else none
        | none => bif Nat.ble a 8999 && Nat.ble np z.length then ef_go Ks K.2.2.2.2.2 (pc, .invokestatic ix, len, a, np, zz) (z.take np).reverse e (z.drop np) E else none) = some r := hcall
      cases hnk : ef_nk a with
      | some k =>
        rw [hnk] at hcall
        obtain ⟨-, h5⟩ := cv_bif hcall
        cases h5
        cases hn : cv_nat (mt K.1) (pc, .invokestatic ix, len, a, np, zz) (pc, L, st, h, c, n) with
        | some S' =>
          rw [hn] at hr
          obtain ⟨e1, e2, e3, v, e4⟩ := ef_nat_ok hnk hn
          refine go _ _ S' (List.mem_singleton_self _) hev ⟨e1.symm, by rw [e2]; exact hl, ?_, by rw [e3]; exact hT, by rw [e3]; exact hR, by rw [e3]; exact hE, by rw [e3]; exact ef_fr_refl⟩ hr
          rw [e4]
          exact ⟨ef_ok_none, ef_zok_drop hz⟩
        | none =>
          rw [hn] at hr
          dsimp only at hr
          exfalso
          have ha : ef_nk a ≠ none := by rw [hnk]; exact fun q => by cases q
          cases hd : decide (np ≤ st.length) with
          | false => rw [hd, cond_false] at hr; dsimp only at hr; rw [hret] at hr; cases hr
          | true =>
            rw [hd, cond_true] at hr
            dsimp only at hr
            obtain ⟨-, hr⟩ := cv_bif hr
            have hno : cv_run F mt N (fun j => bif j == 2 then none else X j) a (0, cv_ent 0 (st.take np).reverse, [], h, 0, 0) = none := by
              cases N with
              | zero => rfl
              | succ N =>
                rw [cw_eq]
                have : cv_op (mt a) 0 = none := by unfold cv_op; rw [h9 a ha]; rfl
                dsimp only
                rw [this]
            rw [hno] at hr
            cases hr
      | none =>
        rw [hnk] at hcall
        obtain ⟨h5, h6⟩ := cv_bif hcall
        rw [Bool.and_eq_true] at h5
        have ha := Nat.le_of_ble_eq_true h5.1
        rw [ef_nat_none (by omega) (fun ix q => by cases q)] at hr
        dsimp only at hr
        cases hd : decide (np ≤ st.length) with
        | false => rw [hd, cond_false] at hr; dsimp only at hr; rw [hret] at hr; cases hr
        | true =>
          rw [hd, cond_true] at hr
          exact kk _ _ _ _ (by omega) h6 (ef_zok_rev (ef_zok_take hz)) (ef_zok_drop hz) hr
    case invokevirtual ix =>
      replace hr : (match cv_nat (mt K.1) (pc, .invokevirtual ix, len, a, np, zz) (pc, L, st, h, c, n) with
        | some S' => cv_run F mt N X K.1 S'
        | none =>
        match cv_call (pc, .invokevirtual ix, len, a, np, zz) (pc, L, st, h, c, n) with
        | some (j, args, stk) =>
          bif cv_fits (mt K.1) (mt j) c n (cv_wid args) stk then
            match cv_run F mt N (fun j => bif j == 2 then none else X j) j (0, cv_ent 0 args, [], h, 0, 0) with
            | some o => cv_run F mt N X K.1 (pc + len, L, o.1.toList ++ stk, o.2, c + (mt j).2.2.1, n + (mt j).2.2.2.1)
            | none => none
          else none
        | none =>
        match cv_ret (mt K.1) (pc, .invokevirtual ix, len, a, np, zz) (pc, L, st, h, c, n) with
        | some r => some (r, h)
        | none => none) = some o := hr
      have hret : cv_ret (mt K.1) (pc, .invokevirtual ix, len, a, np, zz) (pc, L, st, h, c, n) = none := by
        unfold cv_ret
        dsimp only
        cases (decide (c ≤ (mt K.1).2.2.1) && decide (n ≤ (mt K.1).2.2.2.1)) <;> rfl
      replace hcall : (bif Nat.ble a 8999 && Nat.ble np z.length then (match z.drop np with
        | a0 :: z' => ef_go Ks K.2.2.2.2.2 (pc, .invokevirtual ix, len, a, np, zz) (a0 :: (z.take np).reverse) e z' E
        | [] => none) else none) = some r := hcall
      obtain ⟨h5, h6⟩ := cv_bif hcall
      rw [Bool.and_eq_true] at h5
      have ha := Nat.le_of_ble_eq_true h5.1
      rw [ef_nat_none (by omega) (fun ix q => by cases q)] at hr
      dsimp only at hr
      cases hcc : cv_call (pc, .invokevirtual ix, len, a, np, zz) (pc, L, st, h, c, n) with
      | none => rw [hcc] at hr; dsimp only at hr; rw [hret] at hr; cases hr
      | some jas =>
        obtain ⟨j, args, stk⟩ := jas
        rw [hcc] at hr
        dsimp only at hr
        have hd := ef_zok_drop (n := np) hz
        have hcv : ∃ v, st.drop np = v :: stk ∧ args = v :: (st.take np).reverse ∧ j = a := by
          replace hcc : (bif decide (np ≤ st.length) then (match st.drop np with
            | .inr (.inr (.inl (some k))) :: rest => (match h[k]? with
              | some (.inr (.inr (.inr (ci, _)))) => bif ci == zz.toNat then some (a, cv_r k :: (st.take np).reverse, rest) else none
              | _ => none)
            | .inr (.inr (.inr 0)) :: rest => bif zz.toNat == 100 then some (a, cv_s 0 :: (st.take np).reverse, rest) else none
            | _ => none) else none) = some (j, args, stk) := hcc
          obtain ⟨-, h7⟩ := cv_bif hcc
          split at h7
          · rename_i k rest hst
            split at h7
            · obtain ⟨-, h8⟩ := cv_bif h7
              cases h8
              exact ⟨_, hst, rfl, rfl⟩
            · cases h7
          · rename_i rest hst
            obtain ⟨-, h8⟩ := cv_bif h7
            cases h8
            exact ⟨_, hst, rfl, rfl⟩
          · cases h7
        obtain ⟨v, v1, rfl, rfl⟩ := hcv
        rw [v1] at hd
        cases hzd : z.drop np with
        | nil => rw [hzd] at hd; exact hd.elim
        | cons a0 z' =>
          rw [hzd] at hd h6
          exact kk _ _ _ _ (by omega) h6 (show ef_zok (a0 :: (z.take np).reverse) (v :: (st.take np).reverse) from ⟨hd.1, ef_zok_rev (ef_zok_take hz)⟩) hd.2 hr
  | none =>
    rw [hcall] at hev
    dsimp only at hev
    obtain ⟨pc, i, len, a, np, zz⟩ := q
    unfold ef_ret at hev
    rw [Bool.and_eq_true] at hev
    obtain ⟨hv1, hv2⟩ := hev
    have fin : ∀ r : Option cv_V, r.isSome = K.2.2.2.1 → ef_Post TF TR K h0 (r, h) := fun r hs => ⟨hT, hR, ef_leT_ok hv2 hE, hf, hs⟩
    cases i
    all_goals first | (simp at hv1; done) | skip
    case ireturn =>
      replace hr : (match cv_nat (mt K.1) (pc, .ireturn, len, a, np, zz) (pc, L, st, h, c, n) with
        | some S' => cv_run F mt N X K.1 S'
        | none =>
        match cv_call (pc, .ireturn, len, a, np, zz) (pc, L, st, h, c, n) with
        | some (j, args, stk) =>
          bif cv_fits (mt K.1) (mt j) c n (cv_wid args) stk then
            match cv_run F mt N (fun j => bif j == 2 then none else X j) j (0, cv_ent 0 args, [], h, 0, 0) with
            | some o => cv_run F mt N X K.1 (pc + len, L, o.1.toList ++ stk, o.2, c + (mt j).2.2.1, n + (mt j).2.2.2.1)
            | none => none
          else none
        | none =>
        match cv_ret (mt K.1) (pc, .ireturn, len, a, np, zz) (pc, L, st, h, c, n) with
        | some r => some (r, h)
        | none => none) = some o := hr
      have hn : cv_nat (mt K.1) (pc, .ireturn, len, a, np, zz) (pc, L, st, h, c, n) = none := by
        simp [cv_nat]
      have hcl : cv_call (pc, .ireturn, len, a, np, zz) (pc, L, st, h, c, n) = none := by
        simp [cv_call]
      rw [hn, hcl] at hr
      dsimp only at hr
      cases hrt : cv_ret (mt K.1) (pc, .ireturn, len, a, np, zz) (pc, L, st, h, c, n) with
      | none => rw [hrt] at hr; cases hr
      | some r =>
        rw [hrt] at hr
        cases hr
        refine fin r ?_
        rw [show K.2.2.2.1 = true from hv1]
        unfold cv_ret at hrt
        obtain ⟨-, hrt⟩ := cv_bif hrt
        dsimp only at hrt
        split at hrt
        all_goals first
          | contradiction
          | (cases hrt; rfl)
          | (obtain ⟨-, h9⟩ := cv_bif hrt; cases h9; rfl)
          | (simp at hrt; done)
          | (rename_i q; cases q)
    case lreturn =>
      replace hr : (match cv_nat (mt K.1) (pc, .lreturn, len, a, np, zz) (pc, L, st, h, c, n) with
        | some S' => cv_run F mt N X K.1 S'
        | none =>
        match cv_call (pc, .lreturn, len, a, np, zz) (pc, L, st, h, c, n) with
        | some (j, args, stk) =>
          bif cv_fits (mt K.1) (mt j) c n (cv_wid args) stk then
            match cv_run F mt N (fun j => bif j == 2 then none else X j) j (0, cv_ent 0 args, [], h, 0, 0) with
            | some o => cv_run F mt N X K.1 (pc + len, L, o.1.toList ++ stk, o.2, c + (mt j).2.2.1, n + (mt j).2.2.2.1)
            | none => none
          else none
        | none =>
        match cv_ret (mt K.1) (pc, .lreturn, len, a, np, zz) (pc, L, st, h, c, n) with
        | some r => some (r, h)
        | none => none) = some o := hr
      have hn : cv_nat (mt K.1) (pc, .lreturn, len, a, np, zz) (pc, L, st, h, c, n) = none := by
        simp [cv_nat]
      have hcl : cv_call (pc, .lreturn, len, a, np, zz) (pc, L, st, h, c, n) = none := by
        simp [cv_call]
      rw [hn, hcl] at hr
      dsimp only at hr
      cases hrt : cv_ret (mt K.1) (pc, .lreturn, len, a, np, zz) (pc, L, st, h, c, n) with
      | none => rw [hrt] at hr; cases hr
      | some r =>
        rw [hrt] at hr
        cases hr
        refine fin r ?_
        rw [show K.2.2.2.1 = true from hv1]
        unfold cv_ret at hrt
        obtain ⟨-, hrt⟩ := cv_bif hrt
        dsimp only at hrt
        split at hrt
        all_goals first
          | contradiction
          | (cases hrt; rfl)
          | (obtain ⟨-, h9⟩ := cv_bif hrt; cases h9; rfl)
          | (simp at hrt; done)
          | (rename_i q; cases q)
    case return_ =>
      replace hr : (match cv_nat (mt K.1) (pc, .return_, len, a, np, zz) (pc, L, st, h, c, n) with
        | some S' => cv_run F mt N X K.1 S'
        | none =>
        match cv_call (pc, .return_, len, a, np, zz) (pc, L, st, h, c, n) with
        | some (j, args, stk) =>
          bif cv_fits (mt K.1) (mt j) c n (cv_wid args) stk then
            match cv_run F mt N (fun j => bif j == 2 then none else X j) j (0, cv_ent 0 args, [], h, 0, 0) with
            | some o => cv_run F mt N X K.1 (pc + len, L, o.1.toList ++ stk, o.2, c + (mt j).2.2.1, n + (mt j).2.2.2.1)
            | none => none
          else none
        | none =>
        match cv_ret (mt K.1) (pc, .return_, len, a, np, zz) (pc, L, st, h, c, n) with
        | some r => some (r, h)
        | none => none) = some o := hr
      have hn : cv_nat (mt K.1) (pc, .return_, len, a, np, zz) (pc, L, st, h, c, n) = none := by
        simp [cv_nat]
      have hcl : cv_call (pc, .return_, len, a, np, zz) (pc, L, st, h, c, n) = none := by
        simp [cv_call]
      rw [hn, hcl] at hr
      dsimp only at hr
      cases hrt : cv_ret (mt K.1) (pc, .return_, len, a, np, zz) (pc, L, st, h, c, n) with
      | none => rw [hrt] at hr; cases hr
      | some r =>
        rw [hrt] at hr
        cases hr
        refine fin r ?_
        have hv3 : K.2.2.2.1 = false := by simpa using hv1
        rw [hv3]
        unfold cv_ret at hrt
        obtain ⟨-, hrt⟩ := cv_bif hrt
        dsimp only at hrt
        split at hrt
        all_goals first
          | contradiction
          | (cases hrt; rfl)
          | (simp at hrt; done)
          | (rename_i q; cases q)
theorem ef_BS {css : ef_K → List ef_G × Nat} (hc : ∀ K, K ∈ Ks → ef_chk Ks TF TR (mt K.1) K (css K).1 (css K).2 = true) (h9 : ∀ j, ef_nk j ≠ none → (mt j).2.1 = []) {N : Nat} (hB : ef_B F mt Ks TF TR css N) : ef_B F mt Ks TF TR css (N + 1) := by
  have hA := ef_BA hc hB
  intro K hK fuel b pc e z E hev X L st h0 h c n o hl hz hT hR hE hf hr
  cases fuel with
  | zero => cases hev
  | succ fuel =>
  cases hcut : (bif b then none else (css K).1.find? (fun c => c.1 == pc)) with
  | none => exact ef_B1 h9 hB hA hK hev hcut hl hz hT hR hE hf hr
  | some c0 =>
    cases b with
    | true => cases hcut
    | false =>
    have hcut' : (css K).1.find? (fun c => c.1 == pc) = some c0 := hcut
    have hpc : c0.1 = pc := by
      have := List.find?_some hcut'
      simpa using this
    rw [ef_ev_eq] at hev
    cases hop : cv_op (mt K.1) pc with
    | none => rw [hop] at hev; cases hev
    | some q =>
      rw [hop] at hev
      dsimp only at hev
      rw [hcut] at hev
      dsimp only at hev
      rw [Bool.and_eq_true, Bool.and_eq_true] at hev
      obtain ⟨h1, h2, h3⟩ := hev
      have hz0 : z = [] := by simpa using h1
      subst hz0
      cases st with
      | cons _ _ => exact hz.elim
      | nil =>
      have hk := hc K hK
      unfold ef_chk at hk
      rw [Bool.and_eq_true] at hk
      have h4 := List.all_eq_true.mp hk.2 c0 (List.mem_of_find?_eq_some hcut')
      rw [hpc] at h4
      cases hfl : (css K).2 with
      | zero => rw [hfl] at h4; cases h4
      | succ f2 =>
        rw [hfl] at h4
        exact ef_B1 h9 hB hA hK h4 rfl (ef_incl_ok h2 hl) (show ef_zok [] [] from trivial) hT hR (ef_leT_ok h3 hE) hf hr
theorem ef_run {css : ef_K → List ef_G × Nat} (hc : ∀ K, K ∈ Ks → ef_chk Ks TF TR (mt K.1) K (css K).1 (css K).2 = true) (h9 : ∀ j, ef_nk j ≠ none → (mt j).2.1 = []) : ∀ N, ef_Aa F mt Ks TF TR N := by
  have hB : ∀ N, ef_B F mt Ks TF TR css N := by
    intro N
    induction N with
    | zero =>
      intro K hK fuel b pc e z E hev X L st h0 h c n o hl hz hT hR hE hf hr
      cases hr
    | succ N ih => exact ef_BS hc h9 ih
  exact fun N => ef_BA hc (hB N)
end EFS
/-- what a walk shows holds together with what the cells show -/
theorem ef_X {Ks : List ef_K} {TF : ef_T} {TR : ef_U} (hA : ∀ N, ef_Aa fk_all mt_all Ks TF TR N) {K : ef_K} (hK : K ∈ Ks) {X : cv_X} {Q : cv_O → Prop} {av : List cv_V} {h : cv_H} (hz : ef_zok K.2.1 av) (hT : ef_fok TF h) (hR : ef_rok TR h) (hE : ef_fok K.2.2.1 h) (hX : cw_X X K.1 Q 0 (cv_ent 0 av) [] h) : cw_X X K.1 (fun o => Q o ∧ ef_Post TF TR K h o) 0 (cv_ent 0 av) [] h := by
  obtain ⟨o, ⟨N, hN⟩, hQ⟩ := hX
  exact ⟨o, ⟨N, hN⟩, hQ, hA N K hK X av h o hz hT hR hE hN⟩
theorem ef_h9 : ∀ j, ef_nk j ≠ none → (mt_all j).2.1 = [] := by
  intro j hj
  unfold ef_nk at hj
  split at hj
  all_goals first | rfl | exact absurd rfl hj
end
section
/-! ===== what each method of the class writes, cell by cell ===== -/
def ec_TF : ef_T := [(0, 0, [1]), (0, 2, [2, 26]), (0, 3, [2, 26]), (0, 4, [50]), (0, 5, [55]), (0, 6, [59]), (0, 7, [61]), (0, 9, [62]), (0, 11, [63]), (0, 12, [86]), (0, 13, [95]), (0, 14, [98]), (0, 15, [99]), (2, 0, [3]), (2, 1, [4]), (2, 4, [5]), (2, 5, [6]), (2, 6, [7]), (2, 7, [8]), (2, 8, [9]), (2, 10, [10]), (2, 11, [11]), (2, 12, [12]), (2, 13, [13]), (2, 15, [14]), (2, 16, [15]), (2, 17, [16]), (2, 18, [17]), (18, 16, [19]), (20, 16, [21]), (22, 16, [23]), (24, 16, [25]), (26, 0, [27]), (26, 1, [28]), (26, 4, [29]), (26, 5, [30]), (26, 6, [31]), (26, 7, [32]), (26, 8, [33]), (26, 10, [34]), (26, 11, [35]), (26, 12, [36]), (26, 13, [37]), (26, 15, [38]), (26, 16, [39]), (26, 17, [40]), (26, 18, [41]), (42, 16, [43]), (44, 16, [45]), (46, 16, [47]), (48, 16, [49]), (50, 0, [51]), (50, 1, [53]), (51, 0, [1]), (51, 1, [52]), (53, 0, [51]), (53, 1, [54]), (55, 0, [56]), (55, 1, [57]), (55, 2, [58]), (59, 16, [60]), (63, 0, [64]), (63, 1, [65]), (66, 0, [18, 20, 22, 24, 42, 44, 46, 48, 59]), (67, 0, [18, 20, 22, 24, 42, 44, 46, 48, 59]), (68, 0, [18, 20, 22, 24, 42, 44, 46, 48, 59]), (69, 0, [18, 20, 22, 24, 42, 44, 46, 48, 59]), (70, 0, [18, 20, 22, 24, 42, 44, 46, 48, 59]), (71, 0, [18, 20, 22, 24, 42, 44, 46, 48, 59]), (72, 0, [18, 20, 22, 24, 42, 44, 46, 48, 59]), (73, 0, [18, 20, 22, 24, 42, 44, 46, 48, 59]), (74, 0, [18, 20, 22, 24, 42, 44, 46, 48, 59]), (75, 0, [18, 20, 22, 24, 42, 44, 46, 48, 59]), (76, 0, [18, 20, 22, 24, 42, 44, 46, 48, 59]), (77, 0, [18, 20, 22, 24, 42, 44, 46, 48, 59]), (78, 0, [18, 20, 22, 24, 42, 44, 46, 48, 59]), (79, 0, [18, 20, 22, 24, 42, 44, 46, 48, 59]), (80, 0, [18, 20, 22, 24, 42, 44, 46, 48, 59]), (81, 0, [18, 20, 22, 24, 42, 44, 46, 48, 59]), (82, 0, [18, 20, 22, 24, 42, 44, 46, 48, 59]), (83, 0, [18, 20, 22, 24, 42, 44, 46, 48, 59]), (84, 0, [18, 20, 22, 24, 42, 44, 46, 48, 59]), (85, 0, [18, 20, 22, 24, 42, 44, 46, 48, 59]), (86, 0, [87]), (86, 1, [88]), (86, 2, [89]), (86, 3, [90]), (86, 4, [91]), (86, 5, [92]), (86, 6, [93]), (86, 7, [94]), (95, 0, [96]), (95, 1, [97]), (97, 0, [18, 20, 22, 24, 42, 44, 46, 48, 59]), (98, 0, [18, 20, 22, 24, 42, 44, 46, 48, 59]), (99, 0, [100]), (99, 1, [101]), (99, 2, [102]), (103, 0, [18, 20, 22, 24, 42, 44, 46, 48, 59]), (104, 0, [18, 20, 22, 24, 42, 44, 46, 48, 59]), (105, 0, [18, 20, 22, 24, 42, 44, 46, 48, 59]), (106, 0, [18, 20, 22, 24, 42, 44, 46, 48, 59]), (107, 0, [18, 20, 22, 24, 42, 44, 46, 48, 59]), (108, 0, [18, 20, 22, 24, 42, 44, 46, 48, 59]), (109, 0, [18, 20, 22, 24, 42, 44, 46, 48, 59]), (110, 0, [18, 20, 22, 24, 42, 44, 46, 48, 59])]
def ec_TR : ef_U := [(8, [18, 20, 22, 24]), (32, [42, 44, 46, 48]), (61, [103, 105, 107, 109]), (62, [104, 106, 108, 110]), (64, [66, 67, 68, 69, 70, 71, 72, 73, 74, 75, 76, 77, 78, 79, 80, 81, 82, 83, 84, 85])]
def ec_X7_setHeight_0 : ef_K := (87, [some [42, 44, 46, 48], none], [], false, [], [(42, some 0x1a), (44, some 0x1a), (46, some 0x1a), (48, some 0x1a)])
def ec_X7_clear_0 : ef_K := (86, [some [42, 44, 46, 48]], [], false, [], [(42, some 0xffff), (43, none), (44, some 0xffff), (45, none), (46, some 0xffff), (47, none), (48, some 0xffff), (49, none)])
def ec_X4_clear_0 : ef_K := (49, [some [26]], [], false, [], [(26, some 0x8420c), (27, none), (29, none), (30, none), (31, none), (42, some 0xffff), (43, none), (44, some 0xffff), (45, none), (46, some 0xffff), (47, none), (48, some 0xffff), (49, none)])
def ec_X6_letterBits_0 : ef_K := (76, [none, some []], [], true, [], [])
def ec_X6_readLetters_0 : ef_K := (79, [some [51]], [], false, [], [(51, some 0x58)])
def ec_X6_readDigits_0 : ef_K := (80, [some [51]], [], false, [], [(51, some 0x58)])
def ec_X6_takes_0 : ef_K := (82, [some [51], none], [], true, [], [(51, some 0x8)])
def ec_X6_readSign_0 : ef_K := (81, [some [51], none], [], false, [], [(51, some 0x58)])
def ec_X6_step_0 : ef_K := (78, [some [51]], [], false, [], [(51, some 0x78)])
def ec_X6_begin_0 : ef_K := (77, [some [51], some []], [], false, [], [(51, some 0x7c)])
def ec_X11_placeOf_0 : ef_K := (113, [some [], some [38], some []], [], true, [], [])
def ec_X5_fail_0 : ef_K := (61, [some [50], none], [(50, 2, [26])], true, [(50, 2, [26])], [(50, some 0x30)])
def ec_X5_readNewName_0 : ef_K := (64, [some [50], some [38], some []], [(50, 2, [26])], true, [(50, 2, [26])], [(50, some 0x30), (51, some 0x78)])
def ec_X5_readNumber_0 : ef_K := (63, [some [50], none, none], [(50, 2, [26])], true, [(50, 2, [26])], [(50, some 0x30), (51, some 0x78)])
def ec_X6_isWordFrom_0 : ef_K := (84, [some [51], none, none], [], true, [], [])
def ec_X5_readCause_0 : ef_K := (74, [some [50]], [(50, 2, [26])], false, [(50, 2, [26])], [(26, some 0x80000), (38, none), (39, none), (40, none), (41, none), (50, some 0x30), (51, some 0x78)])
def ec_X5_readSemicolon_0 : ef_K := (62, [some [50]], [(50, 2, [26])], false, [(50, 2, [26])], [(50, some 0x30), (51, some 0x78)])
def ec_X11_placeOf_1 : ef_K := (113, [some [], some [34], some []], [], true, [], [])
def ec_X5_readNewName_1 : ef_K := (64, [some [50], some [34], some []], [(50, 2, [26])], true, [(50, 2, [26])], [(50, some 0x30), (51, some 0x78)])
def ec_X5_kindOf_0 : ef_K := (72, [none], [(50, 2, [26])], true, [(50, 2, [26])], [])
def ec_X5_mostOf_0 : ef_K := (73, [some []], [(50, 2, [26])], true, [(50, 2, [26])], [])
def ec_X5_readNumber_1 : ef_K := (63, [some [50], none, some []], [(50, 2, [26])], true, [(50, 2, [26])], [(50, some 0x30), (51, some 0x78)])
def ec_X5_readWork_0 : ef_K := (71, [some [50]], [(50, 2, [26])], false, [(50, 2, [26])], [(26, some 0x4000), (34, none), (35, none), (36, none), (37, none), (50, some 0x30), (51, some 0x78)])
def ec_X11_placeOf_2 : ef_K := (113, [some [], some [33], some []], [], true, [], [])
def ec_X5_readNewName_2 : ef_K := (64, [some [50], some [33], some []], [(50, 2, [26])], true, [(50, 2, [26])], [(50, some 0x30), (51, some 0x78)])
def ec_X5_readBrace_0 : ef_K := (69, [some [50], some [42, 44, 46, 48]], [(50, 2, [26])], false, [(50, 2, [26])], [(42, some 0x200), (44, some 0x200), (46, some 0x200), (48, some 0x200), (50, some 0x30), (51, some 0x78)])
def ec_X11_placeOf_3 : ef_K := (113, [none, some [38], none], [], true, [], [])
def ec_X5_readHas_0 : ef_K := (70, [some [50], some [42, 44, 46, 48]], [(50, 2, [26])], false, [(50, 2, [26])], [(42, some 0x4000), (44, some 0x4000), (46, some 0x4000), (48, some 0x4000), (50, some 0x30), (51, some 0x78)])
def ec_X5_readPart_0 : ef_K := (68, [some [50], some [42, 44, 46, 48]], [(50, 2, [26])], false, [(50, 2, [26])], [(42, some 0xfff8), (43, none), (44, some 0xfff8), (45, none), (46, some 0xfff8), (47, none), (48, some 0xfff8), (49, none), (50, some 0x30), (51, some 0x78)])
def ec_X5_readGate_0 : ef_K := (67, [some [50]], [(50, 2, [26])], false, [(50, 2, [26])], [(26, some 0x200), (33, none), (42, some 0xffff), (43, none), (44, some 0xffff), (45, none), (46, some 0xffff), (47, none), (48, some 0xffff), (49, none), (50, some 0x30), (51, some 0x78)])
def ec_X4_isLaw_0 : ef_K := (52, [some [26], some []], [], true, [], [])
def ec_X6_isWord_0 : ef_K := (83, [some [51], none], [], true, [], [])
def ec_X0_signOf_0 : ef_K := (7, [some [53]], [(50, 2, [26]), (53, 7, [26])], true, [(50, 2, [26]), (53, 7, [26])], [])
def ec_X0_latestHeld_0 : ef_K := (11, [some [53]], [(50, 2, [26]), (53, 7, [26])], true, [(50, 2, [26]), (53, 7, [26])], [])
def ec_X0_rankOf_0 : ef_K := (8, [none], [(50, 2, [26]), (53, 7, [26])], true, [(50, 2, [26]), (53, 7, [26])], [])
def ec_X4_addCode_0 : ef_K := (58, [some [26], none], [], false, [], [(26, some 0x4), (28, none)])
def ec_X0_release_0 : ef_K := (12, [some [53], none], [(50, 2, [26]), (53, 7, [26])], false, [(50, 2, [26]), (53, 7, [26])], [(26, some 0x4), (28, none), (53, some 0x4)])
def ec_X0_hold_0 : ef_K := (10, [some [53], none], [(50, 2, [26]), (53, 7, [26])], false, [(50, 2, [26]), (53, 7, [26])], [(53, some 0x4), (54, none)])
def ec_X0_openParen_0 : ef_K := (3, [some [53]], [(50, 2, [26]), (53, 7, [26])], true, [(50, 2, [26]), (53, 7, [26])], [(53, some 0x4c), (54, none)])
def ec_X0_hold_1 : ef_K := (10, [some [53], some []], [(50, 2, [26]), (53, 7, [26])], false, [(50, 2, [26]), (53, 7, [26])], [(53, some 0x4), (54, none)])
def ec_X0_holdKnot_0 : ef_K := (9, [some [53], none], [(50, 2, [26]), (53, 7, [26])], true, [(50, 2, [26]), (53, 7, [26])], [(26, some 0x8), (53, some 0x4), (54, none)])
def ec_X0_nameOf_0 : ef_K := (5, [none], [(50, 2, [26]), (53, 7, [26])], true, [(50, 2, [26]), (53, 7, [26])], [])
def ec_X0_valueKnot_0 : ef_K := (4, [some [53]], [(50, 2, [26]), (53, 7, [26])], true, [(50, 2, [26]), (53, 7, [26])], [(53, some 0x10)])
def ec_X4_addCode_1 : ef_K := (58, [some [26], some []], [], false, [], [(26, some 0x4), (28, none)])
def ec_X0_readValue_0 : ef_K := (2, [some [53]], [(50, 2, [26]), (53, 7, [26])], true, [(50, 2, [26]), (53, 7, [26])], [(26, some 0xc), (28, none), (53, some 0x7c), (54, none)])
def ec_X0_rankOf_1 : ef_K := (8, [some []], [(50, 2, [26]), (53, 7, [26])], true, [(50, 2, [26]), (53, 7, [26])], [])
def ec_X0_holdKnot_1 : ef_K := (9, [some [53], some []], [(50, 2, [26]), (53, 7, [26])], true, [(50, 2, [26]), (53, 7, [26])], [(26, some 0x8), (53, some 0x4), (54, none)])
def ec_X0_readJoint_0 : ef_K := (6, [some [53]], [(50, 2, [26]), (53, 7, [26])], true, [(50, 2, [26]), (53, 7, [26])], [(26, some 0xc), (28, none), (53, some 0x6c), (54, none)])
def ec_X0_readInto_0 : ef_K := (1, [some [53], some [26]], [(50, 2, [26])], true, [(50, 2, [26]), (53, 7, [26])], [(26, some 0xc), (28, none), (51, some 0x78), (53, some 0xfc), (54, none)])
def ec_X5_fail_1 : ef_K := (61, [some [50], some []], [(50, 2, [26]), (53, 7, [26])], true, [(50, 2, [26]), (53, 7, [26])], [(50, some 0x30)])
def ec_X5_readLaw_0 : ef_K := (66, [some [50]], [(50, 2, [26])], false, [(50, 2, [26])], [(26, some 0xc), (28, none), (29, none), (30, none), (31, none), (50, some 0x30), (51, some 0x78), (53, some 0xfc), (54, none)])
def ec_X5_readGround_0 : ef_K := (65, [some [50]], [(50, 2, [26])], false, [(50, 2, [26])], [(27, none), (50, some 0x38), (51, some 0x78)])
def ec_X5_readText_0 : ef_K := (60, [some [50], some [26], some []], [], true, [(50, 2, [26])], [(26, some 0x8420c), (27, none), (28, none), (29, none), (30, none), (31, none), (33, none), (34, none), (35, none), (36, none), (37, none), (38, none), (39, none), (40, none), (41, none), (42, some 0xffff), (43, none), (44, some 0xffff), (45, none), (46, some 0xffff), (47, none), (48, some 0xffff), (49, none), (50, some 0x3c), (51, some 0x7c), (53, some 0xfc), (54, none)])
def ec_X2_forget_0 : ef_K := (29, [some [55]], [], false, [], [(55, some 0x8), (58, none)])
def ec_X4_moreBy_0 : ef_K := (56, [some [26], some [], none], [], true, [], [])
def ec_X1_setCauses_0 : ef_K := (15, [some [103, 105, 107, 109], some [26], none], [], false, [], [(103, some 0x7800), (105, some 0x7800), (107, some 0x7800), (109, some 0x7800)])
def ec_X1_begin_0 : ef_K := (14, [some [103, 105, 107, 109], some [26], some []], [], false, [], [(103, some 0x1ffff), (105, some 0x1ffff), (107, some 0x1ffff), (109, some 0x1ffff)])
def ec_X10_clear_0 : ef_K := (101, [some [63]], [], false, [], [(63, some 0x4)])
def ec_X3_clear_0 : ef_K := (41, [some [86]], [], false, [], [(86, some 0x600)])
def ec_X11_takeSpare_0 : ef_K := (110, [some [0]], [(0, 2, [2]), (0, 3, [26])], false, [(0, 2, [26]), (0, 3, [2])], [(0, some 0x50c), (55, some 0x8), (58, none), (63, some 0x4), (86, some 0x600), (103, some 0x1ffff), (105, some 0x1ffff), (107, some 0x1ffff), (109, some 0x1ffff)])
def ec_X11_text_0 : ef_K := (109, [some [0], none], [(0, 2, [2]), (0, 3, [26])], true, [(0, 2, [2, 26]), (0, 3, [2, 26])], [(0, some 0x50e), (26, some 0x8420c), (27, none), (28, none), (29, none), (30, none), (31, none), (33, none), (34, none), (35, none), (36, none), (37, none), (38, none), (39, none), (40, none), (41, none), (42, some 0xffff), (43, none), (44, some 0xffff), (45, none), (46, some 0xffff), (47, none), (48, some 0xffff), (49, none), (50, some 0x3c), (51, some 0x7c), (53, some 0xfc), (54, none), (55, some 0x8), (58, none), (63, some 0x4), (86, some 0x600), (103, some 0x1ffff), (105, some 0x1ffff), (107, some 0x1ffff), (109, some 0x1ffff)])
def ec_X7_setHeight_1 : ef_K := (87, [some [18, 20, 22, 24], none], [], false, [], [(18, some 0x1a), (20, some 0x1a), (22, some 0x1a), (24, some 0x1a)])
def ec_X7_clear_1 : ef_K := (86, [some [18, 20, 22, 24]], [], false, [], [(18, some 0xffff), (19, none), (20, some 0xffff), (21, none), (22, some 0xffff), (23, none), (24, some 0xffff), (25, none)])
def ec_X4_clear_1 : ef_K := (49, [some [2]], [], false, [], [(2, some 0x8420c), (3, none), (5, none), (6, none), (7, none), (18, some 0xffff), (19, none), (20, some 0xffff), (21, none), (22, some 0xffff), (23, none), (24, some 0xffff), (25, none)])
def ec_X11_placeOf_4 : ef_K := (113, [some [], some [14], some []], [], true, [], [])
def ec_X5_fail_2 : ef_K := (61, [some [50], none], [(50, 2, [2])], true, [(50, 2, [2])], [(50, some 0x30)])
def ec_X5_readNewName_3 : ef_K := (64, [some [50], some [14], some []], [(50, 2, [2])], true, [(50, 2, [2])], [(50, some 0x30), (51, some 0x78)])
def ec_X5_readNumber_2 : ef_K := (63, [some [50], none, none], [(50, 2, [2])], true, [(50, 2, [2])], [(50, some 0x30), (51, some 0x78)])
def ec_X5_readCause_1 : ef_K := (74, [some [50]], [(50, 2, [2])], false, [(50, 2, [2])], [(2, some 0x80000), (14, none), (15, none), (16, none), (17, none), (50, some 0x30), (51, some 0x78)])
def ec_X5_readSemicolon_1 : ef_K := (62, [some [50]], [(50, 2, [2])], false, [(50, 2, [2])], [(50, some 0x30), (51, some 0x78)])
def ec_X11_placeOf_5 : ef_K := (113, [some [], some [10], some []], [], true, [], [])
def ec_X5_readNewName_4 : ef_K := (64, [some [50], some [10], some []], [(50, 2, [2])], true, [(50, 2, [2])], [(50, some 0x30), (51, some 0x78)])
def ec_X5_kindOf_1 : ef_K := (72, [none], [(50, 2, [2])], true, [(50, 2, [2])], [])
def ec_X5_mostOf_1 : ef_K := (73, [some []], [(50, 2, [2])], true, [(50, 2, [2])], [])
def ec_X5_readNumber_3 : ef_K := (63, [some [50], none, some []], [(50, 2, [2])], true, [(50, 2, [2])], [(50, some 0x30), (51, some 0x78)])
def ec_X5_readWork_1 : ef_K := (71, [some [50]], [(50, 2, [2])], false, [(50, 2, [2])], [(2, some 0x4000), (10, none), (11, none), (12, none), (13, none), (50, some 0x30), (51, some 0x78)])
def ec_X11_placeOf_6 : ef_K := (113, [some [], some [9], some []], [], true, [], [])
def ec_X5_readNewName_5 : ef_K := (64, [some [50], some [9], some []], [(50, 2, [2])], true, [(50, 2, [2])], [(50, some 0x30), (51, some 0x78)])
def ec_X5_readBrace_1 : ef_K := (69, [some [50], some [18, 20, 22, 24]], [(50, 2, [2])], false, [(50, 2, [2])], [(18, some 0x200), (20, some 0x200), (22, some 0x200), (24, some 0x200), (50, some 0x30), (51, some 0x78)])
def ec_X11_placeOf_7 : ef_K := (113, [none, some [14], none], [], true, [], [])
def ec_X5_readHas_1 : ef_K := (70, [some [50], some [18, 20, 22, 24]], [(50, 2, [2])], false, [(50, 2, [2])], [(18, some 0x4000), (20, some 0x4000), (22, some 0x4000), (24, some 0x4000), (50, some 0x30), (51, some 0x78)])
def ec_X5_readPart_1 : ef_K := (68, [some [50], some [18, 20, 22, 24]], [(50, 2, [2])], false, [(50, 2, [2])], [(18, some 0xfff8), (19, none), (20, some 0xfff8), (21, none), (22, some 0xfff8), (23, none), (24, some 0xfff8), (25, none), (50, some 0x30), (51, some 0x78)])
def ec_X5_readGate_1 : ef_K := (67, [some [50]], [(50, 2, [2])], false, [(50, 2, [2])], [(2, some 0x200), (9, none), (18, some 0xffff), (19, none), (20, some 0xffff), (21, none), (22, some 0xffff), (23, none), (24, some 0xffff), (25, none), (50, some 0x30), (51, some 0x78)])
def ec_X4_isLaw_1 : ef_K := (52, [some [2], some []], [], true, [], [])
def ec_X0_signOf_1 : ef_K := (7, [some [53]], [(50, 2, [2]), (53, 7, [2])], true, [(50, 2, [2]), (53, 7, [2])], [])
def ec_X0_latestHeld_1 : ef_K := (11, [some [53]], [(50, 2, [2]), (53, 7, [2])], true, [(50, 2, [2]), (53, 7, [2])], [])
def ec_X0_rankOf_2 : ef_K := (8, [none], [(50, 2, [2]), (53, 7, [2])], true, [(50, 2, [2]), (53, 7, [2])], [])
def ec_X4_addCode_2 : ef_K := (58, [some [2], none], [], false, [], [(2, some 0x4), (4, none)])
def ec_X0_release_1 : ef_K := (12, [some [53], none], [(50, 2, [2]), (53, 7, [2])], false, [(50, 2, [2]), (53, 7, [2])], [(2, some 0x4), (4, none), (53, some 0x4)])
def ec_X0_hold_2 : ef_K := (10, [some [53], none], [(50, 2, [2]), (53, 7, [2])], false, [(50, 2, [2]), (53, 7, [2])], [(53, some 0x4), (54, none)])
def ec_X0_openParen_1 : ef_K := (3, [some [53]], [(50, 2, [2]), (53, 7, [2])], true, [(50, 2, [2]), (53, 7, [2])], [(53, some 0x4c), (54, none)])
def ec_X0_hold_3 : ef_K := (10, [some [53], some []], [(50, 2, [2]), (53, 7, [2])], false, [(50, 2, [2]), (53, 7, [2])], [(53, some 0x4), (54, none)])
def ec_X0_holdKnot_2 : ef_K := (9, [some [53], none], [(50, 2, [2]), (53, 7, [2])], true, [(50, 2, [2]), (53, 7, [2])], [(2, some 0x8), (53, some 0x4), (54, none)])
def ec_X0_nameOf_1 : ef_K := (5, [none], [(50, 2, [2]), (53, 7, [2])], true, [(50, 2, [2]), (53, 7, [2])], [])
def ec_X0_valueKnot_1 : ef_K := (4, [some [53]], [(50, 2, [2]), (53, 7, [2])], true, [(50, 2, [2]), (53, 7, [2])], [(53, some 0x10)])
def ec_X4_addCode_3 : ef_K := (58, [some [2], some []], [], false, [], [(2, some 0x4), (4, none)])
def ec_X0_readValue_1 : ef_K := (2, [some [53]], [(50, 2, [2]), (53, 7, [2])], true, [(50, 2, [2]), (53, 7, [2])], [(2, some 0xc), (4, none), (53, some 0x7c), (54, none)])
def ec_X0_rankOf_3 : ef_K := (8, [some []], [(50, 2, [2]), (53, 7, [2])], true, [(50, 2, [2]), (53, 7, [2])], [])
def ec_X0_holdKnot_3 : ef_K := (9, [some [53], some []], [(50, 2, [2]), (53, 7, [2])], true, [(50, 2, [2]), (53, 7, [2])], [(2, some 0x8), (53, some 0x4), (54, none)])
def ec_X0_readJoint_1 : ef_K := (6, [some [53]], [(50, 2, [2]), (53, 7, [2])], true, [(50, 2, [2]), (53, 7, [2])], [(2, some 0xc), (4, none), (53, some 0x6c), (54, none)])
def ec_X0_readInto_1 : ef_K := (1, [some [53], some [2]], [(50, 2, [2])], true, [(50, 2, [2]), (53, 7, [2])], [(2, some 0xc), (4, none), (51, some 0x78), (53, some 0xfc), (54, none)])
def ec_X5_fail_3 : ef_K := (61, [some [50], some []], [(50, 2, [2]), (53, 7, [2])], true, [(50, 2, [2]), (53, 7, [2])], [(50, some 0x30)])
def ec_X5_readLaw_1 : ef_K := (66, [some [50]], [(50, 2, [2])], false, [(50, 2, [2])], [(2, some 0xc), (4, none), (5, none), (6, none), (7, none), (50, some 0x30), (51, some 0x78), (53, some 0xfc), (54, none)])
def ec_X5_readGround_1 : ef_K := (65, [some [50]], [(50, 2, [2])], false, [(50, 2, [2])], [(3, none), (50, some 0x38), (51, some 0x78)])
def ec_X5_readText_1 : ef_K := (60, [some [50], some [2], some []], [], true, [(50, 2, [2])], [(2, some 0x8420c), (3, none), (4, none), (5, none), (6, none), (7, none), (9, none), (10, none), (11, none), (12, none), (13, none), (14, none), (15, none), (16, none), (17, none), (18, some 0xffff), (19, none), (20, some 0xffff), (21, none), (22, some 0xffff), (23, none), (24, some 0xffff), (25, none), (50, some 0x3c), (51, some 0x7c), (53, some 0xfc), (54, none)])
def ec_X4_moreBy_1 : ef_K := (56, [some [2], some [], none], [], true, [], [])
def ec_X1_setCauses_1 : ef_K := (15, [some [103, 105, 107, 109], some [2], none], [], false, [], [(103, some 0x7800), (105, some 0x7800), (107, some 0x7800), (109, some 0x7800)])
def ec_X1_begin_1 : ef_K := (14, [some [103, 105, 107, 109], some [2], some []], [], false, [], [(103, some 0x1ffff), (105, some 0x1ffff), (107, some 0x1ffff), (109, some 0x1ffff)])
def ec_X11_takeSpare_1 : ef_K := (110, [some [0]], [(0, 2, [26]), (0, 3, [2])], false, [(0, 2, [2]), (0, 3, [26])], [(0, some 0x50c), (55, some 0x8), (58, none), (63, some 0x4), (86, some 0x600), (103, some 0x1ffff), (105, some 0x1ffff), (107, some 0x1ffff), (109, some 0x1ffff)])
def ec_X11_text_1 : ef_K := (109, [some [0], none], [(0, 2, [26]), (0, 3, [2])], true, [(0, 2, [2, 26]), (0, 3, [2, 26])], [(0, some 0x50e), (2, some 0x8420c), (3, none), (4, none), (5, none), (6, none), (7, none), (9, none), (10, none), (11, none), (12, none), (13, none), (14, none), (15, none), (16, none), (17, none), (18, some 0xffff), (19, none), (20, some 0xffff), (21, none), (22, some 0xffff), (23, none), (24, some 0xffff), (25, none), (50, some 0x3c), (51, some 0x7c), (53, some 0xfc), (54, none), (55, some 0x8), (58, none), (63, some 0x4), (86, some 0x600), (103, some 0x1ffff), (105, some 0x1ffff), (107, some 0x1ffff), (109, some 0x1ffff)])
def ec_X11_fault_0 : ef_K := (111, [some [0], none], [], true, [], [])
def ec_X11_placeOf_8 : ef_K := (113, [some [], some [9, 33], none], [], true, [], [])
def ec_X11_placeOf_9 : ef_K := (113, [some [], some [10, 34], none], [], true, [], [])
def ec_X11_placeOf_10 : ef_K := (113, [some [], some [14, 38], none], [], true, [], [])
def ec_X11_named_0 : ef_K := (112, [some [0], none, none], [], true, [], [])
def ec_X4_isWork_0 : ef_K := (50, [some [2, 26], some []], [], true, [], [])
def ec_X11_works_0 : ef_K := (119, [some [0], none, none], [], true, [], [])
def ec_X11_isWeek_0 : ef_K := (118, [some []], [], true, [], [])
def ec_X4_firmIn_0 : ef_K := (53, [some [2, 26], some []], [], true, [], [])
def ec_X11_firm_0 : ef_K := (120, [some [0], none], [], true, [], [])
def ec_X11_isAhead_0 : ef_K := (116, [some []], [], true, [], [])
def ec_X7_span_0 : ef_K := (88, [some [18, 20, 22, 24, 42, 44, 46, 48, 59]], [], true, [], [])
def ec_X1_pull_0 : ef_K := (17, [some [103, 105, 107, 109]], [], true, [], [])
def ec_X2_put_0 : ef_K := (30, [some [55], none, none], [], false, [], [(55, some 0x8), (56, none)])
def ec_X1_leanPart_0 : ef_K := (18, [some [103, 105, 107, 109]], [], true, [], [])
def ec_X1_hooksPart_0 : ef_K := (19, [some [103, 105, 107, 109]], [], true, [], [])
def ec_X1_drop_0 : ef_K := (20, [some [103, 105, 107, 109]], [], true, [], [])
def ec_X2_see_0 : ef_K := (31, [some [55], some [2, 26], some [103, 105, 107, 109], some [], none], [], false, [], [(55, some 0x8), (56, none)])
def ec_X4_isLaw_2 : ef_K := (52, [some [2, 26], some []], [], true, [], [])
def ec_X2_valueOf_0 : ef_K := (35, [some [55], some []], [], true, [], [])
def ec_X2_times_0 : ef_K := (38, [some [55], none, none], [], true, [], [(55, some 0x10)])
def ec_X2_bounded_0 : ef_K := (37, [some [55], none], [], true, [], [(55, some 0x10)])
def ec_X2_by_0 : ef_K := (39, [some [55], none, none], [], true, [], [(55, some 0x10)])
def ec_X2_join_0 : ef_K := (36, [some [55], some [], none, none], [], true, [], [(55, some 0x10)])
def ec_X2_workOut_0 : ef_K := (34, [some [55], some [2, 26], some []], [], true, [], [(55, some 0x10), (57, none)])
def ec_X2_refresh_0 : ef_K := (33, [some [55], some [2, 26], some []], [], false, [], [(55, some 0x10), (57, none), (58, none)])
def ec_X1_grow_0 : ef_K := (24, [some [103, 105, 107, 109], none, none, none], [], false, [], [(103, some 0xe), (105, some 0xe), (107, some 0xe), (109, some 0xe)])
def ec_X2_pass_0 : ef_K := (32, [some [55], some [2, 26], some [103, 105, 107, 109], none, some []], [], false, [], [(55, some 0x18), (56, none), (57, none), (58, none), (103, some 0xe), (105, some 0xe), (107, some 0xe), (109, some 0xe)])
def ec_X11_weeks_0 : ef_K := (121, [some [0], none], [], true, [], [(0, some 0x100), (55, some 0x18), (56, none), (57, none), (58, none), (103, some 0xe), (105, some 0xe), (107, some 0xe), (109, some 0xe)])
def ec_X11_isGate_0 : ef_K := (114, [some [0], some []], [], true, [], [])
def ec_X11_sags_0 : ef_K := (122, [some [0], none, none], [], true, [], [])
def ec_X1_isLatched_0 : ef_K := (22, [some [103, 105, 107, 109]], [], true, [], [])
def ec_X11_latched_0 : ef_K := (123, [some [0], none], [], true, [], [])
def ec_X11_gives_0 : ef_K := (124, [some [0], none], [], true, [], [])
def ec_X10_dropEarliest_0 : ef_K := (103, [some [63]], [], false, [], [(63, some 0x4), (64, none), (65, none)])
def ec_X1_copy_0 : ef_K := (16, [some [66, 67, 68, 69, 70, 71, 72, 73, 74, 75, 76, 77, 78, 79, 80, 81, 82, 83, 84, 85], some [103, 105, 107, 109]], [], false, [], [(66, some 0x1ffff), (67, some 0x1ffff), (68, some 0x1ffff), (69, some 0x1ffff), (70, some 0x1ffff), (71, some 0x1ffff), (72, some 0x1ffff), (73, some 0x1ffff), (74, some 0x1ffff), (75, some 0x1ffff), (76, some 0x1ffff), (77, some 0x1ffff), (78, some 0x1ffff), (79, some 0x1ffff), (80, some 0x1ffff), (81, some 0x1ffff), (82, some 0x1ffff), (83, some 0x1ffff), (84, some 0x1ffff), (85, some 0x1ffff)])
def ec_X10_push_0 : ef_K := (102, [some [63], some [], some [103, 105, 107, 109]], [], false, [], [(63, some 0x4), (64, none), (65, none), (66, some 0x1ffff), (67, some 0x1ffff), (68, some 0x1ffff), (69, some 0x1ffff), (70, some 0x1ffff), (71, some 0x1ffff), (72, some 0x1ffff), (73, some 0x1ffff), (74, some 0x1ffff), (75, some 0x1ffff), (76, some 0x1ffff), (77, some 0x1ffff), (78, some 0x1ffff), (79, some 0x1ffff), (80, some 0x1ffff), (81, some 0x1ffff), (82, some 0x1ffff), (83, some 0x1ffff), (84, some 0x1ffff), (85, some 0x1ffff)])
def ec_X1_take_0 : ef_K := (23, [some [103, 105, 107, 109], some [2, 26], some []], [], false, [], [(103, some 0x5fe), (105, some 0x5fe), (107, some 0x5fe), (109, some 0x5fe)])
def ec_X11_work_0 : ef_K := (125, [some [0], none, none], [], true, [], [(63, some 0x4), (64, none), (65, none), (66, some 0x1ffff), (67, some 0x1ffff), (68, some 0x1ffff), (69, some 0x1ffff), (70, some 0x1ffff), (71, some 0x1ffff), (72, some 0x1ffff), (73, some 0x1ffff), (74, some 0x1ffff), (75, some 0x1ffff), (76, some 0x1ffff), (77, some 0x1ffff), (78, some 0x1ffff), (79, some 0x1ffff), (80, some 0x1ffff), (81, some 0x1ffff), (82, some 0x1ffff), (83, some 0x1ffff), (84, some 0x1ffff), (85, some 0x1ffff), (103, some 0x5fe), (105, some 0x5fe), (107, some 0x5fe), (109, some 0x5fe)])
def ec_X10_latestGate_0 : ef_K := (104, [some [63]], [], true, [], [])
def ec_X1_copy_1 : ef_K := (16, [some [103, 105, 107, 109], some [66, 67, 68, 69, 70, 71, 72, 73, 74, 75, 76, 77, 78, 79, 80, 81, 82, 83, 84, 85]], [], false, [], [(103, some 0x1ffff), (105, some 0x1ffff), (107, some 0x1ffff), (109, some 0x1ffff)])
def ec_X10_popInto_0 : ef_K := (105, [some [63], some [103, 105, 107, 109]], [], false, [], [(63, some 0x4), (103, some 0x1ffff), (105, some 0x1ffff), (107, some 0x1ffff), (109, some 0x1ffff)])
def ec_X11_undo_0 : ef_K := (126, [some [0]], [], true, [], [(63, some 0x4), (103, some 0x1ffff), (105, some 0x1ffff), (107, some 0x1ffff), (109, some 0x1ffff)])
def ec_X11_isBound_0 : ef_K := (115, [some []], [], true, [], [])
def ec_X1_copy_2 : ef_K := (16, [some [98], some [103, 105, 107, 109]], [], false, [], [(98, some 0x1ffff)])
def ec_X1_pull_1 : ef_K := (17, [some [98]], [], true, [], [])
def ec_X1_leanPart_1 : ef_K := (18, [some [98]], [], true, [], [])
def ec_X1_hooksPart_1 : ef_K := (19, [some [98]], [], true, [], [])
def ec_X1_drop_1 : ef_K := (20, [some [98]], [], true, [], [])
def ec_X2_see_1 : ef_K := (31, [some [55], some [2, 26], some [98], some [], none], [], false, [], [(55, some 0x8), (56, none)])
def ec_X1_grow_1 : ef_K := (24, [some [98], none, none, none], [], false, [], [(98, some 0xe)])
def ec_X2_pass_1 : ef_K := (32, [some [55], some [2, 26], some [98], none, none], [], false, [], [(55, some 0x18), (56, none), (57, none), (58, none), (98, some 0xe)])
def ec_X11_lasts_0 : ef_K := (127, [some [0], none, none], [], true, [], [(55, some 0x18), (56, none), (57, none), (58, none), (98, some 0x1ffff)])
def ec_X4_costOf_0 : ef_K := (55, [some [2, 26], some []], [], true, [], [])
def ec_X1_take_1 : ef_K := (23, [some [98], some [2, 26], some []], [], false, [], [(98, some 0x5fe)])
def ec_X2_pass_2 : ef_K := (32, [some [55], some [2, 26], some [98], none, some []], [], false, [], [(55, some 0x18), (56, none), (57, none), (58, none), (98, some 0xe)])
def ec_X11_holds_0 : ef_K := (129, [some [0], some [], some [], some [], some []], [], true, [], [(55, some 0x18), (56, none), (57, none), (58, none), (98, some 0x1ffff)])
def ec_X11_least_0 : ef_K := (128, [some [0], none, none, none, none], [], true, [], [(55, some 0x18), (56, none), (57, none), (58, none), (98, some 0x1ffff)])
def ec_X11_dropWithBrace_0 : ef_K := (131, [some [0], some [], some [], none], [], true, [], [(55, some 0x18), (56, none), (57, none), (58, none), (98, some 0x1ffff)])
def ec_X11_way_0 : ef_K := (130, [some [0], none, none], [], true, [], [(55, some 0x18), (56, none), (57, none), (58, none), (98, some 0x1ffff)])
def ec_X4_growthNames_0 : ef_K := (54, [some [2, 26]], [], true, [], [])
def ec_X11_enough_0 : ef_K := (132, [some [0], none, none, none], [], true, [], [(55, some 0x18), (56, none), (57, none), (58, none), (98, some 0x1ffff)])
def ec_X11_bears_0 : ef_K := (133, [some [0], none, none, none], [], true, [], [(55, some 0x18), (56, none), (57, none), (58, none), (98, some 0x1ffff)])
def ec_X4_isLaw_3 : ef_K := (52, [some [2, 26], none], [], true, [], [])
def ec_X2_see_2 : ef_K := (31, [some [55], some [2, 26], some [103, 105, 107, 109], none, some []], [], false, [], [(55, some 0x8), (56, none)])
def ec_X2_workOut_1 : ef_K := (34, [some [55], some [2, 26], none], [], true, [], [(55, some 0x10), (57, none)])
def ec_X11_knock_0 : ef_K := (134, [some [0], none, none], [], true, [], [(55, some 0x18), (56, none), (57, none)])
def ec_X3_add_0 : ef_K := (43, [some [86], some [], some [], some [], some [], some []], [], true, [], [(86, some 0x200), (87, none), (88, none), (89, none), (90, none), (91, none), (92, none)])
def ec_X11_measure_0 : ef_K := (135, [some [0], none, none, none, none, none], [], true, [], [(86, some 0x200), (87, none), (88, none), (89, none), (90, none), (91, none), (92, none)])
def ec_X3_addStrike_0 : ef_K := (44, [some [86], some []], [], true, [], [(86, some 0x200), (87, none), (92, none)])
def ec_X11_strike_0 : ef_K := (136, [some [0], none], [], true, [], [(86, some 0x200), (87, none), (92, none)])
def ec_X11_known_0 : ef_K := (137, [some [0], none], [], true, [], [(86, some 0x400)])
def ec_X3_knownCount_0 : ef_K := (42, [some [86]], [], true, [], [])
def ec_X3_findStruck_0 : ef_K := (46, [some [86]], [], false, [], [(93, none)])
def ec_X3_pick_0 : ef_K := (45, [some [86], some []], [], true, [], [(86, some 0x100), (93, none), (94, none)])
def ec_X4_moreBy_2 : ef_K := (56, [some [2, 26], some [], none], [], true, [], [])
def ec_X1_setCauses_2 : ef_K := (15, [some [97], some [2, 26], none], [], false, [], [(97, some 0x7800)])
def ec_X1_begin_2 : ef_K := (14, [some [97], some [2, 26], some []], [], false, [], [(97, some 0x1ffff)])
def ec_X1_leanPart_2 : ef_K := (18, [some [97]], [], true, [], [])
def ec_X1_hooksPart_2 : ef_K := (19, [some [97]], [], true, [], [])
def ec_X1_drop_2 : ef_K := (20, [some [97]], [], true, [], [])
def ec_X1_measured_0 : ef_K := (21, [some [97], some []], [], true, [], [])
def ec_X8_record_0 : ef_K := (91, [some [95], some []], [], false, [], [(96, none)])
def ec_X1_pull_2 : ef_K := (17, [some [97]], [], true, [], [])
def ec_X2_see_3 : ef_K := (31, [some [55], some [2, 26], some [97], some [], none], [], false, [], [(55, some 0x8), (56, none)])
def ec_X1_grow_2 : ef_K := (24, [some [97], none, none, none], [], false, [], [(97, some 0xe)])
def ec_X2_pass_3 : ef_K := (32, [some [55], some [2, 26], some [97], some [], none], [], false, [], [(55, some 0x18), (56, none), (57, none), (58, none), (97, some 0xe)])
def ec_X1_measured_1 : ef_K := (21, [some [97], none], [], true, [], [])
def ec_X3_agree_0 : ef_K := (47, [some [86], some [97], some []], [], true, [], [])
def ec_X8_judge_0 : ef_K := (90, [some [95], some [2, 26], some [55], some [86], some [], none], [], false, [], [(55, some 0x18), (56, none), (57, none), (58, none), (86, some 0x100), (93, none), (94, none), (95, some 0x4), (96, none), (97, some 0x1ffff)])
def ec_X11_fits_0 : ef_K := (138, [some [0], none], [], true, [], [(55, some 0x18), (56, none), (57, none), (58, none), (86, some 0x100), (93, none), (94, none), (95, some 0x4), (96, none), (97, some 0x1ffff)])
def ec_X4_isCause_0 : ef_K := (51, [some [2, 26], some []], [], true, [], [])
def ec_X4_weightOf_0 : ef_K := (57, [some [2, 26], some []], [], true, [], [])
def ec_X8_weightOfFitting_0 : ef_K := (93, [some [95], some [2, 26]], [], true, [], [])
def ec_X11_odds_0 : ef_K := (139, [some [0], none, none, none], [], true, [], [(55, some 0x18), (56, none), (57, none), (58, none), (86, some 0x100), (93, none), (94, none), (95, some 0x4), (96, none), (97, some 0x1ffff)])
def ec_J6_bitCount_0f7a4_0 : ef_K := (273, [none], [], true, [], [])
def ec_X8_recorded_0 : ef_K := (92, [some [95], some [], some []], [], true, [], [])
def ec_X8_heaviestGroup_0 : ef_K := (94, [some [95], some [2, 26], some []], [], true, [], [])
def ec_X11_test_0 : ef_K := (140, [some [0], none, none], [], true, [], [(55, some 0x18), (56, none), (57, none), (58, none), (86, some 0x100), (93, none), (94, none), (95, some 0x4), (96, none), (97, some 0x1ffff)])
def ec_X11_isAngle_0 : ef_K := (117, [some []], [], true, [], [])
def ec_X1_lowHung_0 : ef_K := (25, [some [103, 105, 107, 109], some []], [], true, [], [])
def ec_X11_low_0 : ef_K := (141, [some [0], none, none], [], true, [], [])
def ec_X11_rest_0 : ef_K := (142, [some [0], none], [], true, [], [])
def ec_X1_lowHung_1 : ef_K := (25, [some [103, 105, 107, 109], none], [], true, [], [])
def ec_X11_shuts_0 : ef_K := (143, [some [0], none], [], true, [], [])
def ec_X1_aboveHung_0 : ef_K := (26, [some [103, 105, 107, 109], some []], [], true, [], [])
def ec_X11_above_0 : ef_K := (144, [some [0], none, none], [], true, [], [])
def ec_X11_opens_0 : ef_K := (145, [some [0], none], [], true, [], [])
def ec_X1_lowHung_2 : ef_K := (25, [some [98], none], [], true, [], [])
def ec_X1_lowHung_3 : ef_K := (25, [some [98], some []], [], true, [], [])
def ec_X1_aboveHung_1 : ef_K := (26, [some [98], some []], [], true, [], [])
def ec_X1_standsWith_0 : ef_K := (27, [some [98], some [], none, some []], [], true, [], [(98, some 0x18000)])
def ec_X1_standsWith_1 : ef_K := (27, [some [98], some [], some [], some []], [], true, [], [(98, some 0x18000)])
def ec_X11_stand_0 : ef_K := (146, [some [0], none, none, none], [], true, [], [(98, some 0x1ffff)])
def ec_X1_isLatched_1 : ef_K := (22, [some [98]], [], true, [], [])
def ec_X11_unlatchedWeeks_0 : ef_K := (148, [some [0], some [], some [], some []], [], true, [], [(55, some 0x18), (56, none), (57, none), (58, none), (98, some 0x1ffff)])
def ec_X9_tell_0 : ef_K := (96, [some [99], some [], some [], none], [], false, [], [(100, none)])
def ec_X9_sumOf_0 : ef_K := (98, [some [99], some [], some []], [], true, [], [(101, none)])
def ec_X9_choose_0 : ef_K := (97, [some [99], none], [], false, [], [(99, some 0x8), (101, none), (102, none)])
def ec_X9_gateAt_0 : ef_K := (99, [some [99], none], [], true, [], [])
def ec_X11_first_0 : ef_K := (147, [some [0], none, none], [], true, [], [(55, some 0x18), (56, none), (57, none), (58, none), (98, some 0x1ffff), (99, some 0x8), (100, none), (101, none), (102, none)])
def ec_X11_wind_0 : ef_K := (149, [some [0], none, none, none, none, none], [], true, [], [(55, some 0x18), (56, none), (57, none), (58, none), (98, some 0x1ffff)])
def ec_X1_copy_3 : ef_K := (16, [some [104, 106, 108, 110], some [103, 105, 107, 109]], [], false, [], [(104, some 0x1ffff), (106, some 0x1ffff), (108, some 0x1ffff), (110, some 0x1ffff)])
def ec_X11_keep_0 : ef_K := (150, [some [0]], [], true, [], [(0, some 0x400), (104, some 0x1ffff), (106, some 0x1ffff), (108, some 0x1ffff), (110, some 0x1ffff)])
def ec_X1_copy_4 : ef_K := (16, [some [103, 105, 107, 109], some [104, 106, 108, 110]], [], false, [], [(103, some 0x1ffff), (105, some 0x1ffff), (107, some 0x1ffff), (109, some 0x1ffff)])
def ec_X11_back_0 : ef_K := (151, [some [0]], [], true, [], [(0, some 0x100), (63, some 0x4), (103, some 0x1ffff), (105, some 0x1ffff), (107, some 0x1ffff), (109, some 0x1ffff)])
def ec_X4_costOf_1 : ef_K := (55, [some [2, 26], none], [], true, [], [])
def ec_X11_costOfAllDone_0 : ef_K := (153, [some [0]], [], true, [], [])
def ec_X11_count_0 : ef_K := (152, [some [0], none], [], true, [], [])
def ec_Ks : List ef_K := [ec_X7_setHeight_0, ec_X7_clear_0, ec_X4_clear_0, ec_X6_letterBits_0, ec_X6_readLetters_0, ec_X6_readDigits_0, ec_X6_takes_0, ec_X6_readSign_0, ec_X6_step_0, ec_X6_begin_0, ec_X11_placeOf_0, ec_X5_fail_0, ec_X5_readNewName_0, ec_X5_readNumber_0, ec_X6_isWordFrom_0, ec_X5_readCause_0, ec_X5_readSemicolon_0, ec_X11_placeOf_1, ec_X5_readNewName_1, ec_X5_kindOf_0, ec_X5_mostOf_0, ec_X5_readNumber_1, ec_X5_readWork_0, ec_X11_placeOf_2, ec_X5_readNewName_2, ec_X5_readBrace_0, ec_X11_placeOf_3, ec_X5_readHas_0, ec_X5_readPart_0, ec_X5_readGate_0, ec_X4_isLaw_0, ec_X6_isWord_0, ec_X0_signOf_0, ec_X0_latestHeld_0, ec_X0_rankOf_0, ec_X4_addCode_0, ec_X0_release_0, ec_X0_hold_0, ec_X0_openParen_0, ec_X0_hold_1, ec_X0_holdKnot_0, ec_X0_nameOf_0, ec_X0_valueKnot_0, ec_X4_addCode_1, ec_X0_readValue_0, ec_X0_rankOf_1, ec_X0_holdKnot_1, ec_X0_readJoint_0, ec_X0_readInto_0, ec_X5_fail_1, ec_X5_readLaw_0, ec_X5_readGround_0, ec_X5_readText_0, ec_X2_forget_0, ec_X4_moreBy_0, ec_X1_setCauses_0, ec_X1_begin_0, ec_X10_clear_0, ec_X3_clear_0, ec_X11_takeSpare_0, ec_X11_text_0, ec_X7_setHeight_1, ec_X7_clear_1, ec_X4_clear_1, ec_X11_placeOf_4, ec_X5_fail_2, ec_X5_readNewName_3, ec_X5_readNumber_2, ec_X5_readCause_1, ec_X5_readSemicolon_1, ec_X11_placeOf_5, ec_X5_readNewName_4, ec_X5_kindOf_1, ec_X5_mostOf_1, ec_X5_readNumber_3, ec_X5_readWork_1, ec_X11_placeOf_6, ec_X5_readNewName_5, ec_X5_readBrace_1, ec_X11_placeOf_7, ec_X5_readHas_1, ec_X5_readPart_1, ec_X5_readGate_1, ec_X4_isLaw_1, ec_X0_signOf_1, ec_X0_latestHeld_1, ec_X0_rankOf_2, ec_X4_addCode_2, ec_X0_release_1, ec_X0_hold_2, ec_X0_openParen_1, ec_X0_hold_3, ec_X0_holdKnot_2, ec_X0_nameOf_1, ec_X0_valueKnot_1, ec_X4_addCode_3, ec_X0_readValue_1, ec_X0_rankOf_3, ec_X0_holdKnot_3, ec_X0_readJoint_1, ec_X0_readInto_1, ec_X5_fail_3, ec_X5_readLaw_1, ec_X5_readGround_1, ec_X5_readText_1, ec_X4_moreBy_1, ec_X1_setCauses_1, ec_X1_begin_1, ec_X11_takeSpare_1, ec_X11_text_1, ec_X11_fault_0, ec_X11_placeOf_8, ec_X11_placeOf_9, ec_X11_placeOf_10, ec_X11_named_0, ec_X4_isWork_0, ec_X11_works_0, ec_X11_isWeek_0, ec_X4_firmIn_0, ec_X11_firm_0, ec_X11_isAhead_0, ec_X7_span_0, ec_X1_pull_0, ec_X2_put_0, ec_X1_leanPart_0, ec_X1_hooksPart_0, ec_X1_drop_0, ec_X2_see_0, ec_X4_isLaw_2, ec_X2_valueOf_0, ec_X2_times_0, ec_X2_bounded_0, ec_X2_by_0, ec_X2_join_0, ec_X2_workOut_0, ec_X2_refresh_0, ec_X1_grow_0, ec_X2_pass_0, ec_X11_weeks_0, ec_X11_isGate_0, ec_X11_sags_0, ec_X1_isLatched_0, ec_X11_latched_0, ec_X11_gives_0, ec_X10_dropEarliest_0, ec_X1_copy_0, ec_X10_push_0, ec_X1_take_0, ec_X11_work_0, ec_X10_latestGate_0, ec_X1_copy_1, ec_X10_popInto_0, ec_X11_undo_0, ec_X11_isBound_0, ec_X1_copy_2, ec_X1_pull_1, ec_X1_leanPart_1, ec_X1_hooksPart_1, ec_X1_drop_1, ec_X2_see_1, ec_X1_grow_1, ec_X2_pass_1, ec_X11_lasts_0, ec_X4_costOf_0, ec_X1_take_1, ec_X2_pass_2, ec_X11_holds_0, ec_X11_least_0, ec_X11_dropWithBrace_0, ec_X11_way_0, ec_X4_growthNames_0, ec_X11_enough_0, ec_X11_bears_0, ec_X4_isLaw_3, ec_X2_see_2, ec_X2_workOut_1, ec_X11_knock_0, ec_X3_add_0, ec_X11_measure_0, ec_X3_addStrike_0, ec_X11_strike_0, ec_X11_known_0, ec_X3_knownCount_0, ec_X3_findStruck_0, ec_X3_pick_0, ec_X4_moreBy_2, ec_X1_setCauses_2, ec_X1_begin_2, ec_X1_leanPart_2, ec_X1_hooksPart_2, ec_X1_drop_2, ec_X1_measured_0, ec_X8_record_0, ec_X1_pull_2, ec_X2_see_3, ec_X1_grow_2, ec_X2_pass_3, ec_X1_measured_1, ec_X3_agree_0, ec_X8_judge_0, ec_X11_fits_0, ec_X4_isCause_0, ec_X4_weightOf_0, ec_X8_weightOfFitting_0, ec_X11_odds_0, ec_J6_bitCount_0f7a4_0, ec_X8_recorded_0, ec_X8_heaviestGroup_0, ec_X11_test_0, ec_X11_isAngle_0, ec_X1_lowHung_0, ec_X11_low_0, ec_X11_rest_0, ec_X1_lowHung_1, ec_X11_shuts_0, ec_X1_aboveHung_0, ec_X11_above_0, ec_X11_opens_0, ec_X1_lowHung_2, ec_X1_lowHung_3, ec_X1_aboveHung_1, ec_X1_standsWith_0, ec_X1_standsWith_1, ec_X11_stand_0, ec_X1_isLatched_1, ec_X11_unlatchedWeeks_0, ec_X9_tell_0, ec_X9_sumOf_0, ec_X9_choose_0, ec_X9_gateAt_0, ec_X11_first_0, ec_X11_wind_0, ec_X1_copy_3, ec_X11_keep_0, ec_X1_copy_4, ec_X11_back_0, ec_X4_costOf_1, ec_X11_costOfAllDone_0, ec_X11_count_0]
end
