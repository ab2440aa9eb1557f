/-! ===== the check by cells holds what it says ===== -/
theorem ef_C_none {i : Instr} {pc len a b mc ms : Nat} {zz : Int} {F : cv_F} {M : cv_M} {S : cv_S} (hc : ef_isC i = false) : cv_mk mc ms F (pc, i, len, a, b, zz) S = none ∧ cv_nat M (pc, i, len, a, b, zz) S = none ∧ cv_call (pc, i, len, a, b, zz) S = none ∧ cv_ret M (pc, i, len, a, b, zz) S = none := by
  cases i
  all_goals first | (simp [ef_isC] at hc; done) | skip
  all_goals (refine ⟨rfl, ?_, ?_, ?_⟩)
  all_goals first
    | (simp [cv_nat]; done)
    | (simp [cv_call]; done)
    | (simp [cv_ret]; done)
theorem ef_nat_none {i : Instr} {pc len a b : Nat} {zz : Int} {M : cv_M} {S : cv_S} (ha : a < 9000) (hi : ∀ ix, i ≠ .invokespecial ix) : cv_nat M (pc, i, len, a, b, zz) S = none := by
  unfold cv_nat
  dsimp only
  generalize (decide (1 ≤ M.2.2.2.2.1) && (decide (S.2.2.2.2.1 ≤ M.2.2.1) && decide (S.2.2.2.2.2 ≤ M.2.2.2.1))) = bb
  cases bb with
  | false => rfl
  | true =>
    dsimp only [cond_true]
    split
    all_goals first | rfl | (exfalso; revert ha; decide)
theorem ef_nat_ok {pc len a b k ix : Nat} {zz : Int} {M : cv_M} {L : cv_L} {st : List cv_V} {h : cv_H} {c n : Nat} {S' : cv_S} (hn : ef_nk a = some k) (h1 : cv_nat M (pc, .invokestatic ix, len, a, b, zz) (pc, L, st, h, c, n) = some S') : S'.1 = pc + len ∧ S'.2.1 = L ∧ S'.2.2.2.1 = h ∧ ∃ v, S'.2.2.1 = v :: st.drop k := by
  unfold cv_nat at h1
  obtain ⟨-, h1⟩ := cv_bif h1
  dsimp only at h1
  unfold ef_nk at hn
  split at hn
  all_goals first | (cases hn; done) | skip
  all_goals cases hn
  all_goals (split at h1)
  all_goals first
    | contradiction
    | (simp at h1; done)
    | (obtain ⟨-, h2⟩ := cv_bif h1; cases h2; exact ⟨rfl, rfl, rfl, _, rfl⟩)
section EFS
variable {Ks : List ef_K} {TF : ef_T} {TR : ef_U} {mt : Nat → cv_M} {F : cv_F}
def ef_Post (TF : ef_T) (TR : ef_U) (K : ef_K) (h : cv_H) (o : cv_O) : Prop := ef_fok TF o.2 ∧ ef_rok TR o.2 ∧ ef_fok K.2.2.2.2.1 o.2 ∧ ef_fr K.2.2.2.2.2 h o.2 ∧ o.1.isSome = K.2.2.2.1
theorem ef_ev_eq (M : cv_M) (K : ef_K) (cs : List ef_G) (fuel : Nat) (b : Bool) (pc : Nat) (e : ef_L) (z : List ef_A) (E : ef_T) : ef_ev Ks TF TR M K cs (fuel + 1) b pc e z E = (match cv_op M pc with
    | none => false
    | some q =>
      match (bif b then none else cs.find? (fun c => c.1 == pc)) with
      | some c => z.isEmpty && (ef_incl e c.2.1 && ef_leT E c.2.2)
      | none =>
        match ef_one TF TR K.2.2.2.2.2 q e z E with
        | some r => r.all (fun s => ef_ev Ks TF TR M K cs fuel false s.1 s.2.1 s.2.2.1 s.2.2.2)
        | none =>
        match ef_call Ks K.2.2.2.2.2 q e z E with
        | some r => r.all (fun s => ef_ev Ks TF TR M K cs fuel false s.1 s.2.1 s.2.2.1 s.2.2.2)
        | none => ef_ret K q E) := rfl
theorem ef_go_ok {W : ef_W} {q : cv_Q} {as : List ef_A} {e : ef_L} {z : List ef_A} {E : ef_T} {r : List ef_S} (h : ef_go Ks W q as e z E = some r) : ∃ K, K ∈ Ks ∧ K.1 = q.2.2.2.1 ∧ ef_subs as K.2.1 = true ∧ ef_leT E K.2.2.1 = true ∧ ef_leW K.2.2.2.2.2 W = true ∧ r = [(q.1 + q.2.2.1, e, ef_pu K.2.2.2.1 ++ z, K.2.2.2.2.1 ++ E.filter (fun t => !ef_may K.2.2.2.2.2 t.1 t.2.1))] := by
  unfold ef_go at h
  cases hf : ef_find Ks q.2.2.2.1 as E with
  | none => rw [hf] at h; cases h
  | some K =>
    rw [hf] at h
    obtain ⟨h1, h2⟩ := cv_bif h
    cases h2
    have h3 := List.find?_some hf
    simp only [Bool.and_eq_true, beq_iff_eq] at h3
    exact ⟨K, List.mem_of_find?_eq_some hf, h3.1, h3.2.1, h3.2.2, h1, rfl⟩
/-- a call: the callee's contract gives what stands behind it -/
theorem ef_behind {K' : ef_K} {W : ef_W} {h h0 : cv_H} {o' : cv_O} {E : ef_T} {z : List ef_A} {stk : List cv_V} (hP : ef_Post TF TR K' h o') (hW : ef_leW K'.2.2.2.2.2 W = true) (hE : ef_fok E h) (hz : ef_zok z stk) (hf : ef_fr W h0 h) : ef_zok (ef_pu K'.2.2.2.1 ++ z) (o'.1.toList ++ stk) ∧ ef_fok TF o'.2 ∧ ef_rok TR o'.2 ∧ ef_fok (K'.2.2.2.2.1 ++ E.filter (fun t => !ef_may K'.2.2.2.2.2 t.1 t.2.1)) o'.2 ∧ ef_fr W h0 o'.2 := by
  obtain ⟨p1, p2, p3, p4, p5⟩ := hP
  refine ⟨?_, p1, p2, fun t ht => ?_, ef_fr_tr hf (ef_fr_mono hW p4)⟩
  · rw [← p5]
    cases o'.1 with
    | none => exact hz
    | some v => exact ⟨ef_ok_none, hz⟩
  · rcases List.mem_append.mp ht with ht | ht
    · exact p3 t ht
    · obtain ⟨t1, t2⟩ := List.mem_filter.mp ht
      obtain ⟨c0, c1, c2⟩ := hE t t1
      exact ⟨c0, c1, (p4 _ _ (by simpa using t2)).trans c2⟩
def ef_B (F : cv_F) (mt : Nat → cv_M) (Ks : List ef_K) (TF : ef_T) (TR : ef_U) (css : ef_K → List ef_G × Nat) (N : Nat) : Prop := ∀ K, K ∈ Ks → ∀ (fuel : Nat) (b : Bool) (pc : Nat) (e : ef_L) (z : List ef_A) (E : ef_T), ef_ev Ks TF TR (mt K.1) K (css K).1 fuel b pc e z E = true → ∀ (X : cv_X) (L : cv_L) (st : List cv_V) (h0 h : cv_H) (c n : Nat) (o : cv_O), ef_lok e L → ef_zok z st → ef_fok TF h → ef_rok TR h → ef_fok E h → ef_fr K.2.2.2.2.2 h0 h → cv_run F mt N X K.1 (pc, L, st, h, c, n) = some o → ef_Post TF TR K h0 o
def ef_Aa (F : cv_F) (mt : Nat → cv_M) (Ks : List ef_K) (TF : ef_T) (TR : ef_U) (N : Nat) : Prop := ∀ K, K ∈ Ks → ∀ (X : cv_X) (av : List cv_V) (h : cv_H) (o : cv_O), ef_zok K.2.1 av → ef_fok TF h → ef_rok TR h → ef_fok K.2.2.1 h → cv_run F mt N X K.1 (0, cv_ent 0 av, [], h, 0, 0) = some o → ef_Post TF TR K h o
theorem ef_BA {css : ef_K → List ef_G × Nat} (hc : ∀ K, K ∈ Ks → ef_chk Ks TF TR (mt K.1) K (css K).1 (css K).2 = true) {N : Nat} (hB : ef_B F mt Ks TF TR css N) : ef_Aa F mt Ks TF TR N := by
  intro K hK X av h o hz hT hR hE hr
  have hk := hc K hK
  unfold ef_chk at hk
  rw [Bool.and_eq_true] at hk
  exact hB K hK _ _ _ _ _ _ hk.1 X _ _ h h 0 0 o (ef_ent_ok hz).1 (show ef_zok [] [] from trivial) hT hR hE ef_fr_refl hr
theorem ef_B1 {css : ef_K → List ef_G × Nat} (h9 : ∀ j, ef_nk j ≠ none → (mt j).2.1 = []) {N : Nat} (hB : ef_B F mt Ks TF TR css N) (hA : ef_Aa F mt Ks TF TR N) {K : ef_K} (hK : K ∈ Ks) {fuel : Nat} {b : Bool} {pc : Nat} {e : ef_L} {z : List ef_A} {E : ef_T} (hev : ef_ev Ks TF TR (mt K.1) K (css K).1 (fuel + 1) b pc e z E = true) (hcut : (bif b then none else (css K).1.find? (fun c => c.1 == pc)) = none) {X : cv_X} {L : cv_L} {st : List cv_V} {h0 h : cv_H} {c n : Nat} {o : cv_O} (hl : ef_lok e L) (hz : ef_zok z st) (hT : ef_fok TF h) (hR : ef_rok TR h) (hE : ef_fok E h) (hf : ef_fr K.2.2.2.2.2 h0 h) (hr : cv_run F mt (N + 1) X K.1 (pc, L, st, h, c, n) = some o) : ef_Post TF TR K h0 o := by
  rw [ef_ev_eq] at hev
  rw [cw_eq] at hr
  dsimp only at hr
  cases hop : cv_op (mt K.1) pc with
  | none => rw [hop] at hr; cases hr
  | some q =>
  rw [hop] at hr hev
  dsimp only at hr hev
  rw [hcut] at hev
  dsimp only at hev
  have hpc : q.1 = pc := by
    have := List.find?_some hop
    simpa using this
  subst hpc
  have go : ∀ (s : ef_S) (r : List ef_S) (S' : cv_S), s ∈ r → r.all (fun s => ef_ev Ks TF TR (mt K.1) K (css K).1 fuel false s.1 s.2.1 s.2.2.1 s.2.2.2) = true → ef_R TF TR K.2.2.2.2.2 h s S' → cv_run F mt N X K.1 S' = some o → ef_Post TF TR K h0 o := by
    intro s r S' hs hall hR' hr'
    obtain ⟨e1, e2, e3, e4, e5, e6, e7⟩ := hR'
    obtain ⟨pc', L', st', h', c', n'⟩ := S'
    have e8 := List.all_eq_true.mp hall s hs
    have e1' : s.1 = pc' := e1
    rw [e1'] at e8
    exact hB K hK fuel false pc' _ _ _ e8 X L' st' h0 h' c' n' o e2 e3 e4 e5 e6 (ef_fr_tr hf e7) hr'
  cases hone : ef_one TF TR K.2.2.2.2.2 q e z E with
  | some r =>
    rw [hone] at hev
    dsimp only at hev
    cases h2 : cv_one X q (q.1, L, st, h, c, n) with
    | some S' =>
      rw [h2] at hr
      dsimp only at hr
      obtain ⟨s, hs, hRs⟩ := ef_one_ok hone h2 hl hz hT hR hE
      exact go s r S' hs hev hRs hr
    | none =>
      have hc : ef_isC q.2.1 = false := by
        unfold ef_one at hone
        cases hc : ef_isC q.2.1 with
        | false => rfl
        | true => rw [hc] at hone; cases hone
      obtain ⟨a1, a2, a3, a4⟩ := ef_C_none (pc := q.1) (len := q.2.2.1) (a := q.2.2.2.1) (b := q.2.2.2.2.1) (zz := q.2.2.2.2.2) (mc := (mt K.1).2.2.1) (ms := (mt K.1).2.2.2.1) (F := F) (M := mt K.1) (S := (q.1, L, st, h, c, n)) hc
      rw [h2] at hr
      dsimp only at hr
      rw [show cv_mk (mt K.1).2.2.1 (mt K.1).2.2.2.1 F q (q.1, L, st, h, c, n) = none from a1] at hr
      dsimp only at hr
      rw [show cv_nat (mt K.1) q (q.1, L, st, h, c, n) = none from a2] at hr
      dsimp only at hr
      rw [show cv_call q (q.1, L, st, h, c, n) = none from a3] at hr
      dsimp only at hr
      rw [show cv_ret (mt K.1) q (q.1, L, st, h, c, n) = none from a4] at hr
      cases hr
  | none =>
  rw [hone] at hev
  dsimp only at hev
  cases hcall : ef_call Ks K.2.2.2.2.2 q e z E with
  | some r =>
    rw [hcall] at hev
    dsimp only at hev
    obtain ⟨pc, i, len, a, np, zz⟩ := q
    -- what a call gives
    have kk : ∀ (as : List ef_A) (z' : List ef_A) (av stk : List cv_V), a < 9000 → ef_go Ks K.2.2.2.2.2 (pc, i, len, a, np, zz) as e z' E = some r → ef_zok as av → ef_zok z' stk →
        (bif cv_fits (mt K.1) (mt a) c n (cv_wid av) stk then
          match cv_run F mt N (fun j => bif j == 2 then none else X j) a (0, cv_ent 0 av, [], h, 0, 0) with
          | some o => cv_run F mt N X K.1 (pc + len, L, o.1.toList ++ stk, o.2, c + (mt a).2.2.1, n + (mt a).2.2.2.1)
          | none => none
        else none) = some o → ef_Post TF TR K h0 o := by
      intro as z' av stk _ hgo hav hstk hr'
      obtain ⟨-, hr'⟩ := cv_bif hr'
      obtain ⟨K', k1, k2, k3, k4, k5, k6⟩ := ef_go_ok hgo
      have k2' : K'.1 = a := k2
      cases hrun : cv_run F mt N (fun j => bif j == 2 then none else X j) a (0, cv_ent 0 av, [], h, 0, 0) with
      | none => rw [hrun] at hr'; cases hr'
      | some o' =>
        rw [hrun] at hr'
        dsimp only at hr'
        have hP := hA K' k1 _ av h o' (ef_subs_ok k3 hav) hT hR (ef_leT_ok k4 hE) (by rw [k2']; exact hrun)
        obtain ⟨b1, b2, b3, b4, b5⟩ := ef_behind hP k5 hE hstk hf
        rw [k6] at hev
        have e8 := List.all_eq_true.mp hev _ (List.mem_singleton_self _)
        exact hB K hK fuel false _ _ _ _ e8 X L _ h0 o'.2 _ _ o hl b1 b2 b3 b4 b5 hr'
    cases i
    all_goals first | (simp [ef_call] at hcall; done) | skip
    case invokestatic ix =>
      replace hr : (match cv_nat (mt K.1) (pc, .invokestatic ix, len, a, np, zz) (pc, L, st, h, c, n) with
        | some S' => cv_run F mt N X K.1 S'
        | none =>
        match cv_call (pc, .invokestatic ix, len, a, np, zz) (pc, L, st, h, c, n) with
        | some (j, args, stk) =>
          bif cv_fits (mt K.1) (mt j) c n (cv_wid args) stk then
            match cv_run F mt N (fun j => bif j == 2 then none else X j) j (0, cv_ent 0 args, [], h, 0, 0) with
            | some o => cv_run F mt N X K.1 (pc + len, L, o.1.toList ++ stk, o.2, c + (mt j).2.2.1, n + (mt j).2.2.2.1)
            | none => none
          else none
        | none =>
        match cv_ret (mt K.1) (pc, .invokestatic ix, len, a, np, zz) (pc, L, st, h, c, n) with
        | some r => some (r, h)
        | none => none) = some o := hr
      have hret : cv_ret (mt K.1) (pc, .invokestatic ix, len, a, np, zz) (pc, L, st, h, c, n) = none := by
        unfold cv_ret
        dsimp only
        cases (decide (c ≤ (mt K.1).2.2.1) && decide (n ≤ (mt K.1).2.2.2.1)) <;> rfl
      have hcl : cv_call (pc, .invokestatic ix, len, a, np, zz) (pc, L, st, h, c, n) = bif decide (np ≤ st.length) then some (a, (st.take np).reverse, st.drop np) else none := rfl
      rw [hcl] at hr
      replace hcall : (match ef_nk a with
        | some k => bif Nat.ble k z.length then some [(pc + len, e, none :: z.drop k, E)] else none
        | none => bif Nat.ble a 8999 && Nat.ble np z.length then ef_go Ks K.2.2.2.2.2 (pc, .invokestatic ix, len, a, np, zz) (z.take np).reverse e (z.drop np) E else none) = some r := hcall
      cases hnk : ef_nk a with
      | some k =>
        rw [hnk] at hcall
        obtain ⟨-, h5⟩ := cv_bif hcall
        cases h5
        cases hn : cv_nat (mt K.1) (pc, .invokestatic ix, len, a, np, zz) (pc, L, st, h, c, n) with
        | some S' =>
          rw [hn] at hr
          obtain ⟨e1, e2, e3, v, e4⟩ := ef_nat_ok hnk hn
          refine go _ _ S' (List.mem_singleton_self _) hev ⟨e1.symm, by rw [e2]; exact hl, ?_, by rw [e3]; exact hT, by rw [e3]; exact hR, by rw [e3]; exact hE, by rw [e3]; exact ef_fr_refl⟩ hr
          rw [e4]
          exact ⟨ef_ok_none, ef_zok_drop hz⟩
        | none =>
          rw [hn] at hr
          dsimp only at hr
          exfalso
          have ha : ef_nk a ≠ none := by rw [hnk]; exact fun q => by cases q
          cases hd : decide (np ≤ st.length) with
          | false => rw [hd, cond_false] at hr; dsimp only at hr; rw [hret] at hr; cases hr
          | true =>
            rw [hd, cond_true] at hr
            dsimp only at hr
            obtain ⟨-, hr⟩ := cv_bif hr
            have hno : cv_run F mt N (fun j => bif j == 2 then none else X j) a (0, cv_ent 0 (st.take np).reverse, [], h, 0, 0) = none := by
              cases N with
              | zero => rfl
              | succ N =>
                rw [cw_eq]
                have : cv_op (mt a) 0 = none := by unfold cv_op; rw [h9 a ha]; rfl
                dsimp only
                rw [this]
            rw [hno] at hr
            cases hr
      | none =>
        rw [hnk] at hcall
        obtain ⟨h5, h6⟩ := cv_bif hcall
        rw [Bool.and_eq_true] at h5
        have ha := Nat.le_of_ble_eq_true h5.1
        rw [ef_nat_none (by omega) (fun ix q => by cases q)] at hr
        dsimp only at hr
        cases hd : decide (np ≤ st.length) with
        | false => rw [hd, cond_false] at hr; dsimp only at hr; rw [hret] at hr; cases hr
        | true =>
          rw [hd, cond_true] at hr
          exact kk _ _ _ _ (by omega) h6 (ef_zok_rev (ef_zok_take hz)) (ef_zok_drop hz) hr
    case invokevirtual ix =>
      replace hr : (match cv_nat (mt K.1) (pc, .invokevirtual ix, len, a, np, zz) (pc, L, st, h, c, n) with
        | some S' => cv_run F mt N X K.1 S'
        | none =>
        match cv_call (pc, .invokevirtual ix, len, a, np, zz) (pc, L, st, h, c, n) with
        | some (j, args, stk) =>
          bif cv_fits (mt K.1) (mt j) c n (cv_wid args) stk then
            match cv_run F mt N (fun j => bif j == 2 then none else X j) j (0, cv_ent 0 args, [], h, 0, 0) with
            | some o => cv_run F mt N X K.1 (pc + len, L, o.1.toList ++ stk, o.2, c + (mt j).2.2.1, n + (mt j).2.2.2.1)
            | none => none
          else none
        | none =>
        match cv_ret (mt K.1) (pc, .invokevirtual ix, len, a, np, zz) (pc, L, st, h, c, n) with
        | some r => some (r, h)
        | none => none) = some o := hr
      have hret : cv_ret (mt K.1) (pc, .invokevirtual ix, len, a, np, zz) (pc, L, st, h, c, n) = none := by
        unfold cv_ret
        dsimp only
        cases (decide (c ≤ (mt K.1).2.2.1) && decide (n ≤ (mt K.1).2.2.2.1)) <;> rfl
      replace hcall : (bif Nat.ble a 8999 && Nat.ble np z.length then (match z.drop np with
        | a0 :: z' => ef_go Ks K.2.2.2.2.2 (pc, .invokevirtual ix, len, a, np, zz) (a0 :: (z.take np).reverse) e z' E
        | [] => none) else none) = some r := hcall
      obtain ⟨h5, h6⟩ := cv_bif hcall
      rw [Bool.and_eq_true] at h5
      have ha := Nat.le_of_ble_eq_true h5.1
      rw [ef_nat_none (by omega) (fun ix q => by cases q)] at hr
      dsimp only at hr
      cases hcc : cv_call (pc, .invokevirtual ix, len, a, np, zz) (pc, L, st, h, c, n) with
      | none => rw [hcc] at hr; dsimp only at hr; rw [hret] at hr; cases hr
      | some jas =>
        obtain ⟨j, args, stk⟩ := jas
        rw [hcc] at hr
        dsimp only at hr
        have hd := ef_zok_drop (n := np) hz
        have hcv : ∃ v, st.drop np = v :: stk ∧ args = v :: (st.take np).reverse ∧ j = a := by
          replace hcc : (bif decide (np ≤ st.length) then (match st.drop np with
            | .inr (.inr (.inl (some k))) :: rest => (match h[k]? with
              | some (.inr (.inr (.inr (ci, _)))) => bif ci == zz.toNat then some (a, cv_r k :: (st.take np).reverse, rest) else none
              | _ => none)
            | .inr (.inr (.inr 0)) :: rest => bif zz.toNat == 100 then some (a, cv_s 0 :: (st.take np).reverse, rest) else none
            | _ => none) else none) = some (j, args, stk) := hcc
          obtain ⟨-, h7⟩ := cv_bif hcc
          split at h7
          · rename_i k rest hst
            split at h7
            · obtain ⟨-, h8⟩ := cv_bif h7
              cases h8
              exact ⟨_, hst, rfl, rfl⟩
            · cases h7
          · rename_i rest hst
            obtain ⟨-, h8⟩ := cv_bif h7
            cases h8
            exact ⟨_, hst, rfl, rfl⟩
          · cases h7
        obtain ⟨v, v1, rfl, rfl⟩ := hcv
        rw [v1] at hd
        cases hzd : z.drop np with
        | nil => rw [hzd] at hd; exact hd.elim
        | cons a0 z' =>
          rw [hzd] at hd h6
          exact kk _ _ _ _ (by omega) h6 (show ef_zok (a0 :: (z.take np).reverse) (v :: (st.take np).reverse) from ⟨hd.1, ef_zok_rev (ef_zok_take hz)⟩) hd.2 hr
  | none =>
    rw [hcall] at hev
    dsimp only at hev
    obtain ⟨pc, i, len, a, np, zz⟩ := q
    unfold ef_ret at hev
    rw [Bool.and_eq_true] at hev
    obtain ⟨hv1, hv2⟩ := hev
    have fin : ∀ r : Option cv_V, r.isSome = K.2.2.2.1 → ef_Post TF TR K h0 (r, h) := fun r hs => ⟨hT, hR, ef_leT_ok hv2 hE, hf, hs⟩
    cases i
    all_goals first | (simp at hv1; done) | skip
    case ireturn =>
      replace hr : (match cv_nat (mt K.1) (pc, .ireturn, len, a, np, zz) (pc, L, st, h, c, n) with
        | some S' => cv_run F mt N X K.1 S'
        | none =>
        match cv_call (pc, .ireturn, len, a, np, zz) (pc, L, st, h, c, n) with
        | some (j, args, stk) =>
          bif cv_fits (mt K.1) (mt j) c n (cv_wid args) stk then
            match cv_run F mt N (fun j => bif j == 2 then none else X j) j (0, cv_ent 0 args, [], h, 0, 0) with
            | some o => cv_run F mt N X K.1 (pc + len, L, o.1.toList ++ stk, o.2, c + (mt j).2.2.1, n + (mt j).2.2.2.1)
            | none => none
          else none
        | none =>
        match cv_ret (mt K.1) (pc, .ireturn, len, a, np, zz) (pc, L, st, h, c, n) with
        | some r => some (r, h)
        | none => none) = some o := hr
      have hn : cv_nat (mt K.1) (pc, .ireturn, len, a, np, zz) (pc, L, st, h, c, n) = none := by
        simp [cv_nat]
      have hcl : cv_call (pc, .ireturn, len, a, np, zz) (pc, L, st, h, c, n) = none := by
        simp [cv_call]
      rw [hn, hcl] at hr
      dsimp only at hr
      cases hrt : cv_ret (mt K.1) (pc, .ireturn, len, a, np, zz) (pc, L, st, h, c, n) with
      | none => rw [hrt] at hr; cases hr
      | some r =>
        rw [hrt] at hr
        cases hr
        refine fin r ?_
        rw [show K.2.2.2.1 = true from hv1]
        unfold cv_ret at hrt
        obtain ⟨-, hrt⟩ := cv_bif hrt
        dsimp only at hrt
        split at hrt
        all_goals first
          | contradiction
          | (cases hrt; rfl)
          | (obtain ⟨-, h9⟩ := cv_bif hrt; cases h9; rfl)
          | (simp at hrt; done)
          | (rename_i q; cases q)
    case lreturn =>
      replace hr : (match cv_nat (mt K.1) (pc, .lreturn, len, a, np, zz) (pc, L, st, h, c, n) with
        | some S' => cv_run F mt N X K.1 S'
        | none =>
        match cv_call (pc, .lreturn, len, a, np, zz) (pc, L, st, h, c, n) with
        | some (j, args, stk) =>
          bif cv_fits (mt K.1) (mt j) c n (cv_wid args) stk then
            match cv_run F mt N (fun j => bif j == 2 then none else X j) j (0, cv_ent 0 args, [], h, 0, 0) with
            | some o => cv_run F mt N X K.1 (pc + len, L, o.1.toList ++ stk, o.2, c + (mt j).2.2.1, n + (mt j).2.2.2.1)
            | none => none
          else none
        | none =>
        match cv_ret (mt K.1) (pc, .lreturn, len, a, np, zz) (pc, L, st, h, c, n) with
        | some r => some (r, h)
        | none => none) = some o := hr
      have hn : cv_nat (mt K.1) (pc, .lreturn, len, a, np, zz) (pc, L, st, h, c, n) = none := by
        simp [cv_nat]
      have hcl : cv_call (pc, .lreturn, len, a, np, zz) (pc, L, st, h, c, n) = none := by
        simp [cv_call]
      rw [hn, hcl] at hr
      dsimp only at hr
      cases hrt : cv_ret (mt K.1) (pc, .lreturn, len, a, np, zz) (pc, L, st, h, c, n) with
      | none => rw [hrt] at hr; cases hr
      | some r =>
        rw [hrt] at hr
        cases hr
        refine fin r ?_
        rw [show K.2.2.2.1 = true from hv1]
        unfold cv_ret at hrt
        obtain ⟨-, hrt⟩ := cv_bif hrt
        dsimp only at hrt
        split at hrt
        all_goals first
          | contradiction
          | (cases hrt; rfl)
          | (obtain ⟨-, h9⟩ := cv_bif hrt; cases h9; rfl)
          | (simp at hrt; done)
          | (rename_i q; cases q)
    case return_ =>
      replace hr : (match cv_nat (mt K.1) (pc, .return_, len, a, np, zz) (pc, L, st, h, c, n) with
        | some S' => cv_run F mt N X K.1 S'
        | none =>
        match cv_call (pc, .return_, len, a, np, zz) (pc, L, st, h, c, n) with
        | some (j, args, stk) =>
          bif cv_fits (mt K.1) (mt j) c n (cv_wid args) stk then
            match cv_run F mt N (fun j => bif j == 2 then none else X j) j (0, cv_ent 0 args, [], h, 0, 0) with
            | some o => cv_run F mt N X K.1 (pc + len, L, o.1.toList ++ stk, o.2, c + (mt j).2.2.1, n + (mt j).2.2.2.1)
            | none => none
          else none
        | none =>
        match cv_ret (mt K.1) (pc, .return_, len, a, np, zz) (pc, L, st, h, c, n) with
        | some r => some (r, h)
        | none => none) = some o := hr
      have hn : cv_nat (mt K.1) (pc, .return_, len, a, np, zz) (pc, L, st, h, c, n) = none := by
        simp [cv_nat]
      have hcl : cv_call (pc, .return_, len, a, np, zz) (pc, L, st, h, c, n) = none := by
        simp [cv_call]
      rw [hn, hcl] at hr
      dsimp only at hr
      cases hrt : cv_ret (mt K.1) (pc, .return_, len, a, np, zz) (pc, L, st, h, c, n) with
      | none => rw [hrt] at hr; cases hr
      | some r =>
        rw [hrt] at hr
        cases hr
        refine fin r ?_
        have hv3 : K.2.2.2.1 = false := by simpa using hv1
        rw [hv3]
        unfold cv_ret at hrt
        obtain ⟨-, hrt⟩ := cv_bif hrt
        dsimp only at hrt
        split at hrt
        all_goals first
          | contradiction
          | (cases hrt; rfl)
          | (simp at hrt; done)
          | (rename_i q; cases q)
theorem ef_BS {css : ef_K → List ef_G × Nat} (hc : ∀ K, K ∈ Ks → ef_chk Ks TF TR (mt K.1) K (css K).1 (css K).2 = true) (h9 : ∀ j, ef_nk j ≠ none → (mt j).2.1 = []) {N : Nat} (hB : ef_B F mt Ks TF TR css N) : ef_B F mt Ks TF TR css (N + 1) := by
  have hA := ef_BA hc hB
  intro K hK fuel b pc e z E hev X L st h0 h c n o hl hz hT hR hE hf hr
  cases fuel with
  | zero => cases hev
  | succ fuel =>
  cases hcut : (bif b then none else (css K).1.find? (fun c => c.1 == pc)) with
  | none => exact ef_B1 h9 hB hA hK hev hcut hl hz hT hR hE hf hr
  | some c0 =>
    cases b with
    | true => cases hcut
    | false =>
    have hcut' : (css K).1.find? (fun c => c.1 == pc) = some c0 := hcut
    have hpc : c0.1 = pc := by
      have := List.find?_some hcut'
      simpa using this
    rw [ef_ev_eq] at hev
    cases hop : cv_op (mt K.1) pc with
    | none => rw [hop] at hev; cases hev
    | some q =>
      rw [hop] at hev
      dsimp only at hev
      rw [hcut] at hev
      dsimp only at hev
      rw [Bool.and_eq_true, Bool.and_eq_true] at hev
      obtain ⟨h1, h2, h3⟩ := hev
      have hz0 : z = [] := by simpa using h1
      subst hz0
      cases st with
      | cons _ _ => exact hz.elim
      | nil =>
      have hk := hc K hK
      unfold ef_chk at hk
      rw [Bool.and_eq_true] at hk
      have h4 := List.all_eq_true.mp hk.2 c0 (List.mem_of_find?_eq_some hcut')
      rw [hpc] at h4
      cases hfl : (css K).2 with
      | zero => rw [hfl] at h4; cases h4
      | succ f2 =>
        rw [hfl] at h4
        exact ef_B1 h9 hB hA hK h4 rfl (ef_incl_ok h2 hl) (show ef_zok [] [] from trivial) hT hR (ef_leT_ok h3 hE) hf hr
theorem ef_run {css : ef_K → List ef_G × Nat} (hc : ∀ K, K ∈ Ks → ef_chk Ks TF TR (mt K.1) K (css K).1 (css K).2 = true) (h9 : ∀ j, ef_nk j ≠ none → (mt j).2.1 = []) : ∀ N, ef_Aa F mt Ks TF TR N := by
  have hB : ∀ N, ef_B F mt Ks TF TR css N := by
    intro N
    induction N with
    | zero =>
      intro K hK fuel b pc e z E hev X L st h0 h c n o hl hz hT hR hE hf hr
      cases hr
    | succ N ih => exact ef_BS hc h9 ih
  exact fun N => ef_BA hc (hB N)
end EFS
/-- what a walk shows holds together with what the cells show -/
theorem ef_X {Ks : List ef_K} {TF : ef_T} {TR : ef_U} (hA : ∀ N, ef_Aa fk_all mt_all Ks TF TR N) {K : ef_K} (hK : K ∈ Ks) {X : cv_X} {Q : cv_O → Prop} {av : List cv_V} {h : cv_H} (hz : ef_zok K.2.1 av) (hT : ef_fok TF h) (hR : ef_rok TR h) (hE : ef_fok K.2.2.1 h) (hX : cw_X X K.1 Q 0 (cv_ent 0 av) [] h) : cw_X X K.1 (fun o => Q o ∧ ef_Post TF TR K h o) 0 (cv_ent 0 av) [] h := by
  obtain ⟨o, ⟨N, hN⟩, hQ⟩ := hX
  exact ⟨o, ⟨N, hN⟩, hQ, hA N K hK X av h o hz hT hR hE hN⟩
theorem ef_h9 : ∀ j, ef_nk j ≠ none → (mt_all j).2.1 = [] := by
  intro j hj
  unfold ef_nk at hj
  split at hj
  all_goals first | rfl | exact absurd rfl hj
