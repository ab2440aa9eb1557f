/-! ===== rows at abstract frames: arrays, fields ===== -/
theorem av_hull_ok : ∀ {ys : List av_V} {r : Int × Int}, av_hull ys = some r → ∀ w ∈ ys, ∃ b, w = av_i b ∧ r.1 ≤ b.1 ∧ b.2 ≤ r.2 := by
  intro ys
  induction ys with
  | nil => intro r _ w hw; cases hw
  | cons x l ih =>
    intro r h w hw
    unfold av_hull at h
    cases hl : av_hull l with
    | none => rw [hl] at h; cases x <;> simp at h
    | some b =>
      rw [hl] at h
      match x, h, hw with
      | .inl o, h, hw => cases h
      | .inr (.inr o), h, hw => cases h
      | .inr (.inl a), h, hw =>
        cases h
        dsimp only
        have e1 : (bif decide (a.1 ≤ b.1) then a.1 else b.1) ≤ a.1 ∧ (bif decide (a.1 ≤ b.1) then a.1 else b.1) ≤ b.1 := by
          by_cases q : a.1 ≤ b.1
          · simp [q]
          · simp [q]; omega
        have e2 : a.2 ≤ (bif decide (a.2 ≤ b.2) then b.2 else a.2) ∧ b.2 ≤ (bif decide (a.2 ≤ b.2) then b.2 else a.2) := by
          by_cases q : a.2 ≤ b.2
          · simp [q]
          · simp [q]; omega
        rcases List.mem_cons.mp hw with rfl | hw
        · exact ⟨a, rfl, e1.1, e2.1⟩
        · obtain ⟨b', q1, q2, q3⟩ := ih hl w hw
          exact ⟨b', q1, by omega, by omega⟩
theorem av_clamp (n : Int32) : n.toNatClampNeg = n.toInt.toNat := rfl
theorem av_rd_ok {sv : Nat → Value} {as : List Nat} {xs : List av_V} {i : Int × Int} {v : av_V} {n : Int32} (h : av_rd xs i = some v) (hn : i.1 ≤ n.toInt ∧ n.toInt ≤ i.2) : vp_in n xs.length ∧ ∀ g : Nat → Value, (∀ (k : Nat) (w : av_V), xs[k]? = some w → av_dn sv as w (g k)) → av_dn sv as v (g n.toNatClampNeg) := by
  unfold av_rd at h
  cases hc : (decide (0 ≤ i.1) && decide (i.2 < (xs.length : Int))) with
  | false => rw [hc] at h; cases h
  | true =>
    rw [hc, cond_true] at h
    simp only [Bool.and_eq_true, decide_eq_true_eq] at hc
    refine ⟨vp_in_iff.mpr ⟨by omega, by omega⟩, fun g hg => ?_⟩
    rw [av_clamp]
    cases he : decide (i.1 = i.2) with
    | true =>
      rw [he, cond_true] at h
      simp only [decide_eq_true_eq] at he
      have e : n.toInt.toNat = i.1.toNat := by omega
      rw [e]
      exact hg _ _ h
    | false =>
      rw [he, cond_false] at h
      cases hh : av_hull ((xs.drop i.1.toNat).take ((i.2 - i.1).toNat + 1)) with
      | none => rw [hh] at h; cases h
      | some r =>
        rw [hh] at h
        cases h
        have hlt : n.toInt.toNat < xs.length := by omega
        obtain ⟨w, hw⟩ : ∃ w, xs[n.toInt.toNat]? = some w := ⟨_, List.getElem?_eq_getElem hlt⟩
        have hm : w ∈ (xs.drop i.1.toNat).take ((i.2 - i.1).toNat + 1) := by
          refine List.mem_of_getElem? (i := n.toInt.toNat - i.1.toNat) ?_
          rw [List.getElem?_take_of_lt (by omega), List.getElem?_drop]
          have : i.1.toNat + (n.toInt.toNat - i.1.toNat) = n.toInt.toNat := by omega
          rw [this]
          exact hw
        obtain ⟨b, rfl, b1, b2⟩ := av_hull_ok hh w hm
        obtain ⟨y, q1, q2, q3⟩ := hg _ _ hw
        exact ⟨y, q1, by omega, by omega⟩
theorem av_bool {x : Int32} (h0 : 0 ≤ x.toInt) (h1 : x.toInt ≤ 1) : x = 0 ∨ x = 1 := by
  rcases (show x.toInt = 0 ∨ x.toInt = 1 by omega) with h | h
  · exact .inl (by rw [← Int32.toInt_inj]; exact h)
  · exact .inr (by rw [← Int32.toInt_inj]; exact h)
theorem av_byte {x : Int32} (h0 : -128 ≤ x.toInt) (h1 : x.toInt ≤ 127) : x.toInt8.toInt32 = x := by
  rw [← Int32.toInt_inj, Int8.toInt_toInt32, Int32.toInt_toInt8]
  rw [Int.bmod_eq_of_le (by omega) (by omega)]
theorem av_fit_ok {sv : Nat → Value} {as : List Nat} {ty : FieldType} {v : av_V} {x : Value} (hf : av_fit (av_kd ty) v = true) (hd : av_dn sv as v x) : narrow ty x = x ∧ fits ty x = true := by
  cases ty with
  | int =>
    match v, hf, hd with
    | .inr (.inl a), _, hd => obtain ⟨n, rfl, _⟩ := hd; exact ⟨rfl, rfl⟩
  | byte =>
    match v, hf, hd with
    | .inr (.inl a), hf, hd =>
      obtain ⟨n, rfl, h1, h2⟩ := hd
      simp only [av_kd, av_fit, Bool.and_eq_true, decide_eq_true_eq] at hf
      refine ⟨by show Value.int _ = _; rw [av_byte (by omega) (by omega)], ?_⟩
      show (decide ((-128 : Int32) ≤ n) && decide (n ≤ 127)) = true
      have e1 : (-128 : Int32).toInt = -128 := by decide
      have e2 : (127 : Int32).toInt = 127 := by decide
      simp only [Bool.and_eq_true, decide_eq_true_eq, Int32.le_iff_toInt_le]
      exact ⟨by omega, by omega⟩
  | boolean =>
    match v, hf, hd with
    | .inr (.inl a), hf, hd =>
      obtain ⟨n, rfl, h1, h2⟩ := hd
      simp only [av_kd, av_fit, Bool.and_eq_true, decide_eq_true_eq] at hf
      rcases av_bool (x := n) (by omega) (by omega) with rfl | rfl
      · exact ⟨rfl, rfl⟩
      · exact ⟨rfl, rfl⟩
  | long =>
    match v, hf, hd with
    | .inr (.inr (.inl a)), _, hd => obtain ⟨n, rfl, _⟩ := hd; exact ⟨rfl, rfl⟩
  | object C =>
    match v, hf, hd with
    | .inl none, _, hd => rw [show x = .null from hd]; exact ⟨rfl, rfl⟩
    | .inl (some k), _, hd => obtain ⟨a, _, rfl⟩ := hd; exact ⟨rfl, rfl⟩
  | array C =>
    match v, hf, hd with
    | .inl none, _, hd => rw [show x = .null from hd]; exact ⟨rfl, rfl⟩
    | .inl (some k), _, hd => obtain ⟨a, _, rfl⟩ := hd; exact ⟨rfl, rfl⟩
  | _ => simp [av_kd, av_fit] at hf
section AVR
variable {Ts : List Jvm.Cond} {cl : List vw_C} {D : va_G} {cy : Nat → ClassId} {A : Nat → Prop} {sv : Nat → Value} {as0 : List Nat} {X : av_X} {M : av_M} {mt : Nat → av_M} {F : av_F} {p : Program} {l : Launch} {e : Env} {R : Room} {s : State} {m : MethodId} {args : Array Value} {below : List Frame} {meth : Method} {c : Code} {Q : State → Prop}
theorem av_ld_ok {pc len a b t t' k : Nat} {ins : Instr} {z : Int} {i : Int × Int} {v : av_V} {xs L1 : List av_V} {L : av_L} {st : List av_V} {h : av_H} {cN sN : Nat} (C0 : av_Cx Ts cl D cy A sv X M p R s m args meth c) (ok : av_ok Ts cl mt M (pc, ins, len, a, b, z)) (ht : av_ldk ins = some t) (hk : h[k]? = some (.inl (t', xs))) (htt : (t' == t || (t == 1 && t' == 2) || (t == 4 && t' == 5)) = true) (hv : av_rd xs i = some v)
    (kk : av_Good cl D cy A sv as0 M.1.2.2.2.1 p l e R s m args below meth c Q (pc + len, L, v :: st, h, cN, sN)) : av_Good cl D cy A sv as0 M.1.2.2.2.1 p l e R s m args below meth c Q (pc, L, av_i i :: av_r k :: st, h, cN, sN) := by
  obtain ⟨hx, hb, -, -, -, -, -, -, hK, -⟩ := C0
  obtain ⟨hd, hlen, -⟩ := ok
  intro as ws H locs ls stv has hH hP hD hS hL hst
  obtain ⟨_, stv1, rfl, ⟨n, rfl, hn⟩, hst1⟩ := av_relS_cons hst
  obtain ⟨_, stv2, rfl, ⟨ad, had, rfl⟩, hst2⟩ := av_relS_cons hst1
  obtain ⟨ad', en, e1, e2, hE⟩ := hH.2.2 k _ hk
  cases had.symm.trans e1
  obtain ⟨hin, hg⟩ := av_rd_ok (sv := sv) (as := as) hv hn
  have go := fun x (hx : av_dn sv as v x) => kk as ws H locs ls (x :: stv2) has hH hP hD hS hL ⟨hx, hst2⟩
  dsimp only at go hd ⊢
  simp only [Bool.or_eq_true, Bool.and_eq_true, beq_iff_eq] at htt
  cases ins <;> first | (cases ht; done) | skip
  case iaload =>
    have : len = 1 := by simpa [av_lenok, av_len] using hlen
    subst this
    cases ht
    have : t' = 0 := by omega
    subst this
    rcases hE with ⟨_, f, rfl, hf⟩ | ⟨q, _⟩ | ⟨q, _⟩
    · exact va_iald hx hb hK hP k 0 e2 rfl hin hd (go _ (hg (fun j => .int (f j)) hf))
    · omega
    · omega
  case baload =>
    have : len = 1 := by simpa [av_lenok, av_len] using hlen
    subst this
    cases ht
    rcases (show t' = 1 ∨ t' = 2 by omega) with rfl | rfl
    · rcases hE with ⟨_, f, rfl, hf⟩ | ⟨q, _⟩ | ⟨q, _⟩
      · exact va_bald hx hb hK hP k 1 e2 rfl hin hd (go _ (hg (fun j => .int (f j)) hf))
      · omega
      · omega
    · rcases hE with ⟨_, f, rfl, hf⟩ | ⟨q, _⟩ | ⟨q, _⟩
      · exact va_zald hx hb hK hP k 2 e2 rfl hin hd (go _ (hg (fun j => .int (f j)) hf))
      · omega
      · omega
  case laload =>
    have : len = 1 := by simpa [av_lenok, av_len] using hlen
    subst this
    cases ht
    have : t' = 3 := by omega
    subst this
    rcases hE with ⟨q, _⟩ | ⟨_, f, rfl, hf⟩ | ⟨q, _⟩
    · omega
    · exact va_lald hx hb hK hP k 3 e2 rfl hin hd (go _ (hg (fun j => .long (f j)) hf))
    · omega
  case aaload =>
    have : len = 1 := by simpa [av_lenok, av_len] using hlen
    subst this
    cases ht
    rcases (show t' = 4 ∨ t' = 5 by omega) with rfl | rfl
    · rcases hE with ⟨q, _⟩ | ⟨q, _⟩ | ⟨_, f, rfl, hf⟩
      · omega
      · omega
      · exact va_aldq hx hb hK hP k 4 e2 rfl hin hd (go _ (hg (fun j => va_rf (f j)) hf))
    · rcases hE with ⟨q, _⟩ | ⟨q, _⟩ | ⟨_, f, rfl, hf⟩
      · omega
      · omega
      · exact va_aldq hx hb hK hP k 5 e2 rfl hin hd (go _ (hg (fun j => va_rf (f j)) hf))
theorem av_dn0 {sv : Nat → Value} {as : List Nat} {v : av_V} {x : Int32} (h : av_dn sv [] v (.int x)) : av_dn sv as v (.int x) := av_dn_up (List.nil_prefix) h
theorem av_lds_ok {pc len a b t j : Nat} {ins : Instr} {z : Int} {i : Int × Int} {v : av_V} {xs : List av_V} {L : av_L} {st : List av_V} {h : av_H} {cN sN : Nat} (C0 : av_Cx Ts cl D cy A sv X M p R s m args meth c) (ok : av_ok Ts cl mt M (pc, ins, len, a, b, z)) (ht : av_ldk ins = some t) (hk : av_row X j = some xs) (htt : (t + j == 2) = true) (hv : av_rd xs i = some v)
    (kk : av_Good cl D cy A sv as0 M.1.2.2.2.1 p l e R s m args below meth c Q (pc + len, L, v :: st, h, cN, sN)) : av_Good cl D cy A sv as0 M.1.2.2.2.1 p l e R s m args below meth c Q (pc, L, av_i i :: av_s j :: st, h, cN, sN) := by
  obtain ⟨hx, hb, -, -, -, -, -, -, hK, -, hSF, -⟩ := C0
  obtain ⟨hsv, ⟨q0, q1, a1, a2, a3, a4, a5, a6, f, a7, a8⟩, h2, h3, -, h4⟩ := hSF
  obtain ⟨hd, hlen, -⟩ := ok
  intro as ws H locs ls stv has hH hP hD hS hL hst
  obtain ⟨_, stv1, rfl, ⟨n, rfl, hn⟩, hst1⟩ := av_relS_cons hst
  obtain ⟨x, stv2, rfl, hxs, hst2⟩ := av_relS_cons hst1
  obtain ⟨hin, hg⟩ := av_rd_ok (sv := sv) (as := as) hv hn
  have go := fun x (hx : av_dn sv as v x) => kk as ws H locs ls (x :: stv2) has hH hP hD hS hL ⟨hx, hst2⟩
  dsimp only at go hd ⊢
  simp only [beq_iff_eq] at htt
  rw [show x = sv j from hxs]
  cases ins <;> first | (cases ht; done) | skip
  case iaload =>
    have : len = 1 := by simpa [av_lenok, av_len] using hlen
    subst this
    cases ht
    have : j = 2 := by omega
    subst this
    obtain ⟨bb, f2, b1, b2, b3, b4, b5⟩ := h4 xs hk
    rw [b1]
    exact va_sld hx hb b2 b3 b4 hS hin hd (go _ (hg (fun j => .int (f2 j)) (fun k w hw => av_dn0 (b5 k w hw))))
  case baload =>
    have : len = 1 := by simpa [av_lenok, av_len] using hlen
    subst this
    cases ht
    have : j = 1 := by omega
    subst this
    cases hk
    rw [a2]
    exact va_tb hx hb a7 hS hin rfl hd (go _ (hg (fun j => .int (f j)) (fun k w hw => av_dn0 (a8 k w hw))))
  case laload => cases ht; omega
  case aaload => cases ht; omega
theorem av_len_ok {pc len a b k t : Nat} {z : Int} {xs : List av_V} {L : av_L} {st : List av_V} {h : av_H} {cN sN : Nat} (C0 : av_Cx Ts cl D cy A sv X M p R s m args meth c) (ok : av_ok Ts cl mt M (pc, .arraylength, len, a, b, z)) (hk : h[k]? = some (.inl (t, xs)))
    (kk : av_Good cl D cy A sv as0 M.1.2.2.2.1 p l e R s m args below meth c Q (pc + len, L, av_c (Int32.ofNat xs.length) :: st, h, cN, sN)) : av_Good cl D cy A sv as0 M.1.2.2.2.1 p l e R s m args below meth c Q (pc, L, av_r k :: st, h, cN, sN) := by
  obtain ⟨hx, hb, -, -, -, -, -, -, hK, -⟩ := C0
  obtain ⟨hd, hlen, -⟩ := ok
  intro as ws H locs ls stv has hH hP hD hS hL hst
  obtain ⟨_, stv1, rfl, ⟨ad, had, rfl⟩, hst1⟩ := av_relS_cons hst
  obtain ⟨ad', en, e1, e2, hE⟩ := hH.2.2 k _ hk
  cases had.symm.trans e1
  have : len = 1 := by simpa [av_lenok, av_len] using hlen
  subst this
  have go := kk as ws H locs ls (_ :: stv1) has hH hP hD hS hL ⟨av_dn_c _, hst1⟩
  have hty : ∃ ty, (av_tys cy)[t]? = some (cy t, ty) := by
    rcases hE with ⟨q, _⟩ | ⟨rfl, _⟩ | ⟨rfl | rfl, _⟩
    · rcases (show t = 0 ∨ t = 1 ∨ t = 2 by omega) with rfl | rfl | rfl
      · exact ⟨_, rfl⟩
      · exact ⟨_, rfl⟩
      · exact ⟨_, rfl⟩
    · exact ⟨_, rfl⟩
    · exact ⟨_, rfl⟩
    · exact ⟨_, rfl⟩
  obtain ⟨ty, hty⟩ := hty
  rcases hE with ⟨_, f, rfl, hf⟩ | ⟨_, f, rfl, hf⟩ | ⟨_, f, rfl, hf⟩
  · exact va_alen hx hb hK hP k t e2 hty rfl hd go
  · exact va_alen hx hb hK hP k t e2 hty rfl hd go
  · exact va_alen hx hb hK hP k t e2 hty rfl hd go
theorem av_lens_ok {pc len a b j : Nat} {z : Int} {xs : List av_V} {L : av_L} {st : List av_V} {h : av_H} {cN sN : Nat} (C0 : av_Cx Ts cl D cy A sv X M p R s m args meth c) (ok : av_ok Ts cl mt M (pc, .arraylength, len, a, b, z)) (hk : av_row X j = some xs)
    (kk : av_Good cl D cy A sv as0 M.1.2.2.2.1 p l e R s m args below meth c Q (pc + len, L, av_c (Int32.ofNat xs.length) :: st, h, cN, sN)) : av_Good cl D cy A sv as0 M.1.2.2.2.1 p l e R s m args below meth c Q (pc, L, av_s j :: st, h, cN, sN) := by
  obtain ⟨hx, hb, -, -, -, -, -, -, hK, -, hSF, -⟩ := C0
  obtain ⟨hsv, ⟨q0, q1, a1, a2, a3, a4, a5, a6, f, a7, a8⟩, h2, h3, -, h4⟩ := hSF
  obtain ⟨hd, hlen, -⟩ := ok
  intro as ws H locs ls stv has hH hP hD hS hL hst
  obtain ⟨x, stv1, rfl, hxs, hst1⟩ := av_relS_cons hst
  have : len = 1 := by simpa [av_lenok, av_len] using hlen
  subst this
  have go := kk as ws H locs ls (_ :: stv1) has hH hP hD hS hL ⟨av_dn_c _, hst1⟩
  dsimp only at go hd ⊢
  rw [show x = sv j from hxs]
  match j, hk with
  | 1, hk =>
    cases hk
    rw [a2]
    exact va_tlen hx hb a7 hS rfl hd go
  | 2, hk =>
    obtain ⟨bb, f2, b1, b2, b3, b4, b5⟩ := h4 xs hk
    rw [b1]
    exact va_slen hx hb b2 b3 b4 hS hd go
end AVR
