/-! ===== the class: what its walks stand on ===== -/
theorem cw_kne {k k' d d' : Nat} (h : cw_sh[k]? = some d) (h' : cw_sh[k']? = some d') (q : d ≠ d') : k ≠ k' := by
  intro e
  subst e
  rw [h] at h'
  cases h'
  exact q rfl
section CWA
variable {X : cv_X} {mi : Nat} {Q : cv_O → Prop} {pc len a b : Nat} {z : Int} {L : cv_L} {st : List cv_V} {h : cv_H} {G : Int}
theorem ex_as {n : Fin 4} {v : Nat} {L' : cv_L} (ho : cw_ho mi pc (.astore_n n) len a b z) (hL : cv_set L n.val (cv_r v) = L') (k : cw_X X mi Q (pc + len) L' st h) : cw_X X mi Q pc L (cv_r v :: st) h := by subst hL; exact ex_one ho rfl k
theorem ex_asA {n : Fin 4} {v : Nat} (ho : cw_ho mi pc (.astore_n n) len a b z) (k : ∀ L', cv_get L' n.val = some (cv_r v) → cw_Lk L L' n.val → cw_X X mi Q (pc + len) L' st h) : cw_X X mi Q pc L (cv_r v :: st) h := ex_as ho rfl (k _ (cw_gs_self _ _ _) cw_Lk_set)
theorem ex_pfr {ix k ci d d' v : Nat} {fs : List cw_A} (ho : cw_ho mi pc (.putfield ix) len ci b z) (hT : cw_T G h) (hk : cw_sh[k]? = some d) (hD : cw_Ds[d]? = some (.inr (.inr (.inr (ci, fs))))) (hA : fs[b]? = some (.inr (.inr d'))) (hd : d' < 1000) (hv : cw_sh[v]? = some d') (hf : cv_fit z.toNat (cv_r v) = true) (kk : ∀ h', cw_T G h' → cw_Wr h h' k b (cv_r v) → cw_X X mi Q (pc + len) L st h') : cw_X X mi Q pc L (cv_r v :: cv_r k :: st) h := ex_pf ho hT hk hD hA (.inl ⟨hd, v, rfl, hv⟩) hf kk
end CWA
/-- the parts of a plan -/
def zps (i : Nat) : Nat := if i ≤ 1 then i + 1 else if i ≤ 8 then i - 1 else if i ≤ 13 then i - 2 else i - 3
def zPL (b : Nat) (h : cv_H) : Prop := cw_at h 50 2 = some (cv_r b) ∧ (∀ i, i ∈ [0, 1, 4, 5, 6, 7, 8, 10, 11, 12, 13, 15, 16, 17, 18] → cw_at h b i = some (cv_r (b + zps i))) ∧ ∀ i, i < 4 → cw_at h (b + 6) i = some (cv_r (b + 16 + 2 * i))
theorem zPL_fr {b m : Nat} {h h' : cv_H} (hb : b = 2 ∨ b = 26) (C : cw_Fr cw_Ds cw_sh m h h') (q : ([0, 1, 4, 5, 6, 7, 8, 10, 11, 12, 13, 15, 16, 17, 18].all (fun i => !cw_bit m 4 i) && (!cw_bit m 5 2 && !cw_bit m 33 0)) = true) (hp : zPL b h) : zPL b h' := by
  rw [Bool.and_eq_true, Bool.and_eq_true, List.all_eq_true] at q
  have k4 : cw_sh[b]? = some 4 := by rcases hb with rfl | rfl <;> rfl
  have k6 : cw_sh[b + 6]? = some 33 := by rcases hb with rfl | rfl <;> rfl
  refine ⟨(C.2 50 5 2 rfl ?_).trans hp.1, fun i hi => (C.2 b 4 i k4 ?_).trans (hp.2.1 i hi), fun i hi => (C.2 (b + 6) 33 i k6 ?_).trans (hp.2.2 i hi)⟩
  · show cw_bit m 5 2 = false
    simpa using q.2.1
  · show cw_bit m 4 i = false
    simpa using q.1 i hi
  · show cw_bit m 33 0 = false
    simpa using q.2.2
def zst {α : Type} (z : (Int × Nat) ⊕ (α × Nat)) : (Int × Nat) ⊕ Nat := match z with
  | .inl e => .inl e
  | .inr (_, q) => .inr q
def zvl (z : (Int × Nat) ⊕ (Int × Nat)) : Int := match z with
  | .inl _ => 0
  | .inr (v, _) => v
theorem zst_r {α : Type} {z : (Int × Nat) ⊕ (α × Nat)} {q : Nat} (h : zst z = .inr q) : ∃ v, z = .inr (v, q) := by
  rcases z with e | ⟨v, p⟩
  · cases h
  · cases h; exact ⟨v, rfl⟩
theorem zbd_r {α β : Type} {S : (Int × Nat) ⊕ β} {f : β → (Int × Nat) ⊕ α} {r : α} (h : zbd S f = .inr r) : ∃ q, S = .inr q ∧ f q = .inr r := by
  rcases S with e | q
  · cases h
  · exact ⟨q, rfl, h⟩
theorem zbd_s {α β : Type} {v : β} {q : Nat} {f : Nat → (Int × Nat) ⊕ α} {z : (Int × Nat) ⊕ α} (h : zbd (zst (.inr (v, q))) f = z) : f q = z := h
theorem zn_v {t : Nat → Int} {n p : Nat} {lo hi : Int} {z : (Int × Nat) ⊕ (Int × Nat)} (h : zn t n lo hi p = z) : zvl z = 0 ∨ lo ≤ zvl z ∧ zvl z ≤ hi := by
  rcases z with e | ⟨v, q⟩
  · exact .inl rfl
  · exact .inr (zn_rg h)
theorem zvl_m {t : Nat → Int} {n p : Nat} {lo hi : Int} {z : (Int × Nat) ⊕ (Int × Nat)} (h : zn t n lo hi p = z) : zvl z = 0 ∨ lo ≤ zvl z ∧ zvl z ≤ hi := zn_v h
theorem zvl_n {t : Nat → Int} {n : Nat} {lo hi : Int} {S : (Int × Nat) ⊕ Nat} {z : (Int × Nat) ⊕ (Int × Nat)} (h : zbd S (zn t n lo hi) = z) : zvl z = 0 ∨ lo ≤ zvl z ∧ zvl z ≤ hi := by
  rcases S with e | q
  · subst h; exact .inl rfl
  · exact zn_v h
theorem zCr_i {t : Nat → Int} {n : Nat} {h' : cv_H} {x : Int32} {z : (Int × Nat) ⊕ (Int × Nat)} (d : zCr t n h' x z) : x.toInt = zvl z ∧ zCs t n (zst z) h' := by
  rcases d with ⟨v, q, rfl, e, s⟩ | ⟨e, rfl, x0, s⟩
  · exact ⟨e, s⟩
  · exact ⟨x0, s⟩
theorem zCs_good {t : Nat → Int} {n : Nat} {S : (Int × Nat) ⊕ Nat} {h : cv_H} (hS : zCs t n S h) (h4 : ri_at h 50 4 = 0) : ∃ q, S = .inr q := by
  rcases S with ⟨f, a⟩ | q
  · have := hS.1
    have := hS.2.2
    omega
  · exact ⟨q, rfl⟩
theorem zCs_bad {t : Nat → Int} {n : Nat} {S : (Int × Nat) ⊕ Nat} {h : cv_H} (hS : zCs t n S h) (h4 : ¬ ri_at h 50 4 = 0) : ∃ e, S = .inl e := by
  rcases S with e | q
  · exact ⟨e, rfl⟩
  · exact absurd hS.2.2.1 h4
theorem zCs_at {t : Nat → Int} {n p : Nat} {h : cv_H} (hS : zCs t n (.inr p) h) : p ≤ n ∧ ri_at h 51 2 = n ∧ ri_at h 51 5 = (za t n p : Nat) ∧ ri_at h 51 3 = (zx t n p : Nat) ∧ tz_rel (zk t n p) (zw t n p) (ri_at h 51 4) (ri_at h 51 6) ∧ ri_at h 50 4 = 0 := ⟨hS.1, hS.2.1.1, hS.2.1.2.1, hS.2.1.2.2.1, hS.2.1.2.2.2, hS.2.2.1⟩
theorem zCs_eq {t : Nat → Int} {n : Nat} {S : (Int × Nat) ⊕ Nat} {h h' : cv_H} (hS : zCs t n S h) (e4 : ri_at h' 50 4 = ri_at h 50 4) (e5 : ri_at h' 50 5 = ri_at h 50 5) (e : ∀ i, 2 ≤ i → i ≤ 6 → ri_at h' 51 i = ri_at h 51 i) : zCs t n S h' := by
  rcases S with ⟨f, a⟩ | q
  · obtain ⟨a1, a2, a3⟩ := hS
    exact ⟨e4.trans a1, e5.trans a2, a3⟩
  · obtain ⟨a1, a2, a3, a4⟩ := hS
    refine ⟨a1, ?_, e4.trans a3, e5.trans a4⟩
    unfold zC at a2 ⊢
    rw [e 2 (by omega) (by omega), e 3 (by omega) (by omega), e 4 (by omega) (by omega), e 5 (by omega) (by omega), e 6 (by omega) (by omega)]
    exact a2
theorem zCs_wr {t : Nat → Int} {n k i d : Nat} {v : cv_V} {S : (Int × Nat) ⊕ Nat} {h h' : cv_H} (w : cw_Wr h h' k i v) (hk : cw_sh[k]? = some d) (hS : zCs t n S h) (q : d ≠ 5 ∧ d ≠ 6 ∨ d = 5 ∧ i ≠ 4 ∧ i ≠ 5) : zCs t n S h' := by
  have e1 : 51 ≠ k := by
    rcases q with q | q
    · exact cw_kne (k := 51) (d := 6) rfl hk (Ne.symm q.2)
    · exact cw_kne (k := 51) (d := 6) rfl hk (by omega)
  have e0 : ∀ j, j = 4 ∨ j = 5 → 50 ≠ k ∨ j ≠ i := by
    intro j hj
    rcases q with q | q
    · exact .inl (cw_kne (k := 50) (d := 5) rfl hk (Ne.symm q.1))
    · exact .inr (by omega)
  exact zCs_eq hS (ri_ne w (e0 4 (.inl rfl))) (ri_ne w (e0 5 (.inr rfl))) (fun i _ _ => ri_ne w (.inl e1))
theorem zCs_fr {t : Nat → Int} {n m : Nat} {S : (Int × Nat) ⊕ Nat} {h h' : cv_H} (C : cw_Fr cw_Ds cw_sh m h h') (q : (!cw_bit m 5 4 && !cw_bit m 5 5 && [2, 3, 4, 5, 6].all (fun i => !cw_bit m 6 i)) = true) (hS : zCs t n S h) : zCs t n S h' := by
  rw [Bool.and_eq_true, Bool.and_eq_true, List.all_eq_true] at q
  refine zCs_eq hS (ri_frf C (k := 50) (d := 5) rfl rfl (by simpa using q.1.1)) (ri_frf C (k := 50) (d := 5) rfl rfl (by simpa using q.1.2)) (fun i h1 h2 => ri_frf C (k := 51) (d := 6) rfl rfl ?_)
  have := q.2 i (by
    have : i = 2 ∨ i = 3 ∨ i = 4 ∨ i = 5 ∨ i = 6 := by omega
    rcases this with rfl | rfl | rfl | rfl | rfl <;> decide)
  simpa using this
/-- what is told of the other gates stays -/
def zOT (K : Nat) (h h' : cv_H) : Prop := ∀ k : Nat, cw_sh[k]? = some 7 → k ≠ K → ri_at h' k 14 = ri_at h k 14 ∧ ri_at h' k 15 = ri_at h k 15
theorem zOT_0 {K : Nat} {h : cv_H} : zOT K h h := fun _ _ _ => ⟨rfl, rfl⟩
theorem zOT_tr {K : Nat} {h h' h'' : cv_H} (a : zOT K h h') (b : zOT K h' h'') : zOT K h h'' := fun k q r => ⟨(b k q r).1.trans (a k q r).1, (b k q r).2.trans (a k q r).2⟩
theorem zOT_K {K i : Nat} {v : cv_V} {h h' h'' : cv_H} (w : cw_Wr h' h'' K i v) (a : zOT K h h') : zOT K h h'' := fun k q r => ⟨(ri_ne w (.inl r)).trans (a k q r).1, (ri_ne w (.inl r)).trans (a k q r).2⟩
theorem zOT_d {K k i d : Nat} {v : cv_V} {h h' h'' : cv_H} (w : cw_Wr h' h'' k i v) (hk : cw_sh[k]? = some d) (hd : 7 ≠ d) (a : zOT K h h') : zOT K h h'' := fun k q r => ⟨(ri_ne w (.inl (cw_kne q hk hd))).trans (a k q r).1, (ri_ne w (.inl (cw_kne q hk hd))).trans (a k q r).2⟩
theorem zOT_fr {K m : Nat} {h h' h'' : cv_H} (C : cw_Fr cw_Ds cw_sh m h' h'') (b : (!cw_bit m 7 14 && !cw_bit m 7 15) = true) (a : zOT K h h') : zOT K h h'' := by
  rw [Bool.and_eq_true] at b
  exact fun k q r => ⟨(ri_frf C q rfl (by simpa using b.1)).trans (a k q r).1, (ri_frf C q rfl (by simpa using b.2)).trans (a k q r).2⟩
/-- the words of the class as the reference numbers them -/
theorem rl_pw {k w kc vc : Int} (h : tz_rel k w kc vc) : (k = 1 ↔ kc = 2) ∧ (kc = 2 → 0 ≤ vc ∧ vc ≤ 33 ∧ (vc ≤ 12 → w = vc) ∧ (vc = 13 → w = 32) ∧ (14 ≤ vc → vc ≤ 16 → w = vc - 1) ∧ (17 ≤ vc → vc ≤ 18 → w = vc + 11) ∧ (19 ≤ vc → vc ≤ 23 → w = vc - 3) ∧ (24 ≤ vc → vc ≤ 27 → w = vc) ∧ (28 ≤ vc → vc ≤ 29 → w = vc + 2) ∧ (vc = 30 → w = 33) ∧ (31 ≤ vc → w = vc - 10)) := by
  unfold tz_rel at h
  rcases h with h | h | h | h | h | h | h
  · refine ⟨by omega, fun q => ?_⟩; omega
  · obtain ⟨h1, h2, h3, h4, h5, h6, h7⟩ := h
    refine ⟨by omega, fun _ => ?_⟩
    have P : ∀ i : Fin 34, ∀ w : Int, tz_ri.getD i.1 99 = w → ((i.1 : Int) ≤ 12 → w = (i.1 : Int)) ∧ ((i.1 : Int) = 13 → w = 32) ∧ (14 ≤ (i.1 : Int) → (i.1 : Int) ≤ 16 → w = (i.1 : Int) - 1) ∧ (17 ≤ (i.1 : Int) → (i.1 : Int) ≤ 18 → w = (i.1 : Int) + 11) ∧ (19 ≤ (i.1 : Int) → (i.1 : Int) ≤ 23 → w = (i.1 : Int) - 3) ∧ (24 ≤ (i.1 : Int) → (i.1 : Int) ≤ 27 → w = (i.1 : Int)) ∧ (28 ≤ (i.1 : Int) → (i.1 : Int) ≤ 29 → w = (i.1 : Int) + 2) ∧ ((i.1 : Int) = 30 → w = 33) ∧ (31 ≤ (i.1 : Int) → w = (i.1 : Int) - 10) := by
      intro i w e
      subst e
      revert i
      decide +kernel
    have Q := P ⟨vc.toNat, by omega⟩ w h7
    have e : ((vc.toNat : Nat) : Int) = vc := by omega
    simp only [e] at Q
    exact ⟨h5, h6, Q⟩
  · refine ⟨by omega, fun q => ?_⟩; omega
  · obtain ⟨h1, h2, -⟩ := h
    refine ⟨by omega, fun q => ?_⟩; omega
  · refine ⟨⟨fun q => ?_, fun q => ?_⟩, fun q => ?_⟩ <;> omega
  · refine ⟨by omega, fun q => ?_⟩; omega
  · refine ⟨by omega, fun q => ?_⟩; omega
section TZ
variable {G : Int} {X : cv_X} {Q : cv_O → Prop} {t : Nat → Int}
theorem ct_stepC {h0 : cv_H} {n p : Nat} (ht : ∀ i, t i = ri_at h0 1 i % 256) (hwd : ∀ i, i < 34 → ri_at h0 52 i = tz_wc.getD i 0) (hn9 : n ≤ 900) (hT : cw_T G h0) (hS : zCs t n (.inr p) h0) (hQ : ∀ h', cw_T G h' → cw_Fr cw_Ds cw_sh kk_X6_step.2.2.2.2.2.1 h0 h' → zCs t n (.inr (zx t n p)) h' → Q (none, h')) : cw_X X 78 Q 0 (cv_ent 0 [cv_r 51]) [] h0 := by
  obtain ⟨a1, a2, a3, a4, a5, a6⟩ := zCs_at hS
  exact ct_step (p := zx t n p) ht hwd hT hn9 a2 a4 (fun h' b1 b2 b3 b4 b5 b6 => hQ h' b1 b2 ⟨zx_le a1, ⟨b3, b4, b5, b6⟩, (ri_frf b2 (k := 50) (d := 5) rfl rfl (by decide +kernel)).trans a6, (ri_frf b2 (k := 50) (d := 5) rfl rfl (by decide +kernel)).trans hS.2.2.2⟩)
theorem ct_failP {h0 : cv_H} {n p : Nat} (hT : cw_T G h0) (hS : zCs t n (.inr p) h0) (f : Int32) {c : Int} (hf : f.toInt = c) (hc : 1 ≤ c) (hQ : ∀ (x : Int32) h', cw_T G h' → cw_Fr cw_Ds cw_sh kk_X5_fail.2.2.2.2.2.1 h0 h' → x.toInt = 0 → zCs t n (.inl (c, za t n p)) h' → Q (some (cv_i x), h')) : cw_X X 61 Q 0 (cv_ent 0 [cv_r 50, cv_i f]) [] h0 := by
  obtain ⟨a1, a2, a3, a4, a5, a6⟩ := zCs_at hS
  refine ct_fail hT f (fun x h' b1 b2 b3 b4 => hQ x h' b1 b2 b3 ?_)
  rcases b4 with b4 | b4
  · exact ⟨b4.2.1.trans hf, b4.2.2.trans a3, hc⟩
  · exact absurd a6 b4.1
theorem ct_failB {h0 : cv_H} {n : Nat} (hT : cw_T G h0) {e : Int × Nat} (hS : zCs t n (.inl e) h0) (f : Int32) (hQ : ∀ (x : Int32) h', cw_T G h' → cw_Fr cw_Ds cw_sh kk_X5_fail.2.2.2.2.2.1 h0 h' → x.toInt = 0 → zCs t n (.inl e) h' → Q (some (cv_i x), h')) : cw_X X 61 Q 0 (cv_ent 0 [cv_r 50, cv_i f]) [] h0 := by
  obtain ⟨c, a⟩ := e
  obtain ⟨a1, a2, a3⟩ := hS
  refine ct_fail hT f (fun x h' b1 b2 b3 b4 => hQ x h' b1 b2 b3 ?_)
  rcases b4 with b4 | b4
  · omega
  · exact ⟨b4.2.1.trans a1, b4.2.2.trans a2, a3⟩
theorem ct_nameSG {h0 : cv_H} {n b : Nat} (hb : b = 2 ∨ b = 26) (ht : ∀ i, t i = ri_at h0 1 i % 256) (hwd : ∀ i, i < 34 → ri_at h0 52 i = tz_wc.getD i 0) (hn9 : n ≤ 900) (hT : cw_T G h0) {M : Int32} {l : List Int} (hM : M.toInt = l.length) (hlm : l.length < 4) (hl : zNm h0 (b + 7) 0 l) {S : (Int × Nat) ⊕ Nat} (hS : zCs t n S h0) (hQ : ∀ (x : Int32) h', cw_T G h' → cw_Fr cw_Ds cw_sh kk_X5_readNewName.2.2.2.2.2.1 h0 h' → zCr t n h' x (zbd S (zm t n l)) → Q (some (cv_i x), h')) : cw_X X 64 Q 0 (cv_ent 0 [cv_r 50, cv_r (b + 7), cv_i M]) [] h0 := by
  rcases hb with rfl | rfl
  · exact ct_nameG2 ht hwd hn9 hT hM hlm (fun k hk => by have := hl k hk; rw [Nat.zero_add] at this; exact this) hS hQ
  · exact ct_nameG26 ht hwd hn9 hT hM hlm (fun k hk => by have := hl k hk; rw [Nat.zero_add] at this; exact this) hS hQ
theorem ct_nameSW {h0 : cv_H} {n b : Nat} (hb : b = 2 ∨ b = 26) (ht : ∀ i, t i = ri_at h0 1 i % 256) (hwd : ∀ i, i < 34 → ri_at h0 52 i = tz_wc.getD i 0) (hn9 : n ≤ 900) (hT : cw_T G h0) {M : Int32} {l : List Int} (hM : M.toInt = l.length) (hlm : l.length < 6) (hl : zNm h0 (b + 8) 0 l) {S : (Int × Nat) ⊕ Nat} (hS : zCs t n S h0) (hQ : ∀ (x : Int32) h', cw_T G h' → cw_Fr cw_Ds cw_sh kk_X5_readNewName_1.2.2.2.2.2.1 h0 h' → zCr t n h' x (zbd S (zm t n l)) → Q (some (cv_i x), h')) : cw_X X 64 Q 0 (cv_ent 0 [cv_r 50, cv_r (b + 8), cv_i M]) [] h0 := by
  rcases hb with rfl | rfl
  · exact ct_nameW2 ht hwd hn9 hT hM hlm (fun k hk => by have := hl k hk; rw [Nat.zero_add] at this; exact this) hS hQ
  · exact ct_nameW26 ht hwd hn9 hT hM hlm (fun k hk => by have := hl k hk; rw [Nat.zero_add] at this; exact this) hS hQ
theorem ct_nameSC {h0 : cv_H} {n b : Nat} (hb : b = 2 ∨ b = 26) (ht : ∀ i, t i = ri_at h0 1 i % 256) (hwd : ∀ i, i < 34 → ri_at h0 52 i = tz_wc.getD i 0) (hn9 : n ≤ 900) (hT : cw_T G h0) {M : Int32} {l : List Int} (hM : M.toInt = l.length) (hlm : l.length < 6) (hl : zNm h0 (b + 12) 0 l) {S : (Int × Nat) ⊕ Nat} (hS : zCs t n S h0) (hQ : ∀ (x : Int32) h', cw_T G h' → cw_Fr cw_Ds cw_sh kk_X5_readNewName_2.2.2.2.2.2.1 h0 h' → zCr t n h' x (zbd S (zm t n l)) → Q (some (cv_i x), h')) : cw_X X 64 Q 0 (cv_ent 0 [cv_r 50, cv_r (b + 12), cv_i M]) [] h0 := by
  rcases hb with rfl | rfl
  · exact ct_nameC2 ht hwd hn9 hT hM hlm (fun k hk => by have := hl k hk; rw [Nat.zero_add] at this; exact this) hS hQ
  · exact ct_nameC26 ht hwd hn9 hT hM hlm (fun k hk => by have := hl k hk; rw [Nat.zero_add] at this; exact this) hS hQ
theorem oq_X6_isWord_0 : cw_ho 83 0 (.aload_n 0) 1 0 0 0 := rfl
theorem oq_X6_isWord_1 : cw_ho 83 1 (.getfield 58) 3 6 4 0 := rfl
theorem oq_X6_isWord_4 : cw_ho 83 4 (.iconst 2) 1 0 0 0 := rfl
theorem oq_X6_isWord_5 : cw_ho 83 5 (.if_icmp .ne 15) 3 0 0 0 := rfl
theorem oq_X6_isWord_8 : cw_ho 83 8 (.aload_n 0) 1 0 0 0 := rfl
theorem oq_X6_isWord_9 : cw_ho 83 9 (.getfield 55) 3 6 6 0 := rfl
theorem oq_X6_isWord_12 : cw_ho 83 12 (.iload_n 1) 1 0 0 0 := rfl
theorem oq_X6_isWord_13 : cw_ho 83 13 (.if_icmp .ne 7) 3 0 0 0 := rfl
theorem oq_X6_isWord_16 : cw_ho 83 16 (.iconst 1) 1 0 0 0 := rfl
theorem oq_X6_isWord_17 : cw_ho 83 17 (.goto 4) 3 0 0 0 := rfl
theorem oq_X6_isWord_20 : cw_ho 83 20 (.iconst 0) 1 0 0 0 := rfl
theorem oq_X6_isWord_21 : cw_ho 83 21 (.ireturn) 1 0 0 0 := rfl
theorem ct_isWord {h : cv_H} (hT : cw_T G h) (w : Int32) {kc vc : Int} (hk : ri_at h 51 4 = kc) (hv : ri_at h 51 6 = vc) (hQ : ∀ x : Int32, (x.toInt = 1 ∧ (kc = 2 ∧ vc = w.toInt) ∨ x.toInt = 0 ∧ ¬ (kc = 2 ∧ vc = w.toInt)) → Q (some (cv_i x), h)) : cw_X X 83 Q 0 (cv_ent 0 [cv_r 51, cv_i w]) [] h := by
  refine ex_al oq_X6_isWord_0 rfl ?_
  obtain ⟨x11, ax11, rx11, lx11, ux11⟩ := ri_fld (k := 51) (d := 6) (f := 4) hT rfl rfl rfl
  try dsimp only at lx11 ux11
  refine ex_gf oq_X6_isWord_1 hT (k := 51) (d := 6) rfl rfl ax11 ?_
  clear lx11 ux11
  have rx11 := (rx11.symm.trans hk : x11.toInt = kc)
  refine ex_ic oq_X6_isWord_4 (m := 2) (by decide) (fun x12 hx12 => ?_)
  refine ex_if oq_X6_isWord_5 (t := 20) rfl rfl (fun (c13 : ¬ x11.toInt = x12.toInt) => ?_) (fun (c13 : ¬ (¬ x11.toInt = x12.toInt)) => ?_)
  · refine ex_ic oq_X6_isWord_20 (m := 0) (by decide) (fun x14 hx14 => ?_)
    exact ex_retb oq_X6_isWord_21 rfl (by omega) (by omega) (hQ x14 (by omega))
  · refine ex_al oq_X6_isWord_8 rfl ?_
    obtain ⟨x15, ax15, rx15, lx15, ux15⟩ := ri_fld (k := 51) (d := 6) (f := 6) hT rfl rfl rfl
    try dsimp only at lx15 ux15
    refine ex_gf oq_X6_isWord_9 hT (k := 51) (d := 6) rfl rfl ax15 ?_
    clear lx15 ux15
    have rx15 := (rx15.symm.trans hv : x15.toInt = vc)
    refine ex_il oq_X6_isWord_12 rfl ?_
    refine ex_if oq_X6_isWord_13 (t := 20) rfl rfl (fun (c16 : ¬ x15.toInt = w.toInt) => ?_) (fun (c16 : ¬ (¬ x15.toInt = w.toInt)) => ?_)
    · refine ex_ic oq_X6_isWord_20 (m := 0) (by decide) (fun x17 hx17 => ?_)
      exact ex_retb oq_X6_isWord_21 rfl (by omega) (by omega) (hQ x17 (by omega))
    · refine ex_ic oq_X6_isWord_16 (m := 1) (by decide) (fun x18 hx18 => ?_)
      refine ex_go oq_X6_isWord_17 (t := 21) rfl rfl ?_
      exact ex_retb oq_X6_isWord_21 rfl (by omega) (by omega) (hQ x18 (by omega))
theorem oq_X6_isWordFrom_0 : cw_ho 84 0 (.aload_n 0) 1 0 0 0 := rfl
theorem oq_X6_isWordFrom_1 : cw_ho 84 1 (.getfield 58) 3 6 4 0 := rfl
theorem oq_X6_isWordFrom_4 : cw_ho 84 4 (.iconst 2) 1 0 0 0 := rfl
theorem oq_X6_isWordFrom_5 : cw_ho 84 5 (.if_icmp .ne 23) 3 0 0 0 := rfl
theorem oq_X6_isWordFrom_8 : cw_ho 84 8 (.aload_n 0) 1 0 0 0 := rfl
theorem oq_X6_isWordFrom_9 : cw_ho 84 9 (.getfield 55) 3 6 6 0 := rfl
theorem oq_X6_isWordFrom_12 : cw_ho 84 12 (.iload_n 1) 1 0 0 0 := rfl
theorem oq_X6_isWordFrom_13 : cw_ho 84 13 (.if_icmp .lt 15) 3 0 0 0 := rfl
theorem oq_X6_isWordFrom_16 : cw_ho 84 16 (.aload_n 0) 1 0 0 0 := rfl
theorem oq_X6_isWordFrom_17 : cw_ho 84 17 (.getfield 55) 3 6 6 0 := rfl
theorem oq_X6_isWordFrom_20 : cw_ho 84 20 (.iload_n 2) 1 0 0 0 := rfl
theorem oq_X6_isWordFrom_21 : cw_ho 84 21 (.if_icmp .gt 7) 3 0 0 0 := rfl
theorem oq_X6_isWordFrom_24 : cw_ho 84 24 (.iconst 1) 1 0 0 0 := rfl
theorem oq_X6_isWordFrom_25 : cw_ho 84 25 (.goto 4) 3 0 0 0 := rfl
theorem oq_X6_isWordFrom_28 : cw_ho 84 28 (.iconst 0) 1 0 0 0 := rfl
theorem oq_X6_isWordFrom_29 : cw_ho 84 29 (.ireturn) 1 0 0 0 := rfl
theorem ct_isWordFrom {h : cv_H} (hT : cw_T G h) (a c : Int32) {kc vc : Int} (hk : ri_at h 51 4 = kc) (hv : ri_at h 51 6 = vc) (hQ : ∀ x : Int32, (x.toInt = 1 ∧ (kc = 2 ∧ a.toInt ≤ vc ∧ vc ≤ c.toInt) ∨ x.toInt = 0 ∧ ¬ (kc = 2 ∧ a.toInt ≤ vc ∧ vc ≤ c.toInt)) → Q (some (cv_i x), h)) : cw_X X 84 Q 0 (cv_ent 0 [cv_r 51, cv_i a, cv_i c]) [] h := by
  refine ex_al oq_X6_isWordFrom_0 rfl ?_
  obtain ⟨x11, ax11, rx11, lx11, ux11⟩ := ri_fld (k := 51) (d := 6) (f := 4) hT rfl rfl rfl
  try dsimp only at lx11 ux11
  refine ex_gf oq_X6_isWordFrom_1 hT (k := 51) (d := 6) rfl rfl ax11 ?_
  clear lx11 ux11
  have rx11 := (rx11.symm.trans hk : x11.toInt = kc)
  refine ex_ic oq_X6_isWordFrom_4 (m := 2) (by decide) (fun x12 hx12 => ?_)
  refine ex_if oq_X6_isWordFrom_5 (t := 28) rfl rfl (fun (c13 : ¬ x11.toInt = x12.toInt) => ?_) (fun (c13 : ¬ (¬ x11.toInt = x12.toInt)) => ?_)
  · refine ex_ic oq_X6_isWordFrom_28 (m := 0) (by decide) (fun x14 hx14 => ?_)
    exact ex_retb oq_X6_isWordFrom_29 rfl (by omega) (by omega) (hQ x14 (by omega))
  · refine ex_al oq_X6_isWordFrom_8 rfl ?_
    obtain ⟨x15, ax15, rx15, lx15, ux15⟩ := ri_fld (k := 51) (d := 6) (f := 6) hT rfl rfl rfl
    try dsimp only at lx15 ux15
    refine ex_gf oq_X6_isWordFrom_9 hT (k := 51) (d := 6) rfl rfl ax15 ?_
    clear lx15 ux15
    have rx15 := (rx15.symm.trans hv : x15.toInt = vc)
    refine ex_il oq_X6_isWordFrom_12 rfl ?_
    refine ex_if oq_X6_isWordFrom_13 (t := 28) rfl rfl (fun (c16 : x15.toInt < a.toInt) => ?_) (fun (c16 : ¬ (x15.toInt < a.toInt)) => ?_)
    · refine ex_ic oq_X6_isWordFrom_28 (m := 0) (by decide) (fun x17 hx17 => ?_)
      exact ex_retb oq_X6_isWordFrom_29 rfl (by omega) (by omega) (hQ x17 (by omega))
    · refine ex_al oq_X6_isWordFrom_16 rfl ?_
      obtain ⟨x18, ax18, rx18, lx18, ux18⟩ := ri_fld (k := 51) (d := 6) (f := 6) hT rfl rfl rfl
      try dsimp only at lx18 ux18
      refine ex_gf oq_X6_isWordFrom_17 hT (k := 51) (d := 6) rfl rfl ax18 ?_
      clear lx18 ux18
      have rx18 := (rx18.symm.trans hv : x18.toInt = vc)
      refine ex_il oq_X6_isWordFrom_20 rfl ?_
      refine ex_if oq_X6_isWordFrom_21 (t := 28) rfl rfl (fun (c19 : c.toInt < x18.toInt) => ?_) (fun (c19 : ¬ (c.toInt < x18.toInt)) => ?_)
      · refine ex_ic oq_X6_isWordFrom_28 (m := 0) (by decide) (fun x20 hx20 => ?_)
        exact ex_retb oq_X6_isWordFrom_29 rfl (by omega) (by omega) (hQ x20 (by omega))
      · refine ex_ic oq_X6_isWordFrom_24 (m := 1) (by decide) (fun x21 hx21 => ?_)
        refine ex_go oq_X6_isWordFrom_25 (t := 29) rfl rfl ?_
        exact ex_retb oq_X6_isWordFrom_29 rfl (by omega) (by omega) (hQ x21 (by omega))
def zkc (w : Int) : Int := if w = 11 then 0 else if w = 10 then 5 else if 19 ≤ w ∧ w ≤ 22 then w - 18 else if w = 23 then 6 else -1
def zmc (k : Int) : Int := if k = 2 then 9999 else if k = 3 then 100 else if k = 4 then 99 else if k = 5 then 60 else if k = 6 then 9999 else -1
theorem oq_X5_kindOf_0 : cw_ho 72 0 (.iload_n 0) 1 0 0 0 := rfl
theorem oq_X5_kindOf_1 : cw_ho 72 1 (.tableswitch 86 10 23 #[81, 71, 86, 86, 86, 86, 86, 86, 86, 73, 75, 77, 79, 83]) 71 0 0 0 := rfl
theorem oq_X5_kindOf_72 : cw_ho 72 72 (.iconst 0) 1 0 0 0 := rfl
theorem oq_X5_kindOf_73 : cw_ho 72 73 (.ireturn) 1 0 0 0 := rfl
theorem oq_X5_kindOf_74 : cw_ho 72 74 (.iconst 1) 1 0 0 0 := rfl
theorem oq_X5_kindOf_75 : cw_ho 72 75 (.ireturn) 1 0 0 0 := rfl
theorem oq_X5_kindOf_76 : cw_ho 72 76 (.iconst 2) 1 0 0 0 := rfl
theorem oq_X5_kindOf_77 : cw_ho 72 77 (.ireturn) 1 0 0 0 := rfl
theorem oq_X5_kindOf_78 : cw_ho 72 78 (.iconst 3) 1 0 0 0 := rfl
theorem oq_X5_kindOf_79 : cw_ho 72 79 (.ireturn) 1 0 0 0 := rfl
theorem oq_X5_kindOf_80 : cw_ho 72 80 (.iconst 4) 1 0 0 0 := rfl
theorem oq_X5_kindOf_81 : cw_ho 72 81 (.ireturn) 1 0 0 0 := rfl
theorem oq_X5_kindOf_82 : cw_ho 72 82 (.iconst 5) 1 0 0 0 := rfl
theorem oq_X5_kindOf_83 : cw_ho 72 83 (.ireturn) 1 0 0 0 := rfl
theorem oq_X5_kindOf_84 : cw_ho 72 84 (.bipush 6) 2 0 0 0 := rfl
theorem oq_X5_kindOf_86 : cw_ho 72 86 (.ireturn) 1 0 0 0 := rfl
theorem oq_X5_kindOf_87 : cw_ho 72 87 (.iconst (-1)) 1 0 0 0 := rfl
theorem oq_X5_kindOf_88 : cw_ho 72 88 (.ireturn) 1 0 0 0 := rfl
theorem ct_kindOf {h : cv_H} (w : Int32) (hQ : ∀ x : Int32, x.toInt = zkc w.toInt → Q (some (cv_i x), h)) : cw_X X 72 Q 0 (cv_ent 0 [cv_i w]) [] h := by
  refine ex_il oq_X5_kindOf_0 rfl ?_
  refine ex_tsw oq_X5_kindOf_1 rfl (fun c11 => ⟨rfl, ?_⟩) (fun i hi c11 => ?_)
  · show cw_X _ _ _ 87 _ _ _
    refine ex_ic oq_X5_kindOf_87 (m := (-1)) (by decide) (fun x12 hx12 => ?_)
    exact ex_reti oq_X5_kindOf_88 rfl (hQ x12 (by unfold zkc; (repeat' split) <;> omega))
  · match i, hi, c11 with
    | 0, _, c11 =>
      refine ⟨rfl, ?_⟩
      show cw_X _ _ _ 82 _ _ _
      refine ex_ic oq_X5_kindOf_82 (m := 5) (by decide) (fun x13 hx13 => ?_)
      exact ex_reti oq_X5_kindOf_83 rfl (hQ x13 (by unfold zkc; (repeat' split) <;> omega))
    | 1, _, c11 =>
      refine ⟨rfl, ?_⟩
      show cw_X _ _ _ 72 _ _ _
      refine ex_ic oq_X5_kindOf_72 (m := 0) (by decide) (fun x14 hx14 => ?_)
      exact ex_reti oq_X5_kindOf_73 rfl (hQ x14 (by unfold zkc; (repeat' split) <;> omega))
    | 2, _, c11 =>
      refine ⟨rfl, ?_⟩
      show cw_X _ _ _ 87 _ _ _
      refine ex_ic oq_X5_kindOf_87 (m := (-1)) (by decide) (fun x15 hx15 => ?_)
      exact ex_reti oq_X5_kindOf_88 rfl (hQ x15 (by unfold zkc; (repeat' split) <;> omega))
    | 3, _, c11 =>
      refine ⟨rfl, ?_⟩
      show cw_X _ _ _ 87 _ _ _
      refine ex_ic oq_X5_kindOf_87 (m := (-1)) (by decide) (fun x16 hx16 => ?_)
      exact ex_reti oq_X5_kindOf_88 rfl (hQ x16 (by unfold zkc; (repeat' split) <;> omega))
    | 4, _, c11 =>
      refine ⟨rfl, ?_⟩
      show cw_X _ _ _ 87 _ _ _
      refine ex_ic oq_X5_kindOf_87 (m := (-1)) (by decide) (fun x17 hx17 => ?_)
      exact ex_reti oq_X5_kindOf_88 rfl (hQ x17 (by unfold zkc; (repeat' split) <;> omega))
    | 5, _, c11 =>
      refine ⟨rfl, ?_⟩
      show cw_X _ _ _ 87 _ _ _
      refine ex_ic oq_X5_kindOf_87 (m := (-1)) (by decide) (fun x18 hx18 => ?_)
      exact ex_reti oq_X5_kindOf_88 rfl (hQ x18 (by unfold zkc; (repeat' split) <;> omega))
    | 6, _, c11 =>
      refine ⟨rfl, ?_⟩
      show cw_X _ _ _ 87 _ _ _
      refine ex_ic oq_X5_kindOf_87 (m := (-1)) (by decide) (fun x19 hx19 => ?_)
      exact ex_reti oq_X5_kindOf_88 rfl (hQ x19 (by unfold zkc; (repeat' split) <;> omega))
    | 7, _, c11 =>
      refine ⟨rfl, ?_⟩
      show cw_X _ _ _ 87 _ _ _
      refine ex_ic oq_X5_kindOf_87 (m := (-1)) (by decide) (fun x20 hx20 => ?_)
      exact ex_reti oq_X5_kindOf_88 rfl (hQ x20 (by unfold zkc; (repeat' split) <;> omega))
    | 8, _, c11 =>
      refine ⟨rfl, ?_⟩
      show cw_X _ _ _ 87 _ _ _
      refine ex_ic oq_X5_kindOf_87 (m := (-1)) (by decide) (fun x21 hx21 => ?_)
      exact ex_reti oq_X5_kindOf_88 rfl (hQ x21 (by unfold zkc; (repeat' split) <;> omega))
    | 9, _, c11 =>
      refine ⟨rfl, ?_⟩
      show cw_X _ _ _ 74 _ _ _
      refine ex_ic oq_X5_kindOf_74 (m := 1) (by decide) (fun x22 hx22 => ?_)
      exact ex_reti oq_X5_kindOf_75 rfl (hQ x22 (by unfold zkc; (repeat' split) <;> omega))
    | 10, _, c11 =>
      refine ⟨rfl, ?_⟩
      show cw_X _ _ _ 76 _ _ _
      refine ex_ic oq_X5_kindOf_76 (m := 2) (by decide) (fun x23 hx23 => ?_)
      exact ex_reti oq_X5_kindOf_77 rfl (hQ x23 (by unfold zkc; (repeat' split) <;> omega))
    | 11, _, c11 =>
      refine ⟨rfl, ?_⟩
      show cw_X _ _ _ 78 _ _ _
      refine ex_ic oq_X5_kindOf_78 (m := 3) (by decide) (fun x24 hx24 => ?_)
      exact ex_reti oq_X5_kindOf_79 rfl (hQ x24 (by unfold zkc; (repeat' split) <;> omega))
    | 12, _, c11 =>
      refine ⟨rfl, ?_⟩
      show cw_X _ _ _ 80 _ _ _
      refine ex_ic oq_X5_kindOf_80 (m := 4) (by decide) (fun x25 hx25 => ?_)
      exact ex_reti oq_X5_kindOf_81 rfl (hQ x25 (by unfold zkc; (repeat' split) <;> omega))
    | 13, _, c11 =>
      refine ⟨rfl, ?_⟩
      show cw_X _ _ _ 84 _ _ _
      refine ex_bi oq_X5_kindOf_84 (m := 6) (by decide) (fun x26 hx26 => ?_)
      exact ex_reti oq_X5_kindOf_86 rfl (hQ x26 (by unfold zkc; (repeat' split) <;> omega))
    | i + 14, hi, _ => exact absurd hi (by show ¬ i + 14 < 14; omega)
theorem oq_X5_mostOf_0 : cw_ho 73 0 (.iload_n 0) 1 0 0 0 := rfl
theorem oq_X5_mostOf_1 : cw_ho 73 1 (.tableswitch 48 2 6 #[35, 39, 42, 45, 35]) 35 0 0 0 := rfl
theorem oq_X5_mostOf_36 : cw_ho 73 36 (.sipush 9999) 3 0 0 0 := rfl
theorem oq_X5_mostOf_39 : cw_ho 73 39 (.ireturn) 1 0 0 0 := rfl
theorem oq_X5_mostOf_40 : cw_ho 73 40 (.bipush 100) 2 0 0 0 := rfl
theorem oq_X5_mostOf_42 : cw_ho 73 42 (.ireturn) 1 0 0 0 := rfl
theorem oq_X5_mostOf_43 : cw_ho 73 43 (.bipush 99) 2 0 0 0 := rfl
theorem oq_X5_mostOf_45 : cw_ho 73 45 (.ireturn) 1 0 0 0 := rfl
theorem oq_X5_mostOf_46 : cw_ho 73 46 (.bipush 60) 2 0 0 0 := rfl
theorem oq_X5_mostOf_48 : cw_ho 73 48 (.ireturn) 1 0 0 0 := rfl
theorem oq_X5_mostOf_49 : cw_ho 73 49 (.iconst (-1)) 1 0 0 0 := rfl
theorem oq_X5_mostOf_50 : cw_ho 73 50 (.ireturn) 1 0 0 0 := rfl
theorem ct_mostOf {h : cv_H} (w : Int32) (hQ : ∀ x : Int32, x.toInt = zmc w.toInt → Q (some (cv_i x), h)) : cw_X X 73 Q 0 (cv_ent 0 [cv_i w]) [] h := by
  refine ex_il oq_X5_mostOf_0 rfl ?_
  refine ex_tsw oq_X5_mostOf_1 rfl (fun c11 => ⟨rfl, ?_⟩) (fun i hi c11 => ?_)
  · show cw_X _ _ _ 49 _ _ _
    refine ex_ic oq_X5_mostOf_49 (m := (-1)) (by decide) (fun x12 hx12 => ?_)
    exact ex_reti oq_X5_mostOf_50 rfl (hQ x12 (by unfold zmc; (repeat' split) <;> omega))
  · match i, hi, c11 with
    | 0, _, c11 =>
      refine ⟨rfl, ?_⟩
      show cw_X _ _ _ 36 _ _ _
      refine ex_si oq_X5_mostOf_36 (m := 9999) (by decide) (fun x13 hx13 => ?_)
      exact ex_reti oq_X5_mostOf_39 rfl (hQ x13 (by unfold zmc; (repeat' split) <;> omega))
    | 1, _, c11 =>
      refine ⟨rfl, ?_⟩
      show cw_X _ _ _ 40 _ _ _
      refine ex_bi oq_X5_mostOf_40 (m := 100) (by decide) (fun x14 hx14 => ?_)
      exact ex_reti oq_X5_mostOf_42 rfl (hQ x14 (by unfold zmc; (repeat' split) <;> omega))
    | 2, _, c11 =>
      refine ⟨rfl, ?_⟩
      show cw_X _ _ _ 43 _ _ _
      refine ex_bi oq_X5_mostOf_43 (m := 99) (by decide) (fun x15 hx15 => ?_)
      exact ex_reti oq_X5_mostOf_45 rfl (hQ x15 (by unfold zmc; (repeat' split) <;> omega))
    | 3, _, c11 =>
      refine ⟨rfl, ?_⟩
      show cw_X _ _ _ 46 _ _ _
      refine ex_bi oq_X5_mostOf_46 (m := 60) (by decide) (fun x16 hx16 => ?_)
      exact ex_reti oq_X5_mostOf_48 rfl (hQ x16 (by unfold zmc; (repeat' split) <;> omega))
    | 4, _, c11 =>
      refine ⟨rfl, ?_⟩
      show cw_X _ _ _ 36 _ _ _
      refine ex_si oq_X5_mostOf_36 (m := 9999) (by decide) (fun x17 hx17 => ?_)
      exact ex_reti oq_X5_mostOf_39 rfl (hQ x17 (by unfold zmc; (repeat' split) <;> omega))
    | i + 5, hi, _ => exact absurd hi (by show ¬ i + 5 < 5; omega)
end TZ
