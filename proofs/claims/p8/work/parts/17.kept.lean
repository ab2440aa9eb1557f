/-! ===== numbers in slots; what is kept besides the ranges ===== -/
def ri_v (o : Option cv_V) : Int := match o with
  | some (.inl x) => x.toInt
  | _ => 0
def ri_at (h : cv_H) (k i : Nat) : Int := ri_v (cw_at h k i)
theorem ri_of {h : cv_H} {k i : Nat} {x : Int32} (e : cw_at h k i = some (cv_i x)) : ri_at h k i = x.toInt := by unfold ri_at; rw [e]; rfl
theorem ri_eq {h h' : cv_H} {k i : Nat} (e : cw_at h' k i = cw_at h k i) : ri_at h' k i = ri_at h k i := by unfold ri_at; rw [e]
theorem ri_ne {h h' : cv_H} {k i k' i' : Nat} {v : cv_V} (w : cw_Wr h h' k i v) (q : k' ≠ k ∨ i' ≠ i) : ri_at h' k' i' = ri_at h k' i' := ri_eq (w.2.1 k' i' q)
theorem ri_self {h h' : cv_H} {k i : Nat} {x : Int32} (w : cw_Wr h h' k i (cv_i x)) : ri_at h' k i = x.toInt := ri_of w.1
section CWI
variable {G : Int} {h h' : cv_H}
theorem ri_fld {d k ci f : Nat} {fs : List cw_A} {w : cw_W} (hT : cw_T G h) (hk : cw_sh[k]? = some d) (hD : cw_Ds[d]? = some (.inr (.inr (.inr (ci, fs))))) (hA : fs[f]? = some (.inl w)) : ∃ x : Int32, cw_at h k f = some (cv_i x) ∧ ri_at h k f = x.toInt ∧ w.1 ≤ x.toInt ∧ x.toInt ≤ w.2.1 := by
  obtain ⟨vs, h1, h2, h3⟩ := cw_cell_o hD (hT k d hk)
  obtain ⟨v, h4, x, rfl, h5⟩ := h3 f _ hA
  have e : cw_at h k f = some (cv_i x) := by unfold cw_at; rw [h1]; exact h4
  exact ⟨x, e, ri_of e, h5.1, h5.2.1⟩
theorem ri_ref {d k ci f d' k' : Nat} {fs : List cw_A} (hT : cw_T G h) (hk : cw_sh[k]? = some d) (hD : cw_Ds[d]? = some (.inr (.inr (.inr (ci, fs))))) (hA : fs[f]? = some (.inr (.inr d'))) (hd : d' < 1000) (hu : ∀ j : Nat, cw_sh[j]? = some d' → j = k') : cw_at h k f = some (cv_r k') := by
  obtain ⟨vs, h1, h2, h3⟩ := cw_cell_o hD (hT k d hk)
  obtain ⟨v, h4, h5⟩ := h3 f _ hA
  unfold cw_at
  rw [h1]
  rcases h5 with ⟨-, j, rfl, h6⟩ | ⟨j, h6, -⟩
  · rw [hu j h6] at h4; exact h4
  · omega
theorem ri_uniq {d k : Nat} (h : (List.range cw_sh.length).all (fun j => !(cw_sh[j]? == some d) || j == k) = true) : ∀ j : Nat, cw_sh[j]? = some d → j = k := by
  intro j hj
  have hlt := (List.getElem?_eq_some_iff.mp hj).1
  have := List.all_eq_true.mp h j (List.mem_range.mpr hlt)
  rw [hj] at this
  simpa using this
theorem ri_row {d k t m p j : Nat} {rs : List (Int × Int)} (hT : cw_T G h) (hk : cw_sh[k]? = some d) (hD : cw_Ds[d]? = some (.inl (t, m, p, rs))) (hj : j < m) : ∃ x : Int32, cw_at h k j = some (cv_i x) ∧ ri_at h k j = x.toInt ∧ ∃ r, rs[j % p]? = some r ∧ r.1 ≤ x.toInt ∧ x.toInt ≤ r.2 := by
  obtain ⟨xs, h1, h2, h3⟩ := cw_cell_i hD (hT k d hk)
  obtain ⟨y, hy⟩ := cw_get_lt (xs := xs) (j := j) (by omega)
  have e : cw_at h k j = some (cv_i y) := by unfold cw_at; rw [h1]; show (xs[j]?).map _ = _; rw [hy]; rfl
  exact ⟨y, e, ri_of e, h3 j y hy⟩
theorem fr_tape (hT : cw_T G h) : cw_at h 111 0 = some (cv_r 112) := ri_ref hT (k := 111) (f := 0) rfl rfl rfl (by decide) (ri_uniq (by decide +kernel))
theorem fi_tapeSize (hT : cw_T G h) : ∃ x : Int32, cw_at h 111 1 = some (cv_i x) ∧ ri_at h 111 1 = x.toInt ∧ 0 ≤ x.toInt ∧ x.toInt ≤ 900 := ri_fld hT (k := 111) (f := 1) rfl rfl rfl
theorem fi_thrown (hT : cw_T G h) : ∃ x : Int32, cw_at h 111 2 = some (cv_i x) ∧ ri_at h 111 2 = x.toInt ∧ (-2147483648) ≤ x.toInt ∧ x.toInt ≤ 2147483647 := ri_fld hT (k := 111) (f := 2) rfl rfl rfl
theorem fr_words (hT : cw_T G h) : cw_at h 111 3 = some (cv_r 113) := ri_ref hT (k := 111) (f := 3) rfl rfl rfl (by decide) (ri_uniq (by decide +kernel))
theorem fi_fault (hT : cw_T G h) : ∃ x : Int32, cw_at h 111 4 = some (cv_i x) ∧ ri_at h 111 4 = x.toInt ∧ (-2147483648) ≤ x.toInt ∧ x.toInt ≤ 2147483647 := ri_fld hT (k := 111) (f := 4) rfl rfl rfl
theorem fi_faultPlace (hT : cw_T G h) : ∃ x : Int32, cw_at h 111 5 = some (cv_i x) ∧ ri_at h 111 5 = x.toInt ∧ (-2147483648) ≤ x.toInt ∧ x.toInt ≤ 2147483647 := ri_fld hT (k := 111) (f := 5) rfl rfl rfl
theorem fi_stop (hT : cw_T G h) : ∃ x : Int32, cw_at h 111 6 = some (cv_i x) ∧ ri_at h 111 6 = x.toInt ∧ 0 ≤ x.toInt ∧ x.toInt ≤ 900 := ri_fld hT (k := 111) (f := 6) rfl rfl rfl
theorem fi_next (hT : cw_T G h) : ∃ x : Int32, cw_at h 111 7 = some (cv_i x) ∧ ri_at h 111 7 = x.toInt ∧ 0 ≤ x.toInt ∧ x.toInt ≤ 900 := ri_fld hT (k := 111) (f := 7) rfl rfl rfl
theorem fi_kind (hT : cw_T G h) : ∃ x : Int32, cw_at h 111 8 = some (cv_i x) ∧ ri_at h 111 8 = x.toInt ∧ 0 ≤ x.toInt ∧ x.toInt ≤ 6 := ri_fld hT (k := 111) (f := 8) rfl rfl rfl
theorem fi_which (hT : cw_T G h) : ∃ x : Int32, cw_at h 111 9 = some (cv_i x) ∧ ri_at h 111 9 = x.toInt ∧ (-2147483648) ≤ x.toInt ∧ x.toInt ≤ 2147483647 := ri_fld hT (k := 111) (f := 9) rfl rfl rfl
theorem fi_at (hT : cw_T G h) : ∃ x : Int32, cw_at h 111 10 = some (cv_i x) ∧ ri_at h 111 10 = x.toInt ∧ 0 ≤ x.toInt ∧ x.toInt ≤ 900 := ri_fld hT (k := 111) (f := 10) rfl rfl rfl
theorem fi_got (hT : cw_T G h) : ∃ x : Int32, cw_at h 111 11 = some (cv_i x) ∧ ri_at h 111 11 = x.toInt ∧ (-2147483648) ≤ x.toInt ∧ x.toInt ≤ 2147483647 := ri_fld hT (k := 111) (f := 11) rfl rfl rfl
theorem fi_gates (hT : cw_T G h) : ∃ x : Int32, cw_at h 111 12 = some (cv_i x) ∧ ri_at h 111 12 = x.toInt ∧ 0 ≤ x.toInt ∧ x.toInt ≤ 4 := ri_fld hT (k := 111) (f := 12) rfl rfl rfl
theorem fi_works (hT : cw_T G h) : ∃ x : Int32, cw_at h 111 13 = some (cv_i x) ∧ ri_at h 111 13 = x.toInt ∧ 0 ≤ x.toInt ∧ x.toInt ≤ 6 := ri_fld hT (k := 111) (f := 13) rfl rfl rfl
theorem fi_causes (hT : cw_T G h) : ∃ x : Int32, cw_at h 111 14 = some (cv_i x) ∧ ri_at h 111 14 = x.toInt ∧ 0 ≤ x.toInt ∧ x.toInt ≤ 6 := ri_fld hT (k := 111) (f := 14) rfl rfl rfl
theorem fi_knots (hT : cw_T G h) : ∃ x : Int32, cw_at h 111 15 = some (cv_i x) ∧ ri_at h 111 15 = x.toInt ∧ 0 ≤ x.toInt ∧ x.toInt ≤ 64 := ri_fld hT (k := 111) (f := 15) rfl rfl rfl
theorem fi_gatesRead (hT : cw_T G h) : ∃ x : Int32, cw_at h 111 16 = some (cv_i x) ∧ ri_at h 111 16 = x.toInt ∧ 0 ≤ x.toInt ∧ x.toInt ≤ 4 := ri_fld hT (k := 111) (f := 16) rfl rfl rfl
theorem fi_worksRead (hT : cw_T G h) : ∃ x : Int32, cw_at h 111 17 = some (cv_i x) ∧ ri_at h 111 17 = x.toInt ∧ 0 ≤ x.toInt ∧ x.toInt ≤ 6 := ri_fld hT (k := 111) (f := 17) rfl rfl rfl
theorem fi_causesRead (hT : cw_T G h) : ∃ x : Int32, cw_at h 111 18 = some (cv_i x) ∧ ri_at h 111 18 = x.toInt ∧ 0 ≤ x.toInt ∧ x.toInt ≤ 6 := ri_fld hT (k := 111) (f := 18) rfl rfl rfl
theorem fi_knotsRead (hT : cw_T G h) : ∃ x : Int32, cw_at h 111 19 = some (cv_i x) ∧ ri_at h 111 19 = x.toInt ∧ 0 ≤ x.toInt ∧ x.toInt ≤ 64 := ri_fld hT (k := 111) (f := 19) rfl rfl rfl
theorem fi_groundTold (hT : cw_T G h) : ∃ x : Int32, cw_at h 111 20 = some (cv_i x) ∧ ri_at h 111 20 = x.toInt ∧ 0 ≤ x.toInt ∧ x.toInt ≤ 1 := ri_fld hT (k := 111) (f := 20) rfl rfl rfl
theorem fr_ground (hT : cw_T G h) : cw_at h 111 21 = some (cv_r 114) := ri_ref hT (k := 111) (f := 21) rfl rfl rfl (by decide) (ri_uniq (by decide +kernel))
theorem fr_lawFirst (hT : cw_T G h) : cw_at h 111 22 = some (cv_r 115) := ri_ref hT (k := 111) (f := 22) rfl rfl rfl (by decide) (ri_uniq (by decide +kernel))
theorem fr_lawLast (hT : cw_T G h) : cw_at h 111 23 = some (cv_r 116) := ri_ref hT (k := 111) (f := 23) rfl rfl rfl (by decide) (ri_uniq (by decide +kernel))
theorem fr_lawTold (hT : cw_T G h) : cw_at h 111 24 = some (cv_r 117) := ri_ref hT (k := 111) (f := 24) rfl rfl rfl (by decide) (ri_uniq (by decide +kernel))
theorem fr_gateName (hT : cw_T G h) : cw_at h 111 25 = some (cv_r 118) := ri_ref hT (k := 111) (f := 25) rfl rfl rfl (by decide) (ri_uniq (by decide +kernel))
theorem fr_gateHas (hT : cw_T G h) : cw_at h 111 26 = some (cv_r 119) := ri_ref hT (k := 111) (f := 26) rfl rfl rfl (by decide) (ri_uniq (by decide +kernel))
theorem fr_rise (hT : cw_T G h) : cw_at h 111 27 = some (cv_r 120) := ri_ref hT (k := 111) (f := 27) rfl rfl rfl (by decide) (ri_uniq (by decide +kernel))
theorem fr_workName (hT : cw_T G h) : cw_at h 111 28 = some (cv_r 121) := ri_ref hT (k := 111) (f := 28) rfl rfl rfl (by decide) (ri_uniq (by decide +kernel))
theorem fr_workHas (hT : cw_T G h) : cw_at h 111 29 = some (cv_r 122) := ri_ref hT (k := 111) (f := 29) rfl rfl rfl (by decide) (ri_uniq (by decide +kernel))
theorem fr_causeName (hT : cw_T G h) : cw_at h 111 30 = some (cv_r 123) := ri_ref hT (k := 111) (f := 30) rfl rfl rfl (by decide) (ri_uniq (by decide +kernel))
theorem fr_causeHas (hT : cw_T G h) : cw_at h 111 31 = some (cv_r 124) := ri_ref hT (k := 111) (f := 31) rfl rfl rfl (by decide) (ri_uniq (by decide +kernel))
theorem fr_knot (hT : cw_T G h) : cw_at h 111 32 = some (cv_r 125) := ri_ref hT (k := 111) (f := 32) rfl rfl rfl (by decide) (ri_uniq (by decide +kernel))
theorem fr_part (hT : cw_T G h) : cw_at h 111 33 = some (cv_r 126) := ri_ref hT (k := 111) (f := 33) rfl rfl rfl (by decide) (ri_uniq (by decide +kernel))
theorem fr_other (hT : cw_T G h) : cw_at h 111 34 = some (cv_r 127) := ri_ref hT (k := 111) (f := 34) rfl rfl rfl (by decide) (ri_uniq (by decide +kernel))
theorem fr_wait (hT : cw_T G h) : cw_at h 111 35 = some (cv_r 128) := ri_ref hT (k := 111) (f := 35) rfl rfl rfl (by decide) (ri_uniq (by decide +kernel))
theorem fr_held (hT : cw_T G h) : cw_at h 111 36 = some (cv_r 129) := ri_ref hT (k := 111) (f := 36) rfl rfl rfl (by decide) (ri_uniq (by decide +kernel))
theorem fi_waits (hT : cw_T G h) : ∃ x : Int32, cw_at h 111 37 = some (cv_i x) ∧ ri_at h 111 37 = x.toInt ∧ 0 ≤ x.toInt ∧ x.toInt ≤ 96 := ri_fld hT (k := 111) (f := 37) rfl rfl rfl
theorem fi_helds (hT : cw_T G h) : ∃ x : Int32, cw_at h 111 38 = some (cv_i x) ∧ ri_at h 111 38 = x.toInt ∧ 0 ≤ x.toInt ∧ x.toInt ≤ 96 := ri_fld hT (k := 111) (f := 38) rfl rfl rfl
theorem fi_brackets (hT : cw_T G h) : ∃ x : Int32, cw_at h 111 39 = some (cv_i x) ∧ ri_at h 111 39 = x.toInt ∧ 0 ≤ x.toInt ∧ x.toInt ≤ 8 := ri_fld hT (k := 111) (f := 39) rfl rfl rfl
theorem fi_counted (hT : cw_T G h) : ∃ x : Int32, cw_at h 111 40 = some (cv_i x) ∧ ri_at h 111 40 = x.toInt ∧ 0 ≤ x.toInt ∧ x.toInt ≤ 64 := ri_fld hT (k := 111) (f := 40) rfl rfl rfl
theorem fi_wants (hT : cw_T G h) : ∃ x : Int32, cw_at h 111 41 = some (cv_i x) ∧ ri_at h 111 41 = x.toInt ∧ 0 ≤ x.toInt ∧ x.toInt ≤ 1 := ri_fld hT (k := 111) (f := 41) rfl rfl rfl
theorem fi_mayNot (hT : cw_T G h) : ∃ x : Int32, cw_at h 111 42 = some (cv_i x) ∧ ri_at h 111 42 = x.toInt ∧ 0 ≤ x.toInt ∧ x.toInt ≤ 1 := ri_fld hT (k := 111) (f := 42) rfl rfl rfl
theorem fi_week (hT : cw_T G h) : ∃ x : Int32, cw_at h 111 43 = some (cv_i x) ∧ ri_at h 111 43 = x.toInt ∧ 0 ≤ x.toInt ∧ x.toInt ≤ 2000 := ri_fld hT (k := 111) (f := 43) rfl rfl rfl
theorem fr_state (hT : cw_T G h) : cw_at h 111 44 = some (cv_r 130) := ri_ref hT (k := 111) (f := 44) rfl rfl rfl (by decide) (ri_uniq (by decide +kernel))
theorem fr_now (hT : cw_T G h) : cw_at h 111 45 = some (cv_r 131) := ri_ref hT (k := 111) (f := 45) rfl rfl rfl (by decide) (ri_uniq (by decide +kernel))
theorem fr_names (hT : cw_T G h) : cw_at h 111 46 = some (cv_r 132) := ri_ref hT (k := 111) (f := 46) rfl rfl rfl (by decide) (ri_uniq (by decide +kernel))
theorem fr_value (hT : cw_T G h) : cw_at h 111 47 = some (cv_r 133) := ri_ref hT (k := 111) (f := 47) rfl rfl rfl (by decide) (ri_uniq (by decide +kernel))
theorem fi_isError (hT : cw_T G h) : ∃ x : Int32, cw_at h 111 48 = some (cv_i x) ∧ ri_at h 111 48 = x.toInt ∧ 0 ≤ x.toInt ∧ x.toInt ≤ 1 := ri_fld hT (k := 111) (f := 48) rfl rfl rfl
theorem fr_grows (hT : cw_T G h) : cw_at h 111 49 = some (cv_r 134) := ri_ref hT (k := 111) (f := 49) rfl rfl rfl (by decide) (ri_uniq (by decide +kernel))
theorem fi_undos (hT : cw_T G h) : ∃ x : Int32, cw_at h 111 50 = some (cv_i x) ∧ ri_at h 111 50 = x.toInt ∧ 0 ≤ x.toInt ∧ x.toInt ≤ 20 := ri_fld hT (k := 111) (f := 50) rfl rfl rfl
theorem fr_undo (hT : cw_T G h) : cw_at h 111 51 = some (cv_r 135) := ri_ref hT (k := 111) (f := 51) rfl rfl rfl (by decide) (ri_uniq (by decide +kernel))
theorem fi_measures (hT : cw_T G h) : ∃ x : Int32, cw_at h 111 52 = some (cv_i x) ∧ ri_at h 111 52 = x.toInt ∧ 0 ≤ x.toInt ∧ x.toInt ≤ 40 := ri_fld hT (k := 111) (f := 52) rfl rfl rfl
theorem fi_seenBy (hT : cw_T G h) : ∃ x : Int32, cw_at h 111 53 = some (cv_i x) ∧ ri_at h 111 53 = x.toInt ∧ (-1) ≤ x.toInt ∧ x.toInt ≤ 40 := ri_fld hT (k := 111) (f := 53) rfl rfl rfl
theorem fr_readGate (hT : cw_T G h) : cw_at h 111 54 = some (cv_r 136) := ri_ref hT (k := 111) (f := 54) rfl rfl rfl (by decide) (ri_uniq (by decide +kernel))
theorem fr_readWeek (hT : cw_T G h) : cw_at h 111 55 = some (cv_r 137) := ri_ref hT (k := 111) (f := 55) rfl rfl rfl (by decide) (ri_uniq (by decide +kernel))
theorem fr_readWhat (hT : cw_T G h) : cw_at h 111 56 = some (cv_r 138) := ri_ref hT (k := 111) (f := 56) rfl rfl rfl (by decide) (ri_uniq (by decide +kernel))
theorem fr_readLow (hT : cw_T G h) : cw_at h 111 57 = some (cv_r 139) := ri_ref hT (k := 111) (f := 57) rfl rfl rfl (by decide) (ri_uniq (by decide +kernel))
theorem fr_readHigh (hT : cw_T G h) : cw_at h 111 58 = some (cv_r 140) := ri_ref hT (k := 111) (f := 58) rfl rfl rfl (by decide) (ri_uniq (by decide +kernel))
theorem fr_counts (hT : cw_T G h) : cw_at h 111 59 = some (cv_r 141) := ri_ref hT (k := 111) (f := 59) rfl rfl rfl (by decide) (ri_uniq (by decide +kernel))
theorem fr_tells (hT : cw_T G h) : cw_at h 111 60 = some (cv_r 142) := ri_ref hT (k := 111) (f := 60) rfl rfl rfl (by decide) (ri_uniq (by decide +kernel))
theorem fr_cosines (hT : cw_T G h) : cw_at h 111 61 = some (cv_r 143) := ri_ref hT (k := 111) (f := 61) rfl rfl rfl (by decide) (ri_uniq (by decide +kernel))
theorem fr_sines (hT : cw_T G h) : cw_at h 111 62 = some (cv_r 144) := ri_ref hT (k := 111) (f := 62) rfl rfl rfl (by decide) (ri_uniq (by decide +kernel))
theorem fr_order (hT : cw_T G h) : cw_at h 111 63 = some (cv_r 145) := ri_ref hT (k := 111) (f := 63) rfl rfl rfl (by decide) (ri_uniq (by decide +kernel))
theorem fr_bestOrder (hT : cw_T G h) : cw_at h 111 64 = some (cv_r 146) := ri_ref hT (k := 111) (f := 64) rfl rfl rfl (by decide) (ri_uniq (by decide +kernel))
theorem fr_tried (hT : cw_T G h) : cw_at h 111 65 = some (cv_r 147) := ri_ref hT (k := 111) (f := 65) rfl rfl rfl (by decide) (ri_uniq (by decide +kernel))
theorem fi_hasImage (hT : cw_T G h) : ∃ x : Int32, cw_at h 111 66 = some (cv_i x) ∧ ri_at h 111 66 = x.toInt ∧ 0 ≤ x.toInt ∧ x.toInt ≤ 1 := ri_fld hT (k := 111) (f := 66) rfl rfl rfl
theorem fi_keptWeek (hT : cw_T G h) : ∃ x : Int32, cw_at h 111 67 = some (cv_i x) ∧ ri_at h 111 67 = x.toInt ∧ 0 ≤ x.toInt ∧ x.toInt ≤ 2000 := ri_fld hT (k := 111) (f := 67) rfl rfl rfl
theorem fr_keptState (hT : cw_T G h) : cw_at h 111 68 = some (cv_r 148) := ri_ref hT (k := 111) (f := 68) rfl rfl rfl (by decide) (ri_uniq (by decide +kernel))
theorem fr_G (hT : cw_T G h) : ri_at h 111 12 = G := by
  obtain ⟨vs, h1, h2, h3⟩ := cw_cell_o (d := 12) (k := 111) rfl (hT 111 12 rfl)
  obtain ⟨v, h4, x, rfl, h5⟩ := h3 12 _ rfl
  have e : cw_at h 111 12 = some (cv_i x) := by unfold cw_at; rw [h1]; exact h4
  rw [ri_of e]
  exact h5.2.2.2.2.1 rfl
theorem cw_Fr_wr {k i d m : Nat} {v : cv_V} (w : cw_Wr h h' k i v) (hk : cw_sh[k]? = some d) (ht : cw_tch cw_Ds m d i = true) : cw_Fr cw_Ds cw_sh m h h' := by
  refine ⟨fun k' hk' => w.2.2 k' fun q => ?_, fun k' d' i' hk' ht' => w.2.1 k' i' ?_⟩
  · rw [q, hk] at hk'; cases hk'
  · by_cases q : k' = k
    · right
      intro q2
      subst q q2
      rw [hk] at hk'
      cases hk'
      rw [ht] at ht'
      cases ht'
    · exact .inl q
end CWI
def pp_words : List Int := [103, 114, 111, 117, 110, 100, 32, 108, 97, 119, 32, 103, 97, 116, 101, 32, 119, 111, 114, 107, 32, 99, 97, 117, 115, 101, 32, 108, 101, 97, 110, 32, 111, 112, 101, 110, 32, 98, 101, 110, 100, 32, 107, 110, 111, 99, 107, 32, 104, 111, 111, 107, 115, 32, 112, 111, 115, 116, 32, 98, 114, 97, 99, 101, 32, 108, 97, 116, 99, 104, 32, 103, 97, 112, 32, 114, 105, 115, 101, 32, 104, 97, 115, 32, 115, 113, 117, 97, 114, 101, 32, 119, 105, 114, 101, 32, 119, 104, 101, 101, 108, 32, 115, 116, 111, 110, 101, 115, 32, 114, 101, 104, 97, 110, 103, 32, 97, 110, 100, 32, 111, 114, 32, 110, 111, 116, 32, 112, 117, 108, 108, 32, 102, 105, 114, 109, 32, 100, 101, 101, 112, 32, 116, 104, 105, 99, 107, 32, 117, 112, 32, 100, 111, 119, 110, 32, 100, 114, 111, 112, 32, 119, 101, 101, 107, 32, 99, 104, 105, 108, 100, 32, 102, 97, 108, 108, 32]
/-- what is kept besides the ranges -/
def cw_PP (G : Int) (h : cv_H) : Prop :=
  (∀ i, i < 177 → ri_at h 113 i = pp_words.getD i 0) ∧
  (ri_at h 111 7 ≤ ri_at h 111 6 ∧ (ri_at h 111 8 = 1 → 0 ≤ ri_at h 111 9 ∧ ri_at h 111 9 ≤ 33) ∧ (ri_at h 111 8 = 5 → 0 ≤ ri_at h 111 9 ∧ ri_at h 111 9 ≤ 5)) ∧
  (∀ k, k < 128 → (ri_at h 125 k = 1 → 0 ≤ ri_at h 126 k ∧ ri_at h 126 k ≤ 9) ∧ (ri_at h 125 k ≠ 0 → ri_at h 125 k ≠ 1 → 0 ≤ ri_at h 126 k ∧ ri_at h 126 k ≤ 63) ∧ (ri_at h 125 k ≠ 0 → ri_at h 125 k ≠ 1 → ri_at h 125 k ≠ 2 → 0 ≤ ri_at h 127 k ∧ ri_at h 127 k ≤ 63)) ∧
  (∀ l, l < 4 → ri_at h 117 l ≠ 0 → 1 ≤ ri_at h 116 l) ∧
  (∀ g : Nat, g < 4 → (g : Int) < G → 24 ≤ ri_at h 119 (16 * g + 1) ∧ ri_at h 119 (16 * g + 1) ≤ 72 ∧ 1 ≤ ri_at h 119 (16 * g + 4) - ri_at h 119 (16 * g + 3) ∧ ri_at h 119 (16 * g + 4) - ri_at h 119 (16 * g + 3) ≤ 72) ∧
  (∀ k, k < 40 → ri_at h 136 k < 0 → ri_at h 137 k < 40) ∧
  (∀ c : Nat, c < 6 → (c : Int) < ri_at h 111 14 → 1 ≤ ri_at h 124 (3 * c) ∧ ri_at h 124 (3 * c) ≤ 99)
theorem cw_PPok (G : Int) : cw_Pok cw_Ds cw_sh cw_dp (cw_PP G) := by
  intro h h' hP he
  have e : ∀ k d i : Nat, cw_sh[k]? = some d → cw_prot cw_Ds cw_dp d i = true → ri_at h' k i = ri_at h k i := fun k d i h1 h2 => ri_eq (he k d i h1 h2)
  have ew : ∀ i, ri_at h' 113 i = ri_at h 113 i := fun i => e 113 52 i rfl rfl
  have e1 : ri_at h' 111 7 = ri_at h 111 7 := e 111 12 7 rfl rfl
  have e2 : ri_at h' 111 6 = ri_at h 111 6 := e 111 12 6 rfl rfl
  have e3 : ri_at h' 111 8 = ri_at h 111 8 := e 111 12 8 rfl rfl
  have e4 : ri_at h' 111 14 = ri_at h 111 14 := e 111 12 14 rfl rfl
  have e5 : ri_at h' 111 9 = ri_at h 111 9 := e 111 12 9 rfl rfl
  have e_knot : ∀ i, ri_at h' 125 i = ri_at h 125 i := fun i => e 125 64 i rfl rfl
  have e_part : ∀ i, ri_at h' 126 i = ri_at h 126 i := fun i => e 126 65 i rfl rfl
  have e_other : ∀ i, ri_at h' 127 i = ri_at h 127 i := fun i => e 127 66 i rfl rfl
  have e_lawTold : ∀ i, ri_at h' 117 i = ri_at h 117 i := fun i => e 117 56 i rfl rfl
  have e_lawLast : ∀ i, ri_at h' 116 i = ri_at h 116 i := fun i => e 116 55 i rfl rfl
  have e_readGate : ∀ i, ri_at h' 136 i = ri_at h 136 i := fun i => e 136 75 i rfl rfl
  have e_readWeek : ∀ i, ri_at h' 137 i = ri_at h 137 i := fun i => e 137 76 i rfl rfl
  have e_g1 : ∀ g : Nat, ri_at h' 119 (16 * g + 1) = ri_at h 119 (16 * g + 1) := fun g => e 119 58 _ rfl (by show cw_bit cw_dp 58 (1 + (16 * g + 1) % 16) = true; rw [Nat.mul_add_mod]; decide +kernel)
  have e_g3 : ∀ g : Nat, ri_at h' 119 (16 * g + 3) = ri_at h 119 (16 * g + 3) := fun g => e 119 58 _ rfl (by show cw_bit cw_dp 58 (1 + (16 * g + 3) % 16) = true; rw [Nat.mul_add_mod]; decide +kernel)
  have e_g4 : ∀ g : Nat, ri_at h' 119 (16 * g + 4) = ri_at h 119 (16 * g + 4) := fun g => e 119 58 _ rfl (by show cw_bit cw_dp 58 (1 + (16 * g + 4) % 16) = true; rw [Nat.mul_add_mod]; decide +kernel)
  have e_c : ∀ g : Nat, ri_at h' 124 (3 * g) = ri_at h 124 (3 * g) := fun g => e 124 63 _ rfl (by show cw_bit cw_dp 63 (1 + (3 * g) % 3) = true; rw [Nat.mul_mod_right]; decide +kernel)
  unfold cw_PP at hP ⊢
  simp only [ew, e1, e2, e3, e4, e5, e_knot, e_part, e_other, e_lawTold, e_lawLast, e_readGate, e_readWeek, e_g1, e_g3, e_g4, e_c]
  exact hP
theorem cw_dpok_all : cw_dpok cw_Ds cw_dp := by
  have h : (List.range cw_Ds.length).all (fun d => match cw_Ds[d]? with
    | some (.inl (_, _, p, _)) => Nat.ble 1 p && (cw_bit cw_dp d 0 || (List.range p).all (fun r => !cw_bit cw_dp d (1 + r)))
    | _ => true) = true := by decide +kernel
  intro d t n p rs hd
  have hlt := (List.getElem?_eq_some_iff.mp hd).1
  have h1 := List.all_eq_true.mp h d (List.mem_range.mpr hlt)
  rw [hd] at h1
  simp only [Bool.and_eq_true, Bool.or_eq_true, Nat.ble_eq] at h1
  refine ⟨h1.1, fun h0 r hr => ?_⟩
  rcases h1.2 with q | q
  · rw [h0] at q; cases q
  · have := List.all_eq_true.mp q r (List.mem_range.mpr hr)
    simpa using this
def pp_msk (m : Nat) : Bool := ([52, 64, 65, 66, 56, 55, 75, 76] : List Nat).all (fun d => !cw_bit m d 0 && !cw_bit m d 1) && ((([0, 2, 4, 5] : List Nat).all (fun s => !cw_bit m 58 s)) && ((!cw_bit m 63 0 && !cw_bit m 63 1) && !cw_bit m 12 14))
def pp_tk (h : cv_H) : Prop := ri_at h 111 7 ≤ ri_at h 111 6 ∧ (ri_at h 111 8 = 1 → 0 ≤ ri_at h 111 9 ∧ ri_at h 111 9 ≤ 33) ∧ (ri_at h 111 8 = 5 → 0 ≤ ri_at h 111 9 ∧ ri_at h 111 9 ≤ 5)
theorem pp_fr1 {G : Int} {h h' : cv_H} {m : Nat} (hm : pp_msk m = true) (hP : cw_PP G h) (hF : cw_Fr cw_Ds cw_sh m h h') (h1 : pp_tk h') : cw_PP G h' := by
  unfold pp_msk at hm
  simp only [Bool.and_eq_true, List.all_eq_true, Bool.not_eq_true'] at hm
  obtain ⟨m1, m2, m3, m4⟩ := hm
  have er : ∀ k d t n rs, d ∈ ([52, 64, 65, 66, 56, 55, 75, 76] : List Nat) → cw_sh[k]? = some d → cw_Ds[d]? = some (.inl (t, n, 1, rs)) → ∀ i, ri_at h' k i = ri_at h k i := by
    intro k d t n rs hd hk hD i
    refine ri_eq (hF.2 k d i hk ?_)
    unfold cw_tch
    rw [hD]
    dsimp only
    rw [Nat.mod_one, (m1 d hd).1, (m1 d hd).2]
    rfl
  have e_words : ∀ i, ri_at h' 113 i = ri_at h 113 i := er 113 52 _ _ _ (by decide) rfl rfl
  have e_knot : ∀ i, ri_at h' 125 i = ri_at h 125 i := er 125 64 _ _ _ (by decide) rfl rfl
  have e_part : ∀ i, ri_at h' 126 i = ri_at h 126 i := er 126 65 _ _ _ (by decide) rfl rfl
  have e_other : ∀ i, ri_at h' 127 i = ri_at h 127 i := er 127 66 _ _ _ (by decide) rfl rfl
  have e_lawTold : ∀ i, ri_at h' 117 i = ri_at h 117 i := er 117 56 _ _ _ (by decide) rfl rfl
  have e_lawLast : ∀ i, ri_at h' 116 i = ri_at h 116 i := er 116 55 _ _ _ (by decide) rfl rfl
  have e_readGate : ∀ i, ri_at h' 136 i = ri_at h 136 i := er 136 75 _ _ _ (by decide) rfl rfl
  have e_readWeek : ∀ i, ri_at h' 137 i = ri_at h 137 i := er 137 76 _ _ _ (by decide) rfl rfl
  have e_g1 : ∀ g : Nat, ri_at h' 119 (16 * g + 1) = ri_at h 119 (16 * g + 1) := fun g => ri_eq (hF.2 119 58 _ rfl (by show (cw_bit m 58 0 || cw_bit m 58 (1 + (16 * g + 1) % 16)) = false; rw [Nat.mul_add_mod, m2 0 (by decide)]; exact m2 2 (by decide)))
  have e_g3 : ∀ g : Nat, ri_at h' 119 (16 * g + 3) = ri_at h 119 (16 * g + 3) := fun g => ri_eq (hF.2 119 58 _ rfl (by show (cw_bit m 58 0 || cw_bit m 58 (1 + (16 * g + 3) % 16)) = false; rw [Nat.mul_add_mod, m2 0 (by decide)]; exact m2 4 (by decide)))
  have e_g4 : ∀ g : Nat, ri_at h' 119 (16 * g + 4) = ri_at h 119 (16 * g + 4) := fun g => ri_eq (hF.2 119 58 _ rfl (by show (cw_bit m 58 0 || cw_bit m 58 (1 + (16 * g + 4) % 16)) = false; rw [Nat.mul_add_mod, m2 0 (by decide)]; exact m2 5 (by decide)))
  have e_c : ∀ g : Nat, ri_at h' 124 (3 * g) = ri_at h 124 (3 * g) := fun g => ri_eq (hF.2 124 63 _ rfl (by show (cw_bit m 63 0 || cw_bit m 63 (1 + (3 * g) % 3)) = false; rw [Nat.mul_mod_right, m3.1]; exact m3.2))
  have e4 : ri_at h' 111 14 = ri_at h 111 14 := ri_eq (hF.2 111 12 _ rfl m4)
  obtain ⟨p1, p2, p3, p4, p5, p6, p7⟩ := hP
  refine ⟨?_, h1, ?_, ?_, ?_, ?_, ?_⟩
  all_goals simp only [e_words, e_knot, e_part, e_other, e_lawTold, e_lawLast, e_readGate, e_readWeek, e_g1, e_g3, e_g4, e_c, e4]
  all_goals assumption
