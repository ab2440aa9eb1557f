section CWL
variable {X : cv_X} {mi : Nat} {Q : cv_O → Prop} {pc len a b : Nat} {z : Int} {L : cv_L} {st : List cv_V} {h : cv_H} {G : Int}
def cw_Lk (L L' : cv_L) (n : Nat) : Prop := ∀ j w, j ≠ n → (j + 1 = n → cv_isL w = false) → cv_get L j = some w → cv_get L' j = some w
theorem cw_Lk_set {n : Nat} {v : cv_V} : cw_Lk L (cv_set L n v) n := fun j w hj hl hg => cw_gs_ne hg hj (fun q => by rw [hl q.1] at q; exact absurd q.2 (by simp))
theorem ex_isA {n : Fin 4} {v : Int32} (ho : cw_ho mi pc (.istore_n n) len a b z) (k : ∀ L', cv_get L' n.val = some (cv_i v) → cw_Lk L L' n.val → cw_X X mi Q (pc + len) L' st h) : cw_X X mi Q pc L (cv_i v :: st) h := ex_is ho rfl (k _ (cw_gs_self _ _ _) cw_Lk_set)
theorem ex_iswA {n : Nat} {v : Int32} (ho : cw_ho mi pc (.istore n) len a b z) (k : ∀ L', cv_get L' n = some (cv_i v) → cw_Lk L L' n → cw_X X mi Q (pc + len) L' st h) : cw_X X mi Q pc L (cv_i v :: st) h := ex_isw ho rfl (k _ (cw_gs_self _ _ _) cw_Lk_set)
def cw_LkL (L L' : cv_L) (n : Nat) : Prop := ∀ j w, j ≠ n → j ≠ n + 1 → (j + 1 = n → cv_isL w = false) → cv_get L j = some w → cv_get L' j = some w
theorem cw_LkL_set {n : Nat} {v : cv_V} : cw_LkL L (cv_setL L n v) n := fun j w hj hj1 hl hg => cw_gsL_ne hg hj hj1 (fun q => by rw [hl q.1] at q; exact absurd q.2 (by simp))
theorem ex_lsA {n : Fin 4} {v : Int64} (ho : cw_ho mi pc (.lstore_n n) len a b z) (k : ∀ L', cv_get L' n.val = some (cv_l v) → cw_LkL L L' n.val → cw_X X mi Q (pc + len) L' st h) : cw_X X mi Q pc L (cv_l v :: st) h := ex_ls ho rfl (k _ (cw_gsL_self _ _ _) cw_LkL_set)
theorem ex_lswA {n : Nat} {v : Int64} (ho : cw_ho mi pc (.lstore n) len a b z) (k : ∀ L', cv_get L' n = some (cv_l v) → cw_LkL L L' n → cw_X X mi Q (pc + len) L' st h) : cw_X X mi Q pc L (cv_l v :: st) h := ex_lsw ho rfl (k _ (cw_gsL_self _ _ _) cw_LkL_set)
theorem ex_incA {i : Nat} {n m : Int} {v : Int32} (ho : cw_ho mi pc (.iinc i n) len a b z) (hv : cv_get L i = some (cv_i v)) (hm : (Int32.ofInt n).toInt = m) (hr : -2147483648 ≤ v.toInt + m ∧ v.toInt + m ≤ 2147483647) (k : ∀ (L' : cv_L) (x : Int32), x.toInt = v.toInt + m → cv_get L' i = some (cv_i x) → cw_Lk L L' i → cw_X X mi Q (pc + len) L' st h) : cw_X X mi Q pc L st h := ex_inc ho hv hm hr (fun x hx => k _ x hx (cw_gs_self _ _ _) cw_Lk_set)
theorem ex_ldc2 {ix : Nat} (ho : cw_ho mi pc (.ldc2_w ix) len a b z) (k : ∀ x : Int64, x = Int64.ofInt z → cw_X X mi Q (pc + len) L (cv_l x :: st) h) : cw_X X mi Q pc L st h := ex_one ho rfl (k _ rfl)
end CWL
section CWM
variable {h h' : cv_H}
theorem cw_Fr_wrf {k i d m ci : Nat} {fs : List cw_A} {v : cv_V} (w : cw_Wr h h' k i v) (hk : cw_sh[k]? = some d) (hD : cw_Ds[d]? = some (.inr (.inr (.inr (ci, fs))))) (ht : cw_bit m d i = true) : cw_Fr cw_Ds cw_sh m h h' := cw_Fr_wr w hk (by unfold cw_tch; rw [hD]; exact ht)
theorem cw_Fr_wrr {k i d m t n p : Nat} {rs : List (Int × Int)} {v : cv_V} (w : cw_Wr h h' k i v) (hk : cw_sh[k]? = some d) (hD : cw_Ds[d]? = some (.inl (t, n, p, rs))) (ht : cw_bit m d 0 = true) : cw_Fr cw_Ds cw_sh m h h' := cw_Fr_wr w hk (by unfold cw_tch; rw [hD]; dsimp only; rw [ht]; rfl)
theorem cw_Fr_wrl {k i d m n : Nat} {v : cv_V} (w : cw_Wr h h' k i v) (hk : cw_sh[k]? = some d) (hD : cw_Ds[d]? = some (.inr (.inl n))) (ht : cw_bit m d 0 = true) : cw_Fr cw_Ds cw_sh m h h' := cw_Fr_wr w hk (by unfold cw_tch; rw [hD]; exact ht)
theorem ri_frf {m k d i ci : Nat} {fs : List cw_A} (hF : cw_Fr cw_Ds cw_sh m h h') (hk : cw_sh[k]? = some d) (hD : cw_Ds[d]? = some (.inr (.inr (.inr (ci, fs))))) (ht : cw_bit m d i = false) : ri_at h' k i = ri_at h k i := ri_fr hF hk (by unfold cw_tch; rw [hD]; exact ht)
theorem ri_frr {m k d i t n : Nat} {rs : List (Int × Int)} (hF : cw_Fr cw_Ds cw_sh m h h') (hk : cw_sh[k]? = some d) (hD : cw_Ds[d]? = some (.inl (t, n, 1, rs))) (ht : (cw_bit m d 0 || cw_bit m d 1) = false) : ri_at h' k i = ri_at h k i := ri_fr hF hk (by unfold cw_tch; rw [hD]; dsimp only; rw [Nat.mod_one]; exact ht)
end CWM
