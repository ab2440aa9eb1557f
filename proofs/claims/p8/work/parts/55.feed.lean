/-! ===== methods walked by hand: feed and text of the class ===== -/
theorem ex_i2b {X : cv_X} {mi : Nat} {Q : cv_O → Prop} {pc len a b : Nat} {z : Int} {L : cv_L} {st : List cv_V} {h : cv_H} {x : Int32} (ho : cw_ho mi pc .i2b len a b z) (k : ∀ r : Int32, r = x.toInt8.toInt32 → cw_X X mi Q (pc + len) L (cv_i r :: st) h) : cw_X X mi Q pc L (cv_i x :: st) h := ex_one ho rfl (k _ rfl)
theorem nar_b (y : Int32) : (-128 : Int) ≤ (cv_nar 1 y).toInt ∧ (cv_nar 1 y).toInt ≤ 127 := by
  show (-128 : Int) ≤ (y.toInt8.toInt32).toInt ∧ (y.toInt8.toInt32).toInt ≤ 127
  rw [Int8.toInt_toInt32]
  have h1 := y.toInt8.toInt_lt
  have h2 := y.toInt8.le_toInt
  omega
theorem ex_bwB {X : cv_X} {mi : Nat} {Q : cv_O → Prop} {pc len a b : Nat} {z : Int} {L : cv_L} {st : List cv_V} {h : cv_H} {G : Int} {k d m j : Nat} {i y : Int32} (ho : cw_ho mi pc .bastore len a b z) (hT : cw_T G h) (hk : cw_sh[k]? = some d) (hD : cw_Ds[d]? = some (.inl (1, m, 1, [(-128, 127)]))) (hj : i.toInt = j) (hm : j < m) (kk : ∀ h', cw_T G h' → cw_Wr h h' k j (cv_i (cv_nar 1 y)) → cw_X X mi Q (pc + len) L st h') : cw_X X mi Q pc L (cv_i y :: cv_i i :: cv_r k :: st) h := ex_bw (t := 1) ho hT hk hD rfl hj hm (nar_b y) kk
section SPZE
variable {G : Int} {X : cv_X} {Q : cv_O → Prop}
theorem oq_X11_putOnTape_0 : cw_ho 108 0 (.bipush 24) 2 0 0 0 := rfl
theorem oq_X11_putOnTape_2 : cw_ho 108 2 (.istore_n 2) 1 0 0 0 := rfl
theorem oq_X11_putOnTape_3 : cw_ho 108 3 (.iload_n 2) 1 0 0 0 := rfl
theorem oq_X11_putOnTape_4 : cw_ho 108 4 (.ifCond .lt 51) 3 0 0 0 := rfl
theorem oq_X11_putOnTape_7 : cw_ho 108 7 (.aload_n 0) 1 0 0 0 := rfl
theorem oq_X11_putOnTape_8 : cw_ho 108 8 (.getfield 96) 3 11 1 0 := rfl
theorem oq_X11_putOnTape_11 : cw_ho 108 11 (.ifCond .lt 38) 3 0 0 0 := rfl
theorem oq_X11_putOnTape_14 : cw_ho 108 14 (.aload_n 0) 1 0 0 0 := rfl
theorem oq_X11_putOnTape_15 : cw_ho 108 15 (.getfield 96) 3 11 1 0 := rfl
theorem oq_X11_putOnTape_18 : cw_ho 108 18 (.aload_n 0) 1 0 0 0 := rfl
theorem oq_X11_putOnTape_19 : cw_ho 108 19 (.getfield 11) 3 11 0 4 := rfl
theorem oq_X11_putOnTape_22 : cw_ho 108 22 (.arraylength) 1 0 0 0 := rfl
theorem oq_X11_putOnTape_23 : cw_ho 108 23 (.if_icmp .ge 26) 3 0 0 0 := rfl
theorem oq_X11_putOnTape_26 : cw_ho 108 26 (.aload_n 0) 1 0 0 0 := rfl
theorem oq_X11_putOnTape_27 : cw_ho 108 27 (.getfield 11) 3 11 0 4 := rfl
theorem oq_X11_putOnTape_30 : cw_ho 108 30 (.aload_n 0) 1 0 0 0 := rfl
theorem oq_X11_putOnTape_31 : cw_ho 108 31 (.getfield 96) 3 11 1 0 := rfl
theorem oq_X11_putOnTape_34 : cw_ho 108 34 (.iload_n 1) 1 0 0 0 := rfl
theorem oq_X11_putOnTape_35 : cw_ho 108 35 (.iload_n 2) 1 0 0 0 := rfl
theorem oq_X11_putOnTape_36 : cw_ho 108 36 (.iushr) 1 0 0 0 := rfl
theorem oq_X11_putOnTape_37 : cw_ho 108 37 (.i2b) 1 0 0 0 := rfl
theorem oq_X11_putOnTape_38 : cw_ho 108 38 (.bastore) 1 0 0 0 := rfl
theorem oq_X11_putOnTape_39 : cw_ho 108 39 (.aload_n 0) 1 0 0 0 := rfl
theorem oq_X11_putOnTape_40 : cw_ho 108 40 (.dup) 1 0 0 0 := rfl
theorem oq_X11_putOnTape_41 : cw_ho 108 41 (.getfield 96) 3 11 1 0 := rfl
theorem oq_X11_putOnTape_44 : cw_ho 108 44 (.iconst 1) 1 0 0 0 := rfl
theorem oq_X11_putOnTape_45 : cw_ho 108 45 (.iadd) 1 0 0 0 := rfl
theorem oq_X11_putOnTape_46 : cw_ho 108 46 (.putfield 96) 3 11 1 0 := rfl
theorem oq_X11_putOnTape_49 : cw_ho 108 49 (.iinc 2 (-8)) 3 0 0 0 := rfl
theorem oq_X11_putOnTape_52 : cw_ho 108 52 (.goto (-49)) 3 0 0 0 := rfl
theorem oq_X11_putOnTape_55 : cw_ho 108 55 (.return_) 1 0 0 0 := rfl
theorem sp_putOnTape {h0 : cv_H} (hT : cw_T G h0) (a : Int32) (h896 : ri_at h0 0 1 ≤ 896) (hQ : ∀ h', cw_T G h' → cw_Fr cw_Ds cw_sh kk_X11_putOnTape.2.2.2.2.2.1 h0 h' → ri_at h' 0 1 = ri_at h0 0 1 + 4 → Q (none, h')) : cw_X X 108 Q 0 (cv_ent 0 [cv_r 0, cv_i a]) [] h0 := by
  have Fh0 : cw_Fr cw_Ds cw_sh kk_X11_putOnTape.2.2.2.2.2.1 h0 h0 := cw_Fr_refl
  refine ex_bi oq_X11_putOnTape_0 (m := 24) (by decide) (fun x1 hx1 => ?_)
  refine ex_isA oq_X11_putOnTape_2 (fun L2 gL2_2 kL2 => ?_)
  have gL2_0 : cv_get L2 0 = some (cv_r 0) := kL2 0 _ (by decide) (fun q => absurd q (by decide)) rfl
  have gL2_1 : cv_get L2 1 = some (cv_i a) := kL2 1 _ (by decide) (fun _ => rfl) rfl
  refine ex_il oq_X11_putOnTape_3 gL2_2 ?_
  refine ex_if0 oq_X11_putOnTape_4 (t := 55) rfl rfl (fun (c3 : x1.toInt < 0) => ?_) (fun (c3 : ¬ (x1.toInt < 0)) => ?_)
  · exfalso; omega
  · refine ex_al oq_X11_putOnTape_7 gL2_0 ?_
    obtain ⟨x4, ax4, rx4, lx4, ux4⟩ := ri_fld (k := 0) (d := 11) (f := 1) hT rfl rfl rfl
    try dsimp only at lx4 ux4
    refine ex_gf oq_X11_putOnTape_8 hT (k := 0) (d := 11) rfl rfl ax4 ?_
    refine ex_if0 oq_X11_putOnTape_11 (t := 49) rfl rfl (fun (c5 : x4.toInt < 0) => ?_) (fun (c5 : ¬ (x4.toInt < 0)) => ?_)
    · exfalso; omega
    · refine ex_al oq_X11_putOnTape_14 gL2_0 ?_
      obtain ⟨x6, ax6, rx6, lx6, ux6⟩ := ri_fld (k := 0) (d := 11) (f := 1) hT rfl rfl rfl
      try dsimp only at lx6 ux6
      refine ex_gf oq_X11_putOnTape_15 hT (k := 0) (d := 11) rfl rfl ax6 ?_
      refine ex_al oq_X11_putOnTape_18 gL2_0 ?_
      refine ex_gf oq_X11_putOnTape_19 hT (k := 0) (d := 11) rfl rfl (ri_ref (k := 0) (k' := 1) (d := 11) (f := 0) hT rfl rfl rfl (by decide) (ri_uniq (by decide +kernel))) ?_
      refine ex_len oq_X11_putOnTape_22 hT (k := 1) (d := 13) rfl rfl (by decide) (fun x7 hx7 => ?_)
      refine ex_if oq_X11_putOnTape_23 (t := 49) rfl rfl (fun (c8 : x7.toInt ≤ x6.toInt) => ?_) (fun (c8 : ¬ (x7.toInt ≤ x6.toInt)) => ?_)
      · exfalso; omega
      · refine ex_al oq_X11_putOnTape_26 gL2_0 ?_
        refine ex_gf oq_X11_putOnTape_27 hT (k := 0) (d := 11) rfl rfl (ri_ref (k := 0) (k' := 1) (d := 11) (f := 0) hT rfl rfl rfl (by decide) (ri_uniq (by decide +kernel))) ?_
        refine ex_al oq_X11_putOnTape_30 gL2_0 ?_
        obtain ⟨x9, ax9, rx9, lx9, ux9⟩ := ri_fld (k := 0) (d := 11) (f := 1) hT rfl rfl rfl
        try dsimp only at lx9 ux9
        refine ex_gf oq_X11_putOnTape_31 hT (k := 0) (d := 11) rfl rfl ax9 ?_
        refine ex_il oq_X11_putOnTape_34 gL2_1 ?_
        refine ex_il oq_X11_putOnTape_35 gL2_2 ?_
        refine ex_any (f := fun x y => some x) oq_X11_putOnTape_36 rfl (fun x10 => ?_)
        refine ex_i2b oq_X11_putOnTape_37 (fun x11 hx11 => ?_)
        refine ex_bwB oq_X11_putOnTape_38 hT (k := 1) (d := 13) (j := x9.toInt.toNat) rfl rfl (by omega) (by omega) (fun h12 Th12 wh12 => ?_)
        have Fh12 : cw_Fr cw_Ds cw_sh kk_X11_putOnTape.2.2.2.2.2.1 h0 h12 := cw_Fr_tr Fh0 (cw_Fr_wrr wh12 (k := 1) (d := 13) rfl rfl (by decide +kernel))
        have eh12_0_1 : ri_at h12 0 1 = ri_at h0 0 1 := ri_ne wh12 (.inl (by decide))
        refine ex_al oq_X11_putOnTape_39 gL2_0 ?_
        refine ex_dup oq_X11_putOnTape_40 rfl ?_
        obtain ⟨x13, ax13, rx13, lx13, ux13⟩ := ri_fld (k := 0) (d := 11) (f := 1) Th12 rfl rfl rfl
        try dsimp only at lx13 ux13
        refine ex_gf oq_X11_putOnTape_41 Th12 (k := 0) (d := 11) rfl rfl ax13 ?_
        refine ex_ic oq_X11_putOnTape_44 (m := 1) (by decide) (fun x14 hx14 => ?_)
        refine ex_add oq_X11_putOnTape_45 (by omega) (fun x15 hx15 => ?_)
        refine ex_pfi oq_X11_putOnTape_46 Th12 (k := 0) (d := 11) rfl rfl rfl (by omega) (by omega) (fun h16 Th16 wh16 => ?_)
        have Fh16 : cw_Fr cw_Ds cw_sh kk_X11_putOnTape.2.2.2.2.2.1 h0 h16 := cw_Fr_tr Fh12 (cw_Fr_wrf wh16 (k := 0) (d := 11) rfl rfl (by decide +kernel))
        have eh16_0_1 : ri_at h16 0 1 = x15.toInt := ri_self wh16
        refine ex_incA oq_X11_putOnTape_49 (v := x1) (m := (-8)) gL2_2 (by decide) (by omega) (fun L18 x17 hx17 gL18_2 kL18 => ?_)
        have gL18_0 : cv_get L18 0 = some (cv_r 0) := kL18 0 _ (by decide) (fun q => absurd q (by decide)) gL2_0
        have gL18_1 : cv_get L18 1 = some (cv_i a) := kL18 1 _ (by decide) (fun _ => rfl) gL2_1
        refine ex_go oq_X11_putOnTape_52 (t := 3) rfl rfl ?_
        refine ex_il oq_X11_putOnTape_3 gL18_2 ?_
        refine ex_if0 oq_X11_putOnTape_4 (t := 55) rfl rfl (fun (c19 : x17.toInt < 0) => ?_) (fun (c19 : ¬ (x17.toInt < 0)) => ?_)
        · exfalso; omega
        · refine ex_al oq_X11_putOnTape_7 gL18_0 ?_
          obtain ⟨x20, ax20, rx20, lx20, ux20⟩ := ri_fld (k := 0) (d := 11) (f := 1) Th16 rfl rfl rfl
          try dsimp only at lx20 ux20
          refine ex_gf oq_X11_putOnTape_8 Th16 (k := 0) (d := 11) rfl rfl ax20 ?_
          refine ex_if0 oq_X11_putOnTape_11 (t := 49) rfl rfl (fun (c21 : x20.toInt < 0) => ?_) (fun (c21 : ¬ (x20.toInt < 0)) => ?_)
          · exfalso; omega
          · refine ex_al oq_X11_putOnTape_14 gL18_0 ?_
            obtain ⟨x22, ax22, rx22, lx22, ux22⟩ := ri_fld (k := 0) (d := 11) (f := 1) Th16 rfl rfl rfl
            try dsimp only at lx22 ux22
            refine ex_gf oq_X11_putOnTape_15 Th16 (k := 0) (d := 11) rfl rfl ax22 ?_
            refine ex_al oq_X11_putOnTape_18 gL18_0 ?_
            refine ex_gf oq_X11_putOnTape_19 Th16 (k := 0) (d := 11) rfl rfl (ri_ref (k := 0) (k' := 1) (d := 11) (f := 0) Th16 rfl rfl rfl (by decide) (ri_uniq (by decide +kernel))) ?_
            refine ex_len oq_X11_putOnTape_22 Th16 (k := 1) (d := 13) rfl rfl (by decide) (fun x23 hx23 => ?_)
            refine ex_if oq_X11_putOnTape_23 (t := 49) rfl rfl (fun (c24 : x23.toInt ≤ x22.toInt) => ?_) (fun (c24 : ¬ (x23.toInt ≤ x22.toInt)) => ?_)
            · exfalso; omega
            · refine ex_al oq_X11_putOnTape_26 gL18_0 ?_
              refine ex_gf oq_X11_putOnTape_27 Th16 (k := 0) (d := 11) rfl rfl (ri_ref (k := 0) (k' := 1) (d := 11) (f := 0) Th16 rfl rfl rfl (by decide) (ri_uniq (by decide +kernel))) ?_
              refine ex_al oq_X11_putOnTape_30 gL18_0 ?_
              obtain ⟨x25, ax25, rx25, lx25, ux25⟩ := ri_fld (k := 0) (d := 11) (f := 1) Th16 rfl rfl rfl
              try dsimp only at lx25 ux25
              refine ex_gf oq_X11_putOnTape_31 Th16 (k := 0) (d := 11) rfl rfl ax25 ?_
              refine ex_il oq_X11_putOnTape_34 gL18_1 ?_
              refine ex_il oq_X11_putOnTape_35 gL18_2 ?_
              refine ex_any (f := fun x y => some x) oq_X11_putOnTape_36 rfl (fun x26 => ?_)
              refine ex_i2b oq_X11_putOnTape_37 (fun x27 hx27 => ?_)
              refine ex_bwB oq_X11_putOnTape_38 Th16 (k := 1) (d := 13) (j := x25.toInt.toNat) rfl rfl (by omega) (by omega) (fun h28 Th28 wh28 => ?_)
              have Fh28 : cw_Fr cw_Ds cw_sh kk_X11_putOnTape.2.2.2.2.2.1 h0 h28 := cw_Fr_tr Fh16 (cw_Fr_wrr wh28 (k := 1) (d := 13) rfl rfl (by decide +kernel))
              have eh28_0_1 : ri_at h28 0 1 = ri_at h16 0 1 := ri_ne wh28 (.inl (by decide))
              refine ex_al oq_X11_putOnTape_39 gL18_0 ?_
              refine ex_dup oq_X11_putOnTape_40 rfl ?_
              obtain ⟨x29, ax29, rx29, lx29, ux29⟩ := ri_fld (k := 0) (d := 11) (f := 1) Th28 rfl rfl rfl
              try dsimp only at lx29 ux29
              refine ex_gf oq_X11_putOnTape_41 Th28 (k := 0) (d := 11) rfl rfl ax29 ?_
              refine ex_ic oq_X11_putOnTape_44 (m := 1) (by decide) (fun x30 hx30 => ?_)
              refine ex_add oq_X11_putOnTape_45 (by omega) (fun x31 hx31 => ?_)
              refine ex_pfi oq_X11_putOnTape_46 Th28 (k := 0) (d := 11) rfl rfl rfl (by omega) (by omega) (fun h32 Th32 wh32 => ?_)
              have Fh32 : cw_Fr cw_Ds cw_sh kk_X11_putOnTape.2.2.2.2.2.1 h0 h32 := cw_Fr_tr Fh28 (cw_Fr_wrf wh32 (k := 0) (d := 11) rfl rfl (by decide +kernel))
              have eh32_0_1 : ri_at h32 0 1 = x31.toInt := ri_self wh32
              refine ex_incA oq_X11_putOnTape_49 (v := x17) (m := (-8)) gL18_2 (by decide) (by omega) (fun L34 x33 hx33 gL34_2 kL34 => ?_)
              have gL34_0 : cv_get L34 0 = some (cv_r 0) := kL34 0 _ (by decide) (fun q => absurd q (by decide)) gL18_0
              have gL34_1 : cv_get L34 1 = some (cv_i a) := kL34 1 _ (by decide) (fun _ => rfl) gL18_1
              refine ex_go oq_X11_putOnTape_52 (t := 3) rfl rfl ?_
              refine ex_il oq_X11_putOnTape_3 gL34_2 ?_
              refine ex_if0 oq_X11_putOnTape_4 (t := 55) rfl rfl (fun (c35 : x33.toInt < 0) => ?_) (fun (c35 : ¬ (x33.toInt < 0)) => ?_)
              · exfalso; omega
              · refine ex_al oq_X11_putOnTape_7 gL34_0 ?_
                obtain ⟨x36, ax36, rx36, lx36, ux36⟩ := ri_fld (k := 0) (d := 11) (f := 1) Th32 rfl rfl rfl
                try dsimp only at lx36 ux36
                refine ex_gf oq_X11_putOnTape_8 Th32 (k := 0) (d := 11) rfl rfl ax36 ?_
                refine ex_if0 oq_X11_putOnTape_11 (t := 49) rfl rfl (fun (c37 : x36.toInt < 0) => ?_) (fun (c37 : ¬ (x36.toInt < 0)) => ?_)
                · exfalso; omega
                · refine ex_al oq_X11_putOnTape_14 gL34_0 ?_
                  obtain ⟨x38, ax38, rx38, lx38, ux38⟩ := ri_fld (k := 0) (d := 11) (f := 1) Th32 rfl rfl rfl
                  try dsimp only at lx38 ux38
                  refine ex_gf oq_X11_putOnTape_15 Th32 (k := 0) (d := 11) rfl rfl ax38 ?_
                  refine ex_al oq_X11_putOnTape_18 gL34_0 ?_
                  refine ex_gf oq_X11_putOnTape_19 Th32 (k := 0) (d := 11) rfl rfl (ri_ref (k := 0) (k' := 1) (d := 11) (f := 0) Th32 rfl rfl rfl (by decide) (ri_uniq (by decide +kernel))) ?_
                  refine ex_len oq_X11_putOnTape_22 Th32 (k := 1) (d := 13) rfl rfl (by decide) (fun x39 hx39 => ?_)
                  refine ex_if oq_X11_putOnTape_23 (t := 49) rfl rfl (fun (c40 : x39.toInt ≤ x38.toInt) => ?_) (fun (c40 : ¬ (x39.toInt ≤ x38.toInt)) => ?_)
                  · exfalso; omega
                  · refine ex_al oq_X11_putOnTape_26 gL34_0 ?_
                    refine ex_gf oq_X11_putOnTape_27 Th32 (k := 0) (d := 11) rfl rfl (ri_ref (k := 0) (k' := 1) (d := 11) (f := 0) Th32 rfl rfl rfl (by decide) (ri_uniq (by decide +kernel))) ?_
                    refine ex_al oq_X11_putOnTape_30 gL34_0 ?_
                    obtain ⟨x41, ax41, rx41, lx41, ux41⟩ := ri_fld (k := 0) (d := 11) (f := 1) Th32 rfl rfl rfl
                    try dsimp only at lx41 ux41
                    refine ex_gf oq_X11_putOnTape_31 Th32 (k := 0) (d := 11) rfl rfl ax41 ?_
                    refine ex_il oq_X11_putOnTape_34 gL34_1 ?_
                    refine ex_il oq_X11_putOnTape_35 gL34_2 ?_
                    refine ex_any (f := fun x y => some x) oq_X11_putOnTape_36 rfl (fun x42 => ?_)
                    refine ex_i2b oq_X11_putOnTape_37 (fun x43 hx43 => ?_)
                    refine ex_bwB oq_X11_putOnTape_38 Th32 (k := 1) (d := 13) (j := x41.toInt.toNat) rfl rfl (by omega) (by omega) (fun h44 Th44 wh44 => ?_)
                    have Fh44 : cw_Fr cw_Ds cw_sh kk_X11_putOnTape.2.2.2.2.2.1 h0 h44 := cw_Fr_tr Fh32 (cw_Fr_wrr wh44 (k := 1) (d := 13) rfl rfl (by decide +kernel))
                    have eh44_0_1 : ri_at h44 0 1 = ri_at h32 0 1 := ri_ne wh44 (.inl (by decide))
                    refine ex_al oq_X11_putOnTape_39 gL34_0 ?_
                    refine ex_dup oq_X11_putOnTape_40 rfl ?_
                    obtain ⟨x45, ax45, rx45, lx45, ux45⟩ := ri_fld (k := 0) (d := 11) (f := 1) Th44 rfl rfl rfl
                    try dsimp only at lx45 ux45
                    refine ex_gf oq_X11_putOnTape_41 Th44 (k := 0) (d := 11) rfl rfl ax45 ?_
                    refine ex_ic oq_X11_putOnTape_44 (m := 1) (by decide) (fun x46 hx46 => ?_)
                    refine ex_add oq_X11_putOnTape_45 (by omega) (fun x47 hx47 => ?_)
                    refine ex_pfi oq_X11_putOnTape_46 Th44 (k := 0) (d := 11) rfl rfl rfl (by omega) (by omega) (fun h48 Th48 wh48 => ?_)
                    have Fh48 : cw_Fr cw_Ds cw_sh kk_X11_putOnTape.2.2.2.2.2.1 h0 h48 := cw_Fr_tr Fh44 (cw_Fr_wrf wh48 (k := 0) (d := 11) rfl rfl (by decide +kernel))
                    have eh48_0_1 : ri_at h48 0 1 = x47.toInt := ri_self wh48
                    refine ex_incA oq_X11_putOnTape_49 (v := x33) (m := (-8)) gL34_2 (by decide) (by omega) (fun L50 x49 hx49 gL50_2 kL50 => ?_)
                    have gL50_0 : cv_get L50 0 = some (cv_r 0) := kL50 0 _ (by decide) (fun q => absurd q (by decide)) gL34_0
                    have gL50_1 : cv_get L50 1 = some (cv_i a) := kL50 1 _ (by decide) (fun _ => rfl) gL34_1
                    refine ex_go oq_X11_putOnTape_52 (t := 3) rfl rfl ?_
                    refine ex_il oq_X11_putOnTape_3 gL50_2 ?_
                    refine ex_if0 oq_X11_putOnTape_4 (t := 55) rfl rfl (fun (c51 : x49.toInt < 0) => ?_) (fun (c51 : ¬ (x49.toInt < 0)) => ?_)
                    · exfalso; omega
                    · refine ex_al oq_X11_putOnTape_7 gL50_0 ?_
                      obtain ⟨x52, ax52, rx52, lx52, ux52⟩ := ri_fld (k := 0) (d := 11) (f := 1) Th48 rfl rfl rfl
                      try dsimp only at lx52 ux52
                      refine ex_gf oq_X11_putOnTape_8 Th48 (k := 0) (d := 11) rfl rfl ax52 ?_
                      refine ex_if0 oq_X11_putOnTape_11 (t := 49) rfl rfl (fun (c53 : x52.toInt < 0) => ?_) (fun (c53 : ¬ (x52.toInt < 0)) => ?_)
                      · exfalso; omega
                      · refine ex_al oq_X11_putOnTape_14 gL50_0 ?_
                        obtain ⟨x54, ax54, rx54, lx54, ux54⟩ := ri_fld (k := 0) (d := 11) (f := 1) Th48 rfl rfl rfl
                        try dsimp only at lx54 ux54
                        refine ex_gf oq_X11_putOnTape_15 Th48 (k := 0) (d := 11) rfl rfl ax54 ?_
                        refine ex_al oq_X11_putOnTape_18 gL50_0 ?_
                        refine ex_gf oq_X11_putOnTape_19 Th48 (k := 0) (d := 11) rfl rfl (ri_ref (k := 0) (k' := 1) (d := 11) (f := 0) Th48 rfl rfl rfl (by decide) (ri_uniq (by decide +kernel))) ?_
                        refine ex_len oq_X11_putOnTape_22 Th48 (k := 1) (d := 13) rfl rfl (by decide) (fun x55 hx55 => ?_)
                        refine ex_if oq_X11_putOnTape_23 (t := 49) rfl rfl (fun (c56 : x55.toInt ≤ x54.toInt) => ?_) (fun (c56 : ¬ (x55.toInt ≤ x54.toInt)) => ?_)
                        · exfalso; omega
                        · refine ex_al oq_X11_putOnTape_26 gL50_0 ?_
                          refine ex_gf oq_X11_putOnTape_27 Th48 (k := 0) (d := 11) rfl rfl (ri_ref (k := 0) (k' := 1) (d := 11) (f := 0) Th48 rfl rfl rfl (by decide) (ri_uniq (by decide +kernel))) ?_
                          refine ex_al oq_X11_putOnTape_30 gL50_0 ?_
                          obtain ⟨x57, ax57, rx57, lx57, ux57⟩ := ri_fld (k := 0) (d := 11) (f := 1) Th48 rfl rfl rfl
                          try dsimp only at lx57 ux57
                          refine ex_gf oq_X11_putOnTape_31 Th48 (k := 0) (d := 11) rfl rfl ax57 ?_
                          refine ex_il oq_X11_putOnTape_34 gL50_1 ?_
                          refine ex_il oq_X11_putOnTape_35 gL50_2 ?_
                          refine ex_any (f := fun x y => some x) oq_X11_putOnTape_36 rfl (fun x58 => ?_)
                          refine ex_i2b oq_X11_putOnTape_37 (fun x59 hx59 => ?_)
                          refine ex_bwB oq_X11_putOnTape_38 Th48 (k := 1) (d := 13) (j := x57.toInt.toNat) rfl rfl (by omega) (by omega) (fun h60 Th60 wh60 => ?_)
                          have Fh60 : cw_Fr cw_Ds cw_sh kk_X11_putOnTape.2.2.2.2.2.1 h0 h60 := cw_Fr_tr Fh48 (cw_Fr_wrr wh60 (k := 1) (d := 13) rfl rfl (by decide +kernel))
                          have eh60_0_1 : ri_at h60 0 1 = ri_at h48 0 1 := ri_ne wh60 (.inl (by decide))
                          refine ex_al oq_X11_putOnTape_39 gL50_0 ?_
                          refine ex_dup oq_X11_putOnTape_40 rfl ?_
                          obtain ⟨x61, ax61, rx61, lx61, ux61⟩ := ri_fld (k := 0) (d := 11) (f := 1) Th60 rfl rfl rfl
                          try dsimp only at lx61 ux61
                          refine ex_gf oq_X11_putOnTape_41 Th60 (k := 0) (d := 11) rfl rfl ax61 ?_
                          refine ex_ic oq_X11_putOnTape_44 (m := 1) (by decide) (fun x62 hx62 => ?_)
                          refine ex_add oq_X11_putOnTape_45 (by omega) (fun x63 hx63 => ?_)
                          refine ex_pfi oq_X11_putOnTape_46 Th60 (k := 0) (d := 11) rfl rfl rfl (by omega) (by omega) (fun h64 Th64 wh64 => ?_)
                          have Fh64 : cw_Fr cw_Ds cw_sh kk_X11_putOnTape.2.2.2.2.2.1 h0 h64 := cw_Fr_tr Fh60 (cw_Fr_wrf wh64 (k := 0) (d := 11) rfl rfl (by decide +kernel))
                          have eh64_0_1 : ri_at h64 0 1 = x63.toInt := ri_self wh64
                          refine ex_incA oq_X11_putOnTape_49 (v := x49) (m := (-8)) gL50_2 (by decide) (by omega) (fun L66 x65 hx65 gL66_2 kL66 => ?_)
                          have gL66_0 : cv_get L66 0 = some (cv_r 0) := kL66 0 _ (by decide) (fun q => absurd q (by decide)) gL50_0
                          have gL66_1 : cv_get L66 1 = some (cv_i a) := kL66 1 _ (by decide) (fun _ => rfl) gL50_1
                          refine ex_go oq_X11_putOnTape_52 (t := 3) rfl rfl ?_
                          refine ex_il oq_X11_putOnTape_3 gL66_2 ?_
                          refine ex_if0 oq_X11_putOnTape_4 (t := 55) rfl rfl (fun (c67 : x65.toInt < 0) => ?_) (fun (c67 : ¬ (x65.toInt < 0)) => ?_)
                          · exact ex_retv oq_X11_putOnTape_55 rfl (hQ h64 Th64 Fh64 (by omega))
                          · exfalso; omega
theorem oq_X11_feed_0 : cw_ho 107 0 (.aload_n 0) 1 0 0 0 := rfl
theorem oq_X11_feed_1 : cw_ho 107 1 (.getfield 96) 3 11 1 0 := rfl
theorem oq_X11_feed_4 : cw_ho 107 4 (.sipush 880) 3 0 0 0 := rfl
theorem oq_X11_feed_7 : cw_ho 107 7 (.if_icmp .le 5) 3 0 0 0 := rfl
theorem oq_X11_feed_10 : cw_ho 107 10 (.iconst (-1)) 1 0 0 0 := rfl
theorem oq_X11_feed_11 : cw_ho 107 11 (.ireturn) 1 0 0 0 := rfl
theorem oq_X11_feed_12 : cw_ho 107 12 (.aload_n 0) 1 0 0 0 := rfl
theorem oq_X11_feed_13 : cw_ho 107 13 (.iload_n 1) 1 0 0 0 := rfl
theorem oq_X11_feed_14 : cw_ho 107 14 (.invokevirtual 99) 3 108 1 11 := rfl
theorem oq_X11_feed_17 : cw_ho 107 17 (.aload_n 0) 1 0 0 0 := rfl
theorem oq_X11_feed_18 : cw_ho 107 18 (.iload_n 2) 1 0 0 0 := rfl
theorem oq_X11_feed_19 : cw_ho 107 19 (.invokevirtual 99) 3 108 1 11 := rfl
theorem oq_X11_feed_22 : cw_ho 107 22 (.aload_n 0) 1 0 0 0 := rfl
theorem oq_X11_feed_23 : cw_ho 107 23 (.iload_n 3) 1 0 0 0 := rfl
theorem oq_X11_feed_24 : cw_ho 107 24 (.invokevirtual 99) 3 108 1 11 := rfl
theorem oq_X11_feed_27 : cw_ho 107 27 (.aload_n 0) 1 0 0 0 := rfl
theorem oq_X11_feed_28 : cw_ho 107 28 (.iload 4) 2 0 0 0 := rfl
theorem oq_X11_feed_30 : cw_ho 107 30 (.invokevirtual 99) 3 108 1 11 := rfl
theorem oq_X11_feed_33 : cw_ho 107 33 (.aload_n 0) 1 0 0 0 := rfl
theorem oq_X11_feed_34 : cw_ho 107 34 (.iload 5) 2 0 0 0 := rfl
theorem oq_X11_feed_36 : cw_ho 107 36 (.invokevirtual 99) 3 108 1 11 := rfl
theorem oq_X11_feed_39 : cw_ho 107 39 (.aload_n 0) 1 0 0 0 := rfl
theorem oq_X11_feed_40 : cw_ho 107 40 (.getfield 96) 3 11 1 0 := rfl
theorem oq_X11_feed_43 : cw_ho 107 43 (.ireturn) 1 0 0 0 := rfl
theorem sp_feedC {h0 : cv_H} (hT : cw_T G h0) (a1 a2 a3 a4 a5 : Int32) (hQ : ∀ (x : Int32) h', cw_T G h' → cw_Fr cw_Ds cw_sh kk_X11_feed.2.2.2.2.2.1 h0 h' → (880 < ri_at h0 0 1 ∧ x.toInt = -1 ∧ ri_at h' 0 1 = ri_at h0 0 1 ∨ ri_at h0 0 1 ≤ 880 ∧ x.toInt = ri_at h0 0 1 + 20 ∧ ri_at h' 0 1 = ri_at h0 0 1 + 20) → Q (some (cv_i x), h')) : cw_X X 107 Q 0 (cv_ent 0 [cv_r 0, cv_i a1, cv_i a2, cv_i a3, cv_i a4, cv_i a5]) [] h0 := by
  have Fh0 : cw_Fr cw_Ds cw_sh kk_X11_feed.2.2.2.2.2.1 h0 h0 := cw_Fr_refl
  refine ex_al oq_X11_feed_0 rfl ?_
  obtain ⟨x301, ax301, rx301, lx301, ux301⟩ := ri_fld (k := 0) (d := 11) (f := 1) hT rfl rfl rfl
  try dsimp only at lx301 ux301
  refine ex_gf oq_X11_feed_1 hT (k := 0) (d := 11) rfl rfl ax301 ?_
  refine ex_si oq_X11_feed_4 (m := 880) (by decide) (fun x302 hx302 => ?_)
  refine ex_if oq_X11_feed_7 (t := 12) rfl rfl (fun (c303 : x301.toInt ≤ x302.toInt) => ?_) (fun (c303 : ¬ (x301.toInt ≤ x302.toInt)) => ?_)
  · refine ex_al oq_X11_feed_12 rfl ?_
    refine ex_il oq_X11_feed_13 rfl ?_
    refine ex_cv oq_X11_feed_14 (by decide) hT (k := 0) (d := 11) (as := [cv_i a1]) (stk := []) rfl rfl rfl rfl rfl rfl ⟨rfl, rfl⟩ (R := fun o => ∃ hb : cv_H, o = (none, hb) ∧ cw_T G hb ∧ cw_Fr cw_Ds cw_sh kk_X11_putOnTape.2.2.2.2.2.1 h0 hb ∧ ri_at hb 0 1 = ri_at h0 0 1 + 4) (sp_putOnTape hT a1 (by omega) (fun hb a1 a2 a3 => ⟨hb, rfl, a1, a2, a3⟩)) (fun o ho => ?_)
    obtain ⟨h304, rfl, Th304, Ch304, eh304_0_1⟩ := ho
    show cw_X _ _ _ _ _ [] h304
    have Fh304 : cw_Fr cw_Ds cw_sh kk_X11_feed.2.2.2.2.2.1 h0 h304 := cw_Fr_tr Fh0 (cw_Fr_mono (by decide +kernel) Ch304)
    refine ex_al oq_X11_feed_17 rfl ?_
    refine ex_il oq_X11_feed_18 rfl ?_
    refine ex_cv oq_X11_feed_19 (by decide) Th304 (k := 0) (d := 11) (as := [cv_i a2]) (stk := []) rfl rfl rfl rfl rfl rfl ⟨rfl, rfl⟩ (R := fun o => ∃ hb : cv_H, o = (none, hb) ∧ cw_T G hb ∧ cw_Fr cw_Ds cw_sh kk_X11_putOnTape.2.2.2.2.2.1 h304 hb ∧ ri_at hb 0 1 = ri_at h304 0 1 + 4) (sp_putOnTape Th304 a2 (by omega) (fun hb a1 a2 a3 => ⟨hb, rfl, a1, a2, a3⟩)) (fun o ho => ?_)
    obtain ⟨h305, rfl, Th305, Ch305, eh305_0_1⟩ := ho
    show cw_X _ _ _ _ _ [] h305
    have Fh305 : cw_Fr cw_Ds cw_sh kk_X11_feed.2.2.2.2.2.1 h0 h305 := cw_Fr_tr Fh304 (cw_Fr_mono (by decide +kernel) Ch305)
    refine ex_al oq_X11_feed_22 rfl ?_
    refine ex_il oq_X11_feed_23 rfl ?_
    refine ex_cv oq_X11_feed_24 (by decide) Th305 (k := 0) (d := 11) (as := [cv_i a3]) (stk := []) rfl rfl rfl rfl rfl rfl ⟨rfl, rfl⟩ (R := fun o => ∃ hb : cv_H, o = (none, hb) ∧ cw_T G hb ∧ cw_Fr cw_Ds cw_sh kk_X11_putOnTape.2.2.2.2.2.1 h305 hb ∧ ri_at hb 0 1 = ri_at h305 0 1 + 4) (sp_putOnTape Th305 a3 (by omega) (fun hb a1 a2 a3 => ⟨hb, rfl, a1, a2, a3⟩)) (fun o ho => ?_)
    obtain ⟨h306, rfl, Th306, Ch306, eh306_0_1⟩ := ho
    show cw_X _ _ _ _ _ [] h306
    have Fh306 : cw_Fr cw_Ds cw_sh kk_X11_feed.2.2.2.2.2.1 h0 h306 := cw_Fr_tr Fh305 (cw_Fr_mono (by decide +kernel) Ch306)
    refine ex_al oq_X11_feed_27 rfl ?_
    refine ex_ilw oq_X11_feed_28 rfl ?_
    refine ex_cv oq_X11_feed_30 (by decide) Th306 (k := 0) (d := 11) (as := [cv_i a4]) (stk := []) rfl rfl rfl rfl rfl rfl ⟨rfl, rfl⟩ (R := fun o => ∃ hb : cv_H, o = (none, hb) ∧ cw_T G hb ∧ cw_Fr cw_Ds cw_sh kk_X11_putOnTape.2.2.2.2.2.1 h306 hb ∧ ri_at hb 0 1 = ri_at h306 0 1 + 4) (sp_putOnTape Th306 a4 (by omega) (fun hb a1 a2 a3 => ⟨hb, rfl, a1, a2, a3⟩)) (fun o ho => ?_)
    obtain ⟨h307, rfl, Th307, Ch307, eh307_0_1⟩ := ho
    show cw_X _ _ _ _ _ [] h307
    have Fh307 : cw_Fr cw_Ds cw_sh kk_X11_feed.2.2.2.2.2.1 h0 h307 := cw_Fr_tr Fh306 (cw_Fr_mono (by decide +kernel) Ch307)
    refine ex_al oq_X11_feed_33 rfl ?_
    refine ex_ilw oq_X11_feed_34 rfl ?_
    refine ex_cv oq_X11_feed_36 (by decide) Th307 (k := 0) (d := 11) (as := [cv_i a5]) (stk := []) rfl rfl rfl rfl rfl rfl ⟨rfl, rfl⟩ (R := fun o => ∃ hb : cv_H, o = (none, hb) ∧ cw_T G hb ∧ cw_Fr cw_Ds cw_sh kk_X11_putOnTape.2.2.2.2.2.1 h307 hb ∧ ri_at hb 0 1 = ri_at h307 0 1 + 4) (sp_putOnTape Th307 a5 (by omega) (fun hb a1 a2 a3 => ⟨hb, rfl, a1, a2, a3⟩)) (fun o ho => ?_)
    obtain ⟨h308, rfl, Th308, Ch308, eh308_0_1⟩ := ho
    show cw_X _ _ _ _ _ [] h308
    have Fh308 : cw_Fr cw_Ds cw_sh kk_X11_feed.2.2.2.2.2.1 h0 h308 := cw_Fr_tr Fh307 (cw_Fr_mono (by decide +kernel) Ch308)
    refine ex_al oq_X11_feed_39 rfl ?_
    obtain ⟨x309, ax309, rx309, lx309, ux309⟩ := ri_fld (k := 0) (d := 11) (f := 1) Th308 rfl rfl rfl
    try dsimp only at lx309 ux309
    refine ex_gf oq_X11_feed_40 Th308 (k := 0) (d := 11) rfl rfl ax309 ?_
    exact ex_reti oq_X11_feed_43 rfl (hQ x309 h308 Th308 Fh308 (by omega))
  · refine ex_ic oq_X11_feed_10 (m := (-1)) (by decide) (fun x310 hx310 => ?_)
    exact ex_reti oq_X11_feed_11 rfl (hQ x310 h0 hT Fh0 (by omega))
theorem oq_X11_text_0 : cw_ho 109 0 (.iload_n 1) 1 0 0 0 := rfl
theorem oq_X11_text_1 : cw_ho 109 1 (.ifCond .lt 11) 3 0 0 0 := rfl
theorem oq_X11_text_4 : cw_ho 109 4 (.iload_n 1) 1 0 0 0 := rfl
theorem oq_X11_text_5 : cw_ho 109 5 (.aload_n 0) 1 0 0 0 := rfl
theorem oq_X11_text_6 : cw_ho 109 6 (.getfield 96) 3 11 1 0 := rfl
theorem oq_X11_text_9 : cw_ho 109 9 (.if_icmp .le 6) 3 0 0 0 := rfl
theorem oq_X11_text_12 : cw_ho 109 12 (.bipush (-2)) 2 0 0 0 := rfl
theorem oq_X11_text_14 : cw_ho 109 14 (.ireturn) 1 0 0 0 := rfl
theorem oq_X11_text_15 : cw_ho 109 15 (.aload_n 0) 1 0 0 0 := rfl
theorem oq_X11_text_16 : cw_ho 109 16 (.iconst 0) 1 0 0 0 := rfl
theorem oq_X11_text_17 : cw_ho 109 17 (.putfield 96) 3 11 1 0 := rfl
theorem oq_X11_text_20 : cw_ho 109 20 (.aload_n 0) 1 0 0 0 := rfl
theorem oq_X11_text_21 : cw_ho 109 21 (.getfield 30) 3 11 4 4 := rfl
theorem oq_X11_text_24 : cw_ho 109 24 (.aload_n 0) 1 0 0 0 := rfl
theorem oq_X11_text_25 : cw_ho 109 25 (.getfield 22) 3 11 3 4 := rfl
theorem oq_X11_text_28 : cw_ho 109 28 (.iload_n 1) 1 0 0 0 := rfl
theorem oq_X11_text_29 : cw_ho 109 29 (.invokevirtual 103) 3 60 2 5 := rfl
theorem oq_X11_text_32 : cw_ho 109 32 (.istore_n 2) 1 0 0 0 := rfl
theorem oq_X11_text_33 : cw_ho 109 33 (.iload_n 2) 1 0 0 0 := rfl
theorem oq_X11_text_34 : cw_ho 109 34 (.iconst (-1)) 1 0 0 0 := rfl
theorem oq_X11_text_35 : cw_ho 109 35 (.if_icmp .eq 7) 3 0 0 0 := rfl
theorem oq_X11_text_38 : cw_ho 109 38 (.aload_n 0) 1 0 0 0 := rfl
theorem oq_X11_text_39 : cw_ho 109 39 (.invokevirtual 107) 3 110 0 11 := rfl
theorem oq_X11_text_42 : cw_ho 109 42 (.iload_n 2) 1 0 0 0 := rfl
theorem oq_X11_text_43 : cw_ho 109 43 (.ireturn) 1 0 0 0 := rfl
theorem sp_textC {h0 : cv_H} (hX : cw_Xok X) (hT : cw_T G h0) (hP : cw_PP G h0) (n : Int32) (hQ : ∀ (x : Int32) h', cw_T G h' → cw_PP G h' → cw_Fr cw_Ds cw_sh kk_X11_text.2.2.2.2.2.1 h0 h' → ((n.toInt < 0 ∨ ri_at h0 0 1 < n.toInt) ∧ ri_at h' 0 1 = ri_at h0 0 1 ∨ 0 ≤ n.toInt ∧ n.toInt ≤ ri_at h0 0 1 ∧ ri_at h' 0 1 = 0) → Q (some (cv_i x), h')) : cw_X X 109 Q 0 (cv_ent 0 [cv_r 0, cv_i n]) [] h0 := by
  have Fh0 : cw_Fr cw_Ds cw_sh kk_X11_text.2.2.2.2.2.1 h0 h0 := cw_Fr_refl
  refine ex_il oq_X11_text_0 rfl ?_
  refine ex_if0 oq_X11_text_1 (t := 12) rfl rfl (fun (c601 : n.toInt < 0) => ?_) (fun (c601 : ¬ (n.toInt < 0)) => ?_)
  · refine ex_bi oq_X11_text_12 (m := (-2)) (by decide) (fun x602 hx602 => ?_)
    exact ex_reti oq_X11_text_14 rfl (hQ x602 h0 hT (pp_fr0 (by decide +kernel) hP Fh0) Fh0 (by omega))
  · refine ex_il oq_X11_text_4 rfl ?_
    refine ex_al oq_X11_text_5 rfl ?_
    obtain ⟨x603, ax603, rx603, lx603, ux603⟩ := ri_fld (k := 0) (d := 11) (f := 1) hT rfl rfl rfl
    try dsimp only at lx603 ux603
    refine ex_gf oq_X11_text_6 hT (k := 0) (d := 11) rfl rfl ax603 ?_
    refine ex_if oq_X11_text_9 (t := 15) rfl rfl (fun (c604 : n.toInt ≤ x603.toInt) => ?_) (fun (c604 : ¬ (n.toInt ≤ x603.toInt)) => ?_)
    · refine ex_al oq_X11_text_15 rfl ?_
      refine ex_ic oq_X11_text_16 (m := 0) (by decide) (fun x605 hx605 => ?_)
      refine ex_pfi oq_X11_text_17 hT (k := 0) (d := 11) rfl rfl rfl (by omega) (by omega) (fun h606 Th606 wh606 => ?_)
      have Fh606 : cw_Fr cw_Ds cw_sh kk_X11_text.2.2.2.2.2.1 h0 h606 := cw_Fr_tr Fh0 (cw_Fr_wrf wh606 (k := 0) (d := 11) rfl rfl (by decide +kernel))
      have eh606_0_1 : ri_at h606 0 1 = x605.toInt := ri_self wh606
      refine ex_al oq_X11_text_20 rfl ?_
      refine ex_gf oq_X11_text_21 Th606 (k := 0) (d := 11) rfl rfl (ri_ref (k := 0) (k' := 50) (d := 11) (f := 4) Th606 rfl rfl rfl (by decide) (ri_uniq (by decide +kernel))) ?_
      refine ex_al oq_X11_text_24 rfl ?_
      obtain ⟨k607, ak607, sk607⟩ := ri_refs (k := 0) (d := 11) (f := 3) Th606 rfl rfl rfl (by decide)
      refine ex_gf oq_X11_text_25 Th606 (k := 0) (d := 11) rfl rfl ak607 ?_
      refine ex_il oq_X11_text_28 rfl ?_
      have Ph606 : cw_PP G h606 := pp_fr0 (by decide +kernel) hP Fh606
      refine ex_cv oq_X11_text_29 (by decide) Th606 (k := 50) (d := 5) (as := [cv_r k607, cv_i n]) (stk := []) rfl rfl rfl rfl rfl rfl ⟨rfl, rfl⟩ (cw_HX hz_X5_readText rfl (cw_Xok_no2 hX) ⟨Th606, Ph606⟩ ⟨.inl ⟨by decide, 50, rfl, rfl⟩, .inl ⟨by decide, k607, rfl, sk607⟩, ⟨_, rfl, cw_top_ok _⟩, trivial⟩ (fun t ht => absurd ht List.not_mem_nil)) (fun ox609 hox609 => ?_)
      obtain ⟨x609, h608, rfl, rx609, Th608, Ph608, Ch608, tx609⟩ := po_int hox609 rfl
      have lx609 := rx609.1
      have ux609 := rx609.2.1
      try dsimp only at lx609 ux609
      show cw_X _ _ _ _ _ [cv_i x609] h608
      have Fh608 : cw_Fr cw_Ds cw_sh kk_X11_text.2.2.2.2.2.1 h0 h608 := cw_Fr_tr Fh606 (cw_Fr_mono (by decide +kernel) Ch608)
      have eh608_0_1 : ri_at h608 0 1 = ri_at h606 0 1 := ri_frf Ch608 (d := 11) rfl rfl (by decide +kernel)
      refine ex_isA oq_X11_text_32 (fun L610 gL610_2 kL610 => ?_)
      have gL610_0 : cv_get L610 0 = some (cv_r 0) := kL610 0 _ (by decide) (fun q => absurd q (by decide)) rfl
      have gL610_1 : cv_get L610 1 = some (cv_i n) := kL610 1 _ (by decide) (fun _ => rfl) rfl
      refine ex_il oq_X11_text_33 gL610_2 ?_
      refine ex_ic oq_X11_text_34 (m := (-1)) (by decide) (fun x611 hx611 => ?_)
      refine ex_if oq_X11_text_35 (t := 42) rfl rfl (fun (c612 : x609.toInt = x611.toInt) => ?_) (fun (c612 : ¬ (x609.toInt = x611.toInt)) => ?_)
      · refine ex_il oq_X11_text_42 gL610_2 ?_
        exact ex_reti oq_X11_text_43 rfl (hQ x609 h608 Th608 (pp_fr0 (by decide +kernel) hP Fh608) Fh608 (by omega))
      · refine ex_al oq_X11_text_38 gL610_0 ?_
        have Ph608 : cw_PP G h608 := pp_fr0 (by decide +kernel) hP Fh608
        refine ex_cv oq_X11_text_39 (by decide) Th608 (k := 0) (d := 11) (as := []) (stk := []) rfl rfl rfl rfl rfl rfl ⟨rfl, rfl⟩ (cw_HX hz_X11_takeSpare rfl (cw_Xok_no2 hX) ⟨Th608, Ph608⟩ ⟨.inl ⟨by decide, 0, rfl, rfl⟩, trivial⟩ (fun t ht => absurd ht List.not_mem_nil)) (fun ox614 hox614 => ?_)
        obtain ⟨h613, rfl, Th613, Ph613, Ch613⟩ := po_non hox614 rfl
        show cw_X _ _ _ _ _ [] h613
        have Fh613 : cw_Fr cw_Ds cw_sh kk_X11_text.2.2.2.2.2.1 h0 h613 := cw_Fr_tr Fh608 (cw_Fr_mono (by decide +kernel) Ch613)
        have eh613_0_1 : ri_at h613 0 1 = ri_at h608 0 1 := ri_frf Ch613 (d := 11) rfl rfl (by decide +kernel)
        refine ex_il oq_X11_text_42 gL610_2 ?_
        exact ex_reti oq_X11_text_43 rfl (hQ x609 h613 Th613 (pp_fr0 (by decide +kernel) hP Fh613) Fh613 (by omega))
    · refine ex_bi oq_X11_text_12 (m := (-2)) (by decide) (fun x615 hx615 => ?_)
      exact ex_reti oq_X11_text_14 rfl (hQ x615 h0 hT (pp_fr0 (by decide +kernel) hP Fh0) Fh0 (by omega))
end SPZE
