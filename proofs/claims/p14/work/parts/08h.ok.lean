section
/-! ===== the rows of the methods ===== -/
def hn_X12_shutsFrom : List (List (Nat × Nat)) := [
  [], [], [], [], [], [], [], [], [], [], [(9, 47)], [],
  [], [], [], [], [(9, 47)], [], [], [], [], [], [], [],
  [], [], [], []]
set_option maxRecDepth 100000 in
theorem ok_X12_shutsFrom : ∀ q ∈ op_X12_shutsFrom, cv_ok cv_T vwCl mt_all mt_X12_shutsFrom q := cv_zip_ok ok_mm (by decide) okj_all ok_o1 ok_o2 (hs := hn_X12_shutsFrom) (by decide +kernel) (by decide +kernel)
def hn_X12_shuts : List (List (Nat × Nat)) := [
  [], [], [(6, 179)], [], [], [(8, 68)], [], [], [], [], [], [(8, 76)],
  [], [], [(9, 59)], []]
set_option maxRecDepth 100000 in
theorem ok_X12_shuts : ∀ q ∈ op_X12_shuts, cv_ok cv_T vwCl mt_all mt_X12_shuts q := cv_zip_ok ok_mm (by decide) okj_all ok_o1 ok_o2 (hs := hn_X12_shuts) (by decide +kernel) (by decide +kernel)
def hn_X12_aboveOf : List (List (Nat × Nat)) := [
  [], [(6, 203)], [], [], [], [], [], [], [], [], [(9, 47)], [],
  [], [], [], [(9, 47)], [], [], [], [(9, 71)], [], [], [(8, 80)], [],
  [], [], [], [], [], [(6, 203)], [], [], [], [], [], [],
  [], [], [], [], [(8, 116)], [], [], [(9, 72)], [], [(6, 204)], [], [],
  [], [], [], [], [], [], [], [], []]
set_option maxRecDepth 100000 in
theorem ok_X12_aboveOf : ∀ q ∈ op_X12_aboveOf, cv_ok cv_T vwCl mt_all mt_X12_aboveOf q := cv_zip_ok ok_mm (by decide) okj_all ok_o1 ok_o2 (hs := hn_X12_aboveOf) (by decide +kernel) (by decide +kernel)
def hn_X12_above : List (List (Nat × Nat)) := [
  [], [], [(6, 179)], [], [], [(8, 68)], [], [], [], [(9, 43)], [], [(8, 151)],
  [], [], [], [(8, 76)], [], [], [], [(9, 67)], []]
set_option maxRecDepth 100000 in
theorem ok_X12_above : ∀ q ∈ op_X12_above, cv_ok cv_T vwCl mt_all mt_X12_above q := cv_zip_ok ok_mm (by decide) okj_all ok_o1 ok_o2 (hs := hn_X12_above) (by decide +kernel) (by decide +kernel)
def hn_X12_opensTo : List (List (Nat × Nat)) := [
  [], [], [], [], [], [], [], [], [(9, 67)], [], [], [],
  [], [], [], []]
set_option maxRecDepth 100000 in
theorem ok_X12_opensTo : ∀ q ∈ op_X12_opensTo, cv_ok cv_T vwCl mt_all mt_X12_opensTo q := cv_zip_ok ok_mm (by decide) okj_all ok_o1 ok_o2 (hs := hn_X12_opensTo) (by decide +kernel) (by decide +kernel)
def hn_X12_opens : List (List (Nat × Nat)) := [
  [], [], [(6, 179)], [], [], [(8, 68)], [], [], [], [], [], [(8, 76)],
  [], [], [(9, 77)], []]
set_option maxRecDepth 100000 in
theorem ok_X12_opens : ∀ q ∈ op_X12_opens, cv_ok cv_T vwCl mt_all mt_X12_opens q := cv_zip_ok ok_mm (by decide) okj_all ok_o1 ok_o2 (hs := hn_X12_opens) (by decide +kernel) (by decide +kernel)
def hn_X12_stand_0 : List (List (Nat × Nat)) := [
  [], [], [(6, 179)], [], [], [(8, 68)], [], [], [], [(9, 43)], [], [],
  [], [], [(7, 197)], [], [(8, 151)], [], [], [], [(8, 76)], [], [(6, 203)], [],
  [], [], [], [], [], [], [], [(6, 203)], [], [], [], [],
  [], [], [], [], [], [], [], [], [], [], [], [],
  [], [], [], [], [], [], [], [], [], [], [], []]
set_option maxRecDepth 100000 in
theorem ok_X12_stand_0 : ∀ q ∈ op_X12_stand_0, cv_ok cv_T vwCl mt_all mt_X12_stand q := cv_zip_ok ok_mm (by decide) okj_all ok_o1 ok_o2 (hs := hn_X12_stand_0) (by decide +kernel) (by decide +kernel)
def hn_X12_stand_1 : List (List (Nat × Nat)) := [
  [], [], [], [], [(9, 85)], [], [(9, 85)], [], [], [], [], [],
  [(6, 203)], [], [], [], [], [], [], [], [], [(6, 203)], [], [],
  [], [], [], [], [], [], [], [(9, 59)], [], [], [], [],
  [], [], [(9, 77)], [], [], [], [], [(9, 85)], [], [(9, 85)], [], [],
  [], [], [], [], [], [], [], [], [], [(6, 203)], [], []]
set_option maxRecDepth 100000 in
theorem ok_X12_stand_1 : ∀ q ∈ op_X12_stand_1, cv_ok cv_T vwCl mt_all mt_X12_stand q := cv_zip_ok ok_mm (by decide) okj_all ok_o1 ok_o2 (hs := hn_X12_stand_1) (by decide +kernel) (by decide +kernel)
def hn_X12_stand_2 : List (List (Nat × Nat)) := [
  [], [], [], [], [], [], [(6, 203)], [], [], [], [], [],
  [], [], [], [], [(8, 151)], [], [], [], [], [], [], []]
set_option maxRecDepth 100000 in
theorem ok_X12_stand_2 : ∀ q ∈ op_X12_stand_2, cv_ok cv_T vwCl mt_all mt_X12_stand q := cv_zip_ok ok_mm (by decide) okj_all ok_o1 ok_o2 (hs := hn_X12_stand_2) (by decide +kernel) (by decide +kernel)
theorem ok_X12_stand : ∀ q ∈ op_X12_stand, cv_ok cv_T vwCl mt_all mt_X12_stand q := List.forall_mem_append.mpr ⟨ok_X12_stand_0, List.forall_mem_append.mpr ⟨ok_X12_stand_1, ok_X12_stand_2⟩⟩
def hn_X12_nextOrder_0 : List (List (Nat × Nat)) := [
  [], [], [], [], [], [], [], [], [], [], [], [],
  [], [], [], [], [], [], [], [], [], [], [], [],
  [], [], [], [], [], [], [], [], [], [], [], [],
  [], [], [], [], [], [], [], [], [], [], [], [],
  [], [], [], [], [], [], [], [], [], [], [], []]
set_option maxRecDepth 100000 in
theorem ok_X12_nextOrder_0 : ∀ q ∈ op_X12_nextOrder_0, cv_ok cv_T vwCl mt_all mt_X12_nextOrder q := cv_zip_ok ok_mm (by decide) okj_all ok_o1 ok_o2 (hs := hn_X12_nextOrder_0) (by decide +kernel) (by decide +kernel)
def hn_X12_nextOrder_1 : List (List (Nat × Nat)) := [
  [], [], [], [], [], [], [], [], [], [], [], [],
  [], [], [], [], [], []]
set_option maxRecDepth 100000 in
theorem ok_X12_nextOrder_1 : ∀ q ∈ op_X12_nextOrder_1, cv_ok cv_T vwCl mt_all mt_X12_nextOrder q := cv_zip_ok ok_mm (by decide) okj_all ok_o1 ok_o2 (hs := hn_X12_nextOrder_1) (by decide +kernel) (by decide +kernel)
theorem ok_X12_nextOrder : ∀ q ∈ op_X12_nextOrder, cv_ok cv_T vwCl mt_all mt_X12_nextOrder q := List.forall_mem_append.mpr ⟨ok_X12_nextOrder_0, ok_X12_nextOrder_1⟩
def hn_X12_weekOfAll : List (List (Nat × Nat)) := [
  [], [], [], [], [], [], [(6, 189)], [], [], [(6, 222)], [], [],
  [(7, 2)], [], [], [], [(6, 174)], [], [], [], [(8, 108)], [], [], [],
  [(8, 156)], [], [], [], [], [], [], [], [(7, 2)], [], [], [],
  [], [(6, 222)], [], [(6, 174)], [], [], [], []]
set_option maxRecDepth 100000 in
theorem ok_X12_weekOfAll : ∀ q ∈ op_X12_weekOfAll, cv_ok cv_T vwCl mt_all mt_X12_weekOfAll q := cv_zip_ok ok_mm (by decide) okj_all ok_o1 ok_o2 (hs := hn_X12_weekOfAll) (by decide +kernel) (by decide +kernel)
def hn_X12_sumBy_0 : List (List (Nat × Nat)) := [
  [], [], [], [], [(6, 189)], [], [], [(7, 2)], [], [], [], [],
  [(6, 221)], [], [], [], [(6, 174)], [], [], [], [], [], [], [],
  [], [(6, 189)], [], [], [], [], [], [], [], [], [(7, 0)], [],
  [], [], [], [], [], [(6, 222)], [], [], [(7, 2)], [], [], [],
  [(6, 174)], [], [(7, 2)], [], [], [], [], [], [], [], [], []]
set_option maxRecDepth 100000 in
theorem ok_X12_sumBy_0 : ∀ q ∈ op_X12_sumBy_0, cv_ok cv_T vwCl mt_all mt_X12_sumBy q := cv_zip_ok ok_mm (by decide) okj_all ok_o1 ok_o2 (hs := hn_X12_sumBy_0) (by decide +kernel) (by decide +kernel)
def hn_X12_sumBy_1 : List (List (Nat × Nat)) := [
  [(8, 116)], [], [], [], [], [], [(6, 220)], [], [], [(9, 96)], [], [],
  [], [], [], []]
set_option maxRecDepth 100000 in
theorem ok_X12_sumBy_1 : ∀ q ∈ op_X12_sumBy_1, cv_ok cv_T vwCl mt_all mt_X12_sumBy q := cv_zip_ok ok_mm (by decide) okj_all ok_o1 ok_o2 (hs := hn_X12_sumBy_1) (by decide +kernel) (by decide +kernel)
theorem ok_X12_sumBy : ∀ q ∈ op_X12_sumBy, cv_ok cv_T vwCl mt_all mt_X12_sumBy q := List.forall_mem_append.mpr ⟨ok_X12_sumBy_0, ok_X12_sumBy_1⟩
def hn_X12_first_0 : List (List (Nat × Nat)) := [
  [], [], [(6, 179)], [], [(6, 189)], [], [], [], [], [(7, 197)], [], [],
  [], [], [(6, 189)], [(7, 197)], [], [], [], [], [], [], [], [],
  [], [(7, 0)], [], [], [], [], [], [], [], [], [], [],
  [], [], [], [(9, 92)], [], [], [], [], [], [], [], [],
  [], [], [], [], [], [], [(7, 1)], [], [], [(7, 0)], [], []]
set_option maxRecDepth 100000 in
theorem ok_X12_first_0 : ∀ q ∈ op_X12_first_0, cv_ok cv_T vwCl mt_all mt_X12_first q := cv_zip_ok ok_mm (by decide) okj_all ok_o1 ok_o2 (hs := hn_X12_first_0) (by decide +kernel) (by decide +kernel)
def hn_X12_first_1 : List (List (Nat × Nat)) := [
  [], [], [], [], [(7, 0)], [], [(6, 189)], [(9, 100)], [], [], [], [],
  [], [], [], [(7, 1)], [], [], [], [], []]
set_option maxRecDepth 100000 in
theorem ok_X12_first_1 : ∀ q ∈ op_X12_first_1, cv_ok cv_T vwCl mt_all mt_X12_first q := cv_zip_ok ok_mm (by decide) okj_all ok_o1 ok_o2 (hs := hn_X12_first_1) (by decide +kernel) (by decide +kernel)
theorem ok_X12_first : ∀ q ∈ op_X12_first, cv_ok cv_T vwCl mt_all mt_X12_first q := List.forall_mem_append.mpr ⟨ok_X12_first_0, ok_X12_first_1⟩
def hn_X12_wind_0 : List (List (Nat × Nat)) := [
  [], [], [(6, 179)], [], [], [(8, 68)], [], [], [], [], [], [],
  [(7, 197)], [], [], [], [], [(7, 197)], [], [], [(8, 180)], [], [], [],
  [], [], [], [], [], [], [], [], [], [], [], [],
  [(8, 76)], [], [(6, 222)], [], [], [], [], [], [], [], [], [],
  [(9, 107)], [], [(9, 108)], [], [(9, 109)], [], [], [], [(6, 222)], [], [], []]
set_option maxRecDepth 100000 in
theorem ok_X12_wind_0 : ∀ q ∈ op_X12_wind_0, cv_ok cv_T vwCl mt_all mt_X12_wind q := cv_zip_ok ok_mm (by decide) okj_all ok_o1 ok_o2 (hs := hn_X12_wind_0) (by decide +kernel) (by decide +kernel)
def hn_X12_wind_1 : List (List (Nat × Nat)) := [
  [(9, 110)], [], [], [], [], [], [], [], [], [], [], [],
  [], [], [], [], [(6, 220)], [], [], [(8, 108)], [], [], [], [(6, 222)],
  [], [], [], [], [], [], [(8, 116)], [], [], [], [], [],
  [], [], [], [], [], []]
set_option maxRecDepth 100000 in
theorem ok_X12_wind_1 : ∀ q ∈ op_X12_wind_1, cv_ok cv_T vwCl mt_all mt_X12_wind q := cv_zip_ok ok_mm (by decide) okj_all ok_o1 ok_o2 (hs := hn_X12_wind_1) (by decide +kernel) (by decide +kernel)
theorem ok_X12_wind : ∀ q ∈ op_X12_wind, cv_ok cv_T vwCl mt_all mt_X12_wind q := List.forall_mem_append.mpr ⟨ok_X12_wind_0, ok_X12_wind_1⟩
def hn_X12_keep : List (List (Nat × Nat)) := [
  [], [], [(6, 179)], [], [], [(7, 3)], [], [], [(6, 220)], [(7, 4)], [], [],
  [], [], [], [], [(7, 5)], [], [], [], [], [(6, 221)], [], [],
  [], [(6, 174)], [], [], [], [(6, 220)], []]
set_option maxRecDepth 100000 in
theorem ok_X12_keep : ∀ q ∈ op_X12_keep, cv_ok cv_T vwCl mt_all mt_X12_keep q := cv_zip_ok ok_mm (by decide) okj_all ok_o1 ok_o2 (hs := hn_X12_keep) (by decide +kernel) (by decide +kernel)
def hn_X12_back : List (List (Nat × Nat)) := [
  [], [], [(6, 179)], [], [(7, 3)], [], [], [], [], [], [(7, 4)], [(6, 220)],
  [], [], [], [], [], [], [(6, 221)], [], [], [], [], [(7, 5)],
  [], [], [], [(6, 174)], [], [], [], [], [(6, 227)], [], [(6, 220)], []]
set_option maxRecDepth 100000 in
theorem ok_X12_back : ∀ q ∈ op_X12_back, cv_ok cv_T vwCl mt_all mt_X12_back q := cv_zip_ok ok_mm (by decide) okj_all ok_o1 ok_o2 (hs := hn_X12_back) (by decide +kernel) (by decide +kernel)
def hn_X12_count : List (List (Nat × Nat)) := [
  [], [], [(6, 179)], [], [], [], [], [], [(6, 189)], [], [], [(6, 190)],
  [], [], [(6, 191)], [], [], [(6, 192)], [], [], [(6, 220)], [], [], [(6, 229)],
  [], [], [(9, 0)], [], [], [(6, 227)], [], [], [], [], [], [(6, 189)],
  [], [], [], [], [(6, 221)], [], [], [], [], [], [], [(8, 189)],
  [], [], [], [], [], [], [], []]
set_option maxRecDepth 100000 in
theorem ok_X12_count : ∀ q ∈ op_X12_count, cv_ok cv_T vwCl mt_all mt_X12_count q := cv_zip_ok ok_mm (by decide) okj_all ok_o1 ok_o2 (hs := hn_X12_count) (by decide +kernel) (by decide +kernel)
def hn_J6_bitCount_0f7a4 : List (List (Nat × Nat)) := [
  [], [], [], [], [(5, 191)], [], [], [], [], [(5, 192)], [], [],
  [], [], [(5, 192)], [], [], [], [], [], [], [], [], [(5, 193)],
  [], [], [], [], [], [], [], [], [], [], [], [],
  [], [], [], [], [], []]
set_option maxRecDepth 100000 in
theorem ok_J6_bitCount_0f7a4 : ∀ q ∈ op_J6_bitCount_0f7a4, cv_ok cv_T vwCl mt_all mt_J6_bitCount_0f7a4 q := cv_zip_ok ok_mm (by decide) okj_all ok_o1 ok_o2 (hs := hn_J6_bitCount_0f7a4) (by decide +kernel) (by decide +kernel)
def hn_J0_length_8abf5 : List (List (Nat × Nat)) := [
  [], [(9, 141)], [], [], [(2, 23)], [], []]
set_option maxRecDepth 100000 in
theorem ok_J0_length_8abf5 : ∀ q ∈ op_J0_length_8abf5, cv_ok cv_T vwCl mt_all mt_J0_length_8abf5 q := cv_zip_ok ok_mm (by decide) okj_all ok_o1 ok_o2 (hs := hn_J0_length_8abf5) (by decide +kernel) (by decide +kernel)
def hn_J0_charAt_5068e : List (List (Nat × Nat)) := [
  [], [(2, 33)], [], [], [(9, 141)], [], [(2, 37)], []]
set_option maxRecDepth 100000 in
theorem ok_J0_charAt_5068e : ∀ q ∈ op_J0_charAt_5068e, cv_ok cv_T vwCl mt_all mt_J0_charAt_5068e q := cv_zip_ok ok_mm (by decide) okj_all ok_o1 ok_o2 (hs := hn_J0_charAt_5068e) (by decide +kernel) (by decide +kernel)
def hn_J0_coder_7d493 : List (List (Nat × Nat)) := [
  [(2, 27)], [], [], [(9, 142)], [], []]
set_option maxRecDepth 100000 in
theorem ok_J0_coder_7d493 : ∀ q ∈ op_J0_coder_7d493, cv_ok cv_T vwCl mt_all mt_J0_coder_7d493 q := cv_zip_ok ok_mm (by decide) okj_all ok_o1 ok_o2 (hs := hn_J0_coder_7d493) (by decide +kernel) (by decide +kernel)
def hn_J0_isLatin1_aae02 : List (List (Nat × Nat)) := [
  [(2, 27)], [], [], [(9, 142)], [], [], [], []]
set_option maxRecDepth 100000 in
theorem ok_J0_isLatin1_aae02 : ∀ q ∈ op_J0_isLatin1_aae02, cv_ok cv_T vwCl mt_all mt_J0_isLatin1_aae02 q := cv_zip_ok ok_mm (by decide) okj_all ok_o1 ok_o2 (hs := hn_J0_isLatin1_aae02) (by decide +kernel) (by decide +kernel)
def hn_J0_checkIndex_df160 : List (List (Nat × Nat)) := [
  [], [], [(2, 43)], [(2, 45)], [], []]
set_option maxRecDepth 100000 in
theorem ok_J0_checkIndex_df160 : ∀ q ∈ op_J0_checkIndex_df160, cv_ok cv_T vwCl mt_all mt_J0_checkIndex_df160 q := cv_zip_ok ok_mm (by decide) okj_all ok_o1 ok_o2 (hs := hn_J0_checkIndex_df160) (by decide +kernel) (by decide +kernel)
def hn_J1_charAt_3b067 : List (List (Nat × Nat)) := [
  [], [], [], [(2, 40)], [], [], [], [], [], [], []]
set_option maxRecDepth 100000 in
theorem ok_J1_charAt_3b067 : ∀ q ∈ op_J1_charAt_3b067, cv_ok cv_T vwCl mt_all mt_J1_charAt_3b067 q := cv_zip_ok ok_mm (by decide) okj_all ok_o1 ok_o2 (hs := hn_J1_charAt_3b067) (by decide +kernel) (by decide +kernel)
def hn_J3_checkIndex_8e157 : List (List (Nat × Nat)) := [
  [], [], [], [], [], [], []]
set_option maxRecDepth 100000 in
theorem ok_J3_checkIndex_8e157 : ∀ q ∈ op_J3_checkIndex_8e157, cv_ok cv_T vwCl mt_all mt_J3_checkIndex_8e157 q := cv_zip_ok ok_mm (by decide) okj_all ok_o1 ok_o2 (hs := hn_J3_checkIndex_8e157) (by decide +kernel) (by decide +kernel)
def hn_L_law_0 : List (List (Nat × Nat)) := [
  [(1, 25), (1, 26), (1, 1)], [], [(1, 27)], [], [(6, 153), (6, 154), (1, 17)], [], [(6, 155)], [], [], [(2, 173)], [], [],
  [], [], [], [], [], [], [], [], [], [], [], [],
  [], [], [], [], [], [], [], [], [], [], [], [],
  [], [], [], [], [], [], [], [], [], [], [], [],
  [], [], [], [(3, 162)], [], [], [], [], [], [], [], []]
set_option maxRecDepth 100000 in
theorem ok_L_law_0 : ∀ q ∈ op_L_law_0, cv_ok cv_T vwCl mt_all mt_L_law q := cv_zip_ok ok_mm (by decide) okj_all ok_o1 ok_o2 (hs := hn_L_law_0) (by decide +kernel) (by decide +kernel)
def hn_L_law_1 : List (List (Nat × Nat)) := [
  [], [], [], [], [], [], [], [], [], [], [], [],
  [], [], [], [], [], [], [], [(7, 145)], [], [], [], [],
  [], [], [], [], [(3, 170)], [], [], [], [], [], [], [],
  [(7, 149)], [], [], [], [], [], [], [], [], [(4, 121)], [], [],
  [], [], [], [], [], [(8, 56)], [], [], [], [], [], []]
set_option maxRecDepth 100000 in
theorem ok_L_law_1 : ∀ q ∈ op_L_law_1, cv_ok cv_T vwCl mt_all mt_L_law q := cv_zip_ok ok_mm (by decide) okj_all ok_o1 ok_o2 (hs := hn_L_law_1) (by decide +kernel) (by decide +kernel)
def hn_L_law_2 : List (List (Nat × Nat)) := [
  [], [], [], [], [], [], [], [(4, 125)], [], [], [], [],
  [], [], [], [], [], [], [], [], [(8, 60)], [], [], [],
  [], [], [], [], [], [], [], [], [], [], [], [],
  [], [], [], [], [], [], [], [], [], [], [], [(8, 64)],
  [], [], [], [], [], [], [], [], [], [], [], []]
set_option maxRecDepth 100000 in
theorem ok_L_law_2 : ∀ q ∈ op_L_law_2, cv_ok cv_T vwCl mt_all mt_L_law q := cv_zip_ok ok_mm (by decide) okj_all ok_o1 ok_o2 (hs := hn_L_law_2) (by decide +kernel) (by decide +kernel)
def hn_L_law_3 : List (List (Nat × Nat)) := [
  [], [(4, 130)], [], [], [], [], [], [], [], [], [], [],
  [], [], [(8, 88)], [], [], [], [], [], [], [], [], [(4, 138)],
  [], [], [], [], [], [], [], [(8, 92)], [], [], [], [],
  [], [], [], [], [(4, 149)], [], [], [], [], [], [], [],
  [(8, 100)], [], [], [], [], [], [], [], [], [], [], []]
set_option maxRecDepth 100000 in
theorem ok_L_law_3 : ∀ q ∈ op_L_law_3, cv_ok cv_T vwCl mt_all mt_L_law q := cv_zip_ok ok_mm (by decide) okj_all ok_o1 ok_o2 (hs := hn_L_law_3) (by decide +kernel) (by decide +kernel)
def hn_L_law_4 : List (List (Nat × Nat)) := [
  [], [], [(4, 236)], [], [], [], [], [], [], [], [], [],
  [], [], [], [(8, 147)], [], [], [], [], [], [], [], [],
  [(5, 8)], [], [], [], [], [], [], [], [(8, 152)], [], [], [],
  [], [], [], [], [], [(5, 17)], [], [], [], [], [], [],
  [], [(8, 160)], [], [], [], [], [], [], [], [], [], []]
set_option maxRecDepth 100000 in
theorem ok_L_law_4 : ∀ q ∈ op_L_law_4, cv_ok cv_T vwCl mt_all mt_L_law q := cv_zip_ok ok_mm (by decide) okj_all ok_o1 ok_o2 (hs := hn_L_law_4) (by decide +kernel) (by decide +kernel)
def hn_L_law_5 : List (List (Nat × Nat)) := [
  [], [], [], [(5, 22)], [], [], [], [], [], [], [], [],
  [], [], [], [], [(8, 164)], [], [], [], [(5, 43)], [], [(8, 172)], [],
  [], [], [], [], [], [], [], [], [], [], [], [],
  [], [(5, 55)], [], [], [], [], [], [], [], [], [], [],
  [], [], [(8, 176)], [], [], [], [], [], [], [], [], []]
set_option maxRecDepth 100000 in
theorem ok_L_law_5 : ∀ q ∈ op_L_law_5, cv_ok cv_T vwCl mt_all mt_L_law q := cv_zip_ok ok_mm (by decide) okj_all ok_o1 ok_o2 (hs := hn_L_law_5) (by decide +kernel) (by decide +kernel)
def hn_L_law_6 : List (List (Nat × Nat)) := [
  [], [], [], [], [], [], [], [], [], [], [], [],
  [], [], [(5, 65)], [], [], [], [], [], [], [], [], [],
  [], [], [], [], [], [], [], [], [], [], [], [],
  [], [(8, 185)], [], [], [], [], [], [], [], [], [], [],
  [], [], [], [(5, 77)], [], [], [], [], [], [], [], []]
set_option maxRecDepth 100000 in
theorem ok_L_law_6 : ∀ q ∈ op_L_law_6, cv_ok cv_T vwCl mt_all mt_L_law q := cv_zip_ok ok_mm (by decide) okj_all ok_o1 ok_o2 (hs := hn_L_law_6) (by decide +kernel) (by decide +kernel)
def hn_L_law_7 : List (List (Nat × Nat)) := [
  [], [], [], [], [(8, 193)], [], [], [], [], [], [], [],
  [], [], [], [], [], [], [], [], [], [], [], [(5, 85)],
  [], [], [], [], [], [], [], [], [], [], [], [],
  [], [], [], [], [], [(8, 201)], [], [], [], [], [], [],
  [], [], [], [], [], [], [], [], [], [], [], []]
set_option maxRecDepth 100000 in
theorem ok_L_law_7 : ∀ q ∈ op_L_law_7, cv_ok cv_T vwCl mt_all mt_L_law q := cv_zip_ok ok_mm (by decide) okj_all ok_o1 ok_o2 (hs := hn_L_law_7) (by decide +kernel) (by decide +kernel)
def hn_L_law_8 : List (List (Nat × Nat)) := [
  [(5, 93)], [], [], [], [], [], [], [], [], [], [], [],
  [], [], [], [], [], [], [(8, 205)], [], [], [], [], [],
  [], [], [], [], [], [], [], [], [(5, 98)], [], [], [],
  [], [], [], [], [], [], [], [], [], [(8, 209)], [], [],
  [], [], [], [], [], [], [], [], [], [], [], []]
set_option maxRecDepth 100000 in
theorem ok_L_law_8 : ∀ q ∈ op_L_law_8, cv_ok cv_T vwCl mt_all mt_L_law q := cv_zip_ok ok_mm (by decide) okj_all ok_o1 ok_o2 (hs := hn_L_law_8) (by decide +kernel) (by decide +kernel)
def hn_L_law_9 : List (List (Nat × Nat)) := [
  [], [], [], [], [], [], [], [], [], [], [], [],
  [], [], [(5, 106)], [], [], [], [], [], [], [], [], [],
  [], [], [], [], [], [], [], [], [], [], [], [],
  [], [], [], [], [], [], [(8, 214)], [], [], [], [], [],
  [], [], [], [(5, 116)], [], [], [], [], [], [], [], [(8, 220)]]
set_option maxRecDepth 100000 in
theorem ok_L_law_9 : ∀ q ∈ op_L_law_9, cv_ok cv_T vwCl mt_all mt_L_law q := cv_zip_ok ok_mm (by decide) okj_all ok_o1 ok_o2 (hs := hn_L_law_9) (by decide +kernel) (by decide +kernel)
def hn_L_law_10 : List (List (Nat × Nat)) := [
  [], [], [], [], [], [], [], [], [(5, 124)], [], [], [],
  [], [], [], [], [(8, 224)], [], [], [], [], [], [], [],
  [], [(5, 128)], [], [], [], [], [], [], [], [(8, 228)], [], [],
  [], [], [], [], [], [], [], [], [], [], [], [],
  [], [], [], [], [(5, 167)], [], [], [], [], [], [], []]
set_option maxRecDepth 100000 in
theorem ok_L_law_10 : ∀ q ∈ op_L_law_10, cv_ok cv_T vwCl mt_all mt_L_law q := cv_zip_ok ok_mm (by decide) okj_all ok_o1 ok_o2 (hs := hn_L_law_10) (by decide +kernel) (by decide +kernel)
def hn_L_law_11 : List (List (Nat × Nat)) := [
  [], [], [], [], [], [], [], [], [], [], [(9, 20)], [],
  [], [], [], [], [], [], [], [], [], [], [], [],
  [(5, 184)], [], [], [], [], [], [], [], [], [], [], [],
  [], [(9, 31)], [], [], [], [], [], [], [], [], [], [],
  [], [], [], [(5, 202)], [], [], [], [], [], [], [], []]
set_option maxRecDepth 100000 in
theorem ok_L_law_11 : ∀ q ∈ op_L_law_11, cv_ok cv_T vwCl mt_all mt_L_law q := cv_zip_ok ok_mm (by decide) okj_all ok_o1 ok_o2 (hs := hn_L_law_11) (by decide +kernel) (by decide +kernel)
def hn_L_law_12 : List (List (Nat × Nat)) := [
  [], [], [], [], [(9, 39)], [], [], [], [], [], [], [],
  [], [(5, 218)], [], [], [], [], [], [], [], [(9, 51)], [], [],
  [], [], [], [], [], [], [(5, 222)], [], [], [], [], [],
  [], [], [(9, 55)], [], [], [], [], [], [], [], [], [],
  [], [], [], [], [(5, 226)], [], [], [], [], [], [], []]
set_option maxRecDepth 100000 in
theorem ok_L_law_12 : ∀ q ∈ op_L_law_12, cv_ok cv_T vwCl mt_all mt_L_law q := cv_zip_ok ok_mm (by decide) okj_all ok_o1 ok_o2 (hs := hn_L_law_12) (by decide +kernel) (by decide +kernel)
def hn_L_law_13 : List (List (Nat × Nat)) := [
  [], [], [], [], [], [(9, 63)], [], [], [], [], [], [],
  [], [], [(5, 236)], [], [], [], [], [], [], [], [(9, 73)], [],
  [], [], [], [], [], [], [], [], [], [], [], [],
  [], [], [], [], [], [(6, 0)], [], [], [], [], [], [],
  [], [], [], [], [], [], [], [], [], [], [], [(9, 81)]]
set_option maxRecDepth 100000 in
theorem ok_L_law_13 : ∀ q ∈ op_L_law_13, cv_ok cv_T vwCl mt_all mt_L_law q := cv_zip_ok ok_mm (by decide) okj_all ok_o1 ok_o2 (hs := hn_L_law_13) (by decide +kernel) (by decide +kernel)
def hn_L_law_14 : List (List (Nat × Nat)) := [
  [], [], [], [], [], [], [], [], [], [], [], [],
  [], [(6, 12)], [], [], [], [], [], [], [], [], [], [],
  [], [], [(9, 88)], [], [], [], [], [], [], [], [], [],
  [], [], [], [], [], [], [], [], [], [], [], [],
  [], [], [], [], [], [], [], [(6, 37)], [], [], [], []]
set_option maxRecDepth 100000 in
theorem ok_L_law_14 : ∀ q ∈ op_L_law_14, cv_ok cv_T vwCl mt_all mt_L_law q := cv_zip_ok ok_mm (by decide) okj_all ok_o1 ok_o2 (hs := hn_L_law_14) (by decide +kernel) (by decide +kernel)
def hn_L_law_15 : List (List (Nat × Nat)) := [
  [], [], [], [], [], [], [], [], [], [], [], [],
  [], [], [], [], [], [], [], [], [], [], [], [(9, 103)],
  [], [], [], [(6, 44)], [], [], [(9, 111)], [], [], [], [(6, 48)], [],
  [], [(9, 115)], [], [], [], [], [], [], [], [], [(6, 52)], [],
  [], [], [], [], [], [], [(9, 119)], [], [], [], [], []]
set_option maxRecDepth 100000 in
theorem ok_L_law_15 : ∀ q ∈ op_L_law_15, cv_ok cv_T vwCl mt_all mt_L_law q := cv_zip_ok ok_mm (by decide) okj_all ok_o1 ok_o2 (hs := hn_L_law_15) (by decide +kernel) (by decide +kernel)
def hn_L_law_16 : List (List (Nat × Nat)) := [
  []]
set_option maxRecDepth 100000 in
theorem ok_L_law_16 : ∀ q ∈ op_L_law_16, cv_ok cv_T vwCl mt_all mt_L_law q := cv_zip_ok ok_mm (by decide) okj_all ok_o1 ok_o2 (hs := hn_L_law_16) (by decide +kernel) (by decide +kernel)
theorem ok_L_law : ∀ q ∈ op_L_law, cv_ok cv_T vwCl mt_all mt_L_law q := List.forall_mem_append.mpr ⟨ok_L_law_0, List.forall_mem_append.mpr ⟨ok_L_law_1, List.forall_mem_append.mpr ⟨ok_L_law_2, List.forall_mem_append.mpr ⟨ok_L_law_3, List.forall_mem_append.mpr ⟨ok_L_law_4, List.forall_mem_append.mpr ⟨ok_L_law_5, List.forall_mem_append.mpr ⟨ok_L_law_6, List.forall_mem_append.mpr ⟨ok_L_law_7, List.forall_mem_append.mpr ⟨ok_L_law_8, List.forall_mem_append.mpr ⟨ok_L_law_9, List.forall_mem_append.mpr ⟨ok_L_law_10, List.forall_mem_append.mpr ⟨ok_L_law_11, List.forall_mem_append.mpr ⟨ok_L_law_12, List.forall_mem_append.mpr ⟨ok_L_law_13, List.forall_mem_append.mpr ⟨ok_L_law_14, List.forall_mem_append.mpr ⟨ok_L_law_15, ok_L_law_16⟩⟩⟩⟩⟩⟩⟩⟩⟩⟩⟩⟩⟩⟩⟩⟩
end
section
set_option maxRecDepth 10000 in
theorem mt_hi (j : Nat) (h : 282 ≤ j) : mt_all j = mt_none := by
  delta mt_all mt_all.match_1
  iterate 282 (refine (dif_neg (by omega)).trans ?_)
  rfl
theorem mt_dite {c : Prop} [Decidable c] {α : Type} {P : α → Prop} {a : c → α} {b : ¬ c → α} (h1 : ∀ h, P (a h)) (h2 : ∀ h, P (b h)) : P (dite c a b) := by
  by_cases h : c
  · rw [dif_pos h]; exact h1 h
  · rw [dif_neg h]; exact h2 h
def ok_P (M : cv_M) : Prop := ∀ q ∈ M.2.1, cv_ok cv_T vwCl mt_all M q
set_option maxRecDepth 10000 in
theorem ok_all : ∀ mi, ∀ q ∈ (mt_all mi).2.1, cv_ok cv_T vwCl mt_all (mt_all mi) q := by
  intro mi
  show ok_P (mt_all mi)
  delta mt_all mt_all.match_1
  refine mt_dite (fun h => by subst h; exact fun q hq => ok_X0_init q hq) (fun _ => ?_)
  refine mt_dite (fun h => by subst h; exact fun q hq => ok_X0_readInto q hq) (fun _ => ?_)
  refine mt_dite (fun h => by subst h; exact fun q hq => ok_X0_readValue q hq) (fun _ => ?_)
  refine mt_dite (fun h => by subst h; exact fun q hq => ok_X0_openParen q hq) (fun _ => ?_)
  refine mt_dite (fun h => by subst h; exact fun q hq => ok_X0_valueKnot q hq) (fun _ => ?_)
  refine mt_dite (fun h => by subst h; exact fun q hq => ok_X0_nameOf q hq) (fun _ => ?_)
  refine mt_dite (fun h => by subst h; exact fun q hq => ok_X0_readJoint q hq) (fun _ => ?_)
  refine mt_dite (fun h => by subst h; exact fun q hq => ok_X0_signOf q hq) (fun _ => ?_)
  refine mt_dite (fun h => by subst h; exact fun q hq => ok_X0_rankOf q hq) (fun _ => ?_)
  refine mt_dite (fun h => by subst h; exact fun q hq => ok_X0_holdKnot q hq) (fun _ => ?_)
  refine mt_dite (fun h => by subst h; exact fun q hq => ok_X0_hold q hq) (fun _ => ?_)
  refine mt_dite (fun h => by subst h; exact fun q hq => ok_X0_latestHeld q hq) (fun _ => ?_)
  refine mt_dite (fun h => by subst h; exact fun q hq => ok_X0_release q hq) (fun _ => ?_)
  refine mt_dite (fun h => by subst h; exact fun q hq => ok_X1_init q hq) (fun _ => ?_)
  refine mt_dite (fun h => by subst h; exact fun q hq => ok_X1_begin q hq) (fun _ => ?_)
  refine mt_dite (fun h => by subst h; exact fun q hq => ok_X1_setCauses q hq) (fun _ => ?_)
  refine mt_dite (fun h => by subst h; exact fun q hq => ok_X1_copy q hq) (fun _ => ?_)
  refine mt_dite (fun h => by subst h; exact fun q hq => ok_X1_pull q hq) (fun _ => ?_)
  refine mt_dite (fun h => by subst h; exact fun q hq => ok_X1_leanPart q hq) (fun _ => ?_)
  refine mt_dite (fun h => by subst h; exact fun q hq => ok_X1_hooksPart q hq) (fun _ => ?_)
  refine mt_dite (fun h => by subst h; exact fun q hq => ok_X1_drop q hq) (fun _ => ?_)
  refine mt_dite (fun h => by subst h; exact fun q hq => ok_X1_measured q hq) (fun _ => ?_)
  refine mt_dite (fun h => by subst h; exact fun q hq => ok_X1_isLatched q hq) (fun _ => ?_)
  refine mt_dite (fun h => by subst h; exact fun q hq => ok_X1_take q hq) (fun _ => ?_)
  refine mt_dite (fun h => by subst h; exact fun q hq => ok_X1_grow q hq) (fun _ => ?_)
  refine mt_dite (fun h => by subst h; exact fun q hq => ok_X1_lowHung q hq) (fun _ => ?_)
  refine mt_dite (fun h => by subst h; exact fun q hq => ok_X1_aboveHung q hq) (fun _ => ?_)
  refine mt_dite (fun h => by subst h; exact fun q hq => ok_X1_standsWith q hq) (fun _ => ?_)
  refine mt_dite (fun h => by subst h; exact fun q hq => ok_X2_init q hq) (fun _ => ?_)
  refine mt_dite (fun h => by subst h; exact fun q hq => ok_X2_forget q hq) (fun _ => ?_)
  refine mt_dite (fun h => by subst h; exact fun q hq => ok_X2_put q hq) (fun _ => ?_)
  refine mt_dite (fun h => by subst h; exact fun q hq => ok_X2_see q hq) (fun _ => ?_)
  refine mt_dite (fun h => by subst h; exact fun q hq => ok_X2_pass q hq) (fun _ => ?_)
  refine mt_dite (fun h => by subst h; exact fun q hq => ok_X2_refresh q hq) (fun _ => ?_)
  refine mt_dite (fun h => by subst h; exact fun q hq => ok_X2_workOut q hq) (fun _ => ?_)
  refine mt_dite (fun h => by subst h; exact fun q hq => ok_X2_valueOf q hq) (fun _ => ?_)
  refine mt_dite (fun h => by subst h; exact fun q hq => ok_X2_join q hq) (fun _ => ?_)
  refine mt_dite (fun h => by subst h; exact fun q hq => ok_X2_bounded q hq) (fun _ => ?_)
  refine mt_dite (fun h => by subst h; exact fun q hq => ok_X2_times q hq) (fun _ => ?_)
  refine mt_dite (fun h => by subst h; exact fun q hq => ok_X2_by q hq) (fun _ => ?_)
  refine mt_dite (fun h => by subst h; exact fun q hq => ok_X3_init q hq) (fun _ => ?_)
  refine mt_dite (fun h => by subst h; exact fun q hq => ok_X3_clear q hq) (fun _ => ?_)
  refine mt_dite (fun h => by subst h; exact fun q hq => ok_X3_knownCount q hq) (fun _ => ?_)
  refine mt_dite (fun h => by subst h; exact fun q hq => ok_X3_add q hq) (fun _ => ?_)
  refine mt_dite (fun h => by subst h; exact fun q hq => ok_X3_addStrike q hq) (fun _ => ?_)
  refine mt_dite (fun h => by subst h; exact fun q hq => ok_X3_pick q hq) (fun _ => ?_)
  refine mt_dite (fun h => by subst h; exact fun q hq => ok_X3_findStruck q hq) (fun _ => ?_)
  refine mt_dite (fun h => by subst h; exact fun q hq => ok_X3_agree q hq) (fun _ => ?_)
  refine mt_dite (fun h => by subst h; exact fun q hq => ok_X4_init q hq) (fun _ => ?_)
  refine mt_dite (fun h => by subst h; exact fun q hq => ok_X4_clear q hq) (fun _ => ?_)
  refine mt_dite (fun h => by subst h; exact fun q hq => ok_X4_isWork q hq) (fun _ => ?_)
  refine mt_dite (fun h => by subst h; exact fun q hq => ok_X4_isCause q hq) (fun _ => ?_)
  refine mt_dite (fun h => by subst h; exact fun q hq => ok_X4_isLaw q hq) (fun _ => ?_)
  refine mt_dite (fun h => by subst h; exact fun q hq => ok_X4_firmIn q hq) (fun _ => ?_)
  refine mt_dite (fun h => by subst h; exact fun q hq => ok_X4_growthNames q hq) (fun _ => ?_)
  refine mt_dite (fun h => by subst h; exact fun q hq => ok_X4_costOf q hq) (fun _ => ?_)
  refine mt_dite (fun h => by subst h; exact fun q hq => ok_X4_moreBy q hq) (fun _ => ?_)
  refine mt_dite (fun h => by subst h; exact fun q hq => ok_X4_weightOf q hq) (fun _ => ?_)
  refine mt_dite (fun h => by subst h; exact fun q hq => ok_X4_addCode q hq) (fun _ => ?_)
  refine mt_dite (fun h => by subst h; exact fun q hq => ok_X5_init q hq) (fun _ => ?_)
  refine mt_dite (fun h => by subst h; exact fun q hq => ok_X5_readText q hq) (fun _ => ?_)
  refine mt_dite (fun h => by subst h; exact fun q hq => ok_X5_fail q hq) (fun _ => ?_)
  refine mt_dite (fun h => by subst h; exact fun q hq => ok_X5_readSemicolon q hq) (fun _ => ?_)
  refine mt_dite (fun h => by subst h; exact fun q hq => ok_X5_readNumber q hq) (fun _ => ?_)
  refine mt_dite (fun h => by subst h; exact fun q hq => ok_X5_readNewName q hq) (fun _ => ?_)
  refine mt_dite (fun h => by subst h; exact fun q hq => ok_X5_readGround q hq) (fun _ => ?_)
  refine mt_dite (fun h => by subst h; exact fun q hq => ok_X5_readLaw q hq) (fun _ => ?_)
  refine mt_dite (fun h => by subst h; exact fun q hq => ok_X5_readGate q hq) (fun _ => ?_)
  refine mt_dite (fun h => by subst h; exact fun q hq => ok_X5_readPart q hq) (fun _ => ?_)
  refine mt_dite (fun h => by subst h; exact fun q hq => ok_X5_readBrace q hq) (fun _ => ?_)
  refine mt_dite (fun h => by subst h; exact fun q hq => ok_X5_readHas q hq) (fun _ => ?_)
  refine mt_dite (fun h => by subst h; exact fun q hq => ok_X5_readWork q hq) (fun _ => ?_)
  refine mt_dite (fun h => by subst h; exact fun q hq => ok_X5_kindOf q hq) (fun _ => ?_)
  refine mt_dite (fun h => by subst h; exact fun q hq => ok_X5_mostOf q hq) (fun _ => ?_)
  refine mt_dite (fun h => by subst h; exact fun q hq => ok_X5_readCause q hq) (fun _ => ?_)
  refine mt_dite (fun h => by subst h; exact fun q hq => ok_X6_init q hq) (fun _ => ?_)
  refine mt_dite (fun h => by subst h; exact fun q hq => ok_X6_letterBits q hq) (fun _ => ?_)
  refine mt_dite (fun h => by subst h; exact fun q hq => ok_X6_begin q hq) (fun _ => ?_)
  refine mt_dite (fun h => by subst h; exact fun q hq => ok_X6_step q hq) (fun _ => ?_)
  refine mt_dite (fun h => by subst h; exact fun q hq => ok_X6_readLetters q hq) (fun _ => ?_)
  refine mt_dite (fun h => by subst h; exact fun q hq => ok_X6_readDigits q hq) (fun _ => ?_)
  refine mt_dite (fun h => by subst h; exact fun q hq => ok_X6_readSign q hq) (fun _ => ?_)
  refine mt_dite (fun h => by subst h; exact fun q hq => ok_X6_takes q hq) (fun _ => ?_)
  refine mt_dite (fun h => by subst h; exact fun q hq => ok_X6_isWord q hq) (fun _ => ?_)
  refine mt_dite (fun h => by subst h; exact fun q hq => ok_X6_isWordFrom q hq) (fun _ => ?_)
  refine mt_dite (fun h => by subst h; exact fun q hq => ok_X7_init q hq) (fun _ => ?_)
  refine mt_dite (fun h => by subst h; exact fun q hq => ok_X7_clear q hq) (fun _ => ?_)
  refine mt_dite (fun h => by subst h; exact fun q hq => ok_X7_setHeight q hq) (fun _ => ?_)
  refine mt_dite (fun h => by subst h; exact fun q hq => ok_X7_span q hq) (fun _ => ?_)
  refine mt_dite (fun h => by subst h; exact fun q hq => ok_X8_init q hq) (fun _ => ?_)
  refine mt_dite (fun h => by subst h; exact fun q hq => ok_X8_judge q hq) (fun _ => ?_)
  refine mt_dite (fun h => by subst h; exact fun q hq => ok_X8_record q hq) (fun _ => ?_)
  refine mt_dite (fun h => by subst h; exact fun q hq => ok_X8_recorded q hq) (fun _ => ?_)
  refine mt_dite (fun h => by subst h; exact fun q hq => ok_X8_weightOfFitting q hq) (fun _ => ?_)
  refine mt_dite (fun h => by subst h; exact fun q hq => ok_X8_heaviestGroup q hq) (fun _ => ?_)
  refine mt_dite (fun h => by subst h; exact fun q hq => ok_X9_init q hq) (fun _ => ?_)
  refine mt_dite (fun h => by subst h; exact fun q hq => ok_X9_tell q hq) (fun _ => ?_)
  refine mt_dite (fun h => by subst h; exact fun q hq => ok_X9_choose q hq) (fun _ => ?_)
  refine mt_dite (fun h => by subst h; exact fun q hq => ok_X9_sumOf q hq) (fun _ => ?_)
  refine mt_dite (fun h => by subst h; exact fun q hq => ok_X9_gateAt q hq) (fun _ => ?_)
  refine mt_dite (fun h => by subst h; exact fun q hq => ok_X10_init q hq) (fun _ => ?_)
  refine mt_dite (fun h => by subst h; exact fun q hq => ok_X10_clear q hq) (fun _ => ?_)
  refine mt_dite (fun h => by subst h; exact fun q hq => ok_X10_push q hq) (fun _ => ?_)
  refine mt_dite (fun h => by subst h; exact fun q hq => ok_X10_dropEarliest q hq) (fun _ => ?_)
  refine mt_dite (fun h => by subst h; exact fun q hq => ok_X10_latestGate q hq) (fun _ => ?_)
  refine mt_dite (fun h => by subst h; exact fun q hq => ok_X10_popInto q hq) (fun _ => ?_)
  refine mt_dite (fun h => by subst h; exact fun q hq => ok_X11_init q hq) (fun _ => ?_)
  refine mt_dite (fun h => by subst h; exact fun q hq => ok_X11_feed q hq) (fun _ => ?_)
  refine mt_dite (fun h => by subst h; exact fun q hq => ok_X11_putOnTape q hq) (fun _ => ?_)
  refine mt_dite (fun h => by subst h; exact fun q hq => ok_X11_text q hq) (fun _ => ?_)
  refine mt_dite (fun h => by subst h; exact fun q hq => ok_X11_takeSpare q hq) (fun _ => ?_)
  refine mt_dite (fun h => by subst h; exact fun q hq => ok_X11_fault q hq) (fun _ => ?_)
  refine mt_dite (fun h => by subst h; exact fun q hq => ok_X11_named q hq) (fun _ => ?_)
  refine mt_dite (fun h => by subst h; exact fun q hq => ok_X11_placeOf q hq) (fun _ => ?_)
  refine mt_dite (fun h => by subst h; exact fun q hq => ok_X11_isGate q hq) (fun _ => ?_)
  refine mt_dite (fun h => by subst h; exact fun q hq => ok_X11_isBound q hq) (fun _ => ?_)
  refine mt_dite (fun h => by subst h; exact fun q hq => ok_X11_isAhead q hq) (fun _ => ?_)
  refine mt_dite (fun h => by subst h; exact fun q hq => ok_X11_isAngle q hq) (fun _ => ?_)
  refine mt_dite (fun h => by subst h; exact fun q hq => ok_X11_isWeek q hq) (fun _ => ?_)
  refine mt_dite (fun h => by subst h; exact fun q hq => ok_X11_works q hq) (fun _ => ?_)
  refine mt_dite (fun h => by subst h; exact fun q hq => ok_X11_firm q hq) (fun _ => ?_)
  refine mt_dite (fun h => by subst h; exact fun q hq => ok_X11_weeks q hq) (fun _ => ?_)
  refine mt_dite (fun h => by subst h; exact fun q hq => ok_X11_sags q hq) (fun _ => ?_)
  refine mt_dite (fun h => by subst h; exact fun q hq => ok_X11_latched q hq) (fun _ => ?_)
  refine mt_dite (fun h => by subst h; exact fun q hq => ok_X11_gives q hq) (fun _ => ?_)
  refine mt_dite (fun h => by subst h; exact fun q hq => ok_X11_work q hq) (fun _ => ?_)
  refine mt_dite (fun h => by subst h; exact fun q hq => ok_X11_undo q hq) (fun _ => ?_)
  refine mt_dite (fun h => by subst h; exact fun q hq => ok_X11_lasts q hq) (fun _ => ?_)
  refine mt_dite (fun h => by subst h; exact fun q hq => ok_X11_least q hq) (fun _ => ?_)
  refine mt_dite (fun h => by subst h; exact fun q hq => ok_X11_holds q hq) (fun _ => ?_)
  refine mt_dite (fun h => by subst h; exact fun q hq => ok_X11_way q hq) (fun _ => ?_)
  refine mt_dite (fun h => by subst h; exact fun q hq => ok_X11_dropWithBrace q hq) (fun _ => ?_)
  refine mt_dite (fun h => by subst h; exact fun q hq => ok_X11_enough q hq) (fun _ => ?_)
  refine mt_dite (fun h => by subst h; exact fun q hq => ok_X11_bears q hq) (fun _ => ?_)
  refine mt_dite (fun h => by subst h; exact fun q hq => ok_X11_knock q hq) (fun _ => ?_)
  refine mt_dite (fun h => by subst h; exact fun q hq => ok_X11_measure q hq) (fun _ => ?_)
  refine mt_dite (fun h => by subst h; exact fun q hq => ok_X11_strike q hq) (fun _ => ?_)
  refine mt_dite (fun h => by subst h; exact fun q hq => ok_X11_known q hq) (fun _ => ?_)
  refine mt_dite (fun h => by subst h; exact fun q hq => ok_X11_fits q hq) (fun _ => ?_)
  refine mt_dite (fun h => by subst h; exact fun q hq => ok_X11_odds q hq) (fun _ => ?_)
  refine mt_dite (fun h => by subst h; exact fun q hq => ok_X11_test q hq) (fun _ => ?_)
  refine mt_dite (fun h => by subst h; exact fun q hq => ok_X11_low q hq) (fun _ => ?_)
  refine mt_dite (fun h => by subst h; exact fun q hq => ok_X11_rest q hq) (fun _ => ?_)
  refine mt_dite (fun h => by subst h; exact fun q hq => ok_X11_shuts q hq) (fun _ => ?_)
  refine mt_dite (fun h => by subst h; exact fun q hq => ok_X11_above q hq) (fun _ => ?_)
  refine mt_dite (fun h => by subst h; exact fun q hq => ok_X11_opens q hq) (fun _ => ?_)
  refine mt_dite (fun h => by subst h; exact fun q hq => ok_X11_stand q hq) (fun _ => ?_)
  refine mt_dite (fun h => by subst h; exact fun q hq => ok_X11_first q hq) (fun _ => ?_)
  refine mt_dite (fun h => by subst h; exact fun q hq => ok_X11_unlatchedWeeks q hq) (fun _ => ?_)
  refine mt_dite (fun h => by subst h; exact fun q hq => ok_X11_wind q hq) (fun _ => ?_)
  refine mt_dite (fun h => by subst h; exact fun q hq => ok_X11_keep q hq) (fun _ => ?_)
  refine mt_dite (fun h => by subst h; exact fun q hq => ok_X11_back q hq) (fun _ => ?_)
  refine mt_dite (fun h => by subst h; exact fun q hq => ok_X11_count q hq) (fun _ => ?_)
  refine mt_dite (fun h => by subst h; exact fun q hq => ok_X11_costOfAllDone q hq) (fun _ => ?_)
  refine mt_dite (fun h => by subst h; exact fun q hq => ok_X12_init q hq) (fun _ => ?_)
  refine mt_dite (fun h => by subst h; exact fun q hq => ok_X12_feed q hq) (fun _ => ?_)
  refine mt_dite (fun h => by subst h; exact fun q hq => ok_X12_isIn q hq) (fun _ => ?_)
  refine mt_dite (fun h => by subst h; exact fun q hq => ok_X12_isOf q hq) (fun _ => ?_)
  refine mt_dite (fun h => by subst h; exact fun q hq => ok_X12_sizeOf q hq) (fun _ => ?_)
  refine mt_dite (fun h => by subst h; exact fun q hq => ok_X12_wrong q hq) (fun _ => ?_)
  refine mt_dite (fun h => by subst h; exact fun q hq => ok_X12_wordAt q hq) (fun _ => ?_)
  refine mt_dite (fun h => by subst h; exact fun q hq => ok_X12_isSmall q hq) (fun _ => ?_)
  refine mt_dite (fun h => by subst h; exact fun q hq => ok_X12_isDigit q hq) (fun _ => ?_)
  refine mt_dite (fun h => by subst h; exact fun q hq => ok_X12_token q hq) (fun _ => ?_)
  refine mt_dite (fun h => by subst h; exact fun q hq => ok_X12_signToken q hq) (fun _ => ?_)
  refine mt_dite (fun h => by subst h; exact fun q hq => ok_X12_packed q hq) (fun _ => ?_)
  refine mt_dite (fun h => by subst h; exact fun q hq => ok_X12_isKey q hq) (fun _ => ?_)
  refine mt_dite (fun h => by subst h; exact fun q hq => ok_X12_isSign q hq) (fun _ => ?_)
  refine mt_dite (fun h => by subst h; exact fun q hq => ok_X12_number q hq) (fun _ => ?_)
  refine mt_dite (fun h => by subst h; exact fun q hq => ok_X12_signed q hq) (fun _ => ?_)
  refine mt_dite (fun h => by subst h; exact fun q hq => ok_X12_numbers q hq) (fun _ => ?_)
  refine mt_dite (fun h => by subst h; exact fun q hq => ok_X12_plain q hq) (fun _ => ?_)
  refine mt_dite (fun h => by subst h; exact fun q hq => ok_X12_copies q hq) (fun _ => ?_)
  refine mt_dite (fun h => by subst h; exact fun q hq => ok_X12_keepText q hq) (fun _ => ?_)
  refine mt_dite (fun h => by subst h; exact fun q hq => ok_X12_find q hq) (fun _ => ?_)
  refine mt_dite (fun h => by subst h; exact fun q hq => ok_X12_newName q hq) (fun _ => ?_)
  refine mt_dite (fun h => by subst h; exact fun q hq => ok_X12_groundLine q hq) (fun _ => ?_)
  refine mt_dite (fun h => by subst h; exact fun q hq => ok_X12_lawLine q hq) (fun _ => ?_)
  refine mt_dite (fun h => by subst h; exact fun q hq => ok_X12_hasWord q hq) (fun _ => ?_)
  refine mt_dite (fun h => by subst h; exact fun q hq => ok_X12_gateLine q hq) (fun _ => ?_)
  refine mt_dite (fun h => by subst h; exact fun q hq => ok_X12_hasRead q hq) (fun _ => ?_)
  refine mt_dite (fun h => by subst h; exact fun q hq => ok_X12_hooksRead q hq) (fun _ => ?_)
  refine mt_dite (fun h => by subst h; exact fun q hq => ok_X12_causeRead q hq) (fun _ => ?_)
  refine mt_dite (fun h => by subst h; exact fun q hq => ok_X12_workWord q hq) (fun _ => ?_)
  refine mt_dite (fun h => by subst h; exact fun q hq => ok_X12_mostOf q hq) (fun _ => ?_)
  refine mt_dite (fun h => by subst h; exact fun q hq => ok_X12_workLine q hq) (fun _ => ?_)
  refine mt_dite (fun h => by subst h; exact fun q hq => ok_X12_causeLine q hq) (fun _ => ?_)
  refine mt_dite (fun h => by subst h; exact fun q hq => ok_X12_lineRead q hq) (fun _ => ?_)
  refine mt_dite (fun h => by subst h; exact fun q hq => ok_X12_text q hq) (fun _ => ?_)
  refine mt_dite (fun h => by subst h; exact fun q hq => ok_X12_fault q hq) (fun _ => ?_)
  refine mt_dite (fun h => by subst h; exact fun q hq => ok_X12_named q hq) (fun _ => ?_)
  refine mt_dite (fun h => by subst h; exact fun q hq => ok_X12_rank q hq) (fun _ => ?_)
  refine mt_dite (fun h => by subst h; exact fun q hq => ok_X12_grown q hq) (fun _ => ?_)
  refine mt_dite (fun h => by subst h; exact fun q hq => ok_X12_dropHeld q hq) (fun _ => ?_)
  refine mt_dite (fun h => by subst h; exact fun q hq => ok_X12_bind q hq) (fun _ => ?_)
  refine mt_dite (fun h => by subst h; exact fun q hq => ok_X12_isCounted q hq) (fun _ => ?_)
  refine mt_dite (fun h => by subst h; exact fun q hq => ok_X12_waitsFor q hq) (fun _ => ?_)
  refine mt_dite (fun h => by subst h; exact fun q hq => ok_X12_leafRead q hq) (fun _ => ?_)
  refine mt_dite (fun h => by subst h; exact fun q hq => ok_X12_signs q hq) (fun _ => ?_)
  refine mt_dite (fun h => by subst h; exact fun q hq => ok_X12_sumRead q hq) (fun _ => ?_)
  refine mt_dite (fun h => by subst h; exact fun q hq => ok_X12_lays q hq) (fun _ => ?_)
  refine mt_dite (fun h => by subst h; exact fun q hq => ok_X12_begins q hq) (fun _ => ?_)
  refine mt_dite (fun h => by subst h; exact fun q hq => ok_X12_loads q hq) (fun _ => ?_)
  refine mt_dite (fun h => by subst h; exact fun q hq => ok_X12_spanOf q hq) (fun _ => ?_)
  refine mt_dite (fun h => by subst h; exact fun q hq => ok_X12_pullOf q hq) (fun _ => ?_)
  refine mt_dite (fun h => by subst h; exact fun q hq => ok_X12_partOf q hq) (fun _ => ?_)
  refine mt_dite (fun h => by subst h; exact fun q hq => ok_X12_dropOf q hq) (fun _ => ?_)
  refine mt_dite (fun h => by subst h; exact fun q hq => ok_X12_firmOf q hq) (fun _ => ?_)
  refine mt_dite (fun h => by subst h; exact fun q hq => ok_X12_bounded q hq) (fun _ => ?_)
  refine mt_dite (fun h => by subst h; exact fun q hq => ok_X12_compares q hq) (fun _ => ?_)
  refine mt_dite (fun h => by subst h; exact fun q hq => ok_X12_times q hq) (fun _ => ?_)
  refine mt_dite (fun h => by subst h; exact fun q hq => ok_X12_valueOf q hq) (fun _ => ?_)
  refine mt_dite (fun h => by subst h; exact fun q hq => ok_X12_layNames q hq) (fun _ => ?_)
  refine mt_dite (fun h => by subst h; exact fun q hq => ok_X12_lawOf q hq) (fun _ => ?_)
  refine mt_dite (fun h => by subst h; exact fun q hq => ok_X12_goes q hq) (fun _ => ?_)
  refine mt_dite (fun h => by subst h; exact fun q hq => ok_X12_goesOn q hq) (fun _ => ?_)
  refine mt_dite (fun h => by subst h; exact fun q hq => ok_X12_isGate q hq) (fun _ => ?_)
  refine mt_dite (fun h => by subst h; exact fun q hq => ok_X12_fails q hq) (fun _ => ?_)
  refine mt_dite (fun h => by subst h; exact fun q hq => ok_X12_look q hq) (fun _ => ?_)
  refine mt_dite (fun h => by subst h; exact fun q hq => ok_X12_works q hq) (fun _ => ?_)
  refine mt_dite (fun h => by subst h; exact fun q hq => ok_X12_firm q hq) (fun _ => ?_)
  refine mt_dite (fun h => by subst h; exact fun q hq => ok_X12_weeks q hq) (fun _ => ?_)
  refine mt_dite (fun h => by subst h; exact fun q hq => ok_X12_sags q hq) (fun _ => ?_)
  refine mt_dite (fun h => by subst h; exact fun q hq => ok_X12_isLatched q hq) (fun _ => ?_)
  refine mt_dite (fun h => by subst h; exact fun q hq => ok_X12_latched q hq) (fun _ => ?_)
  refine mt_dite (fun h => by subst h; exact fun q hq => ok_X12_gives q hq) (fun _ => ?_)
  refine mt_dite (fun h => by subst h; exact fun q hq => ok_X12_does q hq) (fun _ => ?_)
  refine mt_dite (fun h => by subst h; exact fun q hq => ok_X12_work q hq) (fun _ => ?_)
  refine mt_dite (fun h => by subst h; exact fun q hq => ok_X12_undo q hq) (fun _ => ?_)
  refine mt_dite (fun h => by subst h; exact fun q hq => ok_X12_isBound q hq) (fun _ => ?_)
  refine mt_dite (fun h => by subst h; exact fun q hq => ok_X12_lasts q hq) (fun _ => ?_)
  refine mt_dite (fun h => by subst h; exact fun q hq => ok_X12_costOf q hq) (fun _ => ?_)
  refine mt_dite (fun h => by subst h; exact fun q hq => ok_X12_least q hq) (fun _ => ?_)
  refine mt_dite (fun h => by subst h; exact fun q hq => ok_X12_dropBy q hq) (fun _ => ?_)
  refine mt_dite (fun h => by subst h; exact fun q hq => ok_X12_way q hq) (fun _ => ?_)
  refine mt_dite (fun h => by subst h; exact fun q hq => ok_X12_enough q hq) (fun _ => ?_)
  refine mt_dite (fun h => by subst h; exact fun q hq => ok_X12_bears q hq) (fun _ => ?_)
  refine mt_dite (fun h => by subst h; exact fun q hq => ok_X12_knock q hq) (fun _ => ?_)
  refine mt_dite (fun h => by subst h; exact fun q hq => ok_X12_measure q hq) (fun _ => ?_)
  refine mt_dite (fun h => by subst h; exact fun q hq => ok_X12_strike q hq) (fun _ => ?_)
  refine mt_dite (fun h => by subst h; exact fun q hq => ok_X12_known q hq) (fun _ => ?_)
  refine mt_dite (fun h => by subst h; exact fun q hq => ok_X12_knownMany q hq) (fun _ => ?_)
  refine mt_dite (fun h => by subst h; exact fun q hq => ok_X12_layCounts q hq) (fun _ => ?_)
  refine mt_dite (fun h => by subst h; exact fun q hq => ok_X12_beginsBy q hq) (fun _ => ?_)
  refine mt_dite (fun h => by subst h; exact fun q hq => ok_X12_valueNow q hq) (fun _ => ?_)
  refine mt_dite (fun h => by subst h; exact fun q hq => ok_X12_isSo q hq) (fun _ => ?_)
  refine mt_dite (fun h => by subst h; exact fun q hq => ok_X12_isFit q hq) (fun _ => ?_)
  refine mt_dite (fun h => by subst h; exact fun q hq => ok_X12_fitting q hq) (fun _ => ?_)
  refine mt_dite (fun h => by subst h; exact fun q hq => ok_X12_fits q hq) (fun _ => ?_)
  refine mt_dite (fun h => by subst h; exact fun q hq => ok_X12_weightOf q hq) (fun _ => ?_)
  refine mt_dite (fun h => by subst h; exact fun q hq => ok_X12_common q hq) (fun _ => ?_)
  refine mt_dite (fun h => by subst h; exact fun q hq => ok_X12_odds q hq) (fun _ => ?_)
  refine mt_dite (fun h => by subst h; exact fun q hq => ok_X12_heaviest q hq) (fun _ => ?_)
  refine mt_dite (fun h => by subst h; exact fun q hq => ok_X12_test q hq) (fun _ => ?_)
  refine mt_dite (fun h => by subst h; exact fun q hq => ok_X12_lowOf q hq) (fun _ => ?_)
  refine mt_dite (fun h => by subst h; exact fun q hq => ok_X12_isAngle q hq) (fun _ => ?_)
  refine mt_dite (fun h => by subst h; exact fun q hq => ok_X12_low q hq) (fun _ => ?_)
  refine mt_dite (fun h => by subst h; exact fun q hq => ok_X12_rest q hq) (fun _ => ?_)
  refine mt_dite (fun h => by subst h; exact fun q hq => ok_X12_shutsFrom q hq) (fun _ => ?_)
  refine mt_dite (fun h => by subst h; exact fun q hq => ok_X12_shuts q hq) (fun _ => ?_)
  refine mt_dite (fun h => by subst h; exact fun q hq => ok_X12_aboveOf q hq) (fun _ => ?_)
  refine mt_dite (fun h => by subst h; exact fun q hq => ok_X12_above q hq) (fun _ => ?_)
  refine mt_dite (fun h => by subst h; exact fun q hq => ok_X12_opensTo q hq) (fun _ => ?_)
  refine mt_dite (fun h => by subst h; exact fun q hq => ok_X12_opens q hq) (fun _ => ?_)
  refine mt_dite (fun h => by subst h; exact fun q hq => ok_X12_stand q hq) (fun _ => ?_)
  refine mt_dite (fun h => by subst h; exact fun q hq => ok_X12_nextOrder q hq) (fun _ => ?_)
  refine mt_dite (fun h => by subst h; exact fun q hq => ok_X12_weekOfAll q hq) (fun _ => ?_)
  refine mt_dite (fun h => by subst h; exact fun q hq => ok_X12_sumBy q hq) (fun _ => ?_)
  refine mt_dite (fun h => by subst h; exact fun q hq => ok_X12_first q hq) (fun _ => ?_)
  refine mt_dite (fun h => by subst h; exact fun q hq => ok_X12_wind q hq) (fun _ => ?_)
  refine mt_dite (fun h => by subst h; exact fun q hq => ok_X12_keep q hq) (fun _ => ?_)
  refine mt_dite (fun h => by subst h; exact fun q hq => ok_X12_back q hq) (fun _ => ?_)
  refine mt_dite (fun h => by subst h; exact fun q hq => ok_X12_count q hq) (fun _ => ?_)
  refine mt_dite (fun h => by subst h; exact fun q hq => ok_J6_bitCount_0f7a4 q hq) (fun _ => ?_)
  refine mt_dite (fun h => by subst h; exact fun q hq => ok_J0_length_8abf5 q hq) (fun _ => ?_)
  refine mt_dite (fun h => by subst h; exact fun q hq => ok_J0_charAt_5068e q hq) (fun _ => ?_)
  refine mt_dite (fun h => by subst h; exact fun q hq => ok_J0_coder_7d493 q hq) (fun _ => ?_)
  refine mt_dite (fun h => by subst h; exact fun q hq => ok_J0_isLatin1_aae02 q hq) (fun _ => ?_)
  refine mt_dite (fun h => by subst h; exact fun q hq => ok_J0_checkIndex_df160 q hq) (fun _ => ?_)
  refine mt_dite (fun h => by subst h; exact fun q hq => ok_J1_charAt_3b067 q hq) (fun _ => ?_)
  refine mt_dite (fun h => by subst h; exact fun q hq => ok_J3_checkIndex_8e157 q hq) (fun _ => ?_)
  refine mt_dite (fun h => by subst h; exact fun q hq => ok_L_law q hq) (fun _ => ?_)
  exact fun q hq => absurd hq List.not_mem_nil
theorem in_X0 : ∀ w ∈ u_ws RX0 TX0 8, w ∈ cv_T := by
  have h : (u_ws RX0 TX0 8).all (fun w => decide (w ∈ lw_tbl) && goodWord w) = true := by decide +kernel
  intro w hw
  have := List.all_eq_true.mp h w hw
  simp only [Bool.and_eq_true, decide_eq_true_eq] at this
  exact List.mem_filter.mpr this
theorem kd_X0 : ∀ k, k < 8 → (fk_all.getD 0 [])[k]? = some (cv_kd (tyX0 k)) ∧ cv_kd (tyX0 k) ≤ 4 ∧ cv_kd (tyX0 k) ≠ 1 := by decide +kernel
theorem in_X1 : ∀ w ∈ u_ws RX1 TX1 17, w ∈ cv_T := by
  have h : (u_ws RX1 TX1 17).all (fun w => decide (w ∈ lw_tbl) && goodWord w) = true := by decide +kernel
  intro w hw
  have := List.all_eq_true.mp h w hw
  simp only [Bool.and_eq_true, decide_eq_true_eq] at this
  exact List.mem_filter.mpr this
theorem kd_X1 : ∀ k, k < 17 → (fk_all.getD 1 [])[k]? = some (cv_kd (tyX1 k)) ∧ cv_kd (tyX1 k) ≤ 4 ∧ cv_kd (tyX1 k) ≠ 1 := by decide +kernel
theorem in_X2 : ∀ w ∈ u_ws RX2 TX2 5, w ∈ cv_T := by
  have h : (u_ws RX2 TX2 5).all (fun w => decide (w ∈ lw_tbl) && goodWord w) = true := by decide +kernel
  intro w hw
  have := List.all_eq_true.mp h w hw
  simp only [Bool.and_eq_true, decide_eq_true_eq] at this
  exact List.mem_filter.mpr this
theorem kd_X2 : ∀ k, k < 5 → (fk_all.getD 2 [])[k]? = some (cv_kd (tyX2 k)) ∧ cv_kd (tyX2 k) ≤ 4 ∧ cv_kd (tyX2 k) ≠ 1 := by decide +kernel
theorem in_X3 : ∀ w ∈ u_ws RX3 TX3 11, w ∈ cv_T := by
  have h : (u_ws RX3 TX3 11).all (fun w => decide (w ∈ lw_tbl) && goodWord w) = true := by decide +kernel
  intro w hw
  have := List.all_eq_true.mp h w hw
  simp only [Bool.and_eq_true, decide_eq_true_eq] at this
  exact List.mem_filter.mpr this
theorem kd_X3 : ∀ k, k < 11 → (fk_all.getD 3 [])[k]? = some (cv_kd (tyX3 k)) ∧ cv_kd (tyX3 k) ≤ 4 ∧ cv_kd (tyX3 k) ≠ 1 := by decide +kernel
theorem in_X4 : ∀ w ∈ u_ws RX4 TX4 20, w ∈ cv_T := by
  have h : (u_ws RX4 TX4 20).all (fun w => decide (w ∈ lw_tbl) && goodWord w) = true := by decide +kernel
  intro w hw
  have := List.all_eq_true.mp h w hw
  simp only [Bool.and_eq_true, decide_eq_true_eq] at this
  exact List.mem_filter.mpr this
theorem kd_X4 : ∀ k, k < 20 → (fk_all.getD 4 [])[k]? = some (cv_kd (tyX4 k)) ∧ cv_kd (tyX4 k) ≤ 4 ∧ cv_kd (tyX4 k) ≠ 1 := by decide +kernel
theorem in_X5 : ∀ w ∈ u_ws RX5 TX5 6, w ∈ cv_T := by
  have h : (u_ws RX5 TX5 6).all (fun w => decide (w ∈ lw_tbl) && goodWord w) = true := by decide +kernel
  intro w hw
  have := List.all_eq_true.mp h w hw
  simp only [Bool.and_eq_true, decide_eq_true_eq] at this
  exact List.mem_filter.mpr this
theorem kd_X5 : ∀ k, k < 6 → (fk_all.getD 5 [])[k]? = some (cv_kd (tyX5 k)) ∧ cv_kd (tyX5 k) ≤ 4 ∧ cv_kd (tyX5 k) ≠ 1 := by decide +kernel
theorem in_X6 : ∀ w ∈ u_ws RX6 TX6 7, w ∈ cv_T := by
  have h : (u_ws RX6 TX6 7).all (fun w => decide (w ∈ lw_tbl) && goodWord w) = true := by decide +kernel
  intro w hw
  have := List.all_eq_true.mp h w hw
  simp only [Bool.and_eq_true, decide_eq_true_eq] at this
  exact List.mem_filter.mpr this
theorem kd_X6 : ∀ k, k < 7 → (fk_all.getD 6 [])[k]? = some (cv_kd (tyX6 k)) ∧ cv_kd (tyX6 k) ≤ 4 ∧ cv_kd (tyX6 k) ≠ 1 := by decide +kernel
theorem in_X7 : ∀ w ∈ u_ws RX7 TX7 17, w ∈ cv_T := by
  have h : (u_ws RX7 TX7 17).all (fun w => decide (w ∈ lw_tbl) && goodWord w) = true := by decide +kernel
  intro w hw
  have := List.all_eq_true.mp h w hw
  simp only [Bool.and_eq_true, decide_eq_true_eq] at this
  exact List.mem_filter.mpr this
theorem kd_X7 : ∀ k, k < 17 → (fk_all.getD 7 [])[k]? = some (cv_kd (tyX7 k)) ∧ cv_kd (tyX7 k) ≤ 4 ∧ cv_kd (tyX7 k) ≠ 1 := by decide +kernel
theorem in_X8 : ∀ w ∈ u_ws RX8 TX8 3, w ∈ cv_T := by
  have h : (u_ws RX8 TX8 3).all (fun w => decide (w ∈ lw_tbl) && goodWord w) = true := by decide +kernel
  intro w hw
  have := List.all_eq_true.mp h w hw
  simp only [Bool.and_eq_true, decide_eq_true_eq] at this
  exact List.mem_filter.mpr this
theorem kd_X8 : ∀ k, k < 3 → (fk_all.getD 8 [])[k]? = some (cv_kd (tyX8 k)) ∧ cv_kd (tyX8 k) ≤ 4 ∧ cv_kd (tyX8 k) ≠ 1 := by decide +kernel
theorem in_X9 : ∀ w ∈ u_ws RX9 TX9 4, w ∈ cv_T := by
  have h : (u_ws RX9 TX9 4).all (fun w => decide (w ∈ lw_tbl) && goodWord w) = true := by decide +kernel
  intro w hw
  have := List.all_eq_true.mp h w hw
  simp only [Bool.and_eq_true, decide_eq_true_eq] at this
  exact List.mem_filter.mpr this
theorem kd_X9 : ∀ k, k < 4 → (fk_all.getD 9 [])[k]? = some (cv_kd (tyX9 k)) ∧ cv_kd (tyX9 k) ≤ 4 ∧ cv_kd (tyX9 k) ≠ 1 := by decide +kernel
theorem in_X10 : ∀ w ∈ u_ws RX10 TX10 3, w ∈ cv_T := by
  have h : (u_ws RX10 TX10 3).all (fun w => decide (w ∈ lw_tbl) && goodWord w) = true := by decide +kernel
  intro w hw
  have := List.all_eq_true.mp h w hw
  simp only [Bool.and_eq_true, decide_eq_true_eq] at this
  exact List.mem_filter.mpr this
theorem kd_X10 : ∀ k, k < 3 → (fk_all.getD 10 [])[k]? = some (cv_kd (tyX10 k)) ∧ cv_kd (tyX10 k) ≤ 4 ∧ cv_kd (tyX10 k) ≠ 1 := by decide +kernel
theorem in_X11 : ∀ w ∈ u_ws RX11 TX11 16, w ∈ cv_T := by
  have h : (u_ws RX11 TX11 16).all (fun w => decide (w ∈ lw_tbl) && goodWord w) = true := by decide +kernel
  intro w hw
  have := List.all_eq_true.mp h w hw
  simp only [Bool.and_eq_true, decide_eq_true_eq] at this
  exact List.mem_filter.mpr this
theorem kd_X11 : ∀ k, k < 16 → (fk_all.getD 11 [])[k]? = some (cv_kd (tyX11 k)) ∧ cv_kd (tyX11 k) ≤ 4 ∧ cv_kd (tyX11 k) ≠ 1 := by decide +kernel
theorem in_X12 : ∀ w ∈ u_ws RX12 TX12 69, w ∈ cv_T := by
  have h : (u_ws RX12 TX12 69).all (fun w => decide (w ∈ lw_tbl) && goodWord w) = true := by decide +kernel
  intro w hw
  have := List.all_eq_true.mp h w hw
  simp only [Bool.and_eq_true, decide_eq_true_eq] at this
  exact List.mem_filter.mpr this
theorem kd_X12 : ∀ k, k < 69 → (fk_all.getD 12 [])[k]? = some (cv_kd (tyX12 k)) ∧ cv_kd (tyX12 k) ≤ 4 ∧ cv_kd (tyX12 k) ≠ 1 := by decide +kernel
theorem cls_all : cv_cls cv_T vwCl fk_all := by
  intro ci C T N h
  match ci, h with
  | 0, h => cases h; exact ⟨in_X0, nmX0, tyX0, fk_all.getD 0 [], tyX0_ok, rfl, rfl, kd_X0⟩
  | 1, h => cases h; exact ⟨in_X1, nmX1, tyX1, fk_all.getD 1 [], tyX1_ok, rfl, rfl, kd_X1⟩
  | 2, h => cases h; exact ⟨in_X2, nmX2, tyX2, fk_all.getD 2 [], tyX2_ok, rfl, rfl, kd_X2⟩
  | 3, h => cases h; exact ⟨in_X3, nmX3, tyX3, fk_all.getD 3 [], tyX3_ok, rfl, rfl, kd_X3⟩
  | 4, h => cases h; exact ⟨in_X4, nmX4, tyX4, fk_all.getD 4 [], tyX4_ok, rfl, rfl, kd_X4⟩
  | 5, h => cases h; exact ⟨in_X5, nmX5, tyX5, fk_all.getD 5 [], tyX5_ok, rfl, rfl, kd_X5⟩
  | 6, h => cases h; exact ⟨in_X6, nmX6, tyX6, fk_all.getD 6 [], tyX6_ok, rfl, rfl, kd_X6⟩
  | 7, h => cases h; exact ⟨in_X7, nmX7, tyX7, fk_all.getD 7 [], tyX7_ok, rfl, rfl, kd_X7⟩
  | 8, h => cases h; exact ⟨in_X8, nmX8, tyX8, fk_all.getD 8 [], tyX8_ok, rfl, rfl, kd_X8⟩
  | 9, h => cases h; exact ⟨in_X9, nmX9, tyX9, fk_all.getD 9 [], tyX9_ok, rfl, rfl, kd_X9⟩
  | 10, h => cases h; exact ⟨in_X10, nmX10, tyX10, fk_all.getD 10 [], tyX10_ok, rfl, rfl, kd_X10⟩
  | 11, h => cases h; exact ⟨in_X11, nmX11, tyX11, fk_all.getD 11 [], tyX11_ok, rfl, rfl, kd_X11⟩
  | 12, h => cases h; exact ⟨in_X12, nmX12, tyX12, fk_all.getD 12 [], tyX12_ok, rfl, rfl, kd_X12⟩
  | j + 13, h => exact absurd h (by show ¬ ([] : List vw_C)[j]? = some (C, T, N); simp)
theorem al_all : cv_All cv_T vwCl fk_all mt_all := by
  refine ⟨cv_T_good, cls_all, ⟨TX1, 17, rfl⟩, ⟨TX7, 17, rfl⟩, by decide, fun j hj => ?_, ok_all⟩
  rw [mt_hi j (by omega)]
  rfl
end
section
/-! ===== what a run of the small machine gives, step by step ===== -/
section CWE
variable {F : cv_F} {mt : Nat → cv_M}
theorem cw_eq (k : Nat) (X : cv_X) (mi : Nat) (S : cv_S) : cv_run F mt (k + 1) X mi S = (match cv_op (mt mi) S.1 with
    | none => none
    | some q =>
      match cv_one X q S with
      | some S' => cv_run F mt k X mi S'
      | none =>
      match cv_mk (mt mi).2.2.1 (mt mi).2.2.2.1 F q S with
      | some S' => cv_run F mt k X mi S'
      | none =>
      match cv_nat (mt mi) q S with
      | some S' => cv_run F mt k X mi S'
      | none =>
      match cv_call q S with
      | some (j, args, stk) =>
        bif cv_fits (mt mi) (mt j) S.2.2.2.2.1 S.2.2.2.2.2 (cv_wid args) stk then
          match cv_run F mt k (fun j => bif j == 2 then none else X j) j (0, cv_ent 0 args, [], S.2.2.2.1, 0, 0) with
          | some o => cv_run F mt k X mi (S.1 + q.2.2.1, S.2.1, o.1.toList ++ stk, o.2, S.2.2.2.2.1 + (mt j).2.2.1, S.2.2.2.2.2 + (mt j).2.2.2.1)
          | none => none
        else none
      | none =>
      match cv_ret (mt mi) q S with
      | some r => some (r, S.2.2.2.1)
      | none => none) := rfl
theorem cw_mono1 : ∀ (N : Nat) (X : cv_X) (mi : Nat) (S : cv_S) (o : cv_O), cv_run F mt N X mi S = some o → cv_run F mt (N + 1) X mi S = some o := by
  intro N
  induction N with
  | zero => intro X mi S o h; cases h
  | succ n ih =>
    intro X mi S o h
    rw [cw_eq] at h
    rw [cw_eq]
    cases hop : cv_op (mt mi) S.1 with
    | none => rw [hop] at h; cases h
    | some q =>
    rw [hop] at h
    dsimp only at h ⊢
    cases hone : cv_one X q S with
    | some S' => rw [hone] at h; exact ih _ _ _ _ h
    | none =>
    rw [hone] at h
    dsimp only at h ⊢
    cases hmk : cv_mk (mt mi).2.2.1 (mt mi).2.2.2.1 F q S with
    | some S' => rw [hmk] at h; exact ih _ _ _ _ h
    | none =>
    rw [hmk] at h
    dsimp only at h ⊢
    cases hnat : cv_nat (mt mi) q S with
    | some S' => rw [hnat] at h; exact ih _ _ _ _ h
    | none =>
    rw [hnat] at h
    dsimp only at h ⊢
    cases hcall : cv_call q S with
    | some jas =>
      obtain ⟨j, av, stk⟩ := jas
      rw [hcall] at h
      dsimp only at h ⊢
      obtain ⟨hf, h2⟩ := cv_bif h
      rw [hf]
      cases hrun : cv_run F mt n (fun j => bif j == 2 then none else X j) j (0, cv_ent 0 av, [], S.2.2.2.1, 0, 0) with
      | none => rw [hrun] at h2; cases h2
      | some o' =>
        rw [hrun] at h2
        rw [ih _ _ _ _ hrun]
        exact ih _ _ _ _ h2
    | none =>
      rw [hcall] at h
      exact h
theorem cw_mono {N N' : Nat} {X : cv_X} {mi : Nat} {S : cv_S} {o : cv_O} (h : cv_run F mt N X mi S = some o) (hN : N ≤ N') : cv_run F mt N' X mi S = some o := by
  induction hN with
  | refl => exact h
  | step _ ih => exact cw_mono1 _ _ _ _ _ ih
/-- a run that ends -/
def cw_Ev (F : cv_F) (mt : Nat → cv_M) (X : cv_X) (mi : Nat) (S : cv_S) (o : cv_O) : Prop := ∃ N, cv_run F mt N X mi S = some o
theorem cw_ev_one {X : cv_X} {mi : Nat} {S S' : cv_S} {o : cv_O} {q : cv_Q} (hq : cv_op (mt mi) S.1 = some q) (h1 : cv_one X q S = some S') (h : cw_Ev F mt X mi S' o) : cw_Ev F mt X mi S o := by
  obtain ⟨N, h⟩ := h
  refine ⟨N + 1, ?_⟩
  rw [cw_eq, hq]
  dsimp only
  rw [h1]
  exact h
theorem cw_one_nat {X : cv_X} {M : cv_M} {S S' : cv_S} {q : cv_Q} (h : cv_nat M q S = some S') : cv_one X q S = none := by
  unfold cv_nat at h
  obtain ⟨-, h⟩ := cv_bif h
  unfold cv_one
  revert h
  obtain ⟨pc, i, len, a, b, z⟩ := q
  cases i <;> intro h <;> first | rfl | (exfalso; simp at h)
theorem cw_mk_nat {M : cv_M} {mc ms : Nat} {S S' : cv_S} {q : cv_Q} (h : cv_nat M q S = some S') : cv_mk mc ms F q S = none := by
  unfold cv_nat at h
  obtain ⟨-, h⟩ := cv_bif h
  unfold cv_mk
  revert h
  obtain ⟨pc, i, len, a, b, z⟩ := q
  cases i <;> intro h <;> first | rfl | (exfalso; simp at h)
theorem cw_ev_nat {X : cv_X} {mi : Nat} {S S' : cv_S} {o : cv_O} {q : cv_Q} (hq : cv_op (mt mi) S.1 = some q) (h1 : cv_nat (mt mi) q S = some S') (h : cw_Ev F mt X mi S' o) : cw_Ev F mt X mi S o := by
  obtain ⟨N, h⟩ := h
  refine ⟨N + 1, ?_⟩
  rw [cw_eq, hq]
  dsimp only
  rw [cw_one_nat h1]
  dsimp only
  rw [cw_mk_nat h1]
  dsimp only
  rw [h1]
  exact h
theorem cw_call_one {X : cv_X} {S : cv_S} {q : cv_Q} {a : Nat × List cv_V × List cv_V} (h : cv_call q S = some a) : cv_one X q S = none ∧ ∀ mc ms, cv_mk mc ms F q S = none := by
  unfold cv_call at h
  obtain ⟨-, h⟩ := cv_bif h
  unfold cv_one cv_mk
  revert h
  obtain ⟨pc, i, len, a, b, z⟩ := q
  cases i <;> intro h <;> first | exact ⟨rfl, fun _ _ => rfl⟩ | (exfalso; simp at h)
theorem cw_ev_call {X : cv_X} {mi : Nat} {S : cv_S} {o o' : cv_O} {q : cv_Q} {j : Nat} {av stk : List cv_V} (hq : cv_op (mt mi) S.1 = some q) (hn : q.2.2.2.1 < 9000) (h1 : cv_call q S = some (j, av, stk))
    (hf : cv_fits (mt mi) (mt j) S.2.2.2.2.1 S.2.2.2.2.2 (cv_wid av) stk = true) (hc : cw_Ev F mt (fun j => bif j == 2 then none else X j) j (0, cv_ent 0 av, [], S.2.2.2.1, 0, 0) o')
    (h : cw_Ev F mt X mi (S.1 + q.2.2.1, S.2.1, o'.1.toList ++ stk, o'.2, S.2.2.2.2.1 + (mt j).2.2.1, S.2.2.2.2.2 + (mt j).2.2.2.1) o) : cw_Ev F mt X mi S o := by
  obtain ⟨N, h⟩ := h
  obtain ⟨N', hc⟩ := hc
  refine ⟨max N N' + 1, ?_⟩
  rw [cw_eq, hq]
  dsimp only
  rw [(cw_call_one (F := F) (X := X) h1).1]
  dsimp only
  rw [(cw_call_one (X := X) h1).2]
  dsimp only
  have hnat : cv_nat (mt mi) q S = none := by
    unfold cv_nat
    obtain ⟨pc, i, len, a, b, z⟩ := q
    replace hn : a < 9000 := hn
    clear hq h1 h
    dsimp only
    generalize (decide (1 ≤ (mt mi).2.2.2.2.1) && (decide (S.2.2.2.2.1 ≤ (mt mi).2.2.1) && decide (S.2.2.2.2.2 ≤ (mt mi).2.2.2.1))) = bb
    cases bb with
    | false => rfl
    | true =>
      dsimp only [cond_true]
      split
      all_goals first | rfl | (exfalso; revert hn; decide)
  rw [hnat]
  dsimp only
  rw [h1]
  dsimp only
  rw [hf, cw_mono hc (Nat.le_max_right N N')]
  exact cw_mono h (Nat.le_max_left N N')
theorem cw_ret_one {X : cv_X} {M : cv_M} {S : cv_S} {q : cv_Q} {r : Option cv_V} (h : cv_ret M q S = some r) : cv_one X q S = none ∧ (∀ mc ms, cv_mk mc ms F q S = none) ∧ cv_nat M q S = none ∧ cv_call q S = none := by
  have hi : q.2.1 = .ireturn ∨ q.2.1 = .lreturn ∨ q.2.1 = .return_ := by
    unfold cv_ret at h
    obtain ⟨-, h⟩ := cv_bif h
    split at h
    all_goals first | (cases h; done) | (rename_i e _ _; first | exact .inl e | exact .inr (.inl e) | exact .inr (.inr e)) | skip
    all_goals first | exact .inl (by assumption) | exact .inr (.inl (by assumption)) | exact .inr (.inr (by assumption))
  obtain ⟨pc, i, len, a, b, z⟩ := q
  have e1 : ∀ b : Bool, (bif b then (none : Option cv_S) else none) = none := fun b => by cases b <;> rfl
  have e2 : ∀ b : Bool, (bif b then (none : Option (Nat × List cv_V × List cv_V)) else none) = none := fun b => by cases b <;> rfl
  rcases hi with hi | hi | hi
  · replace hi : i = .ireturn := hi
    subst hi
    exact ⟨rfl, fun _ _ => rfl, e1 _, e2 _⟩
  · replace hi : i = .lreturn := hi
    subst hi
    exact ⟨rfl, fun _ _ => rfl, e1 _, e2 _⟩
  · replace hi : i = .return_ := hi
    subst hi
    exact ⟨rfl, fun _ _ => rfl, e1 _, e2 _⟩
theorem cw_ev_ret {X : cv_X} {mi : Nat} {S : cv_S} {q : cv_Q} {r : Option cv_V} (hq : cv_op (mt mi) S.1 = some q) (h1 : cv_ret (mt mi) q S = some r) : cw_Ev F mt X mi S (r, S.2.2.2.1) := by
  refine ⟨1, ?_⟩
  rw [cw_eq, hq]
  dsimp only
  have h := cw_ret_one (F := F) (X := X) h1
  rw [h.1]
  dsimp only
  rw [h.2.1]
  dsimp only
  rw [h.2.2.1]
  dsimp only
  rw [h.2.2.2]
  dsimp only
  rw [h1]
end CWE
end
