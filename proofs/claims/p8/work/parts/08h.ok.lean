/-! ===== the rows of the methods ===== -/
def hn_X12_shutsFrom : List (List (Nat × Nat)) := [
  [], [], [], [], [], [], [], [], [], [], [(9, 47)], [],
  [], [], [], [], [(9, 47)], [], [], [], [], [], [], [],
  [], [], [], []]
set_option maxRecDepth 100000 in
theorem ok_X12_shutsFrom : ∀ q ∈ op_X12_shutsFrom, cv_ok cv_T vwCl mt_all mt_X12_shutsFrom q := cv_zip_ok ok_mm (by decide) okj_all ok_o1 ok_o2 (hs := hn_X12_shutsFrom) (by decide +kernel) (by decide +kernel)
def hn_X12_shuts : List (List (Nat × Nat)) := [
  [], [], [(6, 179)], [], [], [(8, 68)], [], [], [], [], [], [(8, 76)],
  [], [], [(9, 59)], []]
set_option maxRecDepth 100000 in
theorem ok_X12_shuts : ∀ q ∈ op_X12_shuts, cv_ok cv_T vwCl mt_all mt_X12_shuts q := cv_zip_ok ok_mm (by decide) okj_all ok_o1 ok_o2 (hs := hn_X12_shuts) (by decide +kernel) (by decide +kernel)
def hn_X12_aboveOf : List (List (Nat × Nat)) := [
  [], [(6, 203)], [], [], [], [], [], [], [], [], [(9, 47)], [],
  [], [], [], [(9, 47)], [], [], [], [(9, 71)], [], [], [(8, 80)], [],
  [], [], [], [], [], [(6, 203)], [], [], [], [], [], [],
  [], [], [], [], [(8, 116)], [], [], [(9, 72)], [], [(6, 204)], [], [],
  [], [], [], [], [], [], [], [], []]
set_option maxRecDepth 100000 in
theorem ok_X12_aboveOf : ∀ q ∈ op_X12_aboveOf, cv_ok cv_T vwCl mt_all mt_X12_aboveOf q := cv_zip_ok ok_mm (by decide) okj_all ok_o1 ok_o2 (hs := hn_X12_aboveOf) (by decide +kernel) (by decide +kernel)
def hn_X12_above : List (List (Nat × Nat)) := [
  [], [], [(6, 179)], [], [], [(8, 68)], [], [], [], [(9, 43)], [], [(8, 151)],
  [], [], [], [(8, 76)], [], [], [], [(9, 67)], []]
set_option maxRecDepth 100000 in
theorem ok_X12_above : ∀ q ∈ op_X12_above, cv_ok cv_T vwCl mt_all mt_X12_above q := cv_zip_ok ok_mm (by decide) okj_all ok_o1 ok_o2 (hs := hn_X12_above) (by decide +kernel) (by decide +kernel)
def hn_X12_opensTo : List (List (Nat × Nat)) := [
  [], [], [], [], [], [], [], [], [(9, 67)], [], [], [],
  [], [], [], []]
set_option maxRecDepth 100000 in
theorem ok_X12_opensTo : ∀ q ∈ op_X12_opensTo, cv_ok cv_T vwCl mt_all mt_X12_opensTo q := cv_zip_ok ok_mm (by decide) okj_all ok_o1 ok_o2 (hs := hn_X12_opensTo) (by decide +kernel) (by decide +kernel)
def hn_X12_opens : List (List (Nat × Nat)) := [
  [], [], [(6, 179)], [], [], [(8, 68)], [], [], [], [], [], [(8, 76)],
  [], [], [(9, 77)], []]
set_option maxRecDepth 100000 in
theorem ok_X12_opens : ∀ q ∈ op_X12_opens, cv_ok cv_T vwCl mt_all mt_X12_opens q := cv_zip_ok ok_mm (by decide) okj_all ok_o1 ok_o2 (hs := hn_X12_opens) (by decide +kernel) (by decide +kernel)
def hn_X12_stand_0 : List (List (Nat × Nat)) := [
  [], [], [(6, 179)], [], [], [(8, 68)], [], [], [], [(9, 43)], [], [],
  [], [], [(7, 197)], [], [(8, 151)], [], [], [], [(8, 76)], [], [(6, 203)], [],
  [], [], [], [], [], [], [], [(6, 203)], [], [], [], [],
  [], [], [], [], [], [], [], [], [], [], [], [],
  [], [], [], [], [], [], [], [], [], [], [], []]
set_option maxRecDepth 100000 in
theorem ok_X12_stand_0 : ∀ q ∈ op_X12_stand_0, cv_ok cv_T vwCl mt_all mt_X12_stand q := cv_zip_ok ok_mm (by decide) okj_all ok_o1 ok_o2 (hs := hn_X12_stand_0) (by decide +kernel) (by decide +kernel)
def hn_X12_stand_1 : List (List (Nat × Nat)) := [
  [], [], [], [], [(9, 85)], [], [(9, 85)], [], [], [], [], [],
  [(6, 203)], [], [], [], [], [], [], [], [], [(6, 203)], [], [],
  [], [], [], [], [], [], [], [(9, 59)], [], [], [], [],
  [], [], [(9, 77)], [], [], [], [], [(9, 85)], [], [(9, 85)], [], [],
  [], [], [], [], [], [], [], [], [], [(6, 203)], [], []]
set_option maxRecDepth 100000 in
theorem ok_X12_stand_1 : ∀ q ∈ op_X12_stand_1, cv_ok cv_T vwCl mt_all mt_X12_stand q := cv_zip_ok ok_mm (by decide) okj_all ok_o1 ok_o2 (hs := hn_X12_stand_1) (by decide +kernel) (by decide +kernel)
def hn_X12_stand_2 : List (List (Nat × Nat)) := [
  [], [], [], [], [], [], [(6, 203)], [], [], [], [], [],
  [], [], [], [], [(8, 151)], [], [], [], [], [], [], []]
set_option maxRecDepth 100000 in
theorem ok_X12_stand_2 : ∀ q ∈ op_X12_stand_2, cv_ok cv_T vwCl mt_all mt_X12_stand q := cv_zip_ok ok_mm (by decide) okj_all ok_o1 ok_o2 (hs := hn_X12_stand_2) (by decide +kernel) (by decide +kernel)
theorem ok_X12_stand : ∀ q ∈ op_X12_stand, cv_ok cv_T vwCl mt_all mt_X12_stand q := List.forall_mem_append.mpr ⟨ok_X12_stand_0, List.forall_mem_append.mpr ⟨ok_X12_stand_1, ok_X12_stand_2⟩⟩
def hn_X12_nextOrder_0 : List (List (Nat × Nat)) := [
  [], [], [], [], [], [], [], [], [], [], [], [],
  [], [], [], [], [], [], [], [], [], [], [], [],
  [], [], [], [], [], [], [], [], [], [], [], [],
  [], [], [], [], [], [], [], [], [], [], [], [],
  [], [], [], [], [], [], [], [], [], [], [], []]
set_option maxRecDepth 100000 in
theorem ok_X12_nextOrder_0 : ∀ q ∈ op_X12_nextOrder_0, cv_ok cv_T vwCl mt_all mt_X12_nextOrder q := cv_zip_ok ok_mm (by decide) okj_all ok_o1 ok_o2 (hs := hn_X12_nextOrder_0) (by decide +kernel) (by decide +kernel)
def hn_X12_nextOrder_1 : List (List (Nat × Nat)) := [
  [], [], [], [], [], [], [], [], [], [], [], [],
  [], [], [], [], [], []]
set_option maxRecDepth 100000 in
theorem ok_X12_nextOrder_1 : ∀ q ∈ op_X12_nextOrder_1, cv_ok cv_T vwCl mt_all mt_X12_nextOrder q := cv_zip_ok ok_mm (by decide) okj_all ok_o1 ok_o2 (hs := hn_X12_nextOrder_1) (by decide +kernel) (by decide +kernel)
theorem ok_X12_nextOrder : ∀ q ∈ op_X12_nextOrder, cv_ok cv_T vwCl mt_all mt_X12_nextOrder q := List.forall_mem_append.mpr ⟨ok_X12_nextOrder_0, ok_X12_nextOrder_1⟩
def hn_X12_weekOfAll : List (List (Nat × Nat)) := [
  [], [], [], [], [], [], [(6, 189)], [], [], [(6, 222)], [], [],
  [(7, 2)], [], [], [], [(6, 174)], [], [], [], [(8, 108)], [], [], [],
  [(8, 156)], [], [], [], [], [], [], [], [(7, 2)], [], [], [],
  [], [(6, 222)], [], [(6, 174)], [], [], [], []]
set_option maxRecDepth 100000 in
theorem ok_X12_weekOfAll : ∀ q ∈ op_X12_weekOfAll, cv_ok cv_T vwCl mt_all mt_X12_weekOfAll q := cv_zip_ok ok_mm (by decide) okj_all ok_o1 ok_o2 (hs := hn_X12_weekOfAll) (by decide +kernel) (by decide +kernel)
def hn_X12_sumBy_0 : List (List (Nat × Nat)) := [
  [], [], [], [], [(6, 189)], [], [], [(7, 2)], [], [], [], [],
  [(6, 221)], [], [], [], [(6, 174)], [], [], [], [], [], [], [],
  [], [(6, 189)], [], [], [], [], [], [], [], [], [(7, 0)], [],
  [], [], [], [], [], [(6, 222)], [], [], [(7, 2)], [], [], [],
  [(6, 174)], [], [(7, 2)], [], [], [], [], [], [], [], [], []]
set_option maxRecDepth 100000 in
theorem ok_X12_sumBy_0 : ∀ q ∈ op_X12_sumBy_0, cv_ok cv_T vwCl mt_all mt_X12_sumBy q := cv_zip_ok ok_mm (by decide) okj_all ok_o1 ok_o2 (hs := hn_X12_sumBy_0) (by decide +kernel) (by decide +kernel)
def hn_X12_sumBy_1 : List (List (Nat × Nat)) := [
  [(8, 116)], [], [], [], [], [], [(6, 220)], [], [], [(9, 96)], [], [],
  [], [], [], []]
set_option maxRecDepth 100000 in
theorem ok_X12_sumBy_1 : ∀ q ∈ op_X12_sumBy_1, cv_ok cv_T vwCl mt_all mt_X12_sumBy q := cv_zip_ok ok_mm (by decide) okj_all ok_o1 ok_o2 (hs := hn_X12_sumBy_1) (by decide +kernel) (by decide +kernel)
theorem ok_X12_sumBy : ∀ q ∈ op_X12_sumBy, cv_ok cv_T vwCl mt_all mt_X12_sumBy q := List.forall_mem_append.mpr ⟨ok_X12_sumBy_0, ok_X12_sumBy_1⟩
def hn_X12_first_0 : List (List (Nat × Nat)) := [
  [], [], [(6, 179)], [], [(6, 189)], [], [], [], [], [(7, 197)], [], [],
  [], [], [(6, 189)], [(7, 197)], [], [], [], [], [], [], [], [],
  [], [(7, 0)], [], [], [], [], [], [], [], [], [], [],
  [], [], [], [(9, 92)], [], [], [], [], [], [], [], [],
  [], [], [], [], [], [], [(7, 1)], [], [], [(7, 0)], [], []]
set_option maxRecDepth 100000 in
theorem ok_X12_first_0 : ∀ q ∈ op_X12_first_0, cv_ok cv_T vwCl mt_all mt_X12_first q := cv_zip_ok ok_mm (by decide) okj_all ok_o1 ok_o2 (hs := hn_X12_first_0) (by decide +kernel) (by decide +kernel)
def hn_X12_first_1 : List (List (Nat × Nat)) := [
  [], [], [], [], [(7, 0)], [], [(6, 189)], [(9, 100)], [], [], [], [],
  [], [], [], [(7, 1)], [], [], [], [], []]
set_option maxRecDepth 100000 in
theorem ok_X12_first_1 : ∀ q ∈ op_X12_first_1, cv_ok cv_T vwCl mt_all mt_X12_first q := cv_zip_ok ok_mm (by decide) okj_all ok_o1 ok_o2 (hs := hn_X12_first_1) (by decide +kernel) (by decide +kernel)
theorem ok_X12_first : ∀ q ∈ op_X12_first, cv_ok cv_T vwCl mt_all mt_X12_first q := List.forall_mem_append.mpr ⟨ok_X12_first_0, ok_X12_first_1⟩
def hn_X12_wind_0 : List (List (Nat × Nat)) := [
  [], [], [(6, 179)], [], [], [(8, 68)], [], [], [], [], [], [],
  [(7, 197)], [], [], [], [], [(7, 197)], [], [], [(8, 180)], [], [], [],
  [], [], [], [], [], [], [], [], [], [], [], [],
  [(8, 76)], [], [(6, 222)], [], [], [], [], [], [], [], [], [],
  [(9, 107)], [], [(9, 108)], [], [(9, 109)], [], [], [], [(6, 222)], [], [], []]
set_option maxRecDepth 100000 in
theorem ok_X12_wind_0 : ∀ q ∈ op_X12_wind_0, cv_ok cv_T vwCl mt_all mt_X12_wind q := cv_zip_ok ok_mm (by decide) okj_all ok_o1 ok_o2 (hs := hn_X12_wind_0) (by decide +kernel) (by decide +kernel)
def hn_X12_wind_1 : List (List (Nat × Nat)) := [
  [(9, 110)], [], [], [], [], [], [], [], [], [], [], [],
  [], [], [], [], [(6, 220)], [], [], [(8, 108)], [], [], [], [(6, 222)],
  [], [], [], [], [], [], [(8, 116)], [], [], [], [], [],
  [], [], [], [], [], []]
set_option maxRecDepth 100000 in
theorem ok_X12_wind_1 : ∀ q ∈ op_X12_wind_1, cv_ok cv_T vwCl mt_all mt_X12_wind q := cv_zip_ok ok_mm (by decide) okj_all ok_o1 ok_o2 (hs := hn_X12_wind_1) (by decide +kernel) (by decide +kernel)
theorem ok_X12_wind : ∀ q ∈ op_X12_wind, cv_ok cv_T vwCl mt_all mt_X12_wind q := List.forall_mem_append.mpr ⟨ok_X12_wind_0, ok_X12_wind_1⟩
def hn_X12_keep : List (List (Nat × Nat)) := [
  [], [], [(6, 179)], [], [], [(7, 3)], [], [], [(6, 220)], [(7, 4)], [], [],
  [], [], [], [], [(7, 5)], [], [], [], [], [(6, 221)], [], [],
  [], [(6, 174)], [], [], [], [(6, 220)], []]
set_option maxRecDepth 100000 in
theorem ok_X12_keep : ∀ q ∈ op_X12_keep, cv_ok cv_T vwCl mt_all mt_X12_keep q := cv_zip_ok ok_mm (by decide) okj_all ok_o1 ok_o2 (hs := hn_X12_keep) (by decide +kernel) (by decide +kernel)
def hn_X12_back : List (List (Nat × Nat)) := [
  [], [], [(6, 179)], [], [(7, 3)], [], [], [], [], [], [(7, 4)], [(6, 220)],
  [], [], [], [], [], [], [(6, 221)], [], [], [], [], [(7, 5)],
  [], [], [], [(6, 174)], [], [], [], [], [(6, 227)], [], [(6, 220)], []]
set_option maxRecDepth 100000 in
theorem ok_X12_back : ∀ q ∈ op_X12_back, cv_ok cv_T vwCl mt_all mt_X12_back q := cv_zip_ok ok_mm (by decide) okj_all ok_o1 ok_o2 (hs := hn_X12_back) (by decide +kernel) (by decide +kernel)
def hn_X12_count : List (List (Nat × Nat)) := [
  [], [], [(6, 179)], [], [], [], [], [], [(6, 189)], [], [], [(6, 190)],
  [], [], [(6, 191)], [], [], [(6, 192)], [], [], [(6, 220)], [], [], [(6, 229)],
  [], [], [(9, 0)], [], [], [(6, 227)], [], [], [], [], [], [(6, 189)],
  [], [], [], [], [(6, 221)], [], [], [], [], [], [], [(8, 189)],
  [], [], [], [], [], [], [], []]
set_option maxRecDepth 100000 in
theorem ok_X12_count : ∀ q ∈ op_X12_count, cv_ok cv_T vwCl mt_all mt_X12_count q := cv_zip_ok ok_mm (by decide) okj_all ok_o1 ok_o2 (hs := hn_X12_count) (by decide +kernel) (by decide +kernel)
def hn_J6_bitCount_0f7a4 : List (List (Nat × Nat)) := [
  [], [], [], [], [(5, 191)], [], [], [], [], [(5, 192)], [], [],
  [], [], [(5, 192)], [], [], [], [], [], [], [], [], [(5, 193)],
  [], [], [], [], [], [], [], [], [], [], [], [],
  [], [], [], [], [], []]
set_option maxRecDepth 100000 in
theorem ok_J6_bitCount_0f7a4 : ∀ q ∈ op_J6_bitCount_0f7a4, cv_ok cv_T vwCl mt_all mt_J6_bitCount_0f7a4 q := cv_zip_ok ok_mm (by decide) okj_all ok_o1 ok_o2 (hs := hn_J6_bitCount_0f7a4) (by decide +kernel) (by decide +kernel)
def hn_J0_length_8abf5 : List (List (Nat × Nat)) := [
  [], [(9, 141)], [], [], [(2, 23)], [], []]
set_option maxRecDepth 100000 in
theorem ok_J0_length_8abf5 : ∀ q ∈ op_J0_length_8abf5, cv_ok cv_T vwCl mt_all mt_J0_length_8abf5 q := cv_zip_ok ok_mm (by decide) okj_all ok_o1 ok_o2 (hs := hn_J0_length_8abf5) (by decide +kernel) (by decide +kernel)
def hn_J0_charAt_5068e : List (List (Nat × Nat)) := [
  [], [(2, 33)], [], [], [(9, 141)], [], [(2, 37)], []]
set_option maxRecDepth 100000 in
theorem ok_J0_charAt_5068e : ∀ q ∈ op_J0_charAt_5068e, cv_ok cv_T vwCl mt_all mt_J0_charAt_5068e q := cv_zip_ok ok_mm (by decide) okj_all ok_o1 ok_o2 (hs := hn_J0_charAt_5068e) (by decide +kernel) (by decide +kernel)
def hn_J0_coder_7d493 : List (List (Nat × Nat)) := [
  [(2, 27)], [], [], [(9, 142)], [], []]
set_option maxRecDepth 100000 in
theorem ok_J0_coder_7d493 : ∀ q ∈ op_J0_coder_7d493, cv_ok cv_T vwCl mt_all mt_J0_coder_7d493 q := cv_zip_ok ok_mm (by decide) okj_all ok_o1 ok_o2 (hs := hn_J0_coder_7d493) (by decide +kernel) (by decide +kernel)
def hn_J0_isLatin1_aae02 : List (List (Nat × Nat)) := [
  [(2, 27)], [], [], [(9, 142)], [], [], [], []]
set_option maxRecDepth 100000 in
theorem ok_J0_isLatin1_aae02 : ∀ q ∈ op_J0_isLatin1_aae02, cv_ok cv_T vwCl mt_all mt_J0_isLatin1_aae02 q := cv_zip_ok ok_mm (by decide) okj_all ok_o1 ok_o2 (hs := hn_J0_isLatin1_aae02) (by decide +kernel) (by decide +kernel)
def hn_J0_checkIndex_df160 : List (List (Nat × Nat)) := [
  [], [], [(2, 43)], [(2, 45)], [], []]
set_option maxRecDepth 100000 in
theorem ok_J0_checkIndex_df160 : ∀ q ∈ op_J0_checkIndex_df160, cv_ok cv_T vwCl mt_all mt_J0_checkIndex_df160 q := cv_zip_ok ok_mm (by decide) okj_all ok_o1 ok_o2 (hs := hn_J0_checkIndex_df160) (by decide +kernel) (by decide +kernel)
def hn_J1_charAt_3b067 : List (List (Nat × Nat)) := [
  [], [], [], [(2, 40)], [], [], [], [], [], [], []]
set_option maxRecDepth 100000 in
theorem ok_J1_charAt_3b067 : ∀ q ∈ op_J1_charAt_3b067, cv_ok cv_T vwCl mt_all mt_J1_charAt_3b067 q := cv_zip_ok ok_mm (by decide) okj_all ok_o1 ok_o2 (hs := hn_J1_charAt_3b067) (by decide +kernel) (by decide +kernel)
def hn_J3_checkIndex_8e157 : List (List (Nat × Nat)) := [
  [], [], [], [], [], [], []]
set_option maxRecDepth 100000 in
theorem ok_J3_checkIndex_8e157 : ∀ q ∈ op_J3_checkIndex_8e157, cv_ok cv_T vwCl mt_all mt_J3_checkIndex_8e157 q := cv_zip_ok ok_mm (by decide) okj_all ok_o1 ok_o2 (hs := hn_J3_checkIndex_8e157) (by decide +kernel) (by decide +kernel)
def hn_L_law_0 : List (List (Nat × Nat)) := [
  [(1, 25), (1, 26), (1, 1)], [], [(1, 27)], [], [(6, 153), (6, 154), (1, 17)], [], [(6, 155)], [], [], [(2, 173)], [], [],
  [], [], [], [], [], [], [], [], [], [], [], [],
  [], [], [], [], [], [], [], [], [], [], [], [],
  [], [], [], [], [], [], [], [], [], [], [], [],
  [], [], [], [(3, 162)], [], [], [], [], [], [], [], []]
set_option maxRecDepth 100000 in
theorem ok_L_law_0 : ∀ q ∈ op_L_law_0, cv_ok cv_T vwCl mt_all mt_L_law q := cv_zip_ok ok_mm (by decide) okj_all ok_o1 ok_o2 (hs := hn_L_law_0) (by decide +kernel) (by decide +kernel)
def hn_L_law_1 : List (List (Nat × Nat)) := [
  [], [], [], [], [], [], [], [], [], [], [], [],
  [], [], [], [], [], [], [], [(7, 145)], [], [], [], [],
  [], [], [], [], [(3, 170)], [], [], [], [], [], [], [],
  [(7, 149)], [], [], [], [], [], [], [], [], [(4, 121)], [], [],
  [], [], [], [], [], [(8, 56)], [], [], [], [], [], []]
set_option maxRecDepth 100000 in
theorem ok_L_law_1 : ∀ q ∈ op_L_law_1, cv_ok cv_T vwCl mt_all mt_L_law q := cv_zip_ok ok_mm (by decide) okj_all ok_o1 ok_o2 (hs := hn_L_law_1) (by decide +kernel) (by decide +kernel)
def hn_L_law_2 : List (List (Nat × Nat)) := [
  [], [], [], [], [], [], [], [(4, 125)], [], [], [], [],
  [], [], [], [], [], [], [], [], [(8, 60)], [], [], [],
  [], [], [], [], [], [], [], [], [], [], [], [],
  [], [], [], [], [], [], [], [], [], [], [], [(8, 64)],
  [], [], [], [], [], [], [], [], [], [], [], []]
set_option maxRecDepth 100000 in
theorem ok_L_law_2 : ∀ q ∈ op_L_law_2, cv_ok cv_T vwCl mt_all mt_L_law q := cv_zip_ok ok_mm (by decide) okj_all ok_o1 ok_o2 (hs := hn_L_law_2) (by decide +kernel) (by decide +kernel)
def hn_L_law_3 : List (List (Nat × Nat)) := [
  [], [(4, 130)], [], [], [], [], [], [], [], [], [], [],
  [], [], [(8, 88)], [], [], [], [], [], [], [], [], [(4, 138)],
  [], [], [], [], [], [], [(8, 92)], [], [], [], [], [],
  [], [], [], [], [(4, 149)], [], [], [], [], [], [], [],
  [(8, 100)], [], [], [], [], [], [], [], [], [], [], []]
set_option maxRecDepth 100000 in
theorem ok_L_law_3 : ∀ q ∈ op_L_law_3, cv_ok cv_T vwCl mt_all mt_L_law q := cv_zip_ok ok_mm (by decide) okj_all ok_o1 ok_o2 (hs := hn_L_law_3) (by decide +kernel) (by decide +kernel)
def hn_L_law_4 : List (List (Nat × Nat)) := [
  [], [], [(4, 236)], [], [], [], [], [], [], [], [], [],
  [], [], [], [(8, 147)], [], [], [], [], [], [], [], [],
  [(5, 8)], [], [], [], [], [], [], [], [(8, 152)], [], [], [],
  [], [], [], [], [], [(5, 17)], [], [], [], [], [], [],
  [], [(8, 160)], [], [], [], [], [], [], [], [], [], []]
set_option maxRecDepth 100000 in
theorem ok_L_law_4 : ∀ q ∈ op_L_law_4, cv_ok cv_T vwCl mt_all mt_L_law q := cv_zip_ok ok_mm (by decide) okj_all ok_o1 ok_o2 (hs := hn_L_law_4) (by decide +kernel) (by decide +kernel)
def hn_L_law_5 : List (List (Nat × Nat)) := [
  [], [], [], [(5, 22)], [], [], [], [], [], [], [], [],
  [], [], [], [], [(8, 164)], [], [], [], [(5, 43)], [], [], [(8, 172)],
  [], [], [], [], [], [], [], [], [], [], [], [],
  [], [(5, 55)], [], [], [], [], [], [], [], [], [], [],
  [], [], [(8, 176)], [], [], [], [], [], [], [], [], []]
set_option maxRecDepth 100000 in
theorem ok_L_law_5 : ∀ q ∈ op_L_law_5, cv_ok cv_T vwCl mt_all mt_L_law q := cv_zip_ok ok_mm (by decide) okj_all ok_o1 ok_o2 (hs := hn_L_law_5) (by decide +kernel) (by decide +kernel)
def hn_L_law_6 : List (List (Nat × Nat)) := [
  [], [], [], [], [], [], [], [], [], [], [], [],
  [], [], [(5, 65)], [], [], [], [], [], [], [], [], [],
  [], [], [], [], [], [], [], [], [], [], [], [],
  [], [(8, 185)], [], [], [], [], [], [], [], [], [], [],
  [], [], [], [(5, 77)], [], [], [], [], [], [], [], []]
set_option maxRecDepth 100000 in
theorem ok_L_law_6 : ∀ q ∈ op_L_law_6, cv_ok cv_T vwCl mt_all mt_L_law q := cv_zip_ok ok_mm (by decide) okj_all ok_o1 ok_o2 (hs := hn_L_law_6) (by decide +kernel) (by decide +kernel)
def hn_L_law_7 : List (List (Nat × Nat)) := [
  [], [], [], [], [(8, 193)], [], [], [], [], [], [], [],
  [], [], [], [], [], [], [], [], [], [], [], [(5, 85)],
  [], [], [], [], [], [], [], [], [], [], [], [],
  [], [], [], [], [], [(8, 201)], [], [], [], [], [], [],
  [], [], [], [], [], [], [], [], [], [], [], []]
set_option maxRecDepth 100000 in
theorem ok_L_law_7 : ∀ q ∈ op_L_law_7, cv_ok cv_T vwCl mt_all mt_L_law q := cv_zip_ok ok_mm (by decide) okj_all ok_o1 ok_o2 (hs := hn_L_law_7) (by decide +kernel) (by decide +kernel)
def hn_L_law_8 : List (List (Nat × Nat)) := [
  [(5, 93)], [], [], [], [], [], [], [], [], [], [], [],
  [], [], [], [], [], [], [(8, 205)], [], [], [], [], [],
  [], [], [], [], [], [], [], [], [(5, 98)], [], [], [],
  [], [], [], [], [], [], [], [], [], [(8, 209)], [], [],
  [], [], [], [], [], [], [], [], [], [], [], []]
set_option maxRecDepth 100000 in
theorem ok_L_law_8 : ∀ q ∈ op_L_law_8, cv_ok cv_T vwCl mt_all mt_L_law q := cv_zip_ok ok_mm (by decide) okj_all ok_o1 ok_o2 (hs := hn_L_law_8) (by decide +kernel) (by decide +kernel)
def hn_L_law_9 : List (List (Nat × Nat)) := [
  [], [], [], [], [], [], [], [], [], [], [], [],
  [], [], [(5, 106)], [], [], [], [], [], [], [], [], [],
  [], [], [], [], [], [], [], [], [], [], [], [],
  [], [], [], [], [], [], [(8, 214)], [], [], [], [], [],
  [], [], [], [(5, 116)], [], [], [], [], [], [], [], [(8, 220)]]
set_option maxRecDepth 100000 in
theorem ok_L_law_9 : ∀ q ∈ op_L_law_9, cv_ok cv_T vwCl mt_all mt_L_law q := cv_zip_ok ok_mm (by decide) okj_all ok_o1 ok_o2 (hs := hn_L_law_9) (by decide +kernel) (by decide +kernel)
def hn_L_law_10 : List (List (Nat × Nat)) := [
  [], [], [], [], [], [], [], [], [(5, 124)], [], [], [],
  [], [], [], [], [(8, 224)], [], [], [], [], [], [], [],
  [], [(5, 128)], [], [], [], [], [], [], [], [(8, 228)], [], [],
  [], [], [], [], [], [], [], [], [], [], [], [],
  [], [], [], [], [(5, 167)], [], [], [], [], [], [], []]
set_option maxRecDepth 100000 in
theorem ok_L_law_10 : ∀ q ∈ op_L_law_10, cv_ok cv_T vwCl mt_all mt_L_law q := cv_zip_ok ok_mm (by decide) okj_all ok_o1 ok_o2 (hs := hn_L_law_10) (by decide +kernel) (by decide +kernel)
def hn_L_law_11 : List (List (Nat × Nat)) := [
  [], [], [], [], [], [], [], [], [], [], [(9, 20)], [],
  [], [], [], [], [], [], [], [], [], [], [], [],
  [(5, 184)], [], [], [], [], [], [], [], [], [], [], [],
  [], [(9, 31)], [], [], [], [], [], [], [], [], [], [],
  [], [], [], [(5, 202)], [], [], [], [], [], [], [], []]
set_option maxRecDepth 100000 in
theorem ok_L_law_11 : ∀ q ∈ op_L_law_11, cv_ok cv_T vwCl mt_all mt_L_law q := cv_zip_ok ok_mm (by decide) okj_all ok_o1 ok_o2 (hs := hn_L_law_11) (by decide +kernel) (by decide +kernel)
def hn_L_law_12 : List (List (Nat × Nat)) := [
  [], [], [], [], [(9, 39)], [], [], [], [], [], [], [],
  [], [(5, 218)], [], [], [], [], [], [], [], [(9, 51)], [], [],
  [], [], [], [], [], [], [(5, 222)], [], [], [], [], [],
  [], [], [(9, 55)], [], [], [], [], [], [], [], [], [],
  [], [], [], [], [(5, 226)], [], [], [], [], [], [], []]
set_option maxRecDepth 100000 in
theorem ok_L_law_12 : ∀ q ∈ op_L_law_12, cv_ok cv_T vwCl mt_all mt_L_law q := cv_zip_ok ok_mm (by decide) okj_all ok_o1 ok_o2 (hs := hn_L_law_12) (by decide +kernel) (by decide +kernel)
def hn_L_law_13 : List (List (Nat × Nat)) := [
  [], [], [], [], [], [(9, 63)], [], [], [], [], [], [],
  [], [], [(5, 236)], [], [], [], [], [], [], [], [(9, 73)], [],
  [], [], [], [], [], [], [], [], [], [], [], [],
  [], [], [], [], [], [(6, 0)], [], [], [], [], [], [],
  [], [], [], [], [], [], [], [], [], [], [], [(9, 81)]]
set_option maxRecDepth 100000 in
theorem ok_L_law_13 : ∀ q ∈ op_L_law_13, cv_ok cv_T vwCl mt_all mt_L_law q := cv_zip_ok ok_mm (by decide) okj_all ok_o1 ok_o2 (hs := hn_L_law_13) (by decide +kernel) (by decide +kernel)
def hn_L_law_14 : List (List (Nat × Nat)) := [
  [], [], [], [], [], [], [], [], [], [], [], [],
  [], [(6, 12)], [], [], [], [], [], [], [], [], [], [],
  [], [], [(9, 88)], [], [], [], [], [], [], [], [], [],
  [], [], [], [], [], [], [], [], [], [], [], [],
  [], [], [], [], [], [], [], [(6, 37)], [], [], [], []]
set_option maxRecDepth 100000 in
theorem ok_L_law_14 : ∀ q ∈ op_L_law_14, cv_ok cv_T vwCl mt_all mt_L_law q := cv_zip_ok ok_mm (by decide) okj_all ok_o1 ok_o2 (hs := hn_L_law_14) (by decide +kernel) (by decide +kernel)
def hn_L_law_15 : List (List (Nat × Nat)) := [
  [], [], [], [], [], [], [], [], [], [], [], [],
  [], [], [], [], [], [], [], [], [], [], [], [(9, 103)],
  [], [], [], [(6, 44)], [], [], [(9, 111)], [], [], [], [(6, 48)], [],
  [], [(9, 115)], [], [], [], [], [], [], [], [], [(6, 52)], [],
  [], [], [], [], [], [], [(9, 119)], [], [], [], [], []]
set_option maxRecDepth 100000 in
theorem ok_L_law_15 : ∀ q ∈ op_L_law_15, cv_ok cv_T vwCl mt_all mt_L_law q := cv_zip_ok ok_mm (by decide) okj_all ok_o1 ok_o2 (hs := hn_L_law_15) (by decide +kernel) (by decide +kernel)
def hn_L_law_16 : List (List (Nat × Nat)) := [
  []]
set_option maxRecDepth 100000 in
theorem ok_L_law_16 : ∀ q ∈ op_L_law_16, cv_ok cv_T vwCl mt_all mt_L_law q := cv_zip_ok ok_mm (by decide) okj_all ok_o1 ok_o2 (hs := hn_L_law_16) (by decide +kernel) (by decide +kernel)
theorem ok_L_law : ∀ q ∈ op_L_law, cv_ok cv_T vwCl mt_all mt_L_law q := List.forall_mem_append.mpr ⟨ok_L_law_0, List.forall_mem_append.mpr ⟨ok_L_law_1, List.forall_mem_append.mpr ⟨ok_L_law_2, List.forall_mem_append.mpr ⟨ok_L_law_3, List.forall_mem_append.mpr ⟨ok_L_law_4, List.forall_mem_append.mpr ⟨ok_L_law_5, List.forall_mem_append.mpr ⟨ok_L_law_6, List.forall_mem_append.mpr ⟨ok_L_law_7, List.forall_mem_append.mpr ⟨ok_L_law_8, List.forall_mem_append.mpr ⟨ok_L_law_9, List.forall_mem_append.mpr ⟨ok_L_law_10, List.forall_mem_append.mpr ⟨ok_L_law_11, List.forall_mem_append.mpr ⟨ok_L_law_12, List.forall_mem_append.mpr ⟨ok_L_law_13, List.forall_mem_append.mpr ⟨ok_L_law_14, List.forall_mem_append.mpr ⟨ok_L_law_15, ok_L_law_16⟩⟩⟩⟩⟩⟩⟩⟩⟩⟩⟩⟩⟩⟩⟩⟩
