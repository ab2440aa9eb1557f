/-! ===== the rows of the methods ===== -/
def hn_L_law_0 : List (List (Nat × Nat)) := [
  [(1, 25), (1, 26), (1, 1)], [], [(1, 27)], [], [(6, 153), (6, 154), (1, 17)], [], [(6, 155)], [], [], [(2, 173)], [], [],
  [], [], [], [], [], [], [], [], [], [], [], [],
  [], [], [], [], [], [], [], [], [], [], [], [],
  [], [], [], [], [], [], [], [], [], [], [], [],
  [], [], [], [(3, 162)], [], [], [], [], [], [], [], []]
set_option maxRecDepth 100000 in
theorem ok_L_law_0 : ∀ q ∈ op_L_law_0, av_ok av_T vwCl mt_all mt_L_law q := av_zip_ok ok_mm (by decide) okj_all ok_o1 ok_o2 (hs := hn_L_law_0) (by decide +kernel) (by decide +kernel)
def hn_L_law_1 : List (List (Nat × Nat)) := [
  [], [], [], [], [], [], [], [], [], [], [], [],
  [], [], [], [], [], [], [(7, 149)], [], [], [], [], [],
  [], [], [(3, 170)], [], [], [], [], [], [], [(7, 153)], [], [],
  [], [], [], [], [], [(4, 121)], [], [], [], [], [], [],
  [(8, 60)], [], [], [], [], [], [], [], [], [], [], []]
set_option maxRecDepth 100000 in
theorem ok_L_law_1 : ∀ q ∈ op_L_law_1, av_ok av_T vwCl mt_all mt_L_law q := av_zip_ok ok_mm (by decide) okj_all ok_o1 ok_o2 (hs := hn_L_law_1) (by decide +kernel) (by decide +kernel)
def hn_L_law_2 : List (List (Nat × Nat)) := [
  [], [(4, 125)], [], [], [], [], [], [], [], [], [], [],
  [], [(8, 64)], [], [], [], [], [], [], [], [], [], [],
  [], [], [], [], [], [], [], [], [], [], [], [],
  [], [], [], [(8, 68)], [], [], [(7, 145)], [], [], [], [], [],
  [], [], [], [], [], [], [], [], [], [], [], [(4, 130)]]
set_option maxRecDepth 100000 in
theorem ok_L_law_2 : ∀ q ∈ op_L_law_2, av_ok av_T vwCl mt_all mt_L_law q := av_zip_ok ok_mm (by decide) okj_all ok_o1 ok_o2 (hs := hn_L_law_2) (by decide +kernel) (by decide +kernel)
def hn_L_law_3 : List (List (Nat × Nat)) := [
  [], [], [], [], [], [], [], [], [], [], [], [(8, 92)],
  [], [], [], [], [], [], [], [(4, 138)], [], [], [], [],
  [], [], [(8, 96)], [], [], [], [], [], [], [], [(4, 149)], [],
  [], [], [], [], [], [(8, 104)], [], [], [], [], [], [],
  [], [], [], [], [], [], [(4, 236)], [], [], [], [], []]
set_option maxRecDepth 100000 in
theorem ok_L_law_3 : ∀ q ∈ op_L_law_3, av_ok av_T vwCl mt_all mt_L_law q := av_zip_ok ok_mm (by decide) okj_all ok_o1 ok_o2 (hs := hn_L_law_3) (by decide +kernel) (by decide +kernel)
def hn_L_law_4 : List (List (Nat × Nat)) := [
  [], [], [], [], [], [], [(8, 151)], [], [], [], [], [],
  [], [], [(5, 8)], [], [], [], [], [], [], [(8, 156)], [], [],
  [], [], [], [], [], [(5, 17)], [], [], [], [], [], [],
  [(8, 164)], [], [], [], [], [], [], [], [], [], [], [],
  [], [(5, 22)], [], [], [], [], [], [], [], [], [], []]
set_option maxRecDepth 100000 in
theorem ok_L_law_4 : ∀ q ∈ op_L_law_4, av_ok av_T vwCl mt_all mt_L_law q := av_zip_ok ok_mm (by decide) okj_all ok_o1 ok_o2 (hs := hn_L_law_4) (by decide +kernel) (by decide +kernel)
def hn_L_law_5 : List (List (Nat × Nat)) := [
  [], [(8, 168)], [], [], [(5, 43)], [], [(8, 176)], [], [], [], [], [],
  [], [], [], [], [], [], [], [(5, 55)], [], [], [], [],
  [], [], [], [], [], [], [], [(8, 180)], [], [], [], [],
  [], [], [], [], [], [], [], [], [], [], [], [],
  [], [], [], [], [], [], [(5, 65)], [], [], [], [], []]
set_option maxRecDepth 100000 in
theorem ok_L_law_5 : ∀ q ∈ op_L_law_5, av_ok av_T vwCl mt_all mt_L_law q := av_zip_ok ok_mm (by decide) okj_all ok_o1 ok_o2 (hs := hn_L_law_5) (by decide +kernel) (by decide +kernel)
def hn_L_law_6 : List (List (Nat × Nat)) := [
  [], [], [], [], [], [], [], [], [], [], [], [],
  [], [], [], [], [(8, 189)], [], [], [], [], [], [], [],
  [], [], [], [], [], [(5, 77)], [], [], [], [], [], [],
  [], [], [], [], [], [(8, 197)], [], [], [], [], [], [],
  [], [], [], [], [], [], [], [], [], [], [], [(5, 85)]]
set_option maxRecDepth 100000 in
theorem ok_L_law_6 : ∀ q ∈ op_L_law_6, av_ok av_T vwCl mt_all mt_L_law q := av_zip_ok ok_mm (by decide) okj_all ok_o1 ok_o2 (hs := hn_L_law_6) (by decide +kernel) (by decide +kernel)
def hn_L_law_7 : List (List (Nat × Nat)) := [
  [], [], [], [], [], [], [], [], [], [], [], [],
  [], [], [], [], [(8, 205)], [], [], [], [], [], [], [],
  [], [], [], [], [], [], [], [], [], [], [(5, 93)], [],
  [], [], [], [], [], [], [], [], [], [], [], [],
  [], [], [], [(8, 209)], [], [], [], [], [], [], [], []]
set_option maxRecDepth 100000 in
theorem ok_L_law_7 : ∀ q ∈ op_L_law_7, av_ok av_T vwCl mt_all mt_L_law q := av_zip_ok ok_mm (by decide) okj_all ok_o1 ok_o2 (hs := hn_L_law_7) (by decide +kernel) (by decide +kernel)
def hn_L_law_8 : List (List (Nat × Nat)) := [
  [], [], [], [], [(5, 98)], [], [], [], [], [], [], [],
  [], [], [], [], [(8, 213)], [], [], [], [], [], [], [],
  [], [], [], [], [], [], [], [], [], [], [], [],
  [], [], [], [], [], [], [], [], [], [(5, 106)], [], [],
  [], [], [], [], [], [], [], [], [], [], [], []]
set_option maxRecDepth 100000 in
theorem ok_L_law_8 : ∀ q ∈ op_L_law_8, av_ok av_T vwCl mt_all mt_L_law q := av_zip_ok ok_mm (by decide) okj_all ok_o1 ok_o2 (hs := hn_L_law_8) (by decide +kernel) (by decide +kernel)
def hn_L_law_9 : List (List (Nat × Nat)) := [
  [], [], [], [], [], [], [], [], [], [], [], [],
  [(8, 218)], [], [], [], [], [], [], [], [(5, 116)], [], [], [],
  [], [], [], [(8, 224)], [], [], [], [], [], [], [], [(5, 124)],
  [], [], [], [], [], [], [(8, 228)], [], [], [], [], [],
  [], [], [(5, 128)], [], [], [], [], [], [], [(8, 232)], [], []]
set_option maxRecDepth 100000 in
theorem ok_L_law_9 : ∀ q ∈ op_L_law_9, av_ok av_T vwCl mt_all mt_L_law q := av_zip_ok ok_mm (by decide) okj_all ok_o1 ok_o2 (hs := hn_L_law_9) (by decide +kernel) (by decide +kernel)
def hn_L_law_10 : List (List (Nat × Nat)) := [
  [], [], [], [], [], [], [], [], [], [], [], [],
  [], [], [], [(5, 167)], [], [], [], [], [], [], [], [],
  [], [], [], [], [], [], [], [], [(9, 24)], [], [], [],
  [], [], [], [], [], [], [], [], [], [(5, 184)], [], [],
  [], [], [], [], [], [], [], [], [], [(9, 35)], [], []]
set_option maxRecDepth 100000 in
theorem ok_L_law_10 : ∀ q ∈ op_L_law_10, av_ok av_T vwCl mt_all mt_L_law q := av_zip_ok ok_mm (by decide) okj_all ok_o1 ok_o2 (hs := hn_L_law_10) (by decide +kernel) (by decide +kernel)
def hn_L_law_11 : List (List (Nat × Nat)) := [
  [], [], [], [], [], [], [], [], [], [], [(5, 202)], [],
  [], [], [], [], [], [], [], [], [], [], [(9, 43)], [],
  [], [], [], [], [], [], [(5, 218)], [], [], [], [], [],
  [], [(9, 55)], [], [], [], [], [], [], [], [(5, 222)], [], [],
  [], [], [], [], [(9, 59)], [], [], [], [], [], [], []]
set_option maxRecDepth 100000 in
theorem ok_L_law_11 : ∀ q ∈ op_L_law_11, av_ok av_T vwCl mt_all mt_L_law q := av_zip_ok ok_mm (by decide) okj_all ok_o1 ok_o2 (hs := hn_L_law_11) (by decide +kernel) (by decide +kernel)
def hn_L_law_12 : List (List (Nat × Nat)) := [
  [], [], [], [], [], [(5, 226)], [], [], [], [], [], [],
  [], [], [], [], [], [(9, 67)], [], [], [], [], [], [],
  [], [(5, 236)], [], [], [], [], [], [], [(9, 77)], [], [], [],
  [], [], [], [], [], [], [], [], [], [], [], [],
  [], [], [(6, 0)], [], [], [], [], [], [], [], [], []]
set_option maxRecDepth 100000 in
theorem ok_L_law_12 : ∀ q ∈ op_L_law_12, av_ok av_T vwCl mt_all mt_L_law q := av_zip_ok ok_mm (by decide) okj_all ok_o1 ok_o2 (hs := hn_L_law_12) (by decide +kernel) (by decide +kernel)
def hn_L_law_13 : List (List (Nat × Nat)) := [
  [], [], [], [], [], [], [], [(9, 85)], [], [], [], [],
  [], [], [], [], [], [], [], [], [(6, 12)], [], [], [],
  [], [], [], [], [], [], [], [], [(9, 92)], [], [], [],
  [], [], [], [], [], [], [], [], [], [], [], [],
  [], [], [], [], [], [], [], [], [], [], [], []]
set_option maxRecDepth 100000 in
theorem ok_L_law_13 : ∀ q ∈ op_L_law_13, av_ok av_T vwCl mt_all mt_L_law q := av_zip_ok ok_mm (by decide) okj_all ok_o1 ok_o2 (hs := hn_L_law_13) (by decide +kernel) (by decide +kernel)
def hn_L_law_14 : List (List (Nat × Nat)) := [
  [(6, 37)], [], [], [], [], [], [], [], [], [], [], [],
  [], [], [], [], [], [], [], [], [], [], [], [],
  [], [], [], [(9, 107)], [], [], [(6, 44)], [], [(9, 115)], [], [], [(6, 48)],
  [], [(9, 119)], [], [], [], [], [], [], [], [(6, 52)], [], [],
  [], [], [], [], [(9, 123)], [], [], [], [], []]
set_option maxRecDepth 100000 in
theorem ok_L_law_14 : ∀ q ∈ op_L_law_14, av_ok av_T vwCl mt_all mt_L_law q := av_zip_ok ok_mm (by decide) okj_all ok_o1 ok_o2 (hs := hn_L_law_14) (by decide +kernel) (by decide +kernel)
theorem ok_L_law : ∀ q ∈ op_L_law, av_ok av_T vwCl mt_all mt_L_law q := List.forall_mem_append.mpr ⟨ok_L_law_0, List.forall_mem_append.mpr ⟨ok_L_law_1, List.forall_mem_append.mpr ⟨ok_L_law_2, List.forall_mem_append.mpr ⟨ok_L_law_3, List.forall_mem_append.mpr ⟨ok_L_law_4, List.forall_mem_append.mpr ⟨ok_L_law_5, List.forall_mem_append.mpr ⟨ok_L_law_6, List.forall_mem_append.mpr ⟨ok_L_law_7, List.forall_mem_append.mpr ⟨ok_L_law_8, List.forall_mem_append.mpr ⟨ok_L_law_9, List.forall_mem_append.mpr ⟨ok_L_law_10, List.forall_mem_append.mpr ⟨ok_L_law_11, List.forall_mem_append.mpr ⟨ok_L_law_12, List.forall_mem_append.mpr ⟨ok_L_law_13, ok_L_law_14⟩⟩⟩⟩⟩⟩⟩⟩⟩⟩⟩⟩⟩⟩
