/-! ===== the rows of the methods ===== -/
def hn_X12_init_0 : List (List (Nat × Nat)) := [
  [], [(6, 158)], [], [], [(1, 142)], [(6, 177)], [], [], [(1, 142)], [], [], [],
  [], [], [], [], [], [], [], [], [], [], [], [],
  [], [], [], [], [], [], [], [], [], [], [], [],
  [], [], [], [], [], [], [], [], [], [], [], [],
  [], [], [], [], [], [], [], [], [], [], [], []]
set_option maxRecDepth 100000 in
theorem ok_X12_init_0 : ∀ q ∈ op_X12_init_0, av_ok av_T vwCl mt_all mt_X12_init q := av_zip_ok ok_mm (by decide) okj_all ok_o1 ok_o2 (hs := hn_X12_init_0) (by decide +kernel) (by decide +kernel)
def hn_X12_init_1 : List (List (Nat × Nat)) := [
  [], [], [], [], [], [], [], [], [], [], [], [],
  [], [], [], [], [], [], [], [], [], [], [], [],
  [], [], [], [], [], [], [], [], [], [], [], [],
  [], [], [], [], [], [], [], [], [], [], [], [],
  [], [], [], [], [], [], [], [], [], [], [], []]
set_option maxRecDepth 100000 in
theorem ok_X12_init_1 : ∀ q ∈ op_X12_init_1, av_ok av_T vwCl mt_all mt_X12_init q := av_zip_ok ok_mm (by decide) okj_all ok_o1 ok_o2 (hs := hn_X12_init_1) (by decide +kernel) (by decide +kernel)
def hn_X12_init_2 : List (List (Nat × Nat)) := [
  [], [], [], [], [], [], [], [], [], [], [], [],
  [], [], [], [], [], [], [], [], [], [], [], [],
  [], [], [], [], [], [], [], [], [], [], [], [],
  [], [], [], [], [], [], [], [], [], [], [], [],
  [], [], [], [], [], [], [], [], [], [], [], []]
set_option maxRecDepth 100000 in
theorem ok_X12_init_2 : ∀ q ∈ op_X12_init_2, av_ok av_T vwCl mt_all mt_X12_init q := av_zip_ok ok_mm (by decide) okj_all ok_o1 ok_o2 (hs := hn_X12_init_2) (by decide +kernel) (by decide +kernel)
def hn_X12_init_3 : List (List (Nat × Nat)) := [
  [], [], [], [], [], [], [], [], [], [], [], [],
  [], [], [], [], [], [], [], [], [], [], [], [],
  [], [], [], [], [], [], [], [], [], [], [], [],
  [], [], [], [], [], [], [], [], [], [], [], [],
  [], [], [], [], [], [], [], [], [], [], [], []]
set_option maxRecDepth 100000 in
theorem ok_X12_init_3 : ∀ q ∈ op_X12_init_3, av_ok av_T vwCl mt_all mt_X12_init q := av_zip_ok ok_mm (by decide) okj_all ok_o1 ok_o2 (hs := hn_X12_init_3) (by decide +kernel) (by decide +kernel)
def hn_X12_init_4 : List (List (Nat × Nat)) := [
  [], [], [], [], [], [], [], [], [], [], [], [],
  [], [], [], [], [], [], [], [], [], [], [], [],
  [], [], [], [], [], [], [], [], [], [], [], [],
  [], [], [], [], [], [], [], [], [], [], [], [],
  [], [], [], [], [], [], [], [], [], [], [], []]
set_option maxRecDepth 100000 in
theorem ok_X12_init_4 : ∀ q ∈ op_X12_init_4, av_ok av_T vwCl mt_all mt_X12_init q := av_zip_ok ok_mm (by decide) okj_all ok_o1 ok_o2 (hs := hn_X12_init_4) (by decide +kernel) (by decide +kernel)
def hn_X12_init_5 : List (List (Nat × Nat)) := [
  [], [], [], [], [], [], [], [], [], [], [], [],
  [], [], [], [], [], [], [], [], [], [], [], [],
  [], [], [], [], [], [], [], [], [], [], [], [],
  [], [], [], [], [], [], [], [], [], [], [], [],
  [], [], [], [], [], [], [], [], [], [], [], []]
set_option maxRecDepth 100000 in
theorem ok_X12_init_5 : ∀ q ∈ op_X12_init_5, av_ok av_T vwCl mt_all mt_X12_init q := av_zip_ok ok_mm (by decide) okj_all ok_o1 ok_o2 (hs := hn_X12_init_5) (by decide +kernel) (by decide +kernel)
def hn_X12_init_6 : List (List (Nat × Nat)) := [
  [], [], [], [], [], [], [], [], [], [], [], [],
  [], [], [], [], [], [], [], [], [], [], [], [],
  [], [], [], [], [], [], [], [], [], [], [], [],
  [], [], [], [], [], [], [], [], [], [], [], [],
  [], [], [], [], [], [], [], [], [], [], [], []]
set_option maxRecDepth 100000 in
theorem ok_X12_init_6 : ∀ q ∈ op_X12_init_6, av_ok av_T vwCl mt_all mt_X12_init q := av_zip_ok ok_mm (by decide) okj_all ok_o1 ok_o2 (hs := hn_X12_init_6) (by decide +kernel) (by decide +kernel)
def hn_X12_init_7 : List (List (Nat × Nat)) := [
  [], [], [], [], [], [], [], [], [], [], [], [],
  [], [], [], [], [], [], [], [], [], [], [], [],
  [], [], [], [], [], [], [], [], [], [], [], [],
  [], [], [], [], [], [], [], [], [], [], [], [],
  [], [], [], [], [], [], [], [], [], [], [], []]
set_option maxRecDepth 100000 in
theorem ok_X12_init_7 : ∀ q ∈ op_X12_init_7, av_ok av_T vwCl mt_all mt_X12_init q := av_zip_ok ok_mm (by decide) okj_all ok_o1 ok_o2 (hs := hn_X12_init_7) (by decide +kernel) (by decide +kernel)
def hn_X12_init_8 : List (List (Nat × Nat)) := [
  [], [], [], [], [], [], [], [], [], [], [], [],
  [], [], [], [], [], [], [], [], [], [], [], [],
  [], [], [], [], [], [], [], [], [], [], [], [],
  [], [], [], [], [], [], [], [], [], [], [], [],
  [], [], [], [], [], [], [], [], [], [], [], []]
set_option maxRecDepth 100000 in
theorem ok_X12_init_8 : ∀ q ∈ op_X12_init_8, av_ok av_T vwCl mt_all mt_X12_init q := av_zip_ok ok_mm (by decide) okj_all ok_o1 ok_o2 (hs := hn_X12_init_8) (by decide +kernel) (by decide +kernel)
def hn_X12_init_9 : List (List (Nat × Nat)) := [
  [], [], [], [], [], [], [], [], [], [], [], [],
  [], [], [], [], [], [], [], [], [], [], [], [],
  [], [], [], [], [], [], [], [], [], [], [], [],
  [], [], [], [], [], [], [], [], [], [], [], [],
  [], [], [], [], [], [], [], [], [], [], [], []]
set_option maxRecDepth 100000 in
theorem ok_X12_init_9 : ∀ q ∈ op_X12_init_9, av_ok av_T vwCl mt_all mt_X12_init q := av_zip_ok ok_mm (by decide) okj_all ok_o1 ok_o2 (hs := hn_X12_init_9) (by decide +kernel) (by decide +kernel)
def hn_X12_init_10 : List (List (Nat × Nat)) := [
  [], [], [], [], [], [], [], [], [], [], [], [],
  [], [], [], [], [], [], [], [], [], [], [], [],
  [], [], [], [], [], [], [], [], [], [], [], [],
  [], [], [], [], [], [], [], [], [], [], [], [],
  [], [], [], [], [], [], [], [], [], [], [], []]
set_option maxRecDepth 100000 in
theorem ok_X12_init_10 : ∀ q ∈ op_X12_init_10, av_ok av_T vwCl mt_all mt_X12_init q := av_zip_ok ok_mm (by decide) okj_all ok_o1 ok_o2 (hs := hn_X12_init_10) (by decide +kernel) (by decide +kernel)
def hn_X12_init_11 : List (List (Nat × Nat)) := [
  [], [], [], [], [], [], [], [], [], [], [], [],
  [], [], [], [], [], [], [], [], [], [], [], [],
  [], [], [], [], [], [], [], [], [], [], [], [],
  [], [], [], [], [], [], [], [], [], [], [], [],
  [], [], [], [], [], [], [], [], [], [(6, 180)], [], []]
set_option maxRecDepth 100000 in
theorem ok_X12_init_11 : ∀ q ∈ op_X12_init_11, av_ok av_T vwCl mt_all mt_X12_init q := av_zip_ok ok_mm (by decide) okj_all ok_o1 ok_o2 (hs := hn_X12_init_11) (by decide +kernel) (by decide +kernel)
def hn_X12_init_12 : List (List (Nat × Nat)) := [
  [(6, 182)], [], [], [(1, 142)], [(6, 198)], [], [], [(1, 142)], [(6, 199)], [], [], [(1, 142)],
  [(6, 200)], [], [], [(3, 72)], [(6, 201)], [], [], [(1, 142)], [(6, 202)], [], [], [(1, 142)],
  [(6, 203)], [], [], [(1, 142)], [(6, 204)], [], [], [(1, 142)], [(6, 205)], [], [], [(1, 142)],
  [(6, 206)], [], [], [(1, 142)], [(6, 207)], [], [], [(1, 142)], [(6, 208)], [], [], [(1, 142)],
  [(6, 209)], [], [], [(1, 142)], [(6, 210)], [], [], [(1, 142)], [(6, 211)], [], [], [(1, 142)]]
set_option maxRecDepth 100000 in
theorem ok_X12_init_12 : ∀ q ∈ op_X12_init_12, av_ok av_T vwCl mt_all mt_X12_init q := av_zip_ok ok_mm (by decide) okj_all ok_o1 ok_o2 (hs := hn_X12_init_12) (by decide +kernel) (by decide +kernel)
def hn_X12_init_13 : List (List (Nat × Nat)) := [
  [(6, 212)], [], [], [(1, 142)], [(6, 213)], [], [], [(1, 142)], [(6, 221)], [], [], [(1, 142)],
  [(6, 222)], [], [], [(2, 173)], [(6, 223)], [], [], [(2, 173)], [(6, 224)], [], [], [(2, 173)],
  [(6, 226)], [], [], [(1, 142)], [(6, 228)], [], [], [(6, 230)], [], [], [(1, 142)], [(6, 231)],
  [], [], [(1, 142)], [(6, 232)], [], [], [(1, 142)], [(6, 233)], [], [], [(1, 142)], [(6, 234)],
  [], [], [(1, 142)], [(6, 235)], [], [], [(3, 72)], [(6, 236)], [], [], [(1, 142)], [(6, 237)]]
set_option maxRecDepth 100000 in
theorem ok_X12_init_13 : ∀ q ∈ op_X12_init_13, av_ok av_T vwCl mt_all mt_X12_init q := av_zip_ok ok_mm (by decide) okj_all ok_o1 ok_o2 (hs := hn_X12_init_13) (by decide +kernel) (by decide +kernel)
def hn_X12_init_14 : List (List (Nat × Nat)) := [
  [], [], [(1, 142)], [], [], [], [], [], [], [], [], [],
  [], [], [], [], [], [], [], [], [], [], [], [],
  [], [], [], [], [], [], [], [], [], [], [], [],
  [], [], [], [(6, 238)], [], [], [(1, 142)], [], [], [], [], [],
  [], [], [], [], [], [], [], [], [], [], [], []]
set_option maxRecDepth 100000 in
theorem ok_X12_init_14 : ∀ q ∈ op_X12_init_14, av_ok av_T vwCl mt_all mt_X12_init q := av_zip_ok ok_mm (by decide) okj_all ok_o1 ok_o2 (hs := hn_X12_init_14) (by decide +kernel) (by decide +kernel)
def hn_X12_init_15 : List (List (Nat × Nat)) := [
  [], [], [], [], [], [], [], [], [], [], [], [],
  [], [], [], [], [], [], [], [(6, 239)], [], [], [(1, 142)], [(7, 0)],
  [], [], [(1, 142)], [(7, 1)], [], [], [(1, 142)], [(7, 2)], [], [], [(1, 142)], [(7, 5)],
  [], [(6, 159)], [], [(6, 163)], []]
set_option maxRecDepth 100000 in
theorem ok_X12_init_15 : ∀ q ∈ op_X12_init_15, av_ok av_T vwCl mt_all mt_X12_init q := av_zip_ok ok_mm (by decide) okj_all ok_o1 ok_o2 (hs := hn_X12_init_15) (by decide +kernel) (by decide +kernel)
theorem ok_X12_init : ∀ q ∈ op_X12_init, av_ok av_T vwCl mt_all mt_X12_init q := List.forall_mem_append.mpr ⟨ok_X12_init_0, List.forall_mem_append.mpr ⟨ok_X12_init_1, List.forall_mem_append.mpr ⟨ok_X12_init_2, List.forall_mem_append.mpr ⟨ok_X12_init_3, List.forall_mem_append.mpr ⟨ok_X12_init_4, List.forall_mem_append.mpr ⟨ok_X12_init_5, List.forall_mem_append.mpr ⟨ok_X12_init_6, List.forall_mem_append.mpr ⟨ok_X12_init_7, List.forall_mem_append.mpr ⟨ok_X12_init_8, List.forall_mem_append.mpr ⟨ok_X12_init_9, List.forall_mem_append.mpr ⟨ok_X12_init_10, List.forall_mem_append.mpr ⟨ok_X12_init_11, List.forall_mem_append.mpr ⟨ok_X12_init_12, List.forall_mem_append.mpr ⟨ok_X12_init_13, List.forall_mem_append.mpr ⟨ok_X12_init_14, ok_X12_init_15⟩⟩⟩⟩⟩⟩⟩⟩⟩⟩⟩⟩⟩⟩⟩
