/-! ===== the rows of the methods ===== -/
def hn_X12_works : List (List (Nat × Nat)) := [
  [], [], [(6, 179)], [], [], [], [], [(6, 190)], [], [], [], [],
  [(7, 197)], [], [], [], [], [(6, 206)], [], [], [], [], [], [],
  []]
set_option maxRecDepth 100000 in
theorem ok_X12_works : ∀ q ∈ op_X12_works, cv_ok cv_T vwCl mt_all mt_X12_works q := cv_zip_ok ok_mm (by decide) okj_all ok_o1 ok_o2 (hs := hn_X12_works) (by decide +kernel) (by decide +kernel)
def hn_X12_firm : List (List (Nat × Nat)) := [
  [], [], [(6, 179)], [], [], [], [(7, 197)], [], [], [], [(8, 96)], [],
  [], []]
set_option maxRecDepth 100000 in
theorem ok_X12_firm : ∀ q ∈ op_X12_firm, cv_ok cv_T vwCl mt_all mt_X12_firm q := cv_zip_ok ok_mm (by decide) okj_all ok_o1 ok_o2 (hs := hn_X12_firm) (by decide +kernel) (by decide +kernel)
def hn_X12_weeks : List (List (Nat × Nat)) := [
  [], [], [(6, 179)], [], [], [], [(7, 197)], [], [], [(6, 220)], [], [],
  [], [], [], [], [], [], [], [], [(6, 189)], [], [], [],
  [(8, 76)], [], [], [], [(8, 104)], [], [(6, 221)], [], [], [], [], [(6, 222)],
  [], [(6, 174)], [], [], [], [], [(6, 220)], [], [], [(6, 220)], [], [(6, 220)],
  []]
set_option maxRecDepth 100000 in
theorem ok_X12_weeks : ∀ q ∈ op_X12_weeks, cv_ok cv_T vwCl mt_all mt_X12_weeks q := cv_zip_ok ok_mm (by decide) okj_all ok_o1 ok_o2 (hs := hn_X12_weeks) (by decide +kernel) (by decide +kernel)
def hn_X12_sags : List (List (Nat × Nat)) := [
  [], [], [(6, 179)], [], [], [(8, 68)], [], [], [], [], [(7, 197)], [],
  [(8, 151)], [], [], [], [(8, 76)], [], [], [], [], [(8, 116)], [], [],
  [], [], [], [(6, 222)], [], [], [], [], [], [], [], [],
  [], [], [(8, 120)], []]
set_option maxRecDepth 100000 in
theorem ok_X12_sags : ∀ q ∈ op_X12_sags, cv_ok cv_T vwCl mt_all mt_X12_sags q := cv_zip_ok ok_mm (by decide) okj_all ok_o1 ok_o2 (hs := hn_X12_sags) (by decide +kernel) (by decide +kernel)
def hn_X12_isLatched : List (List (Nat × Nat)) := [
  [], [], [(8, 116)], [], [], [], [(6, 203)], [], [], [], [], [],
  [], [], [], [], [], [(6, 203)], [], [], [], [], [], [],
  [], [], [], [], []]
set_option maxRecDepth 100000 in
theorem ok_X12_isLatched : ∀ q ∈ op_X12_isLatched, cv_ok cv_T vwCl mt_all mt_X12_isLatched q := cv_zip_ok ok_mm (by decide) okj_all ok_o1 ok_o2 (hs := hn_X12_isLatched) (by decide +kernel) (by decide +kernel)
def hn_X12_latched : List (List (Nat × Nat)) := [
  [], [], [(6, 179)], [], [], [(8, 68)], [], [], [], [], [], [(8, 76)],
  [], [], [(8, 156)], [], [], [], [], []]
set_option maxRecDepth 100000 in
theorem ok_X12_latched : ∀ q ∈ op_X12_latched, cv_ok cv_T vwCl mt_all mt_X12_latched q := cv_zip_ok ok_mm (by decide) okj_all ok_o1 ok_o2 (hs := hn_X12_latched) (by decide +kernel) (by decide +kernel)
def hn_X12_gives : List (List (Nat × Nat)) := [
  [], [], [(6, 179)], [], [], [(8, 68)], [], [], [], [], [], [(8, 76)],
  [], [], [], [], [], [], [], [], [], [], [(8, 120)], [],
  [], [], [(8, 120)], [], [], [], [], [], [], [], [], []]
set_option maxRecDepth 100000 in
theorem ok_X12_gives : ∀ q ∈ op_X12_gives, cv_ok cv_T vwCl mt_all mt_X12_gives q := cv_zip_ok ok_mm (by decide) okj_all ok_o1 ok_o2 (hs := hn_X12_gives) (by decide +kernel) (by decide +kernel)
def hn_X12_does_0 : List (List (Nat × Nat)) := [
  [], [(6, 206)], [], [], [], [], [], [], [], [], [(6, 206)], [],
  [], [], [], [], [], [], [], [(6, 222)], [], [], [], [],
  [], [(6, 222)], [], [], [], [], [], [(6, 222)], [], [], [], [],
  [], [], [], [], [(6, 222)], [], [], [], [], [], [(6, 222)], [],
  [], [], [], [], [], [], [], [(6, 222)], [], [], [], []]
set_option maxRecDepth 100000 in
theorem ok_X12_does_0 : ∀ q ∈ op_X12_does_0, cv_ok cv_T vwCl mt_all mt_X12_does q := cv_zip_ok ok_mm (by decide) okj_all ok_o1 ok_o2 (hs := hn_X12_does_0) (by decide +kernel) (by decide +kernel)
def hn_X12_does_1 : List (List (Nat × Nat)) := [
  [(6, 222)], [], [], [], [], [], [], [], [], [(6, 222)], [], [],
  [], [], [(6, 222)], [], [], [], [], [], [], [], [(6, 222)], [],
  [], [], [], [], [], [], [], []]
set_option maxRecDepth 100000 in
theorem ok_X12_does_1 : ∀ q ∈ op_X12_does_1, cv_ok cv_T vwCl mt_all mt_X12_does q := cv_zip_ok ok_mm (by decide) okj_all ok_o1 ok_o2 (hs := hn_X12_does_1) (by decide +kernel) (by decide +kernel)
theorem ok_X12_does : ∀ q ∈ op_X12_does, cv_ok cv_T vwCl mt_all mt_X12_does q := List.forall_mem_append.mpr ⟨ok_X12_does_0, ok_X12_does_1⟩
def hn_X12_work_0 : List (List (Nat × Nat)) := [
  [], [], [(6, 179)], [], [], [(8, 68)], [], [], [], [], [], [(6, 190)],
  [], [], [(6, 221)], [], [], [], [], [], [], [], [(8, 22)], [],
  [], [], [], [(6, 227)], [], [], [], [], [], [], [], [],
  [(6, 228)], [], [], [(6, 228)], [], [], [], [], [], [], [], [],
  [], [(6, 227)], [], [], [(6, 227)], [], [(6, 228)], [], [], [(6, 227)], [], []]
set_option maxRecDepth 100000 in
theorem ok_X12_work_0 : ∀ q ∈ op_X12_work_0, cv_ok cv_T vwCl mt_all mt_X12_work q := cv_zip_ok ok_mm (by decide) okj_all ok_o1 ok_o2 (hs := hn_X12_work_0) (by decide +kernel) (by decide +kernel)
def hn_X12_work_1 : List (List (Nat × Nat)) := [
  [], [], [(6, 228)], [], [], [(6, 227)], [], [], [], [], [(6, 221)], [],
  [], [], [(6, 174)], [], [], [(6, 227)], [], [], [(6, 227)], [], [], [(8, 76)],
  [], [], [(8, 168)], [], [(6, 221)], [], [], [], [], [(6, 222)], [], [(6, 174)],
  [], []]
set_option maxRecDepth 100000 in
theorem ok_X12_work_1 : ∀ q ∈ op_X12_work_1, cv_ok cv_T vwCl mt_all mt_X12_work q := cv_zip_ok ok_mm (by decide) okj_all ok_o1 ok_o2 (hs := hn_X12_work_1) (by decide +kernel) (by decide +kernel)
theorem ok_X12_work : ∀ q ∈ op_X12_work, cv_ok cv_T vwCl mt_all mt_X12_work q := List.forall_mem_append.mpr ⟨ok_X12_work_0, ok_X12_work_1⟩
def hn_X12_undo : List (List (Nat × Nat)) := [
  [], [], [(6, 179)], [], [(6, 227)], [], [], [], [], [], [(6, 227)], [],
  [], [(6, 227)], [], [(6, 221)], [], [], [(6, 228)], [], [], [(6, 227)], [], [],
  [], [], [(6, 228)], [], [], [(6, 227)], [], [], [], [(6, 174)], [], [(6, 227)],
  []]
set_option maxRecDepth 100000 in
theorem ok_X12_undo : ∀ q ∈ op_X12_undo, cv_ok cv_T vwCl mt_all mt_X12_undo q := cv_zip_ok ok_mm (by decide) okj_all ok_o1 ok_o2 (hs := hn_X12_undo) (by decide +kernel) (by decide +kernel)
def hn_X12_isBound : List (List (Nat × Nat)) := [
  [], [(8, 183)], [(8, 184)], [(7, 197)], []]
set_option maxRecDepth 100000 in
theorem ok_X12_isBound : ∀ q ∈ op_X12_isBound, cv_ok cv_T vwCl mt_all mt_X12_isBound q := cv_zip_ok ok_mm (by decide) okj_all ok_o1 ok_o2 (hs := hn_X12_isBound) (by decide +kernel) (by decide +kernel)
def hn_X12_lasts : List (List (Nat × Nat)) := [
  [], [], [(6, 179)], [], [], [(8, 68)], [], [], [(8, 180)], [], [], [],
  [], [], [(8, 76)], [], [], [], [], [], [], [], [], [],
  [], [], [], [(6, 220)], [], [], [(8, 108)], [], [], [], [(8, 116)], [],
  [], [], [], [], [], [], [], [], [], [], [], []]
set_option maxRecDepth 100000 in
theorem ok_X12_lasts : ∀ q ∈ op_X12_lasts, cv_ok cv_T vwCl mt_all mt_X12_lasts q := cv_zip_ok ok_mm (by decide) okj_all ok_o1 ok_o2 (hs := hn_X12_lasts) (by decide +kernel) (by decide +kernel)
def hn_X12_costOf : List (List (Nat × Nat)) := [
  [], [], [], [], [], [], [(6, 190)], [], [], [], [], [(8, 22)],
  [], [], [(6, 206)], [], [], [], [], [], [], [], [], [],
  [], [], []]
set_option maxRecDepth 100000 in
theorem ok_X12_costOf : ∀ q ∈ op_X12_costOf, cv_ok cv_T vwCl mt_all mt_X12_costOf q := cv_zip_ok ok_mm (by decide) okj_all ok_o1 ok_o2 (hs := hn_X12_costOf) (by decide +kernel) (by decide +kernel)
def hn_X12_least_0 : List (List (Nat × Nat)) := [
  [], [], [(6, 179)], [], [], [(8, 68)], [], [], [], [], [(7, 197)], [],
  [], [(8, 180)], [], [], [], [], [(7, 197)], [], [], [], [], [],
  [], [], [], [], [], [(6, 190)], [], [], [], [], [(6, 221)], [],
  [], [], [], [], [], [], [], [], [], [], [], [(8, 189)],
  [], [], [(8, 189)], [], [], [], [], [(8, 76)], [], [], [], []]
set_option maxRecDepth 100000 in
theorem ok_X12_least_0 : ∀ q ∈ op_X12_least_0, cv_ok cv_T vwCl mt_all mt_X12_least q := cv_zip_ok ok_mm (by decide) okj_all ok_o1 ok_o2 (hs := hn_X12_least_0) (by decide +kernel) (by decide +kernel)
def hn_X12_least_1 : List (List (Nat × Nat)) := [
  [(6, 190)], [], [], [], [(8, 22)], [], [], [], [(8, 168)], [], [], [],
  [], [], [(8, 104)], [], [], [(8, 116)], [], [], [], [], [], [],
  [], [], [], [], [], [], [], [], [(8, 189)], [], [], []]
set_option maxRecDepth 100000 in
theorem ok_X12_least_1 : ∀ q ∈ op_X12_least_1, cv_ok cv_T vwCl mt_all mt_X12_least q := cv_zip_ok ok_mm (by decide) okj_all ok_o1 ok_o2 (hs := hn_X12_least_1) (by decide +kernel) (by decide +kernel)
theorem ok_X12_least : ∀ q ∈ op_X12_least, cv_ok cv_T vwCl mt_all mt_X12_least q := List.forall_mem_append.mpr ⟨ok_X12_least_0, ok_X12_least_1⟩
def hn_X12_dropBy : List (List (Nat × Nat)) := [
  [], [], [(8, 76)], [], [(6, 222)], [], [], [], [], [], [], [(8, 104)],
  [], [], [(8, 116)], []]
set_option maxRecDepth 100000 in
theorem ok_X12_dropBy : ∀ q ∈ op_X12_dropBy, cv_ok cv_T vwCl mt_all mt_X12_dropBy q := cv_zip_ok ok_mm (by decide) okj_all ok_o1 ok_o2 (hs := hn_X12_dropBy) (by decide +kernel) (by decide +kernel)
def hn_X12_way : List (List (Nat × Nat)) := [
  [], [], [(6, 179)], [], [], [(8, 68)], [], [], [], [], [(7, 197)], [],
  [(8, 151)], [], [], [], [], [], [(8, 197)], [], [], [], [], [],
  [], [(8, 197)], [], []]
set_option maxRecDepth 100000 in
theorem ok_X12_way : ∀ q ∈ op_X12_way, cv_ok cv_T vwCl mt_all mt_X12_way q := cv_zip_ok ok_mm (by decide) okj_all ok_o1 ok_o2 (hs := hn_X12_way) (by decide +kernel) (by decide +kernel)
def hn_X12_enough : List (List (Nat × Nat)) := [
  [], [], [(6, 179)], [], [], [(8, 68)], [], [], [], [], [(7, 197)], [],
  [], [(8, 180)], [], [], [], [], [], [], [], [], [], [],
  [(8, 76)], [], [(6, 222)], [], [], [], [], [], [], [(8, 104)], [], [(6, 222)],
  [], [], [], [], [], [], [], [], [], []]
set_option maxRecDepth 100000 in
theorem ok_X12_enough : ∀ q ∈ op_X12_enough, cv_ok cv_T vwCl mt_all mt_X12_enough q := cv_zip_ok ok_mm (by decide) okj_all ok_o1 ok_o2 (hs := hn_X12_enough) (by decide +kernel) (by decide +kernel)
def hn_X12_bears : List (List (Nat × Nat)) := [
  [], [], [(6, 179)], [], [], [(8, 68)], [], [], [], [], [(7, 197)], [],
  [], [(8, 180)], [], [], [], [], [], [], [], [], [], [(8, 76)],
  [], [(6, 222)], [], [], [], [], [], [], [(8, 104)], [], [], [(8, 116)],
  [], [], [], [], [], [], [], []]
set_option maxRecDepth 100000 in
theorem ok_X12_bears : ∀ q ∈ op_X12_bears, cv_ok cv_T vwCl mt_all mt_X12_bears q := cv_zip_ok ok_mm (by decide) okj_all ok_o1 ok_o2 (hs := hn_X12_bears) (by decide +kernel) (by decide +kernel)
def hn_X12_knock : List (List (Nat × Nat)) := [
  [], [], [(6, 179)], [], [], [(8, 68)], [], [], [], [], [(7, 197)], [],
  [(8, 213)], [], [], [], [(8, 76)], [], [], [], [(6, 220)], [], [(8, 112)], [],
  [], [(8, 124)], [], [], [(6, 225)], [], [(8, 213)], [], [], []]
set_option maxRecDepth 100000 in
theorem ok_X12_knock : ∀ q ∈ op_X12_knock, cv_ok cv_T vwCl mt_all mt_X12_knock q := cv_zip_ok ok_mm (by decide) okj_all ok_o1 ok_o2 (hs := hn_X12_knock) (by decide +kernel) (by decide +kernel)
def hn_X12_measure_0 : List (List (Nat × Nat)) := [
  [], [], [(6, 179)], [], [(6, 229)], [], [], [], [], [(8, 68)], [], [],
  [], [], [(7, 197)], [], [], [], [], [(7, 197)], [], [], [(8, 218)], [(8, 219)],
  [(7, 197)], [], [], [], [(8, 219)], [(7, 197)], [], [], [], [], [(6, 231)], [],
  [(6, 229)], [], [], [], [(6, 232)], [], [(6, 229)], [], [], [], [(6, 233)], [],
  [(6, 229)], [], [], [], [(6, 234)], [], [(6, 229)], [], [], [], [(6, 235)], []]
set_option maxRecDepth 100000 in
theorem ok_X12_measure_0 : ∀ q ∈ op_X12_measure_0, cv_ok cv_T vwCl mt_all mt_X12_measure q := cv_zip_ok ok_mm (by decide) okj_all ok_o1 ok_o2 (hs := hn_X12_measure_0) (by decide +kernel) (by decide +kernel)
def hn_X12_measure_1 : List (List (Nat × Nat)) := [
  [(6, 229)], [], [], [], [], [(6, 229)], [], [], [(6, 229)], [], [(6, 229)], [],
  [], []]
set_option maxRecDepth 100000 in
theorem ok_X12_measure_1 : ∀ q ∈ op_X12_measure_1, cv_ok cv_T vwCl mt_all mt_X12_measure q := cv_zip_ok ok_mm (by decide) okj_all ok_o1 ok_o2 (hs := hn_X12_measure_1) (by decide +kernel) (by decide +kernel)
theorem ok_X12_measure : ∀ q ∈ op_X12_measure, cv_ok cv_T vwCl mt_all mt_X12_measure q := List.forall_mem_append.mpr ⟨ok_X12_measure_0, ok_X12_measure_1⟩
def hn_X12_strike : List (List (Nat × Nat)) := [
  [], [], [(6, 179)], [], [(6, 229)], [], [], [], [], [], [], [(6, 229)],
  [], [], [], [], [(6, 231)], [], [(6, 229)], [], [], [], [(6, 232)], [],
  [(6, 229)], [], [], [], [], [(6, 229)], [], [], [(6, 229)], [], [(6, 229)], [],
  [], []]
set_option maxRecDepth 100000 in
theorem ok_X12_strike : ∀ q ∈ op_X12_strike, cv_ok cv_T vwCl mt_all mt_X12_strike q := cv_zip_ok ok_mm (by decide) okj_all ok_o1 ok_o2 (hs := hn_X12_strike) (by decide +kernel) (by decide +kernel)
def hn_X12_known : List (List (Nat × Nat)) := [
  [], [], [(6, 179)], [], [], [], [(6, 229)], [(7, 197)], [], [], [], [],
  [], [(6, 230)], [], []]
set_option maxRecDepth 100000 in
theorem ok_X12_known : ∀ q ∈ op_X12_known, cv_ok cv_T vwCl mt_all mt_X12_known q := cv_zip_ok ok_mm (by decide) okj_all ok_o1 ok_o2 (hs := hn_X12_known) (by decide +kernel) (by decide +kernel)
def hn_X12_knownMany : List (List (Nat × Nat)) := [
  [], [(6, 230)], [], [], [(6, 229)], [], [], [(6, 230)], []]
set_option maxRecDepth 100000 in
theorem ok_X12_knownMany : ∀ q ∈ op_X12_knownMany, cv_ok cv_T vwCl mt_all mt_X12_knownMany q := cv_zip_ok ok_mm (by decide) okj_all ok_o1 ok_o2 (hs := hn_X12_knownMany) (by decide +kernel) (by decide +kernel)
def hn_X12_layCounts : List (List (Nat × Nat)) := [
  [], [], [], [], [(9, 0)], [], [], [(6, 236)], [], [], [], [],
  [], [], [(9, 0)], [], [], [], [], [], [], [(6, 231)], [], [],
  [], [], [(6, 236)], [], [], [], [], [(6, 236)], [], [(6, 232)], [], [],
  [], [], [], [], []]
set_option maxRecDepth 100000 in
theorem ok_X12_layCounts : ∀ q ∈ op_X12_layCounts, cv_ok cv_T vwCl mt_all mt_X12_layCounts q := cv_zip_ok ok_mm (by decide) okj_all ok_o1 ok_o2 (hs := hn_X12_layCounts) (by decide +kernel) (by decide +kernel)
def hn_X12_beginsBy : List (List (Nat × Nat)) := [
  [], [], [(6, 170)], [], [(6, 222)], [], [], [], [(6, 191)], [], [], [],
  [], [], [], [], []]
set_option maxRecDepth 100000 in
theorem ok_X12_beginsBy : ∀ q ∈ op_X12_beginsBy, cv_ok cv_T vwCl mt_all mt_X12_beginsBy q := cv_zip_ok ok_mm (by decide) okj_all ok_o1 ok_o2 (hs := hn_X12_beginsBy) (by decide +kernel) (by decide +kernel)
def hn_X12_valueNow : List (List (Nat × Nat)) := [
  [], [], [], [], [(8, 116)], [], [], [(6, 222)], [], [], [], [],
  []]
set_option maxRecDepth 100000 in
theorem ok_X12_valueNow : ∀ q ∈ op_X12_valueNow, cv_ok cv_T vwCl mt_all mt_X12_valueNow q := cv_zip_ok ok_mm (by decide) okj_all ok_o1 ok_o2 (hs := hn_X12_valueNow) (by decide +kernel) (by decide +kernel)
def hn_X12_isSo : List (List (Nat × Nat)) := [
  [], [], [], [], [(9, 0)], [], [], [(6, 236)], [], [], [], [],
  [(6, 231)], [], [], [], [], [], [(6, 232)], [], [], [], [], [],
  [], [], [], [(6, 233)], [], [], [(9, 16)], [], [(6, 234)], [], [], [],
  [(6, 235)], [], [], [(7, 197)], [], [], [], [], [], [], []]
set_option maxRecDepth 100000 in
theorem ok_X12_isSo : ∀ q ∈ op_X12_isSo, cv_ok cv_T vwCl mt_all mt_X12_isSo q := cv_zip_ok ok_mm (by decide) okj_all ok_o1 ok_o2 (hs := hn_X12_isSo) (by decide +kernel) (by decide +kernel)
def hn_X12_isFit : List (List (Nat × Nat)) := [
  [], [], [], [], [], [], [(9, 0)], [], [], [(6, 236)], [], [],
  [], [], [(6, 231)], [], [], [], [], [], [(6, 232)], [], [], [],
  [], [], [(6, 232)], [], [], [], [], [], [], [], [], [],
  [], [(9, 8)], [], [], [], [], [], [], [], [], [], [],
  [], [], [(8, 108)], [], [], [], [(9, 12)], [], [], [], [], []]
set_option maxRecDepth 100000 in
theorem ok_X12_isFit : ∀ q ∈ op_X12_isFit, cv_ok cv_T vwCl mt_all mt_X12_isFit q := cv_zip_ok ok_mm (by decide) okj_all ok_o1 ok_o2 (hs := hn_X12_isFit) (by decide +kernel) (by decide +kernel)
def hn_X12_fitting : List (List (Nat × Nat)) := [
  [], [(8, 236)], [], [], [], [], [], [], [(6, 191)], [], [], [],
  [], [], [(9, 4)], [], [], [], [], [], [], [], [], [],
  [], [], []]
set_option maxRecDepth 100000 in
theorem ok_X12_fitting : ∀ q ∈ op_X12_fitting, cv_ok cv_T vwCl mt_all mt_X12_fitting q := cv_zip_ok ok_mm (by decide) okj_all ok_o1 ok_o2 (hs := hn_X12_fitting) (by decide +kernel) (by decide +kernel)
def hn_X12_fits : List (List (Nat × Nat)) := [
  [], [], [(6, 179)], [], [], [(8, 68)], [], [], [], [(8, 232)], [], [],
  []]
set_option maxRecDepth 100000 in
theorem ok_X12_fits : ∀ q ∈ op_X12_fits, cv_ok cv_T vwCl mt_all mt_X12_fits q := cv_zip_ok ok_mm (by decide) okj_all ok_o1 ok_o2 (hs := hn_X12_fits) (by decide +kernel) (by decide +kernel)
def hn_X12_weightOf : List (List (Nat × Nat)) := [
  [], [], [(6, 191)], [], [], [(6, 208)], [], [], [], [], [], [],
  []]
set_option maxRecDepth 100000 in
theorem ok_X12_weightOf : ∀ q ∈ op_X12_weightOf, cv_ok cv_T vwCl mt_all mt_X12_weightOf q := cv_zip_ok ok_mm (by decide) okj_all ok_o1 ok_o2 (hs := hn_X12_weightOf) (by decide +kernel) (by decide +kernel)
def hn_X12_common : List (List (Nat × Nat)) := [
  [], [], [], [], [], [], [], [], [], [], [], [],
  [], [], [], [], []]
set_option maxRecDepth 100000 in
theorem ok_X12_common : ∀ q ∈ op_X12_common, cv_ok cv_T vwCl mt_all mt_X12_common q := cv_zip_ok ok_mm (by decide) okj_all ok_o1 ok_o2 (hs := hn_X12_common) (by decide +kernel) (by decide +kernel)
def hn_X12_odds_0 : List (List (Nat × Nat)) := [
  [], [], [(6, 179)], [], [], [(8, 68)], [], [], [], [], [(6, 191)], [(7, 197)],
  [], [], [], [], [(7, 197)], [], [], [], [], [], [(8, 232)], [],
  [], [], [], [], [], [], [], [], [], [], [(6, 191)], [],
  [], [], [], [(8, 22)], [], [], [], [(9, 24)], [], [], [], [],
  [], [], [], [], [(8, 22)], [], [], [], [(9, 24)], [], [], []]
set_option maxRecDepth 100000 in
theorem ok_X12_odds_0 : ∀ q ∈ op_X12_odds_0, cv_ok cv_T vwCl mt_all mt_X12_odds q := cv_zip_ok ok_mm (by decide) okj_all ok_o1 ok_o2 (hs := hn_X12_odds_0) (by decide +kernel) (by decide +kernel)
def hn_X12_odds_1 : List (List (Nat × Nat)) := [
  [], [], [], [], [], [], [], [(9, 28)], [], []]
set_option maxRecDepth 100000 in
theorem ok_X12_odds_1 : ∀ q ∈ op_X12_odds_1, cv_ok cv_T vwCl mt_all mt_X12_odds q := cv_zip_ok ok_mm (by decide) okj_all ok_o1 ok_o2 (hs := hn_X12_odds_1) (by decide +kernel) (by decide +kernel)
theorem ok_X12_odds : ∀ q ∈ op_X12_odds, cv_ok cv_T vwCl mt_all mt_X12_odds q := List.forall_mem_append.mpr ⟨ok_X12_odds_0, ok_X12_odds_1⟩
def hn_X12_heaviest_0 : List (List (Nat × Nat)) := [
  [], [], [], [], [(6, 191)], [], [], [], [], [(9, 8)], [], [],
  [], [], [(6, 220)], [], [], [], [], [(8, 108)], [], [], [], [(6, 237)],
  [], [], [], [], [(9, 16)], [], [], [], [], [], [], [],
  [], [], [(6, 191)], [], [], [], [], [], [], [], [(6, 191)], [],
  [], [], [], [(8, 22)], [], [], [], [(8, 22)], [], [], [(6, 237)], []]
set_option maxRecDepth 100000 in
theorem ok_X12_heaviest_0 : ∀ q ∈ op_X12_heaviest_0, cv_ok cv_T vwCl mt_all mt_X12_heaviest q := cv_zip_ok ok_mm (by decide) okj_all ok_o1 ok_o2 (hs := hn_X12_heaviest_0) (by decide +kernel) (by decide +kernel)
def hn_X12_heaviest_1 : List (List (Nat × Nat)) := [
  [], [], [(6, 237)], [], [], [], [], [], [(9, 24)], [], [], [],
  [], [], [], [], [], [], [], [], [], [], [], [],
  [], []]
set_option maxRecDepth 100000 in
theorem ok_X12_heaviest_1 : ∀ q ∈ op_X12_heaviest_1, cv_ok cv_T vwCl mt_all mt_X12_heaviest q := cv_zip_ok ok_mm (by decide) okj_all ok_o1 ok_o2 (hs := hn_X12_heaviest_1) (by decide +kernel) (by decide +kernel)
theorem ok_X12_heaviest : ∀ q ∈ op_X12_heaviest, cv_ok cv_T vwCl mt_all mt_X12_heaviest q := List.forall_mem_append.mpr ⟨ok_X12_heaviest_0, ok_X12_heaviest_1⟩
def hn_X12_test_0 : List (List (Nat × Nat)) := [
  [], [], [(6, 179)], [], [], [(8, 68)], [], [], [], [], [(7, 197)], [],
  [], [], [], [], [(8, 232)], [], [], [], [], [], [], [],
  [(6, 191)], [], [], [], [], [(8, 22)], [], [], [], [], [], [],
  [], [], [], [], [], [], [], [], [], [], [], [],
  [], [], [], [], [], [], [], [], [(9, 35)], [], [], []]
set_option maxRecDepth 100000 in
theorem ok_X12_test_0 : ∀ q ∈ op_X12_test_0, cv_ok cv_T vwCl mt_all mt_X12_test q := cv_zip_ok ok_mm (by decide) okj_all ok_o1 ok_o2 (hs := hn_X12_test_0) (by decide +kernel) (by decide +kernel)
def hn_X12_test_1 : List (List (Nat × Nat)) := [
  [], [], [], [], [], [], [], [], [], [], [], [],
  [], [], [], []]
set_option maxRecDepth 100000 in
theorem ok_X12_test_1 : ∀ q ∈ op_X12_test_1, cv_ok cv_T vwCl mt_all mt_X12_test q := cv_zip_ok ok_mm (by decide) okj_all ok_o1 ok_o2 (hs := hn_X12_test_1) (by decide +kernel) (by decide +kernel)
theorem ok_X12_test : ∀ q ∈ op_X12_test, cv_ok cv_T vwCl mt_all mt_X12_test q := List.forall_mem_append.mpr ⟨ok_X12_test_0, ok_X12_test_1⟩
def hn_X12_lowOf : List (List (Nat × Nat)) := [
  [], [], [(6, 203)], [], [], [], [], [], [], [], [], [(6, 222)],
  [], [], [], [], [], [(8, 80)], [], [], [], [(6, 203)], [], [],
  [], [], [], [], [], [], [], [], [], [], [], [(6, 203)],
  [], [], [], [], [], [], [], [], [], [], [(6, 238)], [],
  [], [], [], [], [(6, 239)], [], [], [], [], []]
set_option maxRecDepth 100000 in
theorem ok_X12_lowOf : ∀ q ∈ op_X12_lowOf, cv_ok cv_T vwCl mt_all mt_X12_lowOf q := cv_zip_ok ok_mm (by decide) okj_all ok_o1 ok_o2 (hs := hn_X12_lowOf) (by decide +kernel) (by decide +kernel)
def hn_X12_isAngle : List (List (Nat × Nat)) := [
  [], [], [], [(7, 197)], []]
set_option maxRecDepth 100000 in
theorem ok_X12_isAngle : ∀ q ∈ op_X12_isAngle, cv_ok cv_T vwCl mt_all mt_X12_isAngle q := cv_zip_ok ok_mm (by decide) okj_all ok_o1 ok_o2 (hs := hn_X12_isAngle) (by decide +kernel) (by decide +kernel)
def hn_X12_low : List (List (Nat × Nat)) := [
  [], [], [(6, 179)], [], [], [(8, 68)], [], [], [], [(9, 43)], [], [(8, 151)],
  [], [], [], [(8, 76)], [], [], [], [(9, 47)], []]
set_option maxRecDepth 100000 in
theorem ok_X12_low : ∀ q ∈ op_X12_low, cv_ok cv_T vwCl mt_all mt_X12_low q := cv_zip_ok ok_mm (by decide) okj_all ok_o1 ok_o2 (hs := hn_X12_low) (by decide +kernel) (by decide +kernel)
def hn_X12_rest : List (List (Nat × Nat)) := [
  [], [], [(6, 179)], [], [], [(8, 68)], [], [], [], [], [], [(8, 76)],
  [], [], [], [], [], [], [], [], [], [], [(9, 47)], [],
  [], [], [(9, 47)], [], [], [], [], [], [], [], [], []]
set_option maxRecDepth 100000 in
theorem ok_X12_rest : ∀ q ∈ op_X12_rest, cv_ok cv_T vwCl mt_all mt_X12_rest q := cv_zip_ok ok_mm (by decide) okj_all ok_o1 ok_o2 (hs := hn_X12_rest) (by decide +kernel) (by decide +kernel)
