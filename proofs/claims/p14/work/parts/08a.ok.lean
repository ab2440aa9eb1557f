section
/-! ===== the rows of the methods ===== -/
def hn_X0_init : List (List (Nat × Nat)) := [
  [], [(2, 102)], [], [], [(1, 142)], [(2, 104)], [], [], [(2, 103)], [], [], [(2, 111)],
  []]
set_option maxRecDepth 100000 in
theorem ok_X0_init : ∀ q ∈ op_X0_init, cv_ok cv_T vwCl mt_all mt_X0_init q := cv_zip_ok ok_mm (by decide) okj_all ok_o1 ok_o2 (hs := hn_X0_init) (by decide +kernel) (by decide +kernel)
def hn_X0_readInto : List (List (Nat × Nat)) := [
  [], [], [(2, 111)], [], [], [(2, 105)], [], [], [(2, 106)], [], [], [(2, 107)],
  [], [], [(2, 109)], [], [], [(2, 110)], [], [], [], [], [], [],
  [(2, 109)], [], [], [(2, 106)], [], [], [(3, 239)], [], [], [], [], [(4, 7)],
  [], [], [], [(2, 109)], [], [], [(4, 22)], [], [], [(4, 45)], [], [],
  [], [], [], [], [(2, 103)], [(4, 50)], [], [], [], []]
set_option maxRecDepth 100000 in
theorem ok_X0_readInto : ∀ q ∈ op_X0_readInto, cv_ok cv_T vwCl mt_all mt_X0_readInto q := cv_zip_ok ok_mm (by decide) okj_all ok_o1 ok_o2 (hs := hn_X0_readInto) (by decide +kernel) (by decide +kernel)
def hn_X0_readValue_0 : List (List (Nat × Nat)) := [
  [], [(2, 103)], [(2, 75)], [], [], [], [(4, 26)], [], [], [(2, 103)], [], [(4, 3)],
  [], [], [(2, 110)], [], [], [], [(4, 34)], [], [], [], [], [(4, 38)],
  [], [], [], [], [], [], [], [(2, 111)], [(1, 155)], [], [], [],
  [(2, 103)], [(2, 75)], [], [], [], [], [], [], [], [], [(2, 111)], [],
  [(1, 155)], [], [], [(1, 155)], [], [(2, 111)], [], [(4, 18)], [], [], [(2, 109)], []]
set_option maxRecDepth 100000 in
theorem ok_X0_readValue_0 : ∀ q ∈ op_X0_readValue_0, cv_ok cv_T vwCl mt_all mt_X0_readValue q := cv_zip_ok ok_mm (by decide) okj_all ok_o1 ok_o2 (hs := hn_X0_readValue_0) (by decide +kernel) (by decide +kernel)
def hn_X0_readValue_1 : List (List (Nat × Nat)) := [
  []]
set_option maxRecDepth 100000 in
theorem ok_X0_readValue_1 : ∀ q ∈ op_X0_readValue_1, cv_ok cv_T vwCl mt_all mt_X0_readValue q := cv_zip_ok ok_mm (by decide) okj_all ok_o1 ok_o2 (hs := hn_X0_readValue_1) (by decide +kernel) (by decide +kernel)
theorem ok_X0_readValue : ∀ q ∈ op_X0_readValue, cv_ok cv_T vwCl mt_all mt_X0_readValue q := List.forall_mem_append.mpr ⟨ok_X0_readValue_0, ok_X0_readValue_1⟩
def hn_X0_openParen : List (List (Nat × Nat)) := [
  [], [(2, 106)], [], [], [], [], [], [], [(2, 106)], [], [], [(2, 106)],
  [], [], [(4, 30)], [], [], [(2, 110)], [], []]
set_option maxRecDepth 100000 in
theorem ok_X0_openParen : ∀ q ∈ op_X0_openParen, cv_ok cv_T vwCl mt_all mt_X0_openParen q := cv_zip_ok ok_mm (by decide) okj_all ok_o1 ok_o2 (hs := hn_X0_openParen) (by decide +kernel) (by decide +kernel)
def hn_X0_valueKnot : List (List (Nat × Nat)) := [
  [], [(2, 103)], [(2, 75)], [], [], [], [(2, 103)], [(2, 81)], [], [], [(2, 103)], [(2, 75)],
  [], [], [], [(2, 103)], [(2, 81)], [(4, 42)], [], [], [], [], [], [],
  [], [], [], [], [(2, 107)], [], [], [], [], [(2, 107)], [], [],
  [], []]
set_option maxRecDepth 100000 in
theorem ok_X0_valueKnot : ∀ q ∈ op_X0_valueKnot, cv_ok cv_T vwCl mt_all mt_X0_valueKnot q := cv_zip_ok ok_mm (by decide) okj_all ok_o1 ok_o2 (hs := hn_X0_valueKnot) (by decide +kernel) (by decide +kernel)
def hn_X0_nameOf : List (List (Nat × Nat)) := [
  [], [], [], [], [], [], [], [], [], [], [], [],
  [], [], [], [], [], [], [], [], [], [], [], []]
set_option maxRecDepth 100000 in
theorem ok_X0_nameOf : ∀ q ∈ op_X0_nameOf, cv_ok cv_T vwCl mt_all mt_X0_nameOf q := cv_zip_ok ok_mm (by decide) okj_all ok_o1 ok_o2 (hs := hn_X0_nameOf) (by decide +kernel) (by decide +kernel)
def hn_X0_readJoint_0 : List (List (Nat × Nat)) := [
  [], [(2, 103)], [(2, 75)], [], [], [], [(2, 106)], [], [], [], [(4, 7)], [],
  [], [], [(2, 105)], [], [], [(4, 49)], [(2, 105)], [], [], [(2, 106)], [], [],
  [(2, 106)], [], [], [], [(3, 239)], [], [], [], [], [], [], [],
  [(4, 15)], [], [], [], [], [], [], [], [], [(4, 7)], [], [],
  [], [], [(2, 105)], [], [], [(4, 11)], [(4, 15)], [], [], [], [], []]
set_option maxRecDepth 100000 in
theorem ok_X0_readJoint_0 : ∀ q ∈ op_X0_readJoint_0, cv_ok cv_T vwCl mt_all mt_X0_readJoint q := cv_zip_ok ok_mm (by decide) okj_all ok_o1 ok_o2 (hs := hn_X0_readJoint_0) (by decide +kernel) (by decide +kernel)
def hn_X0_readJoint_1 : List (List (Nat × Nat)) := [
  [], [(2, 109)], [], [], [], [], [], [], [], [], [], [],
  [(2, 110)], [], [], [(4, 34)], []]
set_option maxRecDepth 100000 in
theorem ok_X0_readJoint_1 : ∀ q ∈ op_X0_readJoint_1, cv_ok cv_T vwCl mt_all mt_X0_readJoint q := cv_zip_ok ok_mm (by decide) okj_all ok_o1 ok_o2 (hs := hn_X0_readJoint_1) (by decide +kernel) (by decide +kernel)
theorem ok_X0_readJoint : ∀ q ∈ op_X0_readJoint, cv_ok cv_T vwCl mt_all mt_X0_readJoint q := List.forall_mem_append.mpr ⟨ok_X0_readJoint_0, ok_X0_readJoint_1⟩
def hn_X0_signOf : List (List (Nat × Nat)) := [
  [], [(2, 103)], [(2, 75)], [], [], [], [(2, 103)], [(2, 81)], [], [], [(2, 103)], [],
  [(4, 3)], [], [], [], [], [(2, 103)], [], [(4, 3)], [], [], [], [],
  []]
set_option maxRecDepth 100000 in
theorem ok_X0_signOf : ∀ q ∈ op_X0_signOf, cv_ok cv_T vwCl mt_all mt_X0_signOf q := cv_zip_ok ok_mm (by decide) okj_all ok_o1 ok_o2 (hs := hn_X0_signOf) (by decide +kernel) (by decide +kernel)
def hn_X0_rankOf : List (List (Nat × Nat)) := [
  [], [], [], [], [], [], [], [], [], [], [], [],
  [], [], [], []]
set_option maxRecDepth 100000 in
theorem ok_X0_rankOf : ∀ q ∈ op_X0_rankOf, cv_ok cv_T vwCl mt_all mt_X0_rankOf q := cv_zip_ok ok_mm (by decide) okj_all ok_o1 ok_o2 (hs := hn_X0_rankOf) (by decide +kernel) (by decide +kernel)
def hn_X0_holdKnot : List (List (Nat × Nat)) := [
  [], [(2, 111)], [(1, 155)], [], [], [], [], [], [(2, 111)], [], [(1, 155)], [],
  [], [(1, 155)], [], [], [(4, 30)], [], []]
set_option maxRecDepth 100000 in
theorem ok_X0_holdKnot : ∀ q ∈ op_X0_holdKnot, cv_ok cv_T vwCl mt_all mt_X0_holdKnot q := cv_zip_ok ok_mm (by decide) okj_all ok_o1 ok_o2 (hs := hn_X0_holdKnot) (by decide +kernel) (by decide +kernel)
def hn_X0_hold : List (List (Nat × Nat)) := [
  [], [(2, 105)], [], [], [(2, 105)], [], [(2, 104)], [], [], [], [(2, 104)], [],
  [(2, 105)], [], [], [], [], [(2, 105)], [], [], [(2, 105)], []]
set_option maxRecDepth 100000 in
theorem ok_X0_hold : ∀ q ∈ op_X0_hold, cv_ok cv_T vwCl mt_all mt_X0_hold q := cv_zip_ok ok_mm (by decide) okj_all ok_o1 ok_o2 (hs := hn_X0_hold) (by decide +kernel) (by decide +kernel)
def hn_X0_latestHeld : List (List (Nat × Nat)) := [
  [], [(2, 105)], [], [], [(2, 105)], [], [(2, 104)], [], [], [], [(2, 104)], [],
  [(2, 105)], [], [], [], [], [], []]
set_option maxRecDepth 100000 in
theorem ok_X0_latestHeld : ∀ q ∈ op_X0_latestHeld, cv_ok cv_T vwCl mt_all mt_X0_latestHeld q := cv_zip_ok ok_mm (by decide) okj_all ok_o1 ok_o2 (hs := hn_X0_latestHeld) (by decide +kernel) (by decide +kernel)
def hn_X0_release : List (List (Nat × Nat)) := [
  [], [(2, 105)], [], [], [(4, 11)], [(4, 15)], [], [], [], [(2, 111)], [], [(4, 11)],
  [(4, 18)], [], [], [(2, 105)], [], [], [(2, 105)], [], []]
set_option maxRecDepth 100000 in
theorem ok_X0_release : ∀ q ∈ op_X0_release, cv_ok cv_T vwCl mt_all mt_X0_release q := cv_zip_ok ok_mm (by decide) okj_all ok_o1 ok_o2 (hs := hn_X0_release) (by decide +kernel) (by decide +kernel)
def hn_X1_init : List (List (Nat × Nat)) := [
  [], [(2, 189)], [], [], [(2, 190)], []]
set_option maxRecDepth 100000 in
theorem ok_X1_init : ∀ q ∈ op_X1_init, cv_ok cv_T vwCl mt_all mt_X1_init q := cv_zip_ok ok_mm (by decide) okj_all ok_o1 ok_o2 (hs := hn_X1_init) (by decide +kernel) (by decide +kernel)
def hn_X1_begin_0 : List (List (Nat × Nat)) := [
  [], [], [], [], [(1, 167)], [], [], [], [], [], [(1, 167)], [],
  [], [(2, 190)], [], [], [(2, 193)], [], [], [(2, 195)], [], [], [(2, 197)], [],
  [], [(2, 199)], [], [], [(2, 190)], [(1, 77)], [(2, 201)], [], [], [(2, 190)], [(1, 84)], [(2, 204)],
  [], [], [(2, 207)], [], [], [(2, 208)], [], [], [(2, 190)], [(1, 93)], [(2, 210)], [],
  [], [(2, 213)], [], [], [(2, 190)], [(1, 71)], [(2, 220)], [], [], [(2, 190)], [(1, 74)], [(2, 222)]]
set_option maxRecDepth 100000 in
theorem ok_X1_begin_0 : ∀ q ∈ op_X1_begin_0, cv_ok cv_T vwCl mt_all mt_X1_begin q := cv_zip_ok ok_mm (by decide) okj_all ok_o1 ok_o2 (hs := hn_X1_begin_0) (by decide +kernel) (by decide +kernel)
def hn_X1_begin_1 : List (List (Nat × Nat)) := [
  [], [], [], [(2, 190)], [(1, 99)], [(4, 105)], []]
set_option maxRecDepth 100000 in
theorem ok_X1_begin_1 : ∀ q ∈ op_X1_begin_1, cv_ok cv_T vwCl mt_all mt_X1_begin q := cv_zip_ok ok_mm (by decide) okj_all ok_o1 ok_o2 (hs := hn_X1_begin_1) (by decide +kernel) (by decide +kernel)
theorem ok_X1_begin : ∀ q ∈ op_X1_begin, cv_ok cv_T vwCl mt_all mt_X1_begin q := List.forall_mem_append.mpr ⟨ok_X1_begin_0, ok_X1_begin_1⟩
def hn_X1_setCauses : List (List (Nat × Nat)) := [
  [], [], [(2, 215)], [], [], [], [], [(4, 109)], [(2, 217)], [], [], [],
  [], [(4, 109)], [(2, 218)], [], [], [], [], [(4, 109)], [(2, 219)], []]
set_option maxRecDepth 100000 in
theorem ok_X1_setCauses : ∀ q ∈ op_X1_setCauses, cv_ok cv_T vwCl mt_all mt_X1_setCauses q := cv_zip_ok ok_mm (by decide) okj_all ok_o1 ok_o2 (hs := hn_X1_setCauses) (by decide +kernel) (by decide +kernel)
def hn_X1_copy_0 : List (List (Nat × Nat)) := [
  [], [], [(2, 190)], [(2, 190)], [], [], [(2, 193)], [(2, 193)], [], [], [(2, 195)], [(2, 195)],
  [], [], [(2, 197)], [(2, 197)], [], [], [(2, 199)], [(2, 199)], [], [], [(2, 201)], [(2, 201)],
  [], [], [(2, 204)], [(2, 204)], [], [], [(2, 207)], [(2, 207)], [], [], [(2, 208)], [(2, 208)],
  [], [], [(2, 210)], [(2, 210)], [], [], [(2, 213)], [(2, 213)], [], [], [(2, 215)], [(2, 215)],
  [], [], [(2, 217)], [(2, 217)], [], [], [(2, 218)], [(2, 218)], [], [], [(2, 219)], [(2, 219)]]
set_option maxRecDepth 100000 in
theorem ok_X1_copy_0 : ∀ q ∈ op_X1_copy_0, cv_ok cv_T vwCl mt_all mt_X1_copy q := cv_zip_ok ok_mm (by decide) okj_all ok_o1 ok_o2 (hs := hn_X1_copy_0) (by decide +kernel) (by decide +kernel)
def hn_X1_copy_1 : List (List (Nat × Nat)) := [
  [], [], [(2, 220)], [(2, 220)], [], [], [(2, 222)], [(2, 222)], []]
set_option maxRecDepth 100000 in
theorem ok_X1_copy_1 : ∀ q ∈ op_X1_copy_1, cv_ok cv_T vwCl mt_all mt_X1_copy q := cv_zip_ok ok_mm (by decide) okj_all ok_o1 ok_o2 (hs := hn_X1_copy_1) (by decide +kernel) (by decide +kernel)
theorem ok_X1_copy : ∀ q ∈ op_X1_copy, cv_ok cv_T vwCl mt_all mt_X1_copy q := List.forall_mem_append.mpr ⟨ok_X1_copy_0, ok_X1_copy_1⟩
def hn_X1_pull : List (List (Nat × Nat)) := [
  [], [(2, 190)], [(4, 168)], [], [], [], [], [], [], [(2, 190)], [(1, 55)], [],
  [(2, 190)], [(1, 63)], [], [], [(2, 210)], [], [], [], [], [], [], [],
  [], [], [], [], [(2, 207)], [], [], [], [], []]
set_option maxRecDepth 100000 in
theorem ok_X1_pull : ∀ q ∈ op_X1_pull, cv_ok cv_T vwCl mt_all mt_X1_pull q := cv_zip_ok ok_mm (by decide) okj_all ok_o1 ok_o2 (hs := hn_X1_pull) (by decide +kernel) (by decide +kernel)
def hn_X1_leanPart : List (List (Nat × Nat)) := [
  [], [(2, 190)], [(1, 59)], [], [], [(2, 193)], [], [(2, 190)], [(1, 55)], [], [], [(2, 190)],
  [(1, 59)], [], [], [], []]
set_option maxRecDepth 100000 in
theorem ok_X1_leanPart : ∀ q ∈ op_X1_leanPart, cv_ok cv_T vwCl mt_all mt_X1_leanPart q := cv_zip_ok ok_mm (by decide) okj_all ok_o1 ok_o2 (hs := hn_X1_leanPart) (by decide +kernel) (by decide +kernel)
def hn_X1_hooksPart : List (List (Nat × Nat)) := [
  [], [(2, 190)], [(4, 168)], [], [], [], [], [(2, 197)], [], [(2, 190)], [(1, 55)], [],
  [], [], [], [], []]
set_option maxRecDepth 100000 in
theorem ok_X1_hooksPart : ∀ q ∈ op_X1_hooksPart, cv_ok cv_T vwCl mt_all mt_X1_hooksPart q := cv_zip_ok ok_mm (by decide) okj_all ok_o1 ok_o2 (hs := hn_X1_hooksPart) (by decide +kernel) (by decide +kernel)
def hn_X1_drop : List (List (Nat × Nat)) := [
  [], [(4, 181)], [], [(2, 195)], [], [], [(4, 185)], [], [], [(2, 199)], [], []]
set_option maxRecDepth 100000 in
theorem ok_X1_drop : ∀ q ∈ op_X1_drop, cv_ok cv_T vwCl mt_all mt_X1_drop q := cv_zip_ok ok_mm (by decide) okj_all ok_o1 ok_o2 (hs := hn_X1_drop) (by decide +kernel) (by decide +kernel)
def hn_X1_measured : List (List (Nat × Nat)) := [
  [], [], [], [(5, 16)], [], [], [(2, 193)], [], [], [(2, 195)], [], [],
  [(2, 197)], []]
set_option maxRecDepth 100000 in
theorem ok_X1_measured : ∀ q ∈ op_X1_measured, cv_ok cv_T vwCl mt_all mt_X1_measured q := cv_zip_ok ok_mm (by decide) okj_all ok_o1 ok_o2 (hs := hn_X1_measured) (by decide +kernel) (by decide +kernel)
def hn_X1_isLatched : List (List (Nat × Nat)) := [
  [], [(5, 16)], [], [], [], [(2, 190)], [(1, 87)], [], [], [], [], [(2, 190)],
  [(1, 90)], [], [], [], [], []]
set_option maxRecDepth 100000 in
theorem ok_X1_isLatched : ∀ q ∈ op_X1_isLatched, cv_ok cv_T vwCl mt_all mt_X1_isLatched q := cv_zip_ok ok_mm (by decide) okj_all ok_o1 ok_o2 (hs := hn_X1_isLatched) (by decide +kernel) (by decide +kernel)
def hn_X1_take_0 : List (List (Nat × Nat)) := [
  [], [], [(5, 42)], [], [], [], [(1, 186)], [], [], [], [], [],
  [(2, 213)], [], [], [], [], [(2, 213)], [], [(1, 182)], [], [], [], [],
  [], [(2, 204)], [], [], [], [(2, 195)], [], [], [], [(2, 199)], [], [],
  [(2, 199)], [], [], [], [(2, 207)], [], [], [], [(2, 208)], [], [], [(2, 208)],
  [], [], [], [(2, 193)], [], [], [(2, 201)], [], [], [(2, 201)], [], []]
set_option maxRecDepth 100000 in
theorem ok_X1_take_0 : ∀ q ∈ op_X1_take_0, cv_ok cv_T vwCl mt_all mt_X1_take q := cv_zip_ok ok_mm (by decide) okj_all ok_o1 ok_o2 (hs := hn_X1_take_0) (by decide +kernel) (by decide +kernel)
def hn_X1_take_1 : List (List (Nat × Nat)) := [
  [], [(2, 197)], [], [], [(2, 199)], [], [], [(2, 199)], []]
set_option maxRecDepth 100000 in
theorem ok_X1_take_1 : ∀ q ∈ op_X1_take_1, cv_ok cv_T vwCl mt_all mt_X1_take q := cv_zip_ok ok_mm (by decide) okj_all ok_o1 ok_o2 (hs := hn_X1_take_1) (by decide +kernel) (by decide +kernel)
theorem ok_X1_take : ∀ q ∈ op_X1_take, cv_ok cv_T vwCl mt_all mt_X1_take q := List.forall_mem_append.mpr ⟨ok_X1_take_0, ok_X1_take_1⟩
def hn_X1_grow : List (List (Nat × Nat)) := [
  [], [(4, 234)], [], [(2, 193)], [], [], [], [(2, 217)], [], [(4, 235)], [(2, 193)], [],
  [(4, 234)], [], [(2, 195)], [], [], [], [(2, 218)], [], [(4, 235)], [(2, 195)], [], [(4, 234)],
  [], [(2, 197)], [], [], [], [(2, 219)], [], [(4, 235)], [(2, 197)], []]
set_option maxRecDepth 100000 in
theorem ok_X1_grow : ∀ q ∈ op_X1_grow, cv_ok cv_T vwCl mt_all mt_X1_grow q := cv_zip_ok ok_mm (by decide) okj_all ok_o1 ok_o2 (hs := hn_X1_grow) (by decide +kernel) (by decide +kernel)
def hn_X1_lowHung : List (List (Nat × Nat)) := [
  [], [], [], [], [(2, 190)], [(1, 59)], [], [], [], [], [], [(2, 220)],
  [], [], [(2, 193)], [], [(2, 190)], [(4, 168)], [], [], [(2, 190)], [(1, 59)], [], [],
  [], [], [], [(2, 222)], [], [], [], [], [], [], [], [],
  [], [], [], [], [], []]
set_option maxRecDepth 100000 in
theorem ok_X1_lowHung : ∀ q ∈ op_X1_lowHung, cv_ok cv_T vwCl mt_all mt_X1_lowHung q := cv_zip_ok ok_mm (by decide) okj_all ok_o1 ok_o2 (hs := hn_X1_lowHung) (by decide +kernel) (by decide +kernel)
def hn_X1_aboveHung : List (List (Nat × Nat)) := [
  [], [(2, 190)], [(4, 168)], [], [], [], [], [], [], [], [], [],
  [], [(5, 234)], [], [], [], [(5, 234)], [], [], [], [], [(2, 190)], [(1, 55)],
  [], [], [], [(5, 235)], [], [], [], [], [], [], [], [],
  [(2, 190)], [(1, 97)], [], [], [(5, 16)], [], [], [], [(2, 190)], [(1, 105)], [], [],
  [], [], []]
set_option maxRecDepth 100000 in
theorem ok_X1_aboveHung : ∀ q ∈ op_X1_aboveHung, cv_ok cv_T vwCl mt_all mt_X1_aboveHung q := cv_zip_ok ok_mm (by decide) okj_all ok_o1 ok_o2 (hs := hn_X1_aboveHung) (by decide +kernel) (by decide +kernel)
def hn_X1_standsWith : List (List (Nat × Nat)) := [
  [], [], [(2, 220)], [], [], [(2, 222)], [], [], [], [], [], [],
  [], [], [], [], [], [(5, 234)], [], [], [(5, 234)], [], [], [],
  [], [], [(6, 11)], [], [], [], [], [], [], []]
set_option maxRecDepth 100000 in
theorem ok_X1_standsWith : ∀ q ∈ op_X1_standsWith, cv_ok cv_T vwCl mt_all mt_X1_standsWith q := cv_zip_ok ok_mm (by decide) okj_all ok_o1 ok_o2 (hs := hn_X1_standsWith) (by decide +kernel) (by decide +kernel)
def hn_X2_init : List (List (Nat × Nat)) := [
  [], [(2, 155)], [], [], [(2, 173)], [(2, 156)], [], [], [(2, 173)], [(2, 157)], [], [],
  [(1, 142)], [(2, 158)], [], [], [(2, 159)], []]
set_option maxRecDepth 100000 in
theorem ok_X2_init : ∀ q ∈ op_X2_init, cv_ok cv_T vwCl mt_all mt_X2_init q := cv_zip_ok ok_mm (by decide) okj_all ok_o1 ok_o2 (hs := hn_X2_init) (by decide +kernel) (by decide +kernel)
def hn_X2_forget : List (List (Nat × Nat)) := [
  [], [], [(2, 159)], [], [], [], [], [], [], [(2, 158)], [], [],
  [], [], [], []]
set_option maxRecDepth 100000 in
theorem ok_X2_forget : ∀ q ∈ op_X2_forget, cv_ok cv_T vwCl mt_all mt_X2_forget q := cv_zip_ok ok_mm (by decide) okj_all ok_o1 ok_o2 (hs := hn_X2_forget) (by decide +kernel) (by decide +kernel)
def hn_X2_put : List (List (Nat × Nat)) := [
  [], [], [], [], [], [], [(2, 156)], [], [], [], [], [],
  [], [(2, 156)], [], [], [], [], [], [(2, 159)], [], [], [], [],
  [(2, 159)], []]
set_option maxRecDepth 100000 in
theorem ok_X2_put : ∀ q ∈ op_X2_put, cv_ok cv_T vwCl mt_all mt_X2_put q := cv_zip_ok ok_mm (by decide) okj_all ok_o1 ok_o2 (hs := hn_X2_put) (by decide +kernel) (by decide +kernel)
def hn_X2_see_0 : List (List (Nat × Nat)) := [
  [], [], [], [(4, 164)], [], [(4, 172)], [], [], [], [], [(4, 176)], [],
  [(2, 209)], [], [], [(4, 172)], [], [], [], [(2, 202)], [], [(4, 172)], [], [],
  [], [(2, 191)], [(1, 80)], [], [(4, 172)], [], [], [], [(2, 205)], [], [], [],
  [], [], [(4, 172)], [], [], [], [(2, 205)], [], [], [], [], [],
  [(4, 172)], [], [], [], [(4, 177)], [], [(4, 172)], [], [], [], [], [(4, 172)]]
set_option maxRecDepth 100000 in
theorem ok_X2_see_0 : ∀ q ∈ op_X2_see_0, cv_ok cv_T vwCl mt_all mt_X2_see q := cv_zip_ok ok_mm (by decide) okj_all ok_o1 ok_o2 (hs := hn_X2_see_0) (by decide +kernel) (by decide +kernel)
def hn_X2_see_1 : List (List (Nat × Nat)) := [
  [], [], [], [(2, 211)], [], [(4, 172)], [], [], [], [], [(4, 172)], []]
set_option maxRecDepth 100000 in
theorem ok_X2_see_1 : ∀ q ∈ op_X2_see_1, cv_ok cv_T vwCl mt_all mt_X2_see q := cv_zip_ok ok_mm (by decide) okj_all ok_o1 ok_o2 (hs := hn_X2_see_1) (by decide +kernel) (by decide +kernel)
theorem ok_X2_see : ∀ q ∈ op_X2_see, cv_ok cv_T vwCl mt_all mt_X2_see q := List.forall_mem_append.mpr ⟨ok_X2_see_0, ok_X2_see_1⟩
def hn_X2_pass : List (List (Nat × Nat)) := [
  [], [], [], [], [], [], [], [], [], [], [], [],
  [(4, 160)], [], [], [], [], [], [], [], [], [(4, 189)], [], [],
  [], [], [(2, 159)], [], [], [(2, 158)], [], [], [], [(2, 158)], [], [],
  [], [(2, 158)], [], [], [(4, 230)], [], [], []]
set_option maxRecDepth 100000 in
theorem ok_X2_pass : ∀ q ∈ op_X2_pass, cv_ok cv_T vwCl mt_all mt_X2_pass q := cv_zip_ok ok_mm (by decide) okj_all ok_o1 ok_o2 (hs := hn_X2_pass) (by decide +kernel) (by decide +kernel)
def hn_X2_refresh : List (List (Nat × Nat)) := [
  [], [(2, 159)], [], [], [], [(1, 164)], [], [], [], [(2, 159)], [], [],
  [], [], [], [], [], [], [], [], [(4, 193)], [], [], [],
  [], [(4, 194)], [], [], [(2, 158)], [], [], [(2, 160)], [], [], [], [],
  [(4, 223)], [], [(4, 224)], [(4, 227)], [], [], []]
set_option maxRecDepth 100000 in
theorem ok_X2_refresh : ∀ q ∈ op_X2_refresh, cv_ok cv_T vwCl mt_all mt_X2_refresh q := cv_zip_ok ok_mm (by decide) okj_all ok_o1 ok_o2 (hs := hn_X2_refresh) (by decide +kernel) (by decide +kernel)
def hn_X2_workOut_0 : List (List (Nat × Nat)) := [
  [], [], [], [], [], [], [], [], [], [(2, 160)], [], [],
  [], [(2, 160)], [], [], [], [], [(1, 158)], [], [], [], [], [],
  [], [], [], [(1, 161)], [], [], [], [], [], [], [(1, 151)], [],
  [], [], [], [], [], [], [], [], [], [], [], [],
  [], [], [], [], [], [], [], [], [], [], [], []]
set_option maxRecDepth 100000 in
theorem ok_X2_workOut_0 : ∀ q ∈ op_X2_workOut_0, cv_ok cv_T vwCl mt_all mt_X2_workOut q := cv_zip_ok ok_mm (by decide) okj_all ok_o1 ok_o2 (hs := hn_X2_workOut_0) (by decide +kernel) (by decide +kernel)
def hn_X2_workOut_1 : List (List (Nat × Nat)) := [
  [], [], [], [(2, 160)], [], [], [], [], [], [(2, 157)], [], [],
  [], [(4, 198)], [], [], [], [], [], [], [(2, 157)], [], [], [(2, 157)],
  [], [], [], [], [], [], [], [], [], [], [], [],
  [], [], [], [], [(2, 157)], [], [], [], [], [(2, 157)], [], [],
  [], [(2, 157)], [], [], [], [], [(4, 202)], [], [], [(2, 160)], [], []]
set_option maxRecDepth 100000 in
theorem ok_X2_workOut_1 : ∀ q ∈ op_X2_workOut_1, cv_ok cv_T vwCl mt_all mt_X2_workOut q := cv_zip_ok ok_mm (by decide) okj_all ok_o1 ok_o2 (hs := hn_X2_workOut_1) (by decide +kernel) (by decide +kernel)
def hn_X2_workOut_2 : List (List (Nat × Nat)) := [
  [], [], [], [], [], [], [], [], [(2, 157)], [], [], []]
set_option maxRecDepth 100000 in
theorem ok_X2_workOut_2 : ∀ q ∈ op_X2_workOut_2, cv_ok cv_T vwCl mt_all mt_X2_workOut q := cv_zip_ok ok_mm (by decide) okj_all ok_o1 ok_o2 (hs := hn_X2_workOut_2) (by decide +kernel) (by decide +kernel)
theorem ok_X2_workOut : ∀ q ∈ op_X2_workOut, cv_ok cv_T vwCl mt_all mt_X2_workOut q := List.forall_mem_append.mpr ⟨ok_X2_workOut_0, List.forall_mem_append.mpr ⟨ok_X2_workOut_1, ok_X2_workOut_2⟩⟩
def hn_X2_valueOf : List (List (Nat × Nat)) := [
  [], [], [], [], [], [], [], [], [], [], [(2, 156)], [],
  [], [], [], [], []]
set_option maxRecDepth 100000 in
theorem ok_X2_valueOf : ∀ q ∈ op_X2_valueOf, cv_ok cv_T vwCl mt_all mt_X2_valueOf q := cv_zip_ok ok_mm (by decide) okj_all ok_o1 ok_o2 (hs := hn_X2_valueOf) (by decide +kernel) (by decide +kernel)
def hn_X2_join_0 : List (List (Nat × Nat)) := [
  [], [], [], [], [], [], [], [], [], [], [], [],
  [], [], [], [], [], [], [], [], [], [], [], [],
  [], [], [], [], [], [], [], [], [], [], [], [],
  [], [], [], [], [], [], [], [], [], [], [], [],
  [], [], [], [], [], [], [], [], [], [], [], []]
set_option maxRecDepth 100000 in
theorem ok_X2_join_0 : ∀ q ∈ op_X2_join_0, cv_ok cv_T vwCl mt_all mt_X2_join q := cv_zip_ok ok_mm (by decide) okj_all ok_o1 ok_o2 (hs := hn_X2_join_0) (by decide +kernel) (by decide +kernel)
def hn_X2_join_1 : List (List (Nat × Nat)) := [
  [], [], [], [], [], [], [], [], [], [], [], [],
  [], [], [], [], [], [], [(4, 206)], [], [], [], [], [],
  [(4, 206)], [], [], [], [], [(4, 212)], [], [], [], [], [(4, 219)], []]
set_option maxRecDepth 100000 in
theorem ok_X2_join_1 : ∀ q ∈ op_X2_join_1, cv_ok cv_T vwCl mt_all mt_X2_join q := cv_zip_ok ok_mm (by decide) okj_all ok_o1 ok_o2 (hs := hn_X2_join_1) (by decide +kernel) (by decide +kernel)
theorem ok_X2_join : ∀ q ∈ op_X2_join, cv_ok cv_T vwCl mt_all mt_X2_join q := List.forall_mem_append.mpr ⟨ok_X2_join_0, ok_X2_join_1⟩
def hn_X2_bounded : List (List (Nat × Nat)) := [
  [], [], [(4, 210)], [], [], [], [(4, 211)], [], [], [], [], [],
  [(2, 160)], [], []]
set_option maxRecDepth 100000 in
theorem ok_X2_bounded : ∀ q ∈ op_X2_bounded, cv_ok cv_T vwCl mt_all mt_X2_bounded q := cv_zip_ok ok_mm (by decide) okj_all ok_o1 ok_o2 (hs := hn_X2_bounded) (by decide +kernel) (by decide +kernel)
def hn_X2_times : List (List (Nat × Nat)) := [
  [], [], [], [], [], [], [(4, 216)], [(4, 210)], [], [(4, 216)], [], [],
  [], [], [], [], [(2, 160)], [], [(2, 160)], [], [], [], [], [],
  [], []]
set_option maxRecDepth 100000 in
theorem ok_X2_times : ∀ q ∈ op_X2_times, cv_ok cv_T vwCl mt_all mt_X2_times q := cv_zip_ok ok_mm (by decide) okj_all ok_o1 ok_o2 (hs := hn_X2_times) (by decide +kernel) (by decide +kernel)
def hn_X2_by : List (List (Nat × Nat)) := [
  [], [], [], [], [], [], [], [], [(2, 160)], [], [], [],
  [], [], [], [], [], [], []]
set_option maxRecDepth 100000 in
theorem ok_X2_by : ∀ q ∈ op_X2_by, cv_ok cv_T vwCl mt_all mt_X2_by q := cv_zip_ok ok_mm (by decide) okj_all ok_o1 ok_o2 (hs := hn_X2_by) (by decide +kernel) (by decide +kernel)
def hn_X3_init : List (List (Nat × Nat)) := [
  [], [(3, 35)], [], [], [(1, 142)], [(3, 36)], [], [], [(1, 142)], [(3, 37)], [], [],
  [(1, 142)], [(3, 38)], [], [], [(1, 142)], [(3, 39)], [], [], [(1, 142)], [(3, 40)], [], [],
  [(1, 142)], [(3, 41)], [], [], [(3, 72)], [(3, 42)], [], [], [(1, 142)], [(3, 43)], [], [],
  [(3, 47)], []]
set_option maxRecDepth 100000 in
theorem ok_X3_init : ∀ q ∈ op_X3_init, cv_ok cv_T vwCl mt_all mt_X3_init q := cv_zip_ok ok_mm (by decide) okj_all ok_o1 ok_o2 (hs := hn_X3_init) (by decide +kernel) (by decide +kernel)
def hn_X3_clear : List (List (Nat × Nat)) := [
  [], [], [(3, 45)], [], [], [(3, 47)], []]
set_option maxRecDepth 100000 in
theorem ok_X3_clear : ∀ q ∈ op_X3_clear, cv_ok cv_T vwCl mt_all mt_X3_clear q := cv_zip_ok ok_mm (by decide) okj_all ok_o1 ok_o2 (hs := hn_X3_clear) (by decide +kernel) (by decide +kernel)
def hn_X3_knownCount : List (List (Nat × Nat)) := [
  [], [(3, 47)], [], [], [], [(3, 45)], [], [], [(3, 47)], []]
set_option maxRecDepth 100000 in
theorem ok_X3_knownCount : ∀ q ∈ op_X3_knownCount, cv_ok cv_T vwCl mt_all mt_X3_knownCount q := cv_zip_ok ok_mm (by decide) okj_all ok_o1 ok_o2 (hs := hn_X3_knownCount) (by decide +kernel) (by decide +kernel)
def hn_X3_add : List (List (Nat × Nat)) := [
  [], [(3, 45)], [], [], [(3, 45)], [], [], [], [], [], [(3, 36)], [],
  [(3, 45)], [], [], [], [(3, 37)], [], [(3, 45)], [], [], [], [(3, 38)], [],
  [(3, 45)], [], [], [], [(3, 39)], [], [(3, 45)], [], [], [], [(3, 40)], [],
  [(3, 45)], [], [], [], [(3, 41)], [], [(3, 45)], [], [], [], [], [(3, 45)],
  [], [], [(3, 45)], [], [(3, 45)], [], [], []]
set_option maxRecDepth 100000 in
theorem ok_X3_add : ∀ q ∈ op_X3_add, cv_ok cv_T vwCl mt_all mt_X3_add q := cv_zip_ok ok_mm (by decide) okj_all ok_o1 ok_o2 (hs := hn_X3_add) (by decide +kernel) (by decide +kernel)
end
section
/-! ===== the rows of the methods ===== -/
def hn_X3_addStrike : List (List (Nat × Nat)) := [
  [], [(3, 45)], [], [], [(3, 45)], [], [], [], [], [], [(3, 36)], [],
  [(3, 45)], [], [], [], [(3, 41)], [], [(3, 45)], [], [], [], [], [(3, 45)],
  [], [], [(3, 45)], [], [(3, 45)], [], [], []]
set_option maxRecDepth 100000 in
theorem ok_X3_addStrike : ∀ q ∈ op_X3_addStrike, cv_ok cv_T vwCl mt_all mt_X3_addStrike q := cv_zip_ok ok_mm (by decide) okj_all ok_o1 ok_o2 (hs := hn_X3_addStrike) (by decide +kernel) (by decide +kernel)
def hn_X3_pick : List (List (Nat × Nat)) := [
  [], [(5, 140)], [], [], [(3, 44)], [], [], [], [], [], [], [(5, 144)],
  [], [], [], [], [], [(3, 42)], [], [], [], [], [(3, 41)], [],
  [], [], [], [], [(3, 36)], [], [], [], [], [], [(3, 43)], [],
  [(3, 44)], [], [], [], [], [(3, 44)], [], [], [(3, 44)], [], [], [(3, 37)],
  [], [], [(5, 149)], [], [], [], [], []]
set_option maxRecDepth 100000 in
theorem ok_X3_pick : ∀ q ∈ op_X3_pick, cv_ok cv_T vwCl mt_all mt_X3_pick q := cv_zip_ok ok_mm (by decide) okj_all ok_o1 ok_o2 (hs := hn_X3_pick) (by decide +kernel) (by decide +kernel)
def hn_X3_findStruck : List (List (Nat × Nat)) := [
  [], [], [], [], [], [], [(3, 42)], [], [], [], [], [],
  [], [(5, 144)], [], [(5, 148)], [], [], [], [], [], [], [(3, 42)], [],
  [], [], [], [(3, 41)], [], [], [], [], [(3, 41)], [], [], [],
  [], [], [(3, 42)], [], [(3, 41)], [], [], [], [], [], [], []]
set_option maxRecDepth 100000 in
theorem ok_X3_findStruck : ∀ q ∈ op_X3_findStruck, cv_ok cv_T vwCl mt_all mt_X3_findStruck q := cv_zip_ok ok_mm (by decide) okj_all ok_o1 ok_o2 (hs := hn_X3_findStruck) (by decide +kernel) (by decide +kernel)
def hn_X3_agree : List (List (Nat × Nat)) := [
  [], [], [], [], [(3, 44)], [], [], [], [], [], [(3, 43)], [],
  [], [], [], [], [], [], [], [], [(3, 37)], [], [], [],
  [], [], [], [(3, 38)], [], [], [(5, 166)], [], [], [], [(3, 39)], [],
  [], [], [], [], [(3, 40)], [], [], [], [], [], [], [],
  [], []]
set_option maxRecDepth 100000 in
theorem ok_X3_agree : ∀ q ∈ op_X3_agree, cv_ok cv_T vwCl mt_all mt_X3_agree q := cv_zip_ok ok_mm (by decide) okj_all ok_o1 ok_o2 (hs := hn_X3_agree) (by decide +kernel) (by decide +kernel)
def hn_X4_init_0 : List (List (Nat × Nat)) := [
  [], [(1, 38)], [], [], [(1, 142)], [(1, 148)], [], [], [(1, 142)], [(1, 150)], [], [],
  [(1, 142)], [(1, 157)], [], [], [(1, 142)], [(1, 160)], [], [], [(1, 142)], [(1, 163)], [], [],
  [(1, 39)], [(1, 166)], [], [], [(1, 142)], [(1, 169)], [], [], [(1, 142)], [(1, 175)], [], [],
  [(1, 142)], [(1, 178)], [], [], [(1, 142)], [(1, 181)], [], [], [(1, 142)], [(1, 185)], [], [],
  [(1, 142)], [(1, 192)], [], [], [(1, 142)], [(1, 195)], [], [], [(1, 142)], [(1, 197)], [], []]
set_option maxRecDepth 100000 in
theorem ok_X4_init_0 : ∀ q ∈ op_X4_init_0, cv_ok cv_T vwCl mt_all mt_X4_init q := cv_zip_ok ok_mm (by decide) okj_all ok_o1 ok_o2 (hs := hn_X4_init_0) (by decide +kernel) (by decide +kernel)
def hn_X4_init_1 : List (List (Nat × Nat)) := [
  [(1, 142)], [(1, 199)], [], [], [], [], [], [], [(1, 166)], [], [(1, 39), (1, 41), (1, 3)], [],
  [(1, 42)], [], [], [], [], [(1, 143)], []]
set_option maxRecDepth 100000 in
theorem ok_X4_init_1 : ∀ q ∈ op_X4_init_1, cv_ok cv_T vwCl mt_all mt_X4_init q := cv_zip_ok ok_mm (by decide) okj_all ok_o1 ok_o2 (hs := hn_X4_init_1) (by decide +kernel) (by decide +kernel)
theorem ok_X4_init : ∀ q ∈ op_X4_init, cv_ok cv_T vwCl mt_all mt_X4_init q := List.forall_mem_append.mpr ⟨ok_X4_init_0, ok_X4_init_1⟩
def hn_X4_clear_0 : List (List (Nat × Nat)) := [
  [], [], [], [], [], [], [(1, 148)], [], [], [], [], [],
  [], [], [], [], [], [], [(1, 157)], [], [], [], [], [(1, 160)],
  [], [], [], [], [(1, 163)], [], [], [], [], [], [], [],
  [], [], [], [], [(1, 166)], [], [], [(1, 147)], [], [], [], [],
  [(1, 152)], [], [], [(1, 154)], [], [], [(1, 172)], [], [], [(1, 189)], [], []]
set_option maxRecDepth 100000 in
theorem ok_X4_clear_0 : ∀ q ∈ op_X4_clear_0, cv_ok cv_T vwCl mt_all mt_X4_clear q := cv_zip_ok ok_mm (by decide) okj_all ok_o1 ok_o2 (hs := hn_X4_clear_0) (by decide +kernel) (by decide +kernel)
def hn_X4_clear_1 : List (List (Nat × Nat)) := [
  [(1, 202)], []]
set_option maxRecDepth 100000 in
theorem ok_X4_clear_1 : ∀ q ∈ op_X4_clear_1, cv_ok cv_T vwCl mt_all mt_X4_clear q := cv_zip_ok ok_mm (by decide) okj_all ok_o1 ok_o2 (hs := hn_X4_clear_1) (by decide +kernel) (by decide +kernel)
theorem ok_X4_clear : ∀ q ∈ op_X4_clear, cv_ok cv_T vwCl mt_all mt_X4_clear q := List.forall_mem_append.mpr ⟨ok_X4_clear_0, ok_X4_clear_1⟩
def hn_X4_isWork : List (List (Nat × Nat)) := [
  [], [], [], [], [(1, 189)], [], [], [], [], [], [], [],
  []]
set_option maxRecDepth 100000 in
theorem ok_X4_isWork : ∀ q ∈ op_X4_isWork, cv_ok cv_T vwCl mt_all mt_X4_isWork q := cv_zip_ok ok_mm (by decide) okj_all ok_o1 ok_o2 (hs := hn_X4_isWork) (by decide +kernel) (by decide +kernel)
def hn_X4_isCause : List (List (Nat × Nat)) := [
  [], [], [], [], [(1, 202)], [], [], [], [], [], [], [],
  []]
set_option maxRecDepth 100000 in
theorem ok_X4_isCause : ∀ q ∈ op_X4_isCause, cv_ok cv_T vwCl mt_all mt_X4_isCause q := cv_zip_ok ok_mm (by decide) okj_all ok_o1 ok_o2 (hs := hn_X4_isCause) (by decide +kernel) (by decide +kernel)
def hn_X4_isLaw : List (List (Nat × Nat)) := [
  [], [], [], [], [], [], [(1, 160)], [], [], [], [(1, 157)], [],
  [], [], [], [], [], []]
set_option maxRecDepth 100000 in
theorem ok_X4_isLaw : ∀ q ∈ op_X4_isLaw, cv_ok cv_T vwCl mt_all mt_X4_isLaw q := cv_zip_ok ok_mm (by decide) okj_all ok_o1 ok_o2 (hs := hn_X4_isLaw) (by decide +kernel) (by decide +kernel)
def hn_X4_firmIn : List (List (Nat × Nat)) := [
  [], [], [], [], [], [(1, 148)], [], [], [], [], [], [],
  [], [], []]
set_option maxRecDepth 100000 in
theorem ok_X4_firmIn : ∀ q ∈ op_X4_firmIn, cv_ok cv_T vwCl mt_all mt_X4_firmIn q := cv_zip_ok ok_mm (by decide) okj_all ok_o1 ok_o2 (hs := hn_X4_firmIn) (by decide +kernel) (by decide +kernel)
def hn_X4_growthNames : List (List (Nat × Nat)) := [
  [], [(1, 163)], [], [], [], [(1, 163)], [], [], [], [], [(1, 163)], [],
  [], [], []]
set_option maxRecDepth 100000 in
theorem ok_X4_growthNames : ∀ q ∈ op_X4_growthNames, cv_ok cv_T vwCl mt_all mt_X4_growthNames q := cv_zip_ok ok_mm (by decide) okj_all ok_o1 ok_o2 (hs := hn_X4_growthNames) (by decide +kernel) (by decide +kernel)
def hn_X4_costOf : List (List (Nat × Nat)) := [
  [], [], [], [], [], [], [(1, 189)], [], [], [], [], [],
  [], [], [], [], [], [], [], [(1, 178)], [], [], [], [],
  [], [], [], []]
set_option maxRecDepth 100000 in
theorem ok_X4_costOf : ∀ q ∈ op_X4_costOf, cv_ok cv_T vwCl mt_all mt_X4_costOf q := cv_zip_ok ok_mm (by decide) okj_all ok_o1 ok_o2 (hs := hn_X4_costOf) (by decide +kernel) (by decide +kernel)
def hn_X4_moreBy : List (List (Nat × Nat)) := [
  [], [], [], [], [], [], [(1, 202)], [], [], [], [], [],
  [], [], [], [], [], [], [(1, 197)], [], [], [], [], [],
  [], [(1, 199)], [], [], [], [], [], [], [], []]
set_option maxRecDepth 100000 in
theorem ok_X4_moreBy : ∀ q ∈ op_X4_moreBy, cv_ok cv_T vwCl mt_all mt_X4_moreBy q := cv_zip_ok ok_mm (by decide) okj_all ok_o1 ok_o2 (hs := hn_X4_moreBy) (by decide +kernel) (by decide +kernel)
def hn_X4_weightOf : List (List (Nat × Nat)) := [
  [], [], [(5, 175)], [], [], [(1, 195)], [], [], [], [], []]
set_option maxRecDepth 100000 in
theorem ok_X4_weightOf : ∀ q ∈ op_X4_weightOf, cv_ok cv_T vwCl mt_all mt_X4_weightOf q := cv_zip_ok ok_mm (by decide) okj_all ok_o1 ok_o2 (hs := hn_X4_weightOf) (by decide +kernel) (by decide +kernel)
def hn_X4_addCode : List (List (Nat × Nat)) := [
  [], [(1, 152)], [], [], [(1, 152)], [], [], [], [(1, 150)], [], [(1, 152)], [],
  [], [], [], [(1, 152)], [], [], [(1, 152)], []]
set_option maxRecDepth 100000 in
theorem ok_X4_addCode : ∀ q ∈ op_X4_addCode, cv_ok cv_T vwCl mt_all mt_X4_addCode q := cv_zip_ok ok_mm (by decide) okj_all ok_o1 ok_o2 (hs := hn_X4_addCode) (by decide +kernel) (by decide +kernel)
def hn_X5_init : List (List (Nat × Nat)) := [
  [], [(2, 11)], [], [], [(2, 135)], [], [(2, 12), (2, 13), (1, 5)], [], [], [(2, 14)], [(2, 129)], [],
  [(2, 97), (2, 98), (1, 10)], [], [], [(2, 129)], [], [(2, 99)], [(2, 130)], [], [], [(2, 131)], []]
set_option maxRecDepth 100000 in
theorem ok_X5_init : ∀ q ∈ op_X5_init, cv_ok cv_T vwCl mt_all mt_X5_init q := cv_zip_ok ok_mm (by decide) okj_all ok_o1 ok_o2 (hs := hn_X5_init) (by decide +kernel) (by decide +kernel)
def hn_X5_readText_0 : List (List (Nat × Nat)) := [
  [], [], [(2, 131)], [], [(2, 131)], [(3, 178)], [], [], [(2, 132)], [], [], [(2, 133)],
  [], [], [(2, 135)], [], [(2, 129)], [], [(3, 179)], [], [], [], [], [],
  [], [(2, 129)], [(2, 74)], [], [], [], [], [(2, 129)], [(2, 74)], [], [], [],
  [(2, 129)], [(2, 79)], [], [], [], [], [(3, 210)], [], [], [(3, 223)], [], [],
  [(4, 51)], [], [], [(4, 75)], [], [], [(4, 85)], [], [], [], [(3, 214)], []]
set_option maxRecDepth 100000 in
theorem ok_X5_readText_0 : ∀ q ∈ op_X5_readText_0, cv_ok cv_T vwCl mt_all mt_X5_readText q := cv_zip_ok ok_mm (by decide) okj_all ok_o1 ok_o2 (hs := hn_X5_readText_0) (by decide +kernel) (by decide +kernel)
def hn_X5_readText_1 : List (List (Nat × Nat)) := [
  [], [(4, 89)], [], [(2, 133)], [], [], [], [], [], [], []]
set_option maxRecDepth 100000 in
theorem ok_X5_readText_1 : ∀ q ∈ op_X5_readText_1, cv_ok cv_T vwCl mt_all mt_X5_readText q := cv_zip_ok ok_mm (by decide) okj_all ok_o1 ok_o2 (hs := hn_X5_readText_1) (by decide +kernel) (by decide +kernel)
theorem ok_X5_readText : ∀ q ∈ op_X5_readText, cv_ok cv_T vwCl mt_all mt_X5_readText q := List.forall_mem_append.mpr ⟨ok_X5_readText_0, ok_X5_readText_1⟩
def hn_X5_fail : List (List (Nat × Nat)) := [
  [], [(2, 133)], [], [], [], [(2, 133)], [], [], [(2, 129)], [(2, 77)], [(2, 135)], [],
  []]
set_option maxRecDepth 100000 in
theorem ok_X5_fail : ∀ q ∈ op_X5_fail, cv_ok cv_T vwCl mt_all mt_X5_fail q := cv_zip_ok ok_mm (by decide) okj_all ok_o1 ok_o2 (hs := hn_X5_fail) (by decide +kernel) (by decide +kernel)
def hn_X5_readSemicolon : List (List (Nat × Nat)) := [
  [], [(2, 133)], [], [], [(2, 129)], [(2, 74)], [], [], [], [], [(3, 214)], [],
  [], [], [(2, 129)], [(3, 218)], []]
set_option maxRecDepth 100000 in
theorem ok_X5_readSemicolon : ∀ q ∈ op_X5_readSemicolon, cv_ok cv_T vwCl mt_all mt_X5_readSemicolon q := cv_zip_ok ok_mm (by decide) okj_all ok_o1 ok_o2 (hs := hn_X5_readSemicolon) (by decide +kernel) (by decide +kernel)
def hn_X5_readNumber_0 : List (List (Nat × Nat)) := [
  [], [], [], [(2, 133)], [], [], [(2, 129)], [(2, 74)], [], [], [], [(2, 129)],
  [(2, 79)], [], [], [], [], [], [], [], [], [], [(2, 129)], [(3, 218)],
  [], [(2, 133)], [], [], [(2, 129)], [(2, 74)], [], [], [], [], [(3, 214)], [],
  [], [], [], [(2, 129)], [(2, 79)], [], [], [], [(2, 129)], [(2, 79)], [], [],
  [], [], [], [], [], [], [], [(3, 214)], [], [], [(2, 129)], [(3, 218)]]
set_option maxRecDepth 100000 in
theorem ok_X5_readNumber_0 : ∀ q ∈ op_X5_readNumber_0, cv_ok cv_T vwCl mt_all mt_X5_readNumber q := cv_zip_ok ok_mm (by decide) okj_all ok_o1 ok_o2 (hs := hn_X5_readNumber_0) (by decide +kernel) (by decide +kernel)
def hn_X5_readNumber_1 : List (List (Nat × Nat)) := [
  [], []]
set_option maxRecDepth 100000 in
theorem ok_X5_readNumber_1 : ∀ q ∈ op_X5_readNumber_1, cv_ok cv_T vwCl mt_all mt_X5_readNumber q := cv_zip_ok ok_mm (by decide) okj_all ok_o1 ok_o2 (hs := hn_X5_readNumber_1) (by decide +kernel) (by decide +kernel)
theorem ok_X5_readNumber : ∀ q ∈ op_X5_readNumber, cv_ok cv_T vwCl mt_all mt_X5_readNumber q := List.forall_mem_append.mpr ⟨ok_X5_readNumber_0, ok_X5_readNumber_1⟩
def hn_X5_readNewName : List (List (Nat × Nat)) := [
  [], [(2, 133)], [], [], [(2, 129)], [(2, 74)], [], [], [], [], [(3, 214)], [],
  [], [(2, 129)], [(2, 79)], [], [], [], [], [], [], [], [], [],
  [(3, 214)], [], [], [(2, 129)], [(3, 218)], [], []]
set_option maxRecDepth 100000 in
theorem ok_X5_readNewName : ∀ q ∈ op_X5_readNewName, cv_ok cv_T vwCl mt_all mt_X5_readNewName q := cv_zip_ok ok_mm (by decide) okj_all ok_o1 ok_o2 (hs := hn_X5_readNewName) (by decide +kernel) (by decide +kernel)
def hn_X5_readGround : List (List (Nat × Nat)) := [
  [], [(2, 132)], [], [], [], [(3, 214)], [], [], [], [], [(2, 132)], [],
  [(2, 129)], [(3, 218)], [], [], [], [], [], [], [(2, 131)], [(1, 149)], [], [],
  [], [], [(3, 219)], [], [], [], []]
set_option maxRecDepth 100000 in
theorem ok_X5_readGround : ∀ q ∈ op_X5_readGround, cv_ok cv_T vwCl mt_all mt_X5_readGround q := cv_zip_ok ok_mm (by decide) okj_all ok_o1 ok_o2 (hs := hn_X5_readGround) (by decide +kernel) (by decide +kernel)
def hn_X5_readLaw_0 : List (List (Nat × Nat)) := [
  [], [(2, 129)], [(3, 218)], [], [(2, 129)], [], [], [(3, 227)], [], [], [], [(3, 214)],
  [], [], [], [(2, 129)], [(2, 79)], [], [], [], [], [], [], [],
  [], [], [(2, 131)], [], [(3, 231)], [], [], [], [(3, 214)], [], [], [],
  [(2, 129)], [(3, 218)], [], [(2, 131)], [(1, 153)], [], [], [(2, 130)], [], [(2, 131)], [(3, 235)], [],
  [], [], [], [], [(3, 214)], [], [], [(2, 131)], [(1, 159)], [], [], []]
set_option maxRecDepth 100000 in
theorem ok_X5_readLaw_0 : ∀ q ∈ op_X5_readLaw_0, cv_ok cv_T vwCl mt_all mt_X5_readLaw q := cv_zip_ok ok_mm (by decide) okj_all ok_o1 ok_o2 (hs := hn_X5_readLaw_0) (by decide +kernel) (by decide +kernel)
def hn_X5_readLaw_1 : List (List (Nat × Nat)) := [
  [], [(2, 131)], [(1, 162)], [], [], [(2, 131)], [(1, 153)], [], [], [(2, 131)], [(1, 165)], [],
  [], [(2, 130)], [(2, 108)], [], []]
set_option maxRecDepth 100000 in
theorem ok_X5_readLaw_1 : ∀ q ∈ op_X5_readLaw_1, cv_ok cv_T vwCl mt_all mt_X5_readLaw q := cv_zip_ok ok_mm (by decide) okj_all ok_o1 ok_o2 (hs := hn_X5_readLaw_1) (by decide +kernel) (by decide +kernel)
theorem ok_X5_readLaw : ∀ q ∈ op_X5_readLaw, cv_ok cv_T vwCl mt_all mt_X5_readLaw q := List.forall_mem_append.mpr ⟨ok_X5_readLaw_0, ok_X5_readLaw_1⟩
def hn_X5_readGate_0 : List (List (Nat × Nat)) := [
  [], [(2, 131)], [(1, 174)], [], [], [], [], [], [], [], [], [(3, 214)],
  [], [], [], [(2, 129)], [(3, 218)], [], [(2, 131)], [(1, 168)], [], [], [], [],
  [(2, 131)], [(1, 171)], [], [], [], [(2, 131)], [(1, 171)], [], [(4, 55)], [], [], [],
  [], [], [(3, 219)], [(1, 56)], [], [], [], [], [(3, 219)], [(4, 62)], [], [],
  [], [], [(3, 219)], [(1, 64)], [], [], [], [], [], [], [(2, 133)], []]
set_option maxRecDepth 100000 in
theorem ok_X5_readGate_0 : ∀ q ∈ op_X5_readGate_0, cv_ok cv_T vwCl mt_all mt_X5_readGate q := cv_zip_ok ok_mm (by decide) okj_all ok_o1 ok_o2 (hs := hn_X5_readGate_0) (by decide +kernel) (by decide +kernel)
def hn_X5_readGate_1 : List (List (Nat × Nat)) := [
  [], [(2, 129)], [], [], [(3, 227)], [], [], [], [(4, 63)], [], [], [],
  [(2, 131)], [], [], [], [(1, 174)], []]
set_option maxRecDepth 100000 in
theorem ok_X5_readGate_1 : ∀ q ∈ op_X5_readGate_1, cv_ok cv_T vwCl mt_all mt_X5_readGate q := cv_zip_ok ok_mm (by decide) okj_all ok_o1 ok_o2 (hs := hn_X5_readGate_1) (by decide +kernel) (by decide +kernel)
theorem ok_X5_readGate : ∀ q ∈ op_X5_readGate, cv_ok cv_T vwCl mt_all mt_X5_readGate q := List.forall_mem_append.mpr ⟨ok_X5_readGate_0, ok_X5_readGate_1⟩
def hn_X5_readPart_0 : List (List (Nat × Nat)) := [
  [], [(2, 129)], [(2, 79)], [], [], [], [], [], [(1, 102)], [], [], [],
  [], [], [], [], [(3, 214)], [], [], [], [], [(1, 102)], [], [],
  [], [], [(1, 102)], [], [(2, 129)], [(3, 218)], [], [], [], [], [], [],
  [(1, 60)], [(3, 219)], [(1, 67)], [], [], [], [(1, 67)], [], [], [], [(1, 60)], [(3, 219)],
  [(1, 69)], [], [], [], [], [(3, 219)], [(1, 72)], [], [], [], [], [(3, 219)]]
set_option maxRecDepth 100000 in
theorem ok_X5_readPart_0 : ∀ q ∈ op_X5_readPart_0, cv_ok cv_T vwCl mt_all mt_X5_readPart q := cv_zip_ok ok_mm (by decide) okj_all ok_o1 ok_o2 (hs := hn_X5_readPart_0) (by decide +kernel) (by decide +kernel)
def hn_X5_readPart_1 : List (List (Nat × Nat)) := [
  [(1, 75)], [], [], [], [], [], [(3, 219)], [(1, 78)], [], [], [], [],
  [(3, 219)], [(1, 81)], [], [], [], [(4, 67)], [], [], [], [], [], [(3, 219)],
  [(1, 88)], [], [], [], [], [(3, 219)], [(1, 91)], [], [], [], [], [],
  [(3, 219)], [(1, 94)], [], [], [], [], [], [(3, 219)], [(1, 96)], [], [], [],
  [], [], [(1, 104)], [], [], [], [(1, 104)], [], [], [], [], [(3, 219)]]
set_option maxRecDepth 100000 in
theorem ok_X5_readPart_1 : ∀ q ∈ op_X5_readPart_1, cv_ok cv_T vwCl mt_all mt_X5_readPart q := cv_zip_ok ok_mm (by decide) okj_all ok_o1 ok_o2 (hs := hn_X5_readPart_1) (by decide +kernel) (by decide +kernel)
def hn_X5_readPart_2 : List (List (Nat × Nat)) := [
  [], [], [], [], [], [], [(4, 71)], []]
set_option maxRecDepth 100000 in
theorem ok_X5_readPart_2 : ∀ q ∈ op_X5_readPart_2, cv_ok cv_T vwCl mt_all mt_X5_readPart q := cv_zip_ok ok_mm (by decide) okj_all ok_o1 ok_o2 (hs := hn_X5_readPart_2) (by decide +kernel) (by decide +kernel)
theorem ok_X5_readPart : ∀ q ∈ op_X5_readPart, cv_ok cv_T vwCl mt_all mt_X5_readPart q := List.forall_mem_append.mpr ⟨ok_X5_readPart_0, List.forall_mem_append.mpr ⟨ok_X5_readPart_1, ok_X5_readPart_2⟩⟩
def hn_X5_readBrace : List (List (Nat × Nat)) := [
  [], [(2, 129)], [], [], [(3, 227)], [], [], [], [(3, 214)], [], [], [],
  [], [(2, 129)], [(2, 79)], [], [], [], [], [], [(1, 85)], [], [(2, 129)], [(3, 218)],
  []]
set_option maxRecDepth 100000 in
theorem ok_X5_readBrace : ∀ q ∈ op_X5_readBrace, cv_ok cv_T vwCl mt_all mt_X5_readBrace q := cv_zip_ok ok_mm (by decide) okj_all ok_o1 ok_o2 (hs := hn_X5_readBrace) (by decide +kernel) (by decide +kernel)
def hn_X5_readHas : List (List (Nat × Nat)) := [
  [], [(2, 129)], [(2, 74)], [], [], [], [], [(3, 214)], [], [], [], [(2, 129)],
  [(2, 79)], [], [(2, 131)], [(1, 194)], [], [(2, 131)], [(1, 204)], [], [], [], [], [],
  [], [], [(3, 214)], [], [], [], [(1, 100)], [], [], [], [], [],
  [], [], [(3, 214)], [], [], [], [], [(1, 100)], [], [], [], [],
  [(1, 100)], [], [(2, 129)], [(3, 218)], []]
set_option maxRecDepth 100000 in
theorem ok_X5_readHas : ∀ q ∈ op_X5_readHas, cv_ok cv_T vwCl mt_all mt_X5_readHas q := cv_zip_ok ok_mm (by decide) okj_all ok_o1 ok_o2 (hs := hn_X5_readHas) (by decide +kernel) (by decide +kernel)
def hn_X5_readWork_0 : List (List (Nat × Nat)) := [
  [], [(2, 131)], [(1, 191)], [], [], [], [], [], [], [], [], [(3, 214)],
  [], [], [], [(2, 129)], [(3, 218)], [], [(2, 131)], [(1, 177)], [], [], [], [(2, 131)],
  [(1, 177)], [], [(4, 55)], [], [], [(2, 131)], [(1, 179)], [], [], [], [], [(3, 219)],
  [], [], [(2, 133)], [], [], [(2, 129)], [(2, 74)], [], [], [], [(2, 129)], [(2, 79)],
  [(4, 79)], [], [], [], [], [], [], [], [], [(3, 214)], [], []]
set_option maxRecDepth 100000 in
theorem ok_X5_readWork_0 : ∀ q ∈ op_X5_readWork_0, cv_ok cv_T vwCl mt_all mt_X5_readWork q := cv_zip_ok ok_mm (by decide) okj_all ok_o1 ok_o2 (hs := hn_X5_readWork_0) (by decide +kernel) (by decide +kernel)
def hn_X5_readWork_1 : List (List (Nat × Nat)) := [
  [], [(2, 129)], [(3, 218)], [], [(4, 82)], [], [], [(2, 131)], [(1, 183)], [], [], [],
  [], [(2, 131)], [(1, 187)], [], [], [], [], [], [], [(3, 219)], [], [],
  [], [], [(2, 131)], [], [], [], [(1, 191)], []]
set_option maxRecDepth 100000 in
theorem ok_X5_readWork_1 : ∀ q ∈ op_X5_readWork_1, cv_ok cv_T vwCl mt_all mt_X5_readWork q := cv_zip_ok ok_mm (by decide) okj_all ok_o1 ok_o2 (hs := hn_X5_readWork_1) (by decide +kernel) (by decide +kernel)
theorem ok_X5_readWork : ∀ q ∈ op_X5_readWork, cv_ok cv_T vwCl mt_all mt_X5_readWork q := List.forall_mem_append.mpr ⟨ok_X5_readWork_0, ok_X5_readWork_1⟩
def hn_X5_kindOf : List (List (Nat × Nat)) := [
  [], [], [], [], [], [], [], [], [], [], [], [],
  [], [], [], [], [], []]
set_option maxRecDepth 100000 in
theorem ok_X5_kindOf : ∀ q ∈ op_X5_kindOf, cv_ok cv_T vwCl mt_all mt_X5_kindOf q := cv_zip_ok ok_mm (by decide) okj_all ok_o1 ok_o2 (hs := hn_X5_kindOf) (by decide +kernel) (by decide +kernel)
def hn_X5_mostOf : List (List (Nat × Nat)) := [
  [], [], [], [], [], [], [], [], [], [], [], []]
set_option maxRecDepth 100000 in
theorem ok_X5_mostOf : ∀ q ∈ op_X5_mostOf, cv_ok cv_T vwCl mt_all mt_X5_mostOf q := cv_zip_ok ok_mm (by decide) okj_all ok_o1 ok_o2 (hs := hn_X5_mostOf) (by decide +kernel) (by decide +kernel)
def hn_X5_readCause_0 : List (List (Nat × Nat)) := [
  [], [(2, 131)], [(1, 204)], [], [], [], [], [], [], [], [], [(3, 214)],
  [], [], [], [(2, 129)], [(3, 218)], [], [(2, 131)], [(1, 194)], [], [], [], [(2, 131)],
  [(1, 194)], [], [(4, 55)], [], [], [(2, 131)], [(1, 196)], [], [], [], [], [(3, 219)],
  [], [], [(2, 133)], [], [], [(2, 129)], [], [], [(3, 227)], [], [], [],
  [(3, 214)], [], [], [], [(2, 131)], [(1, 198)], [], [], [(2, 129)], [(2, 79)], [], []]
set_option maxRecDepth 100000 in
theorem ok_X5_readCause_0 : ∀ q ∈ op_X5_readCause_0, cv_ok cv_T vwCl mt_all mt_X5_readCause q := cv_zip_ok ok_mm (by decide) okj_all ok_o1 ok_o2 (hs := hn_X5_readCause_0) (by decide +kernel) (by decide +kernel)
def hn_X5_readCause_1 : List (List (Nat × Nat)) := [
  [], [], [(2, 129)], [(3, 218)], [], [(2, 131)], [(1, 200)], [], [], [], [], [(3, 219)],
  [], [], [(2, 131)], [], [], [], [(1, 204)], []]
set_option maxRecDepth 100000 in
theorem ok_X5_readCause_1 : ∀ q ∈ op_X5_readCause_1, cv_ok cv_T vwCl mt_all mt_X5_readCause q := cv_zip_ok ok_mm (by decide) okj_all ok_o1 ok_o2 (hs := hn_X5_readCause_1) (by decide +kernel) (by decide +kernel)
theorem ok_X5_readCause : ∀ q ∈ op_X5_readCause, cv_ok cv_T vwCl mt_all mt_X5_readCause q := List.forall_mem_append.mpr ⟨ok_X5_readCause_0, ok_X5_readCause_1⟩
def hn_X6_init : List (List (Nat × Nat)) := [
  [], [(2, 17)], [], [], [(1, 142)], [(2, 71)], [], [], [(2, 70)], [], [], [],
  [], [], [], [], [], [(2, 19)], [], [], [], [], [], [],
  [(2, 29)], [], [], [], [], [], [], [], [], [], [(2, 71)], [],
  [], [], [], [], [(2, 67)], [], [], [], [], [], []]
set_option maxRecDepth 100000 in
theorem ok_X6_init : ∀ q ∈ op_X6_init, cv_ok cv_T vwCl mt_all mt_X6_init q := cv_zip_ok ok_mm (by decide) okj_all ok_o1 ok_o2 (hs := hn_X6_init) (by decide +kernel) (by decide +kernel)
def hn_X6_letterBits : List (List (Nat × Nat)) := [
  [], [], [], [], [], [], [], [], [], [], [], [],
  [], [], [], [], []]
set_option maxRecDepth 100000 in
theorem ok_X6_letterBits : ∀ q ∈ op_X6_letterBits, cv_ok cv_T vwCl mt_all mt_X6_letterBits q := cv_zip_ok ok_mm (by decide) okj_all ok_o1 ok_o2 (hs := hn_X6_letterBits) (by decide +kernel) (by decide +kernel)
def hn_X6_begin : List (List (Nat × Nat)) := [
  [], [], [], [], [(2, 70)], [], [(3, 183)], [(3, 186)], [(2, 72)], [], [], [(2, 73)],
  [], [(3, 189)], []]
set_option maxRecDepth 100000 in
theorem ok_X6_begin : ∀ q ∈ op_X6_begin, cv_ok cv_T vwCl mt_all mt_X6_begin q := cv_zip_ok ok_mm (by decide) okj_all ok_o1 ok_o2 (hs := hn_X6_begin) (by decide +kernel) (by decide +kernel)
def hn_X6_step_0 : List (List (Nat × Nat)) := [
  [], [(2, 73)], [], [(2, 72)], [], [], [(2, 70)], [], [(2, 73)], [], [], [],
  [], [(2, 70)], [], [(2, 73)], [], [], [], [], [], [(2, 73)], [], [],
  [(2, 73)], [], [], [], [(2, 73)], [(2, 78)], [], [], [(2, 80)], [], [(2, 73)], [],
  [(2, 72)], [], [], [], [(2, 76)], [], [], [(2, 70)], [], [(2, 73)], [], [],
  [], [], [(2, 70)], [], [(2, 73)], [], [], [], [], [(3, 193)], [], []]
set_option maxRecDepth 100000 in
theorem ok_X6_step_0 : ∀ q ∈ op_X6_step_0, cv_ok cv_T vwCl mt_all mt_X6_step q := cv_zip_ok ok_mm (by decide) okj_all ok_o1 ok_o2 (hs := hn_X6_step_0) (by decide +kernel) (by decide +kernel)
def hn_X6_step_1 : List (List (Nat × Nat)) := [
  [(2, 70)], [], [(2, 73)], [], [], [], [], [(2, 70)], [], [(2, 73)], [], [],
  [], [], [(3, 197)], [], [], [], [(2, 70)], [], [(2, 73)], [], [(3, 202)], []]
set_option maxRecDepth 100000 in
theorem ok_X6_step_1 : ∀ q ∈ op_X6_step_1, cv_ok cv_T vwCl mt_all mt_X6_step q := cv_zip_ok ok_mm (by decide) okj_all ok_o1 ok_o2 (hs := hn_X6_step_1) (by decide +kernel) (by decide +kernel)
theorem ok_X6_step : ∀ q ∈ op_X6_step, cv_ok cv_T vwCl mt_all mt_X6_step q := List.forall_mem_append.mpr ⟨ok_X6_step_0, ok_X6_step_1⟩
def hn_X6_readLetters_0 : List (List (Nat × Nat)) := [
  [], [], [], [(2, 73)], [], [(2, 72)], [], [], [(2, 70)], [], [(2, 73)], [],
  [], [], [], [(2, 70)], [], [(2, 73)], [], [], [], [], [], [(2, 80)],
  [], [(2, 70)], [], [(2, 73)], [], [], [(2, 67)], [], [(2, 80)], [], [], [],
  [(2, 73)], [], [], [(2, 73)], [], [], [], [], [], [], [], [],
  [(2, 76)], [], [], [], [], [], [], [(2, 76)], [], [], [], [(2, 71)]]
set_option maxRecDepth 100000 in
theorem ok_X6_readLetters_0 : ∀ q ∈ op_X6_readLetters_0, cv_ok cv_T vwCl mt_all mt_X6_readLetters q := cv_zip_ok ok_mm (by decide) okj_all ok_o1 ok_o2 (hs := hn_X6_readLetters_0) (by decide +kernel) (by decide +kernel)
def hn_X6_readLetters_1 : List (List (Nat × Nat)) := [
  [], [], [], [(2, 80)], [], [], [], [(2, 76)], [], [], [(2, 80)], [],
  [], []]
set_option maxRecDepth 100000 in
theorem ok_X6_readLetters_1 : ∀ q ∈ op_X6_readLetters_1, cv_ok cv_T vwCl mt_all mt_X6_readLetters q := cv_zip_ok ok_mm (by decide) okj_all ok_o1 ok_o2 (hs := hn_X6_readLetters_1) (by decide +kernel) (by decide +kernel)
theorem ok_X6_readLetters : ∀ q ∈ op_X6_readLetters, cv_ok cv_T vwCl mt_all mt_X6_readLetters q := List.forall_mem_append.mpr ⟨ok_X6_readLetters_0, ok_X6_readLetters_1⟩
end
