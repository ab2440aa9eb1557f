/-! ===== the rows of the methods ===== -/
def hn_X3_addStrike : List (List (Nat × Nat)) := [
  [], [(3, 45)], [], [], [(3, 45)], [], [], [], [], [], [(3, 36)], [],
  [(3, 45)], [], [], [], [(3, 41)], [], [(3, 45)], [], [], [], [], [(3, 45)],
  [], [], [(3, 45)], [], [(3, 45)], [], [], []]
set_option maxRecDepth 100000 in
theorem ok_X3_addStrike : ∀ q ∈ op_X3_addStrike, cv_ok cv_T vwCl mt_all mt_X3_addStrike q := cv_zip_ok ok_mm (by decide) okj_all ok_o1 ok_o2 (hs := hn_X3_addStrike) (by decide +kernel) (by decide +kernel)
def hn_X3_pick : List (List (Nat × Nat)) := [
  [], [(5, 140)], [], [], [(3, 44)], [], [], [], [], [], [], [(5, 144)],
  [], [], [], [], [], [(3, 42)], [], [], [], [], [(3, 41)], [],
  [], [], [], [], [(3, 36)], [], [], [], [], [], [(3, 43)], [],
  [(3, 44)], [], [], [], [], [(3, 44)], [], [], [(3, 44)], [], [], [(3, 37)],
  [], [], [(5, 149)], [], [], [], [], []]
set_option maxRecDepth 100000 in
theorem ok_X3_pick : ∀ q ∈ op_X3_pick, cv_ok cv_T vwCl mt_all mt_X3_pick q := cv_zip_ok ok_mm (by decide) okj_all ok_o1 ok_o2 (hs := hn_X3_pick) (by decide +kernel) (by decide +kernel)
def hn_X3_findStruck : List (List (Nat × Nat)) := [
  [], [], [], [], [], [], [(3, 42)], [], [], [], [], [],
  [], [(5, 144)], [], [(5, 148)], [], [], [], [], [], [], [(3, 42)], [],
  [], [], [], [(3, 41)], [], [], [], [], [(3, 41)], [], [], [],
  [], [], [(3, 42)], [], [(3, 41)], [], [], [], [], [], [], []]
set_option maxRecDepth 100000 in
theorem ok_X3_findStruck : ∀ q ∈ op_X3_findStruck, cv_ok cv_T vwCl mt_all mt_X3_findStruck q := cv_zip_ok ok_mm (by decide) okj_all ok_o1 ok_o2 (hs := hn_X3_findStruck) (by decide +kernel) (by decide +kernel)
def hn_X3_agree : List (List (Nat × Nat)) := [
  [], [], [], [], [(3, 44)], [], [], [], [], [], [(3, 43)], [],
  [], [], [], [], [], [], [], [], [(3, 37)], [], [], [],
  [], [], [], [(3, 38)], [], [], [(5, 166)], [], [], [], [(3, 39)], [],
  [], [], [], [], [(3, 40)], [], [], [], [], [], [], [],
  [], []]
set_option maxRecDepth 100000 in
theorem ok_X3_agree : ∀ q ∈ op_X3_agree, cv_ok cv_T vwCl mt_all mt_X3_agree q := cv_zip_ok ok_mm (by decide) okj_all ok_o1 ok_o2 (hs := hn_X3_agree) (by decide +kernel) (by decide +kernel)
def hn_X4_init_0 : List (List (Nat × Nat)) := [
  [], [(1, 38)], [], [], [(1, 142)], [(1, 148)], [], [], [(1, 142)], [(1, 150)], [], [],
  [(1, 142)], [(1, 157)], [], [], [(1, 142)], [(1, 160)], [], [], [(1, 142)], [(1, 163)], [], [],
  [(1, 39)], [(1, 166)], [], [], [(1, 142)], [(1, 169)], [], [], [(1, 142)], [(1, 175)], [], [],
  [(1, 142)], [(1, 178)], [], [], [(1, 142)], [(1, 181)], [], [], [(1, 142)], [(1, 185)], [], [],
  [(1, 142)], [(1, 192)], [], [], [(1, 142)], [(1, 195)], [], [], [(1, 142)], [(1, 197)], [], []]
set_option maxRecDepth 100000 in
theorem ok_X4_init_0 : ∀ q ∈ op_X4_init_0, cv_ok cv_T vwCl mt_all mt_X4_init q := cv_zip_ok ok_mm (by decide) okj_all ok_o1 ok_o2 (hs := hn_X4_init_0) (by decide +kernel) (by decide +kernel)
def hn_X4_init_1 : List (List (Nat × Nat)) := [
  [(1, 142)], [(1, 199)], [], [], [], [], [], [], [(1, 166)], [], [(1, 39), (1, 41), (1, 3)], [],
  [(1, 42)], [], [], [], [], [(1, 143)], []]
set_option maxRecDepth 100000 in
theorem ok_X4_init_1 : ∀ q ∈ op_X4_init_1, cv_ok cv_T vwCl mt_all mt_X4_init q := cv_zip_ok ok_mm (by decide) okj_all ok_o1 ok_o2 (hs := hn_X4_init_1) (by decide +kernel) (by decide +kernel)
theorem ok_X4_init : ∀ q ∈ op_X4_init, cv_ok cv_T vwCl mt_all mt_X4_init q := List.forall_mem_append.mpr ⟨ok_X4_init_0, ok_X4_init_1⟩
def hn_X4_clear_0 : List (List (Nat × Nat)) := [
  [], [], [], [], [], [], [(1, 148)], [], [], [], [], [],
  [], [], [], [], [], [], [(1, 157)], [], [], [], [], [(1, 160)],
  [], [], [], [], [(1, 163)], [], [], [], [], [], [], [],
  [], [], [], [], [(1, 166)], [], [], [(1, 147)], [], [], [], [],
  [(1, 152)], [], [], [(1, 154)], [], [], [(1, 172)], [], [], [(1, 189)], [], []]
set_option maxRecDepth 100000 in
theorem ok_X4_clear_0 : ∀ q ∈ op_X4_clear_0, cv_ok cv_T vwCl mt_all mt_X4_clear q := cv_zip_ok ok_mm (by decide) okj_all ok_o1 ok_o2 (hs := hn_X4_clear_0) (by decide +kernel) (by decide +kernel)
def hn_X4_clear_1 : List (List (Nat × Nat)) := [
  [(1, 202)], []]
set_option maxRecDepth 100000 in
theorem ok_X4_clear_1 : ∀ q ∈ op_X4_clear_1, cv_ok cv_T vwCl mt_all mt_X4_clear q := cv_zip_ok ok_mm (by decide) okj_all ok_o1 ok_o2 (hs := hn_X4_clear_1) (by decide +kernel) (by decide +kernel)
theorem ok_X4_clear : ∀ q ∈ op_X4_clear, cv_ok cv_T vwCl mt_all mt_X4_clear q := List.forall_mem_append.mpr ⟨ok_X4_clear_0, ok_X4_clear_1⟩
def hn_X4_isWork : List (List (Nat × Nat)) := [
  [], [], [], [], [(1, 189)], [], [], [], [], [], [], [],
  []]
set_option maxRecDepth 100000 in
theorem ok_X4_isWork : ∀ q ∈ op_X4_isWork, cv_ok cv_T vwCl mt_all mt_X4_isWork q := cv_zip_ok ok_mm (by decide) okj_all ok_o1 ok_o2 (hs := hn_X4_isWork) (by decide +kernel) (by decide +kernel)
def hn_X4_isCause : List (List (Nat × Nat)) := [
  [], [], [], [], [(1, 202)], [], [], [], [], [], [], [],
  []]
set_option maxRecDepth 100000 in
theorem ok_X4_isCause : ∀ q ∈ op_X4_isCause, cv_ok cv_T vwCl mt_all mt_X4_isCause q := cv_zip_ok ok_mm (by decide) okj_all ok_o1 ok_o2 (hs := hn_X4_isCause) (by decide +kernel) (by decide +kernel)
def hn_X4_isLaw : List (List (Nat × Nat)) := [
  [], [], [], [], [], [], [(1, 160)], [], [], [], [(1, 157)], [],
  [], [], [], [], [], []]
set_option maxRecDepth 100000 in
theorem ok_X4_isLaw : ∀ q ∈ op_X4_isLaw, cv_ok cv_T vwCl mt_all mt_X4_isLaw q := cv_zip_ok ok_mm (by decide) okj_all ok_o1 ok_o2 (hs := hn_X4_isLaw) (by decide +kernel) (by decide +kernel)
def hn_X4_firmIn : List (List (Nat × Nat)) := [
  [], [], [], [], [], [(1, 148)], [], [], [], [], [], [],
  [], [], []]
set_option maxRecDepth 100000 in
theorem ok_X4_firmIn : ∀ q ∈ op_X4_firmIn, cv_ok cv_T vwCl mt_all mt_X4_firmIn q := cv_zip_ok ok_mm (by decide) okj_all ok_o1 ok_o2 (hs := hn_X4_firmIn) (by decide +kernel) (by decide +kernel)
def hn_X4_growthNames : List (List (Nat × Nat)) := [
  [], [(1, 163)], [], [], [], [(1, 163)], [], [], [], [], [(1, 163)], [],
  [], [], []]
set_option maxRecDepth 100000 in
theorem ok_X4_growthNames : ∀ q ∈ op_X4_growthNames, cv_ok cv_T vwCl mt_all mt_X4_growthNames q := cv_zip_ok ok_mm (by decide) okj_all ok_o1 ok_o2 (hs := hn_X4_growthNames) (by decide +kernel) (by decide +kernel)
def hn_X4_costOf : List (List (Nat × Nat)) := [
  [], [], [], [], [], [], [(1, 189)], [], [], [], [], [],
  [], [], [], [], [], [], [], [(1, 178)], [], [], [], [],
  [], [], [], []]
set_option maxRecDepth 100000 in
theorem ok_X4_costOf : ∀ q ∈ op_X4_costOf, cv_ok cv_T vwCl mt_all mt_X4_costOf q := cv_zip_ok ok_mm (by decide) okj_all ok_o1 ok_o2 (hs := hn_X4_costOf) (by decide +kernel) (by decide +kernel)
def hn_X4_moreBy : List (List (Nat × Nat)) := [
  [], [], [], [], [], [], [(1, 202)], [], [], [], [], [],
  [], [], [], [], [], [], [(1, 197)], [], [], [], [], [],
  [], [(1, 199)], [], [], [], [], [], [], [], []]
set_option maxRecDepth 100000 in
theorem ok_X4_moreBy : ∀ q ∈ op_X4_moreBy, cv_ok cv_T vwCl mt_all mt_X4_moreBy q := cv_zip_ok ok_mm (by decide) okj_all ok_o1 ok_o2 (hs := hn_X4_moreBy) (by decide +kernel) (by decide +kernel)
def hn_X4_weightOf : List (List (Nat × Nat)) := [
  [], [], [(5, 175)], [], [], [(1, 195)], [], [], [], [], []]
set_option maxRecDepth 100000 in
theorem ok_X4_weightOf : ∀ q ∈ op_X4_weightOf, cv_ok cv_T vwCl mt_all mt_X4_weightOf q := cv_zip_ok ok_mm (by decide) okj_all ok_o1 ok_o2 (hs := hn_X4_weightOf) (by decide +kernel) (by decide +kernel)
def hn_X4_addCode : List (List (Nat × Nat)) := [
  [], [(1, 152)], [], [], [(1, 152)], [], [], [], [(1, 150)], [], [(1, 152)], [],
  [], [], [], [(1, 152)], [], [], [(1, 152)], []]
set_option maxRecDepth 100000 in
theorem ok_X4_addCode : ∀ q ∈ op_X4_addCode, cv_ok cv_T vwCl mt_all mt_X4_addCode q := cv_zip_ok ok_mm (by decide) okj_all ok_o1 ok_o2 (hs := hn_X4_addCode) (by decide +kernel) (by decide +kernel)
def hn_X5_init : List (List (Nat × Nat)) := [
  [], [(2, 11)], [], [], [(2, 135)], [], [(2, 12), (2, 13), (1, 5)], [], [], [(2, 14)], [(2, 129)], [],
  [(2, 97), (2, 98), (1, 10)], [], [], [(2, 129)], [], [(2, 99)], [(2, 130)], [], [], [(2, 131)], []]
set_option maxRecDepth 100000 in
theorem ok_X5_init : ∀ q ∈ op_X5_init, cv_ok cv_T vwCl mt_all mt_X5_init q := cv_zip_ok ok_mm (by decide) okj_all ok_o1 ok_o2 (hs := hn_X5_init) (by decide +kernel) (by decide +kernel)
def hn_X5_readText_0 : List (List (Nat × Nat)) := [
  [], [], [(2, 131)], [], [(2, 131)], [(3, 178)], [], [], [(2, 132)], [], [], [(2, 133)],
  [], [], [(2, 135)], [], [(2, 129)], [], [(3, 179)], [], [], [], [], [],
  [], [(2, 129)], [(2, 74)], [], [], [], [], [(2, 129)], [(2, 74)], [], [], [],
  [(2, 129)], [(2, 79)], [], [], [], [], [(3, 210)], [], [], [(3, 223)], [], [],
  [(4, 51)], [], [], [(4, 75)], [], [], [(4, 85)], [], [], [], [(3, 214)], []]
set_option maxRecDepth 100000 in
theorem ok_X5_readText_0 : ∀ q ∈ op_X5_readText_0, cv_ok cv_T vwCl mt_all mt_X5_readText q := cv_zip_ok ok_mm (by decide) okj_all ok_o1 ok_o2 (hs := hn_X5_readText_0) (by decide +kernel) (by decide +kernel)
def hn_X5_readText_1 : List (List (Nat × Nat)) := [
  [], [(4, 89)], [], [(2, 133)], [], [], [], [], [], [], []]
set_option maxRecDepth 100000 in
theorem ok_X5_readText_1 : ∀ q ∈ op_X5_readText_1, cv_ok cv_T vwCl mt_all mt_X5_readText q := cv_zip_ok ok_mm (by decide) okj_all ok_o1 ok_o2 (hs := hn_X5_readText_1) (by decide +kernel) (by decide +kernel)
theorem ok_X5_readText : ∀ q ∈ op_X5_readText, cv_ok cv_T vwCl mt_all mt_X5_readText q := List.forall_mem_append.mpr ⟨ok_X5_readText_0, ok_X5_readText_1⟩
def hn_X5_fail : List (List (Nat × Nat)) := [
  [], [(2, 133)], [], [], [], [(2, 133)], [], [], [(2, 129)], [(2, 77)], [(2, 135)], [],
  []]
set_option maxRecDepth 100000 in
theorem ok_X5_fail : ∀ q ∈ op_X5_fail, cv_ok cv_T vwCl mt_all mt_X5_fail q := cv_zip_ok ok_mm (by decide) okj_all ok_o1 ok_o2 (hs := hn_X5_fail) (by decide +kernel) (by decide +kernel)
def hn_X5_readSemicolon : List (List (Nat × Nat)) := [
  [], [(2, 133)], [], [], [(2, 129)], [(2, 74)], [], [], [], [], [(3, 214)], [],
  [], [], [(2, 129)], [(3, 218)], []]
set_option maxRecDepth 100000 in
theorem ok_X5_readSemicolon : ∀ q ∈ op_X5_readSemicolon, cv_ok cv_T vwCl mt_all mt_X5_readSemicolon q := cv_zip_ok ok_mm (by decide) okj_all ok_o1 ok_o2 (hs := hn_X5_readSemicolon) (by decide +kernel) (by decide +kernel)
def hn_X5_readNumber_0 : List (List (Nat × Nat)) := [
  [], [], [], [(2, 133)], [], [], [(2, 129)], [(2, 74)], [], [], [], [(2, 129)],
  [(2, 79)], [], [], [], [], [], [], [], [], [], [(2, 129)], [(3, 218)],
  [], [(2, 133)], [], [], [(2, 129)], [(2, 74)], [], [], [], [], [(3, 214)], [],
  [], [], [], [(2, 129)], [(2, 79)], [], [], [], [(2, 129)], [(2, 79)], [], [],
  [], [], [], [], [], [], [], [(3, 214)], [], [], [(2, 129)], [(3, 218)]]
set_option maxRecDepth 100000 in
theorem ok_X5_readNumber_0 : ∀ q ∈ op_X5_readNumber_0, cv_ok cv_T vwCl mt_all mt_X5_readNumber q := cv_zip_ok ok_mm (by decide) okj_all ok_o1 ok_o2 (hs := hn_X5_readNumber_0) (by decide +kernel) (by decide +kernel)
def hn_X5_readNumber_1 : List (List (Nat × Nat)) := [
  [], []]
set_option maxRecDepth 100000 in
theorem ok_X5_readNumber_1 : ∀ q ∈ op_X5_readNumber_1, cv_ok cv_T vwCl mt_all mt_X5_readNumber q := cv_zip_ok ok_mm (by decide) okj_all ok_o1 ok_o2 (hs := hn_X5_readNumber_1) (by decide +kernel) (by decide +kernel)
theorem ok_X5_readNumber : ∀ q ∈ op_X5_readNumber, cv_ok cv_T vwCl mt_all mt_X5_readNumber q := List.forall_mem_append.mpr ⟨ok_X5_readNumber_0, ok_X5_readNumber_1⟩
def hn_X5_readNewName : List (List (Nat × Nat)) := [
  [], [(2, 133)], [], [], [(2, 129)], [(2, 74)], [], [], [], [], [(3, 214)], [],
  [], [(2, 129)], [(2, 79)], [], [], [], [], [], [], [], [], [],
  [(3, 214)], [], [], [(2, 129)], [(3, 218)], [], []]
set_option maxRecDepth 100000 in
theorem ok_X5_readNewName : ∀ q ∈ op_X5_readNewName, cv_ok cv_T vwCl mt_all mt_X5_readNewName q := cv_zip_ok ok_mm (by decide) okj_all ok_o1 ok_o2 (hs := hn_X5_readNewName) (by decide +kernel) (by decide +kernel)
def hn_X5_readGround : List (List (Nat × Nat)) := [
  [], [(2, 132)], [], [], [], [(3, 214)], [], [], [], [], [(2, 132)], [],
  [(2, 129)], [(3, 218)], [], [], [], [], [], [], [(2, 131)], [(1, 149)], [], [],
  [], [], [(3, 219)], [], [], [], []]
set_option maxRecDepth 100000 in
theorem ok_X5_readGround : ∀ q ∈ op_X5_readGround, cv_ok cv_T vwCl mt_all mt_X5_readGround q := cv_zip_ok ok_mm (by decide) okj_all ok_o1 ok_o2 (hs := hn_X5_readGround) (by decide +kernel) (by decide +kernel)
def hn_X5_readLaw_0 : List (List (Nat × Nat)) := [
  [], [(2, 129)], [(3, 218)], [], [(2, 129)], [], [], [(3, 227)], [], [], [], [(3, 214)],
  [], [], [], [(2, 129)], [(2, 79)], [], [], [], [], [], [], [],
  [], [], [(2, 131)], [], [(3, 231)], [], [], [], [(3, 214)], [], [], [],
  [(2, 129)], [(3, 218)], [], [(2, 131)], [(1, 153)], [], [], [(2, 130)], [], [(2, 131)], [(3, 235)], [],
  [], [], [], [], [(3, 214)], [], [], [(2, 131)], [(1, 159)], [], [], []]
set_option maxRecDepth 100000 in
theorem ok_X5_readLaw_0 : ∀ q ∈ op_X5_readLaw_0, cv_ok cv_T vwCl mt_all mt_X5_readLaw q := cv_zip_ok ok_mm (by decide) okj_all ok_o1 ok_o2 (hs := hn_X5_readLaw_0) (by decide +kernel) (by decide +kernel)
def hn_X5_readLaw_1 : List (List (Nat × Nat)) := [
  [], [(2, 131)], [(1, 162)], [], [], [(2, 131)], [(1, 153)], [], [], [(2, 131)], [(1, 165)], [],
  [], [(2, 130)], [(2, 108)], [], []]
set_option maxRecDepth 100000 in
theorem ok_X5_readLaw_1 : ∀ q ∈ op_X5_readLaw_1, cv_ok cv_T vwCl mt_all mt_X5_readLaw q := cv_zip_ok ok_mm (by decide) okj_all ok_o1 ok_o2 (hs := hn_X5_readLaw_1) (by decide +kernel) (by decide +kernel)
theorem ok_X5_readLaw : ∀ q ∈ op_X5_readLaw, cv_ok cv_T vwCl mt_all mt_X5_readLaw q := List.forall_mem_append.mpr ⟨ok_X5_readLaw_0, ok_X5_readLaw_1⟩
def hn_X5_readGate_0 : List (List (Nat × Nat)) := [
  [], [(2, 131)], [(1, 174)], [], [], [], [], [], [], [], [], [(3, 214)],
  [], [], [], [(2, 129)], [(3, 218)], [], [(2, 131)], [(1, 168)], [], [], [], [],
  [(2, 131)], [(1, 171)], [], [], [], [(2, 131)], [(1, 171)], [], [(4, 55)], [], [], [],
  [], [], [(3, 219)], [(1, 56)], [], [], [], [], [(3, 219)], [(4, 62)], [], [],
  [], [], [(3, 219)], [(1, 64)], [], [], [], [], [], [], [(2, 133)], []]
set_option maxRecDepth 100000 in
theorem ok_X5_readGate_0 : ∀ q ∈ op_X5_readGate_0, cv_ok cv_T vwCl mt_all mt_X5_readGate q := cv_zip_ok ok_mm (by decide) okj_all ok_o1 ok_o2 (hs := hn_X5_readGate_0) (by decide +kernel) (by decide +kernel)
def hn_X5_readGate_1 : List (List (Nat × Nat)) := [
  [], [(2, 129)], [], [], [(3, 227)], [], [], [], [(4, 63)], [], [], [],
  [(2, 131)], [], [], [], [(1, 174)], []]
set_option maxRecDepth 100000 in
theorem ok_X5_readGate_1 : ∀ q ∈ op_X5_readGate_1, cv_ok cv_T vwCl mt_all mt_X5_readGate q := cv_zip_ok ok_mm (by decide) okj_all ok_o1 ok_o2 (hs := hn_X5_readGate_1) (by decide +kernel) (by decide +kernel)
theorem ok_X5_readGate : ∀ q ∈ op_X5_readGate, cv_ok cv_T vwCl mt_all mt_X5_readGate q := List.forall_mem_append.mpr ⟨ok_X5_readGate_0, ok_X5_readGate_1⟩
def hn_X5_readPart_0 : List (List (Nat × Nat)) := [
  [], [(2, 129)], [(2, 79)], [], [], [], [], [], [(1, 102)], [], [], [],
  [], [], [], [], [(3, 214)], [], [], [], [], [(1, 102)], [], [],
  [], [], [(1, 102)], [], [(2, 129)], [(3, 218)], [], [], [], [], [], [],
  [(1, 60)], [(3, 219)], [(1, 67)], [], [], [], [(1, 67)], [], [], [], [(1, 60)], [(3, 219)],
  [(1, 69)], [], [], [], [], [(3, 219)], [(1, 72)], [], [], [], [], [(3, 219)]]
set_option maxRecDepth 100000 in
theorem ok_X5_readPart_0 : ∀ q ∈ op_X5_readPart_0, cv_ok cv_T vwCl mt_all mt_X5_readPart q := cv_zip_ok ok_mm (by decide) okj_all ok_o1 ok_o2 (hs := hn_X5_readPart_0) (by decide +kernel) (by decide +kernel)
def hn_X5_readPart_1 : List (List (Nat × Nat)) := [
  [(1, 75)], [], [], [], [], [], [(3, 219)], [(1, 78)], [], [], [], [],
  [(3, 219)], [(1, 81)], [], [], [], [(4, 67)], [], [], [], [], [], [(3, 219)],
  [(1, 88)], [], [], [], [], [(3, 219)], [(1, 91)], [], [], [], [], [],
  [(3, 219)], [(1, 94)], [], [], [], [], [], [(3, 219)], [(1, 96)], [], [], [],
  [], [], [(1, 104)], [], [], [], [(1, 104)], [], [], [], [], [(3, 219)]]
set_option maxRecDepth 100000 in
theorem ok_X5_readPart_1 : ∀ q ∈ op_X5_readPart_1, cv_ok cv_T vwCl mt_all mt_X5_readPart q := cv_zip_ok ok_mm (by decide) okj_all ok_o1 ok_o2 (hs := hn_X5_readPart_1) (by decide +kernel) (by decide +kernel)
def hn_X5_readPart_2 : List (List (Nat × Nat)) := [
  [], [], [], [], [], [], [(4, 71)], []]
set_option maxRecDepth 100000 in
theorem ok_X5_readPart_2 : ∀ q ∈ op_X5_readPart_2, cv_ok cv_T vwCl mt_all mt_X5_readPart q := cv_zip_ok ok_mm (by decide) okj_all ok_o1 ok_o2 (hs := hn_X5_readPart_2) (by decide +kernel) (by decide +kernel)
theorem ok_X5_readPart : ∀ q ∈ op_X5_readPart, cv_ok cv_T vwCl mt_all mt_X5_readPart q := List.forall_mem_append.mpr ⟨ok_X5_readPart_0, List.forall_mem_append.mpr ⟨ok_X5_readPart_1, ok_X5_readPart_2⟩⟩
def hn_X5_readBrace : List (List (Nat × Nat)) := [
  [], [(2, 129)], [], [], [(3, 227)], [], [], [], [(3, 214)], [], [], [],
  [], [(2, 129)], [(2, 79)], [], [], [], [], [], [(1, 85)], [], [(2, 129)], [(3, 218)],
  []]
set_option maxRecDepth 100000 in
theorem ok_X5_readBrace : ∀ q ∈ op_X5_readBrace, cv_ok cv_T vwCl mt_all mt_X5_readBrace q := cv_zip_ok ok_mm (by decide) okj_all ok_o1 ok_o2 (hs := hn_X5_readBrace) (by decide +kernel) (by decide +kernel)
def hn_X5_readHas : List (List (Nat × Nat)) := [
  [], [(2, 129)], [(2, 74)], [], [], [], [], [(3, 214)], [], [], [], [(2, 129)],
  [(2, 79)], [], [(2, 131)], [(1, 194)], [], [(2, 131)], [(1, 204)], [], [], [], [], [],
  [], [], [(3, 214)], [], [], [], [(1, 100)], [], [], [], [], [],
  [], [], [(3, 214)], [], [], [], [], [(1, 100)], [], [], [], [],
  [(1, 100)], [], [(2, 129)], [(3, 218)], []]
set_option maxRecDepth 100000 in
theorem ok_X5_readHas : ∀ q ∈ op_X5_readHas, cv_ok cv_T vwCl mt_all mt_X5_readHas q := cv_zip_ok ok_mm (by decide) okj_all ok_o1 ok_o2 (hs := hn_X5_readHas) (by decide +kernel) (by decide +kernel)
def hn_X5_readWork_0 : List (List (Nat × Nat)) := [
  [], [(2, 131)], [(1, 191)], [], [], [], [], [], [], [], [], [(3, 214)],
  [], [], [], [(2, 129)], [(3, 218)], [], [(2, 131)], [(1, 177)], [], [], [], [(2, 131)],
  [(1, 177)], [], [(4, 55)], [], [], [(2, 131)], [(1, 179)], [], [], [], [], [(3, 219)],
  [], [], [(2, 133)], [], [], [(2, 129)], [(2, 74)], [], [], [], [(2, 129)], [(2, 79)],
  [(4, 79)], [], [], [], [], [], [], [], [], [(3, 214)], [], []]
set_option maxRecDepth 100000 in
theorem ok_X5_readWork_0 : ∀ q ∈ op_X5_readWork_0, cv_ok cv_T vwCl mt_all mt_X5_readWork q := cv_zip_ok ok_mm (by decide) okj_all ok_o1 ok_o2 (hs := hn_X5_readWork_0) (by decide +kernel) (by decide +kernel)
def hn_X5_readWork_1 : List (List (Nat × Nat)) := [
  [], [(2, 129)], [(3, 218)], [], [(4, 82)], [], [], [(2, 131)], [(1, 183)], [], [], [],
  [], [(2, 131)], [(1, 187)], [], [], [], [], [], [], [(3, 219)], [], [],
  [], [], [(2, 131)], [], [], [], [(1, 191)], []]
set_option maxRecDepth 100000 in
theorem ok_X5_readWork_1 : ∀ q ∈ op_X5_readWork_1, cv_ok cv_T vwCl mt_all mt_X5_readWork q := cv_zip_ok ok_mm (by decide) okj_all ok_o1 ok_o2 (hs := hn_X5_readWork_1) (by decide +kernel) (by decide +kernel)
theorem ok_X5_readWork : ∀ q ∈ op_X5_readWork, cv_ok cv_T vwCl mt_all mt_X5_readWork q := List.forall_mem_append.mpr ⟨ok_X5_readWork_0, ok_X5_readWork_1⟩
def hn_X5_kindOf : List (List (Nat × Nat)) := [
  [], [], [], [], [], [], [], [], [], [], [], [],
  [], [], [], [], [], []]
set_option maxRecDepth 100000 in
theorem ok_X5_kindOf : ∀ q ∈ op_X5_kindOf, cv_ok cv_T vwCl mt_all mt_X5_kindOf q := cv_zip_ok ok_mm (by decide) okj_all ok_o1 ok_o2 (hs := hn_X5_kindOf) (by decide +kernel) (by decide +kernel)
def hn_X5_mostOf : List (List (Nat × Nat)) := [
  [], [], [], [], [], [], [], [], [], [], [], []]
set_option maxRecDepth 100000 in
theorem ok_X5_mostOf : ∀ q ∈ op_X5_mostOf, cv_ok cv_T vwCl mt_all mt_X5_mostOf q := cv_zip_ok ok_mm (by decide) okj_all ok_o1 ok_o2 (hs := hn_X5_mostOf) (by decide +kernel) (by decide +kernel)
def hn_X5_readCause_0 : List (List (Nat × Nat)) := [
  [], [(2, 131)], [(1, 204)], [], [], [], [], [], [], [], [], [(3, 214)],
  [], [], [], [(2, 129)], [(3, 218)], [], [(2, 131)], [(1, 194)], [], [], [], [(2, 131)],
  [(1, 194)], [], [(4, 55)], [], [], [(2, 131)], [(1, 196)], [], [], [], [], [(3, 219)],
  [], [], [(2, 133)], [], [], [(2, 129)], [], [], [(3, 227)], [], [], [],
  [(3, 214)], [], [], [], [(2, 131)], [(1, 198)], [], [], [(2, 129)], [(2, 79)], [], []]
set_option maxRecDepth 100000 in
theorem ok_X5_readCause_0 : ∀ q ∈ op_X5_readCause_0, cv_ok cv_T vwCl mt_all mt_X5_readCause q := cv_zip_ok ok_mm (by decide) okj_all ok_o1 ok_o2 (hs := hn_X5_readCause_0) (by decide +kernel) (by decide +kernel)
def hn_X5_readCause_1 : List (List (Nat × Nat)) := [
  [], [], [(2, 129)], [(3, 218)], [], [(2, 131)], [(1, 200)], [], [], [], [], [(3, 219)],
  [], [], [(2, 131)], [], [], [], [(1, 204)], []]
set_option maxRecDepth 100000 in
theorem ok_X5_readCause_1 : ∀ q ∈ op_X5_readCause_1, cv_ok cv_T vwCl mt_all mt_X5_readCause q := cv_zip_ok ok_mm (by decide) okj_all ok_o1 ok_o2 (hs := hn_X5_readCause_1) (by decide +kernel) (by decide +kernel)
theorem ok_X5_readCause : ∀ q ∈ op_X5_readCause, cv_ok cv_T vwCl mt_all mt_X5_readCause q := List.forall_mem_append.mpr ⟨ok_X5_readCause_0, ok_X5_readCause_1⟩
def hn_X6_init : List (List (Nat × Nat)) := [
  [], [(2, 17)], [], [], [(1, 142)], [(2, 71)], [], [], [(2, 70)], [], [], [],
  [], [], [], [], [], [(2, 19)], [], [], [], [], [], [],
  [(2, 29)], [], [], [], [], [], [], [], [], [], [(2, 71)], [],
  [], [], [], [], [(2, 67)], [], [], [], [], [], []]
set_option maxRecDepth 100000 in
theorem ok_X6_init : ∀ q ∈ op_X6_init, cv_ok cv_T vwCl mt_all mt_X6_init q := cv_zip_ok ok_mm (by decide) okj_all ok_o1 ok_o2 (hs := hn_X6_init) (by decide +kernel) (by decide +kernel)
def hn_X6_letterBits : List (List (Nat × Nat)) := [
  [], [], [], [], [], [], [], [], [], [], [], [],
  [], [], [], [], []]
set_option maxRecDepth 100000 in
theorem ok_X6_letterBits : ∀ q ∈ op_X6_letterBits, cv_ok cv_T vwCl mt_all mt_X6_letterBits q := cv_zip_ok ok_mm (by decide) okj_all ok_o1 ok_o2 (hs := hn_X6_letterBits) (by decide +kernel) (by decide +kernel)
def hn_X6_begin : List (List (Nat × Nat)) := [
  [], [], [], [], [(2, 70)], [], [(3, 183)], [(3, 186)], [(2, 72)], [], [], [(2, 73)],
  [], [(3, 189)], []]
set_option maxRecDepth 100000 in
theorem ok_X6_begin : ∀ q ∈ op_X6_begin, cv_ok cv_T vwCl mt_all mt_X6_begin q := cv_zip_ok ok_mm (by decide) okj_all ok_o1 ok_o2 (hs := hn_X6_begin) (by decide +kernel) (by decide +kernel)
def hn_X6_step_0 : List (List (Nat × Nat)) := [
  [], [(2, 73)], [], [(2, 72)], [], [], [(2, 70)], [], [(2, 73)], [], [], [],
  [], [(2, 70)], [], [(2, 73)], [], [], [], [], [], [(2, 73)], [], [],
  [(2, 73)], [], [], [], [(2, 73)], [(2, 78)], [], [], [(2, 80)], [], [(2, 73)], [],
  [(2, 72)], [], [], [], [(2, 76)], [], [], [(2, 70)], [], [(2, 73)], [], [],
  [], [], [(2, 70)], [], [(2, 73)], [], [], [], [], [(3, 193)], [], []]
set_option maxRecDepth 100000 in
theorem ok_X6_step_0 : ∀ q ∈ op_X6_step_0, cv_ok cv_T vwCl mt_all mt_X6_step q := cv_zip_ok ok_mm (by decide) okj_all ok_o1 ok_o2 (hs := hn_X6_step_0) (by decide +kernel) (by decide +kernel)
def hn_X6_step_1 : List (List (Nat × Nat)) := [
  [(2, 70)], [], [(2, 73)], [], [], [], [], [(2, 70)], [], [(2, 73)], [], [],
  [], [], [(3, 197)], [], [], [], [(2, 70)], [], [(2, 73)], [], [(3, 202)], []]
set_option maxRecDepth 100000 in
theorem ok_X6_step_1 : ∀ q ∈ op_X6_step_1, cv_ok cv_T vwCl mt_all mt_X6_step q := cv_zip_ok ok_mm (by decide) okj_all ok_o1 ok_o2 (hs := hn_X6_step_1) (by decide +kernel) (by decide +kernel)
theorem ok_X6_step : ∀ q ∈ op_X6_step, cv_ok cv_T vwCl mt_all mt_X6_step q := List.forall_mem_append.mpr ⟨ok_X6_step_0, ok_X6_step_1⟩
def hn_X6_readLetters_0 : List (List (Nat × Nat)) := [
  [], [], [], [(2, 73)], [], [(2, 72)], [], [], [(2, 70)], [], [(2, 73)], [],
  [], [], [], [(2, 70)], [], [(2, 73)], [], [], [], [], [], [(2, 80)],
  [], [(2, 70)], [], [(2, 73)], [], [], [(2, 67)], [], [(2, 80)], [], [], [],
  [(2, 73)], [], [], [(2, 73)], [], [], [], [], [], [], [], [],
  [(2, 76)], [], [], [], [], [], [], [(2, 76)], [], [], [], [(2, 71)]]
set_option maxRecDepth 100000 in
theorem ok_X6_readLetters_0 : ∀ q ∈ op_X6_readLetters_0, cv_ok cv_T vwCl mt_all mt_X6_readLetters q := cv_zip_ok ok_mm (by decide) okj_all ok_o1 ok_o2 (hs := hn_X6_readLetters_0) (by decide +kernel) (by decide +kernel)
def hn_X6_readLetters_1 : List (List (Nat × Nat)) := [
  [], [], [], [(2, 80)], [], [], [], [(2, 76)], [], [], [(2, 80)], [],
  [], []]
set_option maxRecDepth 100000 in
theorem ok_X6_readLetters_1 : ∀ q ∈ op_X6_readLetters_1, cv_ok cv_T vwCl mt_all mt_X6_readLetters q := cv_zip_ok ok_mm (by decide) okj_all ok_o1 ok_o2 (hs := hn_X6_readLetters_1) (by decide +kernel) (by decide +kernel)
theorem ok_X6_readLetters : ∀ q ∈ op_X6_readLetters, cv_ok cv_T vwCl mt_all mt_X6_readLetters q := List.forall_mem_append.mpr ⟨ok_X6_readLetters_0, ok_X6_readLetters_1⟩
