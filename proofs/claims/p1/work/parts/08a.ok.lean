/-! ===== the rows of the methods ===== -/
def hn_X0_init : List (List (Nat × Nat)) := [
  [], [(2, 102)], [], [], [(1, 142)], [(2, 104)], [], [], [(2, 103)], [], [], [(2, 111)],
  []]
set_option maxRecDepth 100000 in
theorem ok_X0_init : ∀ q ∈ op_X0_init, av_ok av_T vwCl mt_all mt_X0_init q := av_zip_ok ok_mm (by decide) okj_all ok_o1 ok_o2 (hs := hn_X0_init) (by decide +kernel) (by decide +kernel)
def hn_X1_init : List (List (Nat × Nat)) := [
  [], [(2, 189)], [], [], [(2, 190)], []]
set_option maxRecDepth 100000 in
theorem ok_X1_init : ∀ q ∈ op_X1_init, av_ok av_T vwCl mt_all mt_X1_init q := av_zip_ok ok_mm (by decide) okj_all ok_o1 ok_o2 (hs := hn_X1_init) (by decide +kernel) (by decide +kernel)
def hn_X1_begin : List (List (Nat × Nat)) := [
  [], [], [], [], [(1, 167)], [], [], [], [], [(1, 167)], [], [],
  [(2, 190)], [], [], [(2, 193)], [], [], [(2, 195)], [], [], [(2, 197)], [], [],
  [(2, 199)], [], [], [(2, 190)], [(1, 77)], [(2, 201)], [], [], [(2, 190)], [(1, 84)], [(2, 204)], [],
  [], [(2, 207)], [], [], [(2, 208)], [], [], [(2, 190)], [(1, 93)], [(2, 210)], [], [],
  [(2, 213)], [], [], [(2, 190)], [(1, 71)], [(2, 220)], [], [], [(2, 190)], [(1, 74)], [(2, 222)], [],
  [], [], [(2, 190)], [(1, 99)], [(4, 105)], []]
set_option maxRecDepth 100000 in
theorem ok_X1_begin : ∀ q ∈ op_X1_begin, av_ok av_T vwCl mt_all mt_X1_begin q := av_zip_ok ok_mm (by decide) okj_all ok_o1 ok_o2 (hs := hn_X1_begin) (by decide +kernel) (by decide +kernel)
def hn_X1_setCauses : List (List (Nat × Nat)) := [
  [], [], [(2, 215)], [], [], [], [], [(4, 109)], [(2, 217)], [], [], [],
  [], [(4, 109)], [(2, 218)], [], [], [], [], [(4, 109)], [(2, 219)], []]
set_option maxRecDepth 100000 in
theorem ok_X1_setCauses : ∀ q ∈ op_X1_setCauses, av_ok av_T vwCl mt_all mt_X1_setCauses q := av_zip_ok ok_mm (by decide) okj_all ok_o1 ok_o2 (hs := hn_X1_setCauses) (by decide +kernel) (by decide +kernel)
def hn_X1_copy : List (List (Nat × Nat)) := [
  [], [], [(2, 190)], [(2, 190)], [], [], [(2, 193)], [(2, 193)], [], [], [(2, 195)], [(2, 195)],
  [], [], [(2, 197)], [(2, 197)], [], [], [(2, 199)], [(2, 199)], [], [], [(2, 201)], [(2, 201)],
  [], [], [(2, 204)], [(2, 204)], [], [], [(2, 207)], [(2, 207)], [], [], [(2, 208)], [(2, 208)],
  [], [], [(2, 210)], [(2, 210)], [], [], [(2, 213)], [(2, 213)], [], [], [(2, 215)], [(2, 215)],
  [], [], [(2, 217)], [(2, 217)], [], [], [(2, 218)], [(2, 218)], [], [], [(2, 219)], [(2, 219)],
  [], [], [(2, 220)], [(2, 220)], [], [], [(2, 222)], [(2, 222)], []]
set_option maxRecDepth 100000 in
theorem ok_X1_copy : ∀ q ∈ op_X1_copy, av_ok av_T vwCl mt_all mt_X1_copy q := av_zip_ok ok_mm (by decide) okj_all ok_o1 ok_o2 (hs := hn_X1_copy) (by decide +kernel) (by decide +kernel)
def hn_X2_init : List (List (Nat × Nat)) := [
  [], [(2, 155)], [], [], [(2, 173)], [(2, 156)], [], [], [(2, 173)], [(2, 157)], [], [],
  [(1, 142)], [(2, 158)], [], [], [(2, 159)], []]
set_option maxRecDepth 100000 in
theorem ok_X2_init : ∀ q ∈ op_X2_init, av_ok av_T vwCl mt_all mt_X2_init q := av_zip_ok ok_mm (by decide) okj_all ok_o1 ok_o2 (hs := hn_X2_init) (by decide +kernel) (by decide +kernel)
def hn_X2_forget : List (List (Nat × Nat)) := [
  [], [], [(2, 159)], [], [], [], [], [], [], [(2, 158)], [], [],
  [], [], [], []]
set_option maxRecDepth 100000 in
theorem ok_X2_forget : ∀ q ∈ op_X2_forget, av_ok av_T vwCl mt_all mt_X2_forget q := av_zip_ok ok_mm (by decide) okj_all ok_o1 ok_o2 (hs := hn_X2_forget) (by decide +kernel) (by decide +kernel)
def hn_X3_init : List (List (Nat × Nat)) := [
  [], [(3, 35)], [], [], [(1, 142)], [(3, 36)], [], [], [(1, 142)], [(3, 37)], [], [],
  [(1, 142)], [(3, 38)], [], [], [(1, 142)], [(3, 39)], [], [], [(1, 142)], [(3, 40)], [], [],
  [(1, 142)], [(3, 41)], [], [], [(3, 72)], [(3, 42)], [], [], [(1, 142)], [(3, 43)], [], [],
  [(3, 47)], []]
set_option maxRecDepth 100000 in
theorem ok_X3_init : ∀ q ∈ op_X3_init, av_ok av_T vwCl mt_all mt_X3_init q := av_zip_ok ok_mm (by decide) okj_all ok_o1 ok_o2 (hs := hn_X3_init) (by decide +kernel) (by decide +kernel)
def hn_X3_clear : List (List (Nat × Nat)) := [
  [], [], [(3, 45)], [], [], [(3, 47)], []]
set_option maxRecDepth 100000 in
theorem ok_X3_clear : ∀ q ∈ op_X3_clear, av_ok av_T vwCl mt_all mt_X3_clear q := av_zip_ok ok_mm (by decide) okj_all ok_o1 ok_o2 (hs := hn_X3_clear) (by decide +kernel) (by decide +kernel)
def hn_X3_knownCount : List (List (Nat × Nat)) := [
  [], [(3, 47)], [], [], [], [(3, 45)], [], []]
set_option maxRecDepth 100000 in
theorem ok_X3_knownCount : ∀ q ∈ op_X3_knownCount, av_ok av_T vwCl mt_all mt_X3_knownCount q := av_zip_ok ok_mm (by decide) okj_all ok_o1 ok_o2 (hs := hn_X3_knownCount) (by decide +kernel) (by decide +kernel)
def hn_X4_init : List (List (Nat × Nat)) := [
  [], [(1, 38)], [], [], [(1, 142)], [(1, 148)], [], [], [(1, 142)], [(1, 150)], [], [],
  [(1, 142)], [(1, 157)], [], [], [(1, 142)], [(1, 160)], [], [], [(1, 142)], [(1, 163)], [], [],
  [(1, 39), (1, 40)], [(1, 166)], [], [], [(1, 142)], [(1, 169)], [], [], [(1, 142)], [(1, 175)], [], [],
  [(1, 142)], [(1, 178)], [], [], [(1, 142)], [(1, 181)], [], [], [(1, 142)], [(1, 185)], [], [],
  [(1, 142)], [(1, 192)], [], [], [(1, 142)], [(1, 195)], [], [], [(1, 142)], [(1, 197)], [], [],
  [(1, 142)], [(1, 199)], [], [], [], [], [], [], [(1, 166)], [], [(1, 39), (1, 41), (1, 3)], [],
  [(1, 42)], [], [], [], [], [(1, 143)], []]
set_option maxRecDepth 100000 in
theorem ok_X4_init : ∀ q ∈ op_X4_init, av_ok av_T vwCl mt_all mt_X4_init q := av_zip_ok ok_mm (by decide) okj_all ok_o1 ok_o2 (hs := hn_X4_init) (by decide +kernel) (by decide +kernel)
def hn_X4_clear : List (List (Nat × Nat)) := [
  [], [], [], [], [], [], [(1, 148)], [], [], [], [], [],
  [], [], [], [], [], [], [(1, 157)], [], [], [], [], [(1, 160)],
  [], [], [], [], [(1, 163)], [], [], [], [], [], [], [],
  [], [], [], [], [(1, 166)], [], [], [(1, 147)], [], [], [], [],
  [(1, 152)], [], [], [(1, 154)], [], [], [(1, 172)], [], [], [(1, 189)], [], [],
  [(1, 202)], []]
set_option maxRecDepth 100000 in
theorem ok_X4_clear : ∀ q ∈ op_X4_clear, av_ok av_T vwCl mt_all mt_X4_clear q := av_zip_ok ok_mm (by decide) okj_all ok_o1 ok_o2 (hs := hn_X4_clear) (by decide +kernel) (by decide +kernel)
def hn_X4_isWork : List (List (Nat × Nat)) := [
  [], [], [], [], [(1, 189)], [], [], []]
set_option maxRecDepth 100000 in
theorem ok_X4_isWork : ∀ q ∈ op_X4_isWork, av_ok av_T vwCl mt_all mt_X4_isWork q := av_zip_ok ok_mm (by decide) okj_all ok_o1 ok_o2 (hs := hn_X4_isWork) (by decide +kernel) (by decide +kernel)
def hn_X4_firmIn : List (List (Nat × Nat)) := [
  [], [], [], [(1, 148)], [], [], [], [], [], [], [], [],
  []]
set_option maxRecDepth 100000 in
theorem ok_X4_firmIn : ∀ q ∈ op_X4_firmIn, av_ok av_T vwCl mt_all mt_X4_firmIn q := av_zip_ok ok_mm (by decide) okj_all ok_o1 ok_o2 (hs := hn_X4_firmIn) (by decide +kernel) (by decide +kernel)
def hn_X4_moreBy : List (List (Nat × Nat)) := [
  [], [], [], [], [], [], [(1, 202)], [], [], []]
set_option maxRecDepth 100000 in
theorem ok_X4_moreBy : ∀ q ∈ op_X4_moreBy, av_ok av_T vwCl mt_all mt_X4_moreBy q := av_zip_ok ok_mm (by decide) okj_all ok_o1 ok_o2 (hs := hn_X4_moreBy) (by decide +kernel) (by decide +kernel)
def hn_X5_init : List (List (Nat × Nat)) := [
  [], [(2, 11)], [], [], [(2, 135)], [], [(2, 12), (2, 13), (1, 5)], [], [], [(2, 14)], [(2, 129)], [],
  [(2, 97), (2, 98), (1, 10)], [], [], [(2, 129)], [], [(2, 99)], [(2, 130)], [], [], [(2, 131)], []]
set_option maxRecDepth 100000 in
theorem ok_X5_init : ∀ q ∈ op_X5_init, av_ok av_T vwCl mt_all mt_X5_init q := av_zip_ok ok_mm (by decide) okj_all ok_o1 ok_o2 (hs := hn_X5_init) (by decide +kernel) (by decide +kernel)
def hn_X5_readText : List (List (Nat × Nat)) := [
  [], [], [(2, 131)], [], [(2, 131)], [(3, 178)], [], [], [(2, 132)], [], [], [(2, 133)],
  [], [], [(2, 135)], [], [(2, 129)], [], [(3, 179)], [], [], [], [], [],
  [], [(2, 129)], [(2, 74)], [], [], []]
set_option maxRecDepth 100000 in
theorem ok_X5_readText : ∀ q ∈ op_X5_readText, av_ok av_T vwCl mt_all mt_X5_readText q := av_zip_ok ok_mm (by decide) okj_all ok_o1 ok_o2 (hs := hn_X5_readText) (by decide +kernel) (by decide +kernel)
def hn_X6_init : List (List (Nat × Nat)) := [
  [], [(2, 17)], [], [], [(1, 142)], [(2, 71)], [], [], [(2, 70)], [], [], [],
  [], [], [], [], [], [(2, 19)], [], [], [], [], [], [],
  [(2, 29)], [], [], [], [], [], [], [], [], [], [(2, 71)], [],
  [], [], [], [], [(2, 67)], [], [], [], [], [], []]
set_option maxRecDepth 100000 in
theorem ok_X6_init : ∀ q ∈ op_X6_init, av_ok av_T vwCl mt_all mt_X6_init q := av_zip_ok ok_mm (by decide) okj_all ok_o1 ok_o2 (hs := hn_X6_init) (by decide +kernel) (by decide +kernel)
def hn_X6_letterBits : List (List (Nat × Nat)) := [
  [], [], [], [], [], [], [], [], [], [], [], [],
  [], [], [], []]
set_option maxRecDepth 100000 in
theorem ok_X6_letterBits : ∀ q ∈ op_X6_letterBits, av_ok av_T vwCl mt_all mt_X6_letterBits q := av_zip_ok ok_mm (by decide) okj_all ok_o1 ok_o2 (hs := hn_X6_letterBits) (by decide +kernel) (by decide +kernel)
def hn_X6_begin : List (List (Nat × Nat)) := [
  [], [], [], [], [(2, 70)], [], [(3, 183)], [(3, 186)], [(2, 72)], [], [], [(2, 73)],
  [], [(3, 189)], []]
set_option maxRecDepth 100000 in
theorem ok_X6_begin : ∀ q ∈ op_X6_begin, av_ok av_T vwCl mt_all mt_X6_begin q := av_zip_ok ok_mm (by decide) okj_all ok_o1 ok_o2 (hs := hn_X6_begin) (by decide +kernel) (by decide +kernel)
def hn_X6_step : List (List (Nat × Nat)) := [
  [], [(2, 73)], [], [(2, 72)], [], [], [], [(2, 73)], [(2, 78)], [], [], [(2, 80)],
  [], [(2, 73)], [], [(2, 72)], [], [], [], [(2, 76)], [], []]
set_option maxRecDepth 100000 in
theorem ok_X6_step : ∀ q ∈ op_X6_step, av_ok av_T vwCl mt_all mt_X6_step q := av_zip_ok ok_mm (by decide) okj_all ok_o1 ok_o2 (hs := hn_X6_step) (by decide +kernel) (by decide +kernel)
def hn_X7_init : List (List (Nat × Nat)) := [
  [], [(1, 45)], [], [], [(1, 142)], [(1, 103)], [], [(1, 46)], []]
set_option maxRecDepth 100000 in
theorem ok_X7_init : ∀ q ∈ op_X7_init, av_ok av_T vwCl mt_all mt_X7_init q := av_zip_ok ok_mm (by decide) okj_all ok_o1 ok_o2 (hs := hn_X7_init) (by decide +kernel) (by decide +kernel)
def hn_X7_clear : List (List (Nat × Nat)) := [
  [], [], [(1, 54)], [], [], [(1, 62)], [], [], [(1, 50)], [], [], [(1, 70)],
  [], [], [(1, 73)], [], [], [(1, 76)], [], [], [(1, 79)], [], [], [(1, 83)],
  [], [], [(1, 86)], [], [], [(1, 89)], [], [], [(1, 92)], [], [], [(1, 95)],
  [], [], [(1, 98)], [], [], [(1, 101)], [], [], [], [], [(1, 103)], [],
  [], [], [(1, 103)], [], [], [], [], [], []]
set_option maxRecDepth 100000 in
theorem ok_X7_clear : ∀ q ∈ op_X7_clear, av_ok av_T vwCl mt_all mt_X7_clear q := av_zip_ok ok_mm (by decide) okj_all ok_o1 ok_o2 (hs := hn_X7_clear) (by decide +kernel) (by decide +kernel)
def hn_X7_setHeight : List (List (Nat × Nat)) := [
  [], [], [(1, 58)], [], [], [(1, 66)], [], [], [], [], [(1, 68)], []]
set_option maxRecDepth 100000 in
theorem ok_X7_setHeight : ∀ q ∈ op_X7_setHeight, av_ok av_T vwCl mt_all mt_X7_setHeight q := av_zip_ok ok_mm (by decide) okj_all ok_o1 ok_o2 (hs := hn_X7_setHeight) (by decide +kernel) (by decide +kernel)
def hn_X8_init : List (List (Nat × Nat)) := [
  [], [(3, 78)], [], [], [(1, 142)], [(3, 81)], [], [(3, 79), (2, 185), (1, 13)], [], [], [(3, 80)], [(3, 82)],
  []]
set_option maxRecDepth 100000 in
theorem ok_X8_init : ∀ q ∈ op_X8_init, av_ok av_T vwCl mt_all mt_X8_init q := av_zip_ok ok_mm (by decide) okj_all ok_o1 ok_o2 (hs := hn_X8_init) (by decide +kernel) (by decide +kernel)
def hn_X9_init : List (List (Nat × Nat)) := [
  [], [(3, 98)], [], [], [(1, 142)], [(3, 99)], [], [], [(1, 142)], [(3, 100)], [], [],
  [(1, 142)], [(3, 101)], []]
set_option maxRecDepth 100000 in
theorem ok_X9_init : ∀ q ∈ op_X9_init, av_ok av_T vwCl mt_all mt_X9_init q := av_zip_ok ok_mm (by decide) okj_all ok_o1 ok_o2 (hs := hn_X9_init) (by decide +kernel) (by decide +kernel)
def hn_X10_init : List (List (Nat × Nat)) := [
  [], [(2, 183)], [], [], [(2, 184), (2, 177)], [(3, 19)], [], [], [(1, 142)], [(3, 20)], [], [],
  [], [], [], [], [(3, 19)], [], [(2, 184), (2, 185), (1, 13)], [], [], [(2, 186)], [], [],
  [], []]
set_option maxRecDepth 100000 in
theorem ok_X10_init : ∀ q ∈ op_X10_init, av_ok av_T vwCl mt_all mt_X10_init q := av_zip_ok ok_mm (by decide) okj_all ok_o1 ok_o2 (hs := hn_X10_init) (by decide +kernel) (by decide +kernel)
def hn_X10_clear : List (List (Nat × Nat)) := [
  [], [], [(3, 21)], []]
set_option maxRecDepth 100000 in
theorem ok_X10_clear : ∀ q ∈ op_X10_clear, av_ok av_T vwCl mt_all mt_X10_clear q := av_zip_ok ok_mm (by decide) okj_all ok_o1 ok_o2 (hs := hn_X10_clear) (by decide +kernel) (by decide +kernel)
def hn_X11_init : List (List (Nat × Nat)) := [
  [], [(1, 30)], [], [], [(1, 141)], [(3, 113)], [], [(1, 33), (1, 34), (1, 2)], [], [(1, 35)], [(3, 115)], [],
  [(1, 33), (1, 34), (1, 2)], [], [(1, 35)], [(3, 116)], [], [(2, 6), (2, 7), (1, 4)], [], [], [(3, 113)], [], [(3, 116)], [(2, 8)],
  [(3, 117)], [], [(2, 150), (2, 151), (1, 11)], [], [(2, 152)], [(3, 118)], [], [(2, 174), (1, 41), (1, 3)], [], [(2, 175)], [(3, 119)], [],
  [], [(2, 176), (2, 177)], [(3, 120)], [], [], [(2, 176), (2, 177)], [(3, 122)], [], [], [(3, 123)], [], [(2, 178), (2, 179), (1, 12)],
  [], [], [(3, 119)], [(2, 180)], [(3, 124)], [], [(3, 30), (3, 31), (1, 14)], [], [(3, 32)], [(3, 125)], [], [(3, 73), (3, 74), (1, 15)],
  [], [], [(3, 119)], [(3, 75)], [(3, 126)], [], [(2, 176), (2, 185), (1, 13)], [], [], [(3, 119)], [(3, 92)], [(3, 127)],
  [], [(3, 93), (3, 94), (1, 16)], [], [(3, 95)], [(3, 128)], [], [], [], [], [], [], [(3, 120)],
  [], [(2, 176), (2, 185), (1, 13)], [], [], [(3, 119)], [(3, 92)], [], [], [(3, 122)], [], [(2, 176), (2, 185), (1, 13)], [],
  [], [(3, 119)], [(3, 92)], [], [], [], []]
set_option maxRecDepth 100000 in
theorem ok_X11_init : ∀ q ∈ op_X11_init, av_ok av_T vwCl mt_all mt_X11_init q := av_zip_ok ok_mm (by decide) okj_all ok_o1 ok_o2 (hs := hn_X11_init) (by decide +kernel) (by decide +kernel)
def hn_X11_feed : List (List (Nat × Nat)) := [
  [], [(3, 114)], [], [], [], [], [(3, 166)], [], [], [(3, 166)], [], [],
  [(3, 166)], [], [], [(3, 166)], [], [], [(3, 166)], [], [(3, 114)], []]
set_option maxRecDepth 100000 in
theorem ok_X11_feed : ∀ q ∈ op_X11_feed, av_ok av_T vwCl mt_all mt_X11_feed q := av_zip_ok ok_mm (by decide) okj_all ok_o1 ok_o2 (hs := hn_X11_feed) (by decide +kernel) (by decide +kernel)
def hn_X11_putOnTape : List (List (Nat × Nat)) := [
  [], [], [], [], [], [(3, 114)], [], [], [(3, 114)], [], [(3, 113)], [],
  [], [], [(3, 113)], [], [(3, 114)], [], [], [], [], [], [], [],
  [(3, 114)], [], [], [(3, 114)], [], [], []]
set_option maxRecDepth 100000 in
theorem ok_X11_putOnTape : ∀ q ∈ op_X11_putOnTape, av_ok av_T vwCl mt_all mt_X11_putOnTape q := av_zip_ok ok_mm (by decide) okj_all ok_o1 ok_o2 (hs := hn_X11_putOnTape) (by decide +kernel) (by decide +kernel)
def hn_X11_text : List (List (Nat × Nat)) := [
  [], [], [], [], [(3, 114)], [], [], [], [], [], [(3, 114)], [],
  [(3, 117)], [], [(3, 116)], [], [(3, 174)], [], [], [], [], [], [(4, 93)], [],
  []]
set_option maxRecDepth 100000 in
theorem ok_X11_text : ∀ q ∈ op_X11_text, av_ok av_T vwCl mt_all mt_X11_text q := av_zip_ok ok_mm (by decide) okj_all ok_o1 ok_o2 (hs := hn_X11_text) (by decide +kernel) (by decide +kernel)
def hn_X11_takeSpare : List (List (Nat × Nat)) := [
  [], [(3, 115)], [], [], [], [(3, 116)], [(3, 115)], [], [], [(3, 116)], [], [(3, 118)],
  [(4, 97)], [], [], [], [], [], [], [(3, 120)], [], [], [], [(3, 115)],
  [], [(4, 101)], [], [], [], [], [(3, 121)], [], [], [(3, 123)], [], [(3, 124)],
  [(4, 113)], [], [(3, 125)], [(4, 117)], []]
set_option maxRecDepth 100000 in
theorem ok_X11_takeSpare : ∀ q ∈ op_X11_takeSpare, av_ok av_T vwCl mt_all mt_X11_takeSpare q := av_zip_ok ok_mm (by decide) okj_all ok_o1 ok_o2 (hs := hn_X11_takeSpare) (by decide +kernel) (by decide +kernel)
def hn_X11_fault : List (List (Nat × Nat)) := [
  [], [], [], [(3, 117)], [(2, 134)], [], [], [], [], [], [(3, 117)], [(2, 136)],
  [], [], []]
set_option maxRecDepth 100000 in
theorem ok_X11_fault : ∀ q ∈ op_X11_fault, av_ok av_T vwCl mt_all mt_X11_fault q := av_zip_ok ok_mm (by decide) okj_all ok_o1 ok_o2 (hs := hn_X11_fault) (by decide +kernel) (by decide +kernel)
def hn_X11_named : List (List (Nat × Nat)) := [
  [], [], [], [], [(3, 115)], [(1, 170)], [], [(3, 115)], [(1, 173)], [(4, 129)], [], [],
  [], [], [], [], [(3, 115)], [(1, 176)], [], [(3, 115)], [(1, 190)], [(4, 129)], [], [],
  [], [], [], [], [(3, 115)], [(1, 193)], [], [(3, 115)], [(1, 203)], [(4, 129)], [], [],
  []]
set_option maxRecDepth 100000 in
theorem ok_X11_named : ∀ q ∈ op_X11_named, av_ok av_T vwCl mt_all mt_X11_named q := av_zip_ok ok_mm (by decide) okj_all ok_o1 ok_o2 (hs := hn_X11_named) (by decide +kernel) (by decide +kernel)
def hn_X11_placeOf : List (List (Nat × Nat)) := [
  [], [], [], [], [], [], []]
set_option maxRecDepth 100000 in
theorem ok_X11_placeOf : ∀ q ∈ op_X11_placeOf, av_ok av_T vwCl mt_all mt_X11_placeOf q := av_zip_ok ok_mm (by decide) okj_all ok_o1 ok_o2 (hs := hn_X11_placeOf) (by decide +kernel) (by decide +kernel)
def hn_X11_isGate : List (List (Nat × Nat)) := [
  [], [], [], [], [(3, 115)], [(1, 173)], [], [], []]
set_option maxRecDepth 100000 in
theorem ok_X11_isGate : ∀ q ∈ op_X11_isGate, av_ok av_T vwCl mt_all mt_X11_isGate q := av_zip_ok ok_mm (by decide) okj_all ok_o1 ok_o2 (hs := hn_X11_isGate) (by decide +kernel) (by decide +kernel)
def hn_X11_isAhead : List (List (Nat × Nat)) := [
  [], [], [], [], [], [], [], [], []]
set_option maxRecDepth 100000 in
theorem ok_X11_isAhead : ∀ q ∈ op_X11_isAhead, av_ok av_T vwCl mt_all mt_X11_isAhead q := av_zip_ok ok_mm (by decide) okj_all ok_o1 ok_o2 (hs := hn_X11_isAhead) (by decide +kernel) (by decide +kernel)
def hn_X11_isWeek : List (List (Nat × Nat)) := [
  [], [], [], [], [], [], [], [], []]
set_option maxRecDepth 100000 in
theorem ok_X11_isWeek : ∀ q ∈ op_X11_isWeek, av_ok av_T vwCl mt_all mt_X11_isWeek q := av_zip_ok ok_mm (by decide) okj_all ok_o1 ok_o2 (hs := hn_X11_isWeek) (by decide +kernel) (by decide +kernel)
def hn_X11_works : List (List (Nat × Nat)) := [
  [], [(3, 115)], [], [(4, 134)], [], [], []]
set_option maxRecDepth 100000 in
theorem ok_X11_works : ∀ q ∈ op_X11_works, av_ok av_T vwCl mt_all mt_X11_works q := av_zip_ok ok_mm (by decide) okj_all ok_o1 ok_o2 (hs := hn_X11_works) (by decide +kernel) (by decide +kernel)
def hn_X11_firm : List (List (Nat × Nat)) := [
  [], [(4, 142)], [], [], [(3, 115)], [], [(4, 145)], [], [], []]
set_option maxRecDepth 100000 in
theorem ok_X11_firm : ∀ q ∈ op_X11_firm, av_ok av_T vwCl mt_all mt_X11_firm q := av_zip_ok ok_mm (by decide) okj_all ok_o1 ok_o2 (hs := hn_X11_firm) (by decide +kernel) (by decide +kernel)
def hn_X11_weeks : List (List (Nat × Nat)) := [
  [], [(4, 153)], [], [], [(3, 121)], [], [], [], [], [], [], [],
  [], [], [], [(3, 115)], [(1, 173)], [], [], [], [(3, 121)], [], [], [(3, 121)],
  [], [(3, 121)], []]
set_option maxRecDepth 100000 in
theorem ok_X11_weeks : ∀ q ∈ op_X11_weeks, av_ok av_T vwCl mt_all mt_X11_weeks q := av_zip_ok ok_mm (by decide) okj_all ok_o1 ok_o2 (hs := hn_X11_weeks) (by decide +kernel) (by decide +kernel)
def hn_X11_sags : List (List (Nat × Nat)) := [
  [], [], [(5, 0)], [], [(5, 4)], []]
set_option maxRecDepth 100000 in
theorem ok_X11_sags : ∀ q ∈ op_X11_sags, av_ok av_T vwCl mt_all mt_X11_sags q := av_zip_ok ok_mm (by decide) okj_all ok_o1 ok_o2 (hs := hn_X11_sags) (by decide +kernel) (by decide +kernel)
def hn_X11_latched : List (List (Nat × Nat)) := [
  [], [], [(5, 0)], [], [], []]
set_option maxRecDepth 100000 in
theorem ok_X11_latched : ∀ q ∈ op_X11_latched, av_ok av_T vwCl mt_all mt_X11_latched q := av_zip_ok ok_mm (by decide) okj_all ok_o1 ok_o2 (hs := hn_X11_latched) (by decide +kernel) (by decide +kernel)
def hn_X11_gives : List (List (Nat × Nat)) := [
  [], [], [(5, 0)], [], [], []]
set_option maxRecDepth 100000 in
theorem ok_X11_gives : ∀ q ∈ op_X11_gives, av_ok av_T vwCl mt_all mt_X11_gives q := av_zip_ok ok_mm (by decide) okj_all ok_o1 ok_o2 (hs := hn_X11_gives) (by decide +kernel) (by decide +kernel)
def hn_X11_work : List (List (Nat × Nat)) := [
  [], [], [(5, 0)], [], [], []]
set_option maxRecDepth 100000 in
theorem ok_X11_work : ∀ q ∈ op_X11_work, av_ok av_T vwCl mt_all mt_X11_work q := av_zip_ok ok_mm (by decide) okj_all ok_o1 ok_o2 (hs := hn_X11_work) (by decide +kernel) (by decide +kernel)
def hn_X11_undo : List (List (Nat × Nat)) := [
  [], [(3, 124)], [(3, 22)], [], [], []]
set_option maxRecDepth 100000 in
theorem ok_X11_undo : ∀ q ∈ op_X11_undo, av_ok av_T vwCl mt_all mt_X11_undo q := av_zip_ok ok_mm (by decide) okj_all ok_o1 ok_o2 (hs := hn_X11_undo) (by decide +kernel) (by decide +kernel)
def hn_X11_lasts : List (List (Nat × Nat)) := [
  [], [], [(5, 0)], [], [], []]
set_option maxRecDepth 100000 in
theorem ok_X11_lasts : ∀ q ∈ op_X11_lasts, av_ok av_T vwCl mt_all mt_X11_lasts q := av_zip_ok ok_mm (by decide) okj_all ok_o1 ok_o2 (hs := hn_X11_lasts) (by decide +kernel) (by decide +kernel)
def hn_X11_least : List (List (Nat × Nat)) := [
  [], [], [(5, 0)], [], [], []]
set_option maxRecDepth 100000 in
theorem ok_X11_least : ∀ q ∈ op_X11_least, av_ok av_T vwCl mt_all mt_X11_least q := av_zip_ok ok_mm (by decide) okj_all ok_o1 ok_o2 (hs := hn_X11_least) (by decide +kernel) (by decide +kernel)
def hn_X11_way : List (List (Nat × Nat)) := [
  [], [], [(5, 0)], [], [(5, 4)], []]
set_option maxRecDepth 100000 in
theorem ok_X11_way : ∀ q ∈ op_X11_way, av_ok av_T vwCl mt_all mt_X11_way q := av_zip_ok ok_mm (by decide) okj_all ok_o1 ok_o2 (hs := hn_X11_way) (by decide +kernel) (by decide +kernel)
def hn_X11_enough : List (List (Nat × Nat)) := [
  [], [], [(5, 0)], [], [], []]
set_option maxRecDepth 100000 in
theorem ok_X11_enough : ∀ q ∈ op_X11_enough, av_ok av_T vwCl mt_all mt_X11_enough q := av_zip_ok ok_mm (by decide) okj_all ok_o1 ok_o2 (hs := hn_X11_enough) (by decide +kernel) (by decide +kernel)
def hn_X11_bears : List (List (Nat × Nat)) := [
  [], [], [(5, 0)], [], [], []]
set_option maxRecDepth 100000 in
theorem ok_X11_bears : ∀ q ∈ op_X11_bears, av_ok av_T vwCl mt_all mt_X11_bears q := av_zip_ok ok_mm (by decide) okj_all ok_o1 ok_o2 (hs := hn_X11_bears) (by decide +kernel) (by decide +kernel)
def hn_X11_knock : List (List (Nat × Nat)) := [
  [], [], [(5, 0)], [], [(5, 103)], []]
set_option maxRecDepth 100000 in
theorem ok_X11_knock : ∀ q ∈ op_X11_knock, av_ok av_T vwCl mt_all mt_X11_knock q := av_zip_ok ok_mm (by decide) okj_all ok_o1 ok_o2 (hs := hn_X11_knock) (by decide +kernel) (by decide +kernel)
def hn_X11_measure : List (List (Nat × Nat)) := [
  [], [(5, 110)], [], [], [], [], [], [(5, 111)], [], [], [], [],
  [], [], [], [(5, 0)], [], [], []]
set_option maxRecDepth 100000 in
theorem ok_X11_measure : ∀ q ∈ op_X11_measure, av_ok av_T vwCl mt_all mt_X11_measure q := av_zip_ok ok_mm (by decide) okj_all ok_o1 ok_o2 (hs := hn_X11_measure) (by decide +kernel) (by decide +kernel)
def hn_X11_strike : List (List (Nat × Nat)) := [
  [], [], [], [], [(3, 125)], [(3, 46)], [], [], []]
set_option maxRecDepth 100000 in
theorem ok_X11_strike : ∀ q ∈ op_X11_strike, av_ok av_T vwCl mt_all mt_X11_strike q := av_zip_ok ok_mm (by decide) okj_all ok_o1 ok_o2 (hs := hn_X11_strike) (by decide +kernel) (by decide +kernel)
def hn_X11_known : List (List (Nat × Nat)) := [
  [], [], [], [], [], [(3, 125)], [(3, 46)], [], [], [], [], [(3, 125)],
  [], [(3, 48)], [], []]
set_option maxRecDepth 100000 in
theorem ok_X11_known : ∀ q ∈ op_X11_known, av_ok av_T vwCl mt_all mt_X11_known q := av_zip_ok ok_mm (by decide) okj_all ok_o1 ok_o2 (hs := hn_X11_known) (by decide +kernel) (by decide +kernel)
def hn_X11_fits : List (List (Nat × Nat)) := [
  [], [], [(5, 0)], [], [], []]
set_option maxRecDepth 100000 in
theorem ok_X11_fits : ∀ q ∈ op_X11_fits, av_ok av_T vwCl mt_all mt_X11_fits q := av_zip_ok ok_mm (by decide) okj_all ok_o1 ok_o2 (hs := hn_X11_fits) (by decide +kernel) (by decide +kernel)
def hn_X11_odds : List (List (Nat × Nat)) := [
  [], [], [(5, 0)], [], [], []]
set_option maxRecDepth 100000 in
theorem ok_X11_odds : ∀ q ∈ op_X11_odds, av_ok av_T vwCl mt_all mt_X11_odds q := av_zip_ok ok_mm (by decide) okj_all ok_o1 ok_o2 (hs := hn_X11_odds) (by decide +kernel) (by decide +kernel)
def hn_X11_test : List (List (Nat × Nat)) := [
  [], [], [(5, 0)], [], [], []]
set_option maxRecDepth 100000 in
theorem ok_X11_test : ∀ q ∈ op_X11_test, av_ok av_T vwCl mt_all mt_X11_test q := av_zip_ok ok_mm (by decide) okj_all ok_o1 ok_o2 (hs := hn_X11_test) (by decide +kernel) (by decide +kernel)
def hn_X11_low : List (List (Nat × Nat)) := [
  [], [], [(5, 0)], [], [(5, 4)], []]
set_option maxRecDepth 100000 in
theorem ok_X11_low : ∀ q ∈ op_X11_low, av_ok av_T vwCl mt_all mt_X11_low q := av_zip_ok ok_mm (by decide) okj_all ok_o1 ok_o2 (hs := hn_X11_low) (by decide +kernel) (by decide +kernel)
def hn_X11_rest : List (List (Nat × Nat)) := [
  [], [], [(5, 0)], [], [], []]
set_option maxRecDepth 100000 in
theorem ok_X11_rest : ∀ q ∈ op_X11_rest, av_ok av_T vwCl mt_all mt_X11_rest q := av_zip_ok ok_mm (by decide) okj_all ok_o1 ok_o2 (hs := hn_X11_rest) (by decide +kernel) (by decide +kernel)
def hn_X11_shuts : List (List (Nat × Nat)) := [
  [], [], [(5, 0)], [], [], []]
set_option maxRecDepth 100000 in
theorem ok_X11_shuts : ∀ q ∈ op_X11_shuts, av_ok av_T vwCl mt_all mt_X11_shuts q := av_zip_ok ok_mm (by decide) okj_all ok_o1 ok_o2 (hs := hn_X11_shuts) (by decide +kernel) (by decide +kernel)
def hn_X11_above : List (List (Nat × Nat)) := [
  [], [], [(5, 0)], [], [(5, 4)], []]
set_option maxRecDepth 100000 in
theorem ok_X11_above : ∀ q ∈ op_X11_above, av_ok av_T vwCl mt_all mt_X11_above q := av_zip_ok ok_mm (by decide) okj_all ok_o1 ok_o2 (hs := hn_X11_above) (by decide +kernel) (by decide +kernel)
