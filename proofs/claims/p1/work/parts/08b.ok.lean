/-! ===== the rows of the methods ===== -/
def hn_X11_opens : List (List (Nat × Nat)) := [
  [], [], [(5, 0)], [], [], []]
set_option maxRecDepth 100000 in
theorem ok_X11_opens : ∀ q ∈ op_X11_opens, av_ok av_T vwCl mt_all mt_X11_opens q := av_zip_ok ok_mm (by decide) okj_all ok_o1 ok_o2 (hs := hn_X11_opens) (by decide +kernel) (by decide +kernel)
def hn_X11_stand : List (List (Nat × Nat)) := [
  [], [], [(5, 0)], [], [(5, 4)], []]
set_option maxRecDepth 100000 in
theorem ok_X11_stand : ∀ q ∈ op_X11_stand, av_ok av_T vwCl mt_all mt_X11_stand q := av_zip_ok ok_mm (by decide) okj_all ok_o1 ok_o2 (hs := hn_X11_stand) (by decide +kernel) (by decide +kernel)
def hn_X11_first : List (List (Nat × Nat)) := [
  [], [(3, 115)], [(1, 173)], [], [], []]
set_option maxRecDepth 100000 in
theorem ok_X11_first : ∀ q ∈ op_X11_first, av_ok av_T vwCl mt_all mt_X11_first q := av_zip_ok ok_mm (by decide) okj_all ok_o1 ok_o2 (hs := hn_X11_first) (by decide +kernel) (by decide +kernel)
def hn_X11_wind : List (List (Nat × Nat)) := [
  [], [], [], [], [], [], [], [], [], [], [], [],
  [], [], [], [], [], [], [], [], [], [], [(5, 0)], [],
  [], []]
set_option maxRecDepth 100000 in
theorem ok_X11_wind : ∀ q ∈ op_X11_wind, av_ok av_T vwCl mt_all mt_X11_wind q := av_zip_ok ok_mm (by decide) okj_all ok_o1 ok_o2 (hs := hn_X11_wind) (by decide +kernel) (by decide +kernel)
def hn_X11_keep : List (List (Nat × Nat)) := [
  [], [], [], [], [], [], [(3, 122)], [], [], [], [(3, 120)], [],
  [], [(5, 64)], [], [], [], [], [(3, 121)], [(3, 123)], [], [(3, 121)], []]
set_option maxRecDepth 100000 in
theorem ok_X11_keep : ∀ q ∈ op_X11_keep, av_ok av_T vwCl mt_all mt_X11_keep q := av_zip_ok ok_mm (by decide) okj_all ok_o1 ok_o2 (hs := hn_X11_keep) (by decide +kernel) (by decide +kernel)
def hn_X11_back : List (List (Nat × Nat)) := [
  [], [(3, 123)], [], [], [], []]
set_option maxRecDepth 100000 in
theorem ok_X11_back : ∀ q ∈ op_X11_back, av_ok av_T vwCl mt_all mt_X11_back q := av_zip_ok ok_mm (by decide) okj_all ok_o1 ok_o2 (hs := hn_X11_back) (by decide +kernel) (by decide +kernel)
def hn_X11_count : List (List (Nat × Nat)) := [
  [], [], [], [(3, 115)], [(1, 173)], [], [], [(3, 115)], [(1, 190)], [], [], [(3, 115)],
  [(1, 203)], [], [], [(3, 115)], [(1, 156)], [], [], [(3, 121)], [], [], [(3, 125)], [(3, 46)],
  [], [], [(3, 125)], [(6, 56)], [], [], [(3, 124)], [(3, 22)], [], [], [(6, 57)], [],
  [], []]
set_option maxRecDepth 100000 in
theorem ok_X11_count : ∀ q ∈ op_X11_count, av_ok av_T vwCl mt_all mt_X11_count q := av_zip_ok ok_mm (by decide) okj_all ok_o1 ok_o2 (hs := hn_X11_count) (by decide +kernel) (by decide +kernel)
def hn_X11_costOfAllDone : List (List (Nat × Nat)) := [
  [], [], [], [], [], [], [(3, 115)], [(1, 173)], [], [], []]
set_option maxRecDepth 100000 in
theorem ok_X11_costOfAllDone : ∀ q ∈ op_X11_costOfAllDone, av_ok av_T vwCl mt_all mt_X11_costOfAllDone q := av_zip_ok ok_mm (by decide) okj_all ok_o1 ok_o2 (hs := hn_X11_costOfAllDone) (by decide +kernel) (by decide +kernel)
def hn_X12_thrown : List (List (Nat × Nat)) := [
  [], [(6, 179)], []]
set_option maxRecDepth 100000 in
theorem ok_X12_thrown : ∀ q ∈ op_X12_thrown, av_ok av_T vwCl mt_all mt_X12_thrown q := av_zip_ok ok_mm (by decide) okj_all ok_o1 ok_o2 (hs := hn_X12_thrown) (by decide +kernel) (by decide +kernel)
def hn_X12_feed : List (List (Nat × Nat)) := [
  [], [], [(6, 179)], [], [(6, 178)], [], [], [], [], [], [], [],
  [], [], [], [], [], [], [], [], [], [], [], [],
  [], [], [], [], [], [], [], [], [], [], [], [],
  [], [(6, 177)], [], [(6, 178)], [], [], [], [], [], [], [], [],
  [], [], [], [], [], [], [], [], [], [], [(6, 178)], [],
  [], [(6, 178)], [], [(6, 178)], []]
set_option maxRecDepth 100000 in
theorem ok_X12_feed : ∀ q ∈ op_X12_feed, av_ok av_T vwCl mt_all mt_X12_feed q := av_zip_ok ok_mm (by decide) okj_all ok_o1 ok_o2 (hs := hn_X12_feed) (by decide +kernel) (by decide +kernel)
def hn_X12_isIn : List (List (Nat × Nat)) := [
  [], [], [], [], [], [], [], [], [], []]
set_option maxRecDepth 100000 in
theorem ok_X12_isIn : ∀ q ∈ op_X12_isIn, av_ok av_T vwCl mt_all mt_X12_isIn q := av_zip_ok ok_mm (by decide) okj_all ok_o1 ok_o2 (hs := hn_X12_isIn) (by decide +kernel) (by decide +kernel)
def hn_X12_token : List (List (Nat × Nat)) := [
  [], [(6, 184)], [], [(6, 183)], [], [], [], [(6, 184)], [(6, 187)], [], [(6, 184)], [],
  [(6, 183)], [], [], [], [(6, 185)], [], []]
set_option maxRecDepth 100000 in
theorem ok_X12_token : ∀ q ∈ op_X12_token, av_ok av_T vwCl mt_all mt_X12_token q := av_zip_ok ok_mm (by decide) okj_all ok_o1 ok_o2 (hs := hn_X12_token) (by decide +kernel) (by decide +kernel)
def hn_X12_plain : List (List (Nat × Nat)) := [
  [], [], [(6, 193)], [], [], [(6, 194)], [], [], [(6, 195)], [], [], [(6, 196)],
  [], [], [(6, 217)], [], [], [(6, 197)], [], [], [], [], [], [],
  [(6, 198)], [], [], [], [], [], [], [], [], [], [], [],
  [], [], [(6, 201)], [], [], [], [], [], [], [], []]
set_option maxRecDepth 100000 in
theorem ok_X12_plain : ∀ q ∈ op_X12_plain, av_ok av_T vwCl mt_all mt_X12_plain q := av_zip_ok ok_mm (by decide) okj_all ok_o1 ok_o2 (hs := hn_X12_plain) (by decide +kernel) (by decide +kernel)
def hn_X12_copies : List (List (Nat × Nat)) := [
  [], [], [], [], [], [], [], [], [], [], [], [],
  [], [], [], []]
set_option maxRecDepth 100000 in
theorem ok_X12_copies : ∀ q ∈ op_X12_copies, av_ok av_T vwCl mt_all mt_X12_copies q := av_zip_ok ok_mm (by decide) okj_all ok_o1 ok_o2 (hs := hn_X12_copies) (by decide +kernel) (by decide +kernel)
def hn_X12_keepText : List (List (Nat × Nat)) := [
  [], [], [(6, 193)], [(6, 189)], [], [], [(6, 194)], [(6, 190)], [], [], [(6, 195)], [(6, 191)],
  [], [], [(6, 196)], [(6, 192)], [], [(6, 198)], [], [(6, 167)], [], [(6, 199)], [], [(6, 167)],
  [], [(6, 200)], [], [(6, 167)], [], [], [], [], [], [], [(6, 201)], [],
  [], [(6, 201)], [], [], [], [], [], [], [], [], [(6, 202)], [],
  [(6, 167)], [], [(6, 203)], [], [(6, 167)], [], [(6, 204)], [], [(6, 167)], [], [(6, 205)], [],
  [(6, 167)], [], [(6, 206)], [], [(6, 167)], [], [(6, 207)], [], [(6, 167)], [], [(6, 208)], [],
  [(6, 167)], [], [(6, 209)], [], [(6, 167)], [], [(6, 210)], [], [(6, 167)], [], [(6, 211)], [],
  [(6, 167)], [], [], [], [], [], [], [], [(6, 170)], [], [(6, 221)], [],
  [], [], [], [(6, 222)], [], [(6, 174)], [], [], [], [], [(6, 220)], [],
  [], [(6, 229)], [], [], [(6, 230)], [], [], [(6, 227)], [], [], [(7, 3)], []]
set_option maxRecDepth 100000 in
theorem ok_X12_keepText : ∀ q ∈ op_X12_keepText, av_ok av_T vwCl mt_all mt_X12_keepText q := av_zip_ok ok_mm (by decide) okj_all ok_o1 ok_o2 (hs := hn_X12_keepText) (by decide +kernel) (by decide +kernel)
def hn_X12_find : List (List (Nat × Nat)) := [
  [], [], [], [], [], [], []]
set_option maxRecDepth 100000 in
theorem ok_X12_find : ∀ q ∈ op_X12_find, av_ok av_T vwCl mt_all mt_X12_find q := av_zip_ok ok_mm (by decide) okj_all ok_o1 ok_o2 (hs := hn_X12_find) (by decide +kernel) (by decide +kernel)
def hn_X12_text : List (List (Nat × Nat)) := [
  [], [], [(6, 179)], [], [], [], [], [(6, 178)], [], [], [], [],
  [], [(6, 183)], [], [], [(6, 178)], [], [], [(6, 181)], [], [], [(6, 182)], [],
  [], [(6, 184)], [], [(6, 159)], [], [(7, 157)], [], [], [], [(6, 185)], [], [],
  [(6, 163)], [], []]
set_option maxRecDepth 100000 in
theorem ok_X12_text : ∀ q ∈ op_X12_text, av_ok av_T vwCl mt_all mt_X12_text q := av_zip_ok ok_mm (by decide) okj_all ok_o1 ok_o2 (hs := hn_X12_text) (by decide +kernel) (by decide +kernel)
def hn_X12_fault : List (List (Nat × Nat)) := [
  [], [], [(6, 179)], [], [], [], [(6, 181)], [], [], [], [], [],
  [(6, 182)], [], [], []]
set_option maxRecDepth 100000 in
theorem ok_X12_fault : ∀ q ∈ op_X12_fault, av_ok av_T vwCl mt_all mt_X12_fault q := av_zip_ok ok_mm (by decide) okj_all ok_o1 ok_o2 (hs := hn_X12_fault) (by decide +kernel) (by decide +kernel)
def hn_X12_named : List (List (Nat × Nat)) := [
  [], [], [(6, 179)], [], [], [], [(6, 202)], [], [], [(6, 189)], [], [(8, 19)],
  [], [], [], [], [], [(6, 205)], [], [], [(6, 190)], [], [(8, 19)], [],
  [], [], [], [], [(6, 207)], [], [], [(6, 191)], [], [(8, 19)], [], [],
  []]
set_option maxRecDepth 100000 in
theorem ok_X12_named : ∀ q ∈ op_X12_named, av_ok av_T vwCl mt_all mt_X12_named q := av_zip_ok ok_mm (by decide) okj_all ok_o1 ok_o2 (hs := hn_X12_named) (by decide +kernel) (by decide +kernel)
def hn_X12_lays : List (List (Nat × Nat)) := [
  [], [], [], [], [], [], [], [], [], [], [], [],
  [], [], [], [], [], []]
set_option maxRecDepth 100000 in
theorem ok_X12_lays : ∀ q ∈ op_X12_lays, av_ok av_T vwCl mt_all mt_X12_lays q := av_zip_ok ok_mm (by decide) okj_all ok_o1 ok_o2 (hs := hn_X12_lays) (by decide +kernel) (by decide +kernel)
def hn_X12_begins : List (List (Nat × Nat)) := [
  [], [], [], [], [], [], [(6, 222)], [], [], [], [], [],
  [], [(6, 222)], [], [], [(6, 203)], [], [], [], [], [], [], [],
  [], [(6, 222)], [], [], [(6, 203)], [], [], [], [], [], [], [],
  [], [(6, 222)], [], [], [(6, 203)], [], [], [], [], [], [], [],
  [], [(6, 222)], [], [], [(6, 203)], [], [], [], [], [], [], [],
  []]
set_option maxRecDepth 100000 in
theorem ok_X12_begins : ∀ q ∈ op_X12_begins, av_ok av_T vwCl mt_all mt_X12_begins q := av_zip_ok ok_mm (by decide) okj_all ok_o1 ok_o2 (hs := hn_X12_begins) (by decide +kernel) (by decide +kernel)
def hn_X12_firmOf : List (List (Nat × Nat)) := [
  [], [(6, 198)], [], [], [], [], [], [], [], [], []]
set_option maxRecDepth 100000 in
theorem ok_X12_firmOf : ∀ q ∈ op_X12_firmOf, av_ok av_T vwCl mt_all mt_X12_firmOf q := av_zip_ok ok_mm (by decide) okj_all ok_o1 ok_o2 (hs := hn_X12_firmOf) (by decide +kernel) (by decide +kernel)
def hn_X12_isGate : List (List (Nat × Nat)) := [
  [], [], [], [], [(6, 189)], [], [], []]
set_option maxRecDepth 100000 in
theorem ok_X12_isGate : ∀ q ∈ op_X12_isGate, av_ok av_T vwCl mt_all mt_X12_isGate q := av_zip_ok ok_mm (by decide) okj_all ok_o1 ok_o2 (hs := hn_X12_isGate) (by decide +kernel) (by decide +kernel)
def hn_X12_fails : List (List (Nat × Nat)) := [
  [], [], [(6, 179)], [], []]
set_option maxRecDepth 100000 in
theorem ok_X12_fails : ∀ q ∈ op_X12_fails, av_ok av_T vwCl mt_all mt_X12_fails q := av_zip_ok ok_mm (by decide) okj_all ok_o1 ok_o2 (hs := hn_X12_fails) (by decide +kernel) (by decide +kernel)
def hn_X12_look : List (List (Nat × Nat)) := [
  [], [], [(6, 179)], [], [], [(8, 72)], [], [], [], [(8, 76)], []]
set_option maxRecDepth 100000 in
theorem ok_X12_look : ∀ q ∈ op_X12_look, av_ok av_T vwCl mt_all mt_X12_look q := av_zip_ok ok_mm (by decide) okj_all ok_o1 ok_o2 (hs := hn_X12_look) (by decide +kernel) (by decide +kernel)
def hn_X12_works : List (List (Nat × Nat)) := [
  [], [], [(6, 179)], [], [], [], [], [(6, 190)], [], [], [], []]
set_option maxRecDepth 100000 in
theorem ok_X12_works : ∀ q ∈ op_X12_works, av_ok av_T vwCl mt_all mt_X12_works q := av_zip_ok ok_mm (by decide) okj_all ok_o1 ok_o2 (hs := hn_X12_works) (by decide +kernel) (by decide +kernel)
def hn_X12_firm : List (List (Nat × Nat)) := [
  [], [], [(6, 179)], [], [], [], [(7, 201)], [], [], [], [(8, 100)], [],
  [], []]
set_option maxRecDepth 100000 in
theorem ok_X12_firm : ∀ q ∈ op_X12_firm, av_ok av_T vwCl mt_all mt_X12_firm q := av_zip_ok ok_mm (by decide) okj_all ok_o1 ok_o2 (hs := hn_X12_firm) (by decide +kernel) (by decide +kernel)
def hn_X12_weeks : List (List (Nat × Nat)) := [
  [], [], [(6, 179)], [], [], [], [(7, 201)], [], [], [(6, 220)], [], [],
  [], [], [], [], [], [], [], [], [(6, 189)], [], [], [],
  [(6, 220)], [], [], [(6, 220)], [], [(6, 220)], []]
set_option maxRecDepth 100000 in
theorem ok_X12_weeks : ∀ q ∈ op_X12_weeks, av_ok av_T vwCl mt_all mt_X12_weeks q := av_zip_ok ok_mm (by decide) okj_all ok_o1 ok_o2 (hs := hn_X12_weeks) (by decide +kernel) (by decide +kernel)
def hn_X12_sags : List (List (Nat × Nat)) := [
  [], [], [(6, 179)], [], [], [(8, 72)], [], [(8, 155)], []]
set_option maxRecDepth 100000 in
theorem ok_X12_sags : ∀ q ∈ op_X12_sags, av_ok av_T vwCl mt_all mt_X12_sags q := av_zip_ok ok_mm (by decide) okj_all ok_o1 ok_o2 (hs := hn_X12_sags) (by decide +kernel) (by decide +kernel)
def hn_X12_latched : List (List (Nat × Nat)) := [
  [], [], [(6, 179)], [], [], [(8, 72)], [], [], []]
set_option maxRecDepth 100000 in
theorem ok_X12_latched : ∀ q ∈ op_X12_latched, av_ok av_T vwCl mt_all mt_X12_latched q := av_zip_ok ok_mm (by decide) okj_all ok_o1 ok_o2 (hs := hn_X12_latched) (by decide +kernel) (by decide +kernel)
def hn_X12_gives : List (List (Nat × Nat)) := [
  [], [], [(6, 179)], [], [], [(8, 72)], [], [], []]
set_option maxRecDepth 100000 in
theorem ok_X12_gives : ∀ q ∈ op_X12_gives, av_ok av_T vwCl mt_all mt_X12_gives q := av_zip_ok ok_mm (by decide) okj_all ok_o1 ok_o2 (hs := hn_X12_gives) (by decide +kernel) (by decide +kernel)
def hn_X12_work : List (List (Nat × Nat)) := [
  [], [], [(6, 179)], [], [], [(8, 72)], [], [], []]
set_option maxRecDepth 100000 in
theorem ok_X12_work : ∀ q ∈ op_X12_work, av_ok av_T vwCl mt_all mt_X12_work q := av_zip_ok ok_mm (by decide) okj_all ok_o1 ok_o2 (hs := hn_X12_work) (by decide +kernel) (by decide +kernel)
def hn_X12_undo : List (List (Nat × Nat)) := [
  [], [], [(6, 179)], [], [(6, 227)], [], [], []]
set_option maxRecDepth 100000 in
theorem ok_X12_undo : ∀ q ∈ op_X12_undo, av_ok av_T vwCl mt_all mt_X12_undo q := av_zip_ok ok_mm (by decide) okj_all ok_o1 ok_o2 (hs := hn_X12_undo) (by decide +kernel) (by decide +kernel)
def hn_X12_lasts : List (List (Nat × Nat)) := [
  [], [], [(6, 179)], [], [], [(8, 72)], [], [], []]
set_option maxRecDepth 100000 in
theorem ok_X12_lasts : ∀ q ∈ op_X12_lasts, av_ok av_T vwCl mt_all mt_X12_lasts q := av_zip_ok ok_mm (by decide) okj_all ok_o1 ok_o2 (hs := hn_X12_lasts) (by decide +kernel) (by decide +kernel)
def hn_X12_least : List (List (Nat × Nat)) := [
  [], [], [(6, 179)], [], [], [(8, 72)], [], [], []]
set_option maxRecDepth 100000 in
theorem ok_X12_least : ∀ q ∈ op_X12_least, av_ok av_T vwCl mt_all mt_X12_least q := av_zip_ok ok_mm (by decide) okj_all ok_o1 ok_o2 (hs := hn_X12_least) (by decide +kernel) (by decide +kernel)
def hn_X12_way : List (List (Nat × Nat)) := [
  [], [], [(6, 179)], [], [], [(8, 72)], [], [(8, 155)], []]
set_option maxRecDepth 100000 in
theorem ok_X12_way : ∀ q ∈ op_X12_way, av_ok av_T vwCl mt_all mt_X12_way q := av_zip_ok ok_mm (by decide) okj_all ok_o1 ok_o2 (hs := hn_X12_way) (by decide +kernel) (by decide +kernel)
def hn_X12_enough : List (List (Nat × Nat)) := [
  [], [], [(6, 179)], [], [], [(8, 72)], [], [], []]
set_option maxRecDepth 100000 in
theorem ok_X12_enough : ∀ q ∈ op_X12_enough, av_ok av_T vwCl mt_all mt_X12_enough q := av_zip_ok ok_mm (by decide) okj_all ok_o1 ok_o2 (hs := hn_X12_enough) (by decide +kernel) (by decide +kernel)
def hn_X12_bears : List (List (Nat × Nat)) := [
  [], [], [(6, 179)], [], [], [(8, 72)], [], [], []]
set_option maxRecDepth 100000 in
theorem ok_X12_bears : ∀ q ∈ op_X12_bears, av_ok av_T vwCl mt_all mt_X12_bears q := av_zip_ok ok_mm (by decide) okj_all ok_o1 ok_o2 (hs := hn_X12_bears) (by decide +kernel) (by decide +kernel)
def hn_X12_knock : List (List (Nat × Nat)) := [
  [], [], [(6, 179)], [], [], [(8, 72)], [], [(8, 217)], []]
set_option maxRecDepth 100000 in
theorem ok_X12_knock : ∀ q ∈ op_X12_knock, av_ok av_T vwCl mt_all mt_X12_knock q := av_zip_ok ok_mm (by decide) okj_all ok_o1 ok_o2 (hs := hn_X12_knock) (by decide +kernel) (by decide +kernel)
def hn_X12_measure : List (List (Nat × Nat)) := [
  [], [], [(6, 179)], [], [(6, 229)], [], [], [], [], [(8, 72)], [], [],
  []]
set_option maxRecDepth 100000 in
theorem ok_X12_measure : ∀ q ∈ op_X12_measure, av_ok av_T vwCl mt_all mt_X12_measure q := av_zip_ok ok_mm (by decide) okj_all ok_o1 ok_o2 (hs := hn_X12_measure) (by decide +kernel) (by decide +kernel)
def hn_X12_strike : List (List (Nat × Nat)) := [
  [], [], [(6, 179)], [], [(6, 229)], [], [], [], [], [], [], [(6, 229)],
  [], [], []]
set_option maxRecDepth 100000 in
theorem ok_X12_strike : ∀ q ∈ op_X12_strike, av_ok av_T vwCl mt_all mt_X12_strike q := av_zip_ok ok_mm (by decide) okj_all ok_o1 ok_o2 (hs := hn_X12_strike) (by decide +kernel) (by decide +kernel)
def hn_X12_known : List (List (Nat × Nat)) := [
  [], [], [(6, 179)], [], [], [], [(6, 229)], [(7, 201)], [], [], [], [],
  [], [(6, 230)], [], []]
set_option maxRecDepth 100000 in
theorem ok_X12_known : ∀ q ∈ op_X12_known, av_ok av_T vwCl mt_all mt_X12_known q := av_zip_ok ok_mm (by decide) okj_all ok_o1 ok_o2 (hs := hn_X12_known) (by decide +kernel) (by decide +kernel)
def hn_X12_knownMany : List (List (Nat × Nat)) := [
  [], [(6, 230)], [], [], [(6, 229)], [], []]
set_option maxRecDepth 100000 in
theorem ok_X12_knownMany : ∀ q ∈ op_X12_knownMany, av_ok av_T vwCl mt_all mt_X12_knownMany q := av_zip_ok ok_mm (by decide) okj_all ok_o1 ok_o2 (hs := hn_X12_knownMany) (by decide +kernel) (by decide +kernel)
def hn_X12_fits : List (List (Nat × Nat)) := [
  [], [], [(6, 179)], [], [], [(8, 72)], [], [], []]
set_option maxRecDepth 100000 in
theorem ok_X12_fits : ∀ q ∈ op_X12_fits, av_ok av_T vwCl mt_all mt_X12_fits q := av_zip_ok ok_mm (by decide) okj_all ok_o1 ok_o2 (hs := hn_X12_fits) (by decide +kernel) (by decide +kernel)
def hn_X12_odds : List (List (Nat × Nat)) := [
  [], [], [(6, 179)], [], [], [(8, 72)], [], [], []]
set_option maxRecDepth 100000 in
theorem ok_X12_odds : ∀ q ∈ op_X12_odds, av_ok av_T vwCl mt_all mt_X12_odds q := av_zip_ok ok_mm (by decide) okj_all ok_o1 ok_o2 (hs := hn_X12_odds) (by decide +kernel) (by decide +kernel)
def hn_X12_test : List (List (Nat × Nat)) := [
  [], [], [(6, 179)], [], [], [(8, 72)], [], [], []]
set_option maxRecDepth 100000 in
theorem ok_X12_test : ∀ q ∈ op_X12_test, av_ok av_T vwCl mt_all mt_X12_test q := av_zip_ok ok_mm (by decide) okj_all ok_o1 ok_o2 (hs := hn_X12_test) (by decide +kernel) (by decide +kernel)
def hn_X12_low : List (List (Nat × Nat)) := [
  [], [], [(6, 179)], [], [], [(8, 72)], [], [(8, 155)], []]
set_option maxRecDepth 100000 in
theorem ok_X12_low : ∀ q ∈ op_X12_low, av_ok av_T vwCl mt_all mt_X12_low q := av_zip_ok ok_mm (by decide) okj_all ok_o1 ok_o2 (hs := hn_X12_low) (by decide +kernel) (by decide +kernel)
def hn_X12_rest : List (List (Nat × Nat)) := [
  [], [], [(6, 179)], [], [], [(8, 72)], [], [], []]
set_option maxRecDepth 100000 in
theorem ok_X12_rest : ∀ q ∈ op_X12_rest, av_ok av_T vwCl mt_all mt_X12_rest q := av_zip_ok ok_mm (by decide) okj_all ok_o1 ok_o2 (hs := hn_X12_rest) (by decide +kernel) (by decide +kernel)
def hn_X12_shuts : List (List (Nat × Nat)) := [
  [], [], [(6, 179)], [], [], [(8, 72)], [], [], []]
set_option maxRecDepth 100000 in
theorem ok_X12_shuts : ∀ q ∈ op_X12_shuts, av_ok av_T vwCl mt_all mt_X12_shuts q := av_zip_ok ok_mm (by decide) okj_all ok_o1 ok_o2 (hs := hn_X12_shuts) (by decide +kernel) (by decide +kernel)
def hn_X12_above : List (List (Nat × Nat)) := [
  [], [], [(6, 179)], [], [], [(8, 72)], [], [(8, 155)], []]
set_option maxRecDepth 100000 in
theorem ok_X12_above : ∀ q ∈ op_X12_above, av_ok av_T vwCl mt_all mt_X12_above q := av_zip_ok ok_mm (by decide) okj_all ok_o1 ok_o2 (hs := hn_X12_above) (by decide +kernel) (by decide +kernel)
def hn_X12_opens : List (List (Nat × Nat)) := [
  [], [], [(6, 179)], [], [], [(8, 72)], [], [], []]
set_option maxRecDepth 100000 in
theorem ok_X12_opens : ∀ q ∈ op_X12_opens, av_ok av_T vwCl mt_all mt_X12_opens q := av_zip_ok ok_mm (by decide) okj_all ok_o1 ok_o2 (hs := hn_X12_opens) (by decide +kernel) (by decide +kernel)
def hn_X12_stand : List (List (Nat × Nat)) := [
  [], [], [(6, 179)], [], [], [(8, 72)], [], [(8, 155)], []]
set_option maxRecDepth 100000 in
theorem ok_X12_stand : ∀ q ∈ op_X12_stand, av_ok av_T vwCl mt_all mt_X12_stand q := av_zip_ok ok_mm (by decide) okj_all ok_o1 ok_o2 (hs := hn_X12_stand) (by decide +kernel) (by decide +kernel)
def hn_X12_first : List (List (Nat × Nat)) := [
  [], [], [(6, 179)], [], [(6, 189)], [], [], []]
set_option maxRecDepth 100000 in
theorem ok_X12_first : ∀ q ∈ op_X12_first, av_ok av_T vwCl mt_all mt_X12_first q := av_zip_ok ok_mm (by decide) okj_all ok_o1 ok_o2 (hs := hn_X12_first) (by decide +kernel) (by decide +kernel)
def hn_X12_wind : List (List (Nat × Nat)) := [
  [], [], [(6, 179)], [], [], [(8, 72)], [], [], []]
set_option maxRecDepth 100000 in
theorem ok_X12_wind : ∀ q ∈ op_X12_wind, av_ok av_T vwCl mt_all mt_X12_wind q := av_zip_ok ok_mm (by decide) okj_all ok_o1 ok_o2 (hs := hn_X12_wind) (by decide +kernel) (by decide +kernel)
def hn_X12_keep : List (List (Nat × Nat)) := [
  [], [], [(6, 179)], [], [], [(7, 3)], [], [], [(6, 220)], [(7, 4)], [], [],
  [], [], [], [], [(7, 5)], [], [], [], [], [(6, 221)], [], [],
  [], [(6, 174)], [], [], [], [(6, 220)], []]
set_option maxRecDepth 100000 in
theorem ok_X12_keep : ∀ q ∈ op_X12_keep, av_ok av_T vwCl mt_all mt_X12_keep q := av_zip_ok ok_mm (by decide) okj_all ok_o1 ok_o2 (hs := hn_X12_keep) (by decide +kernel) (by decide +kernel)
def hn_X12_back : List (List (Nat × Nat)) := [
  [], [], [(6, 179)], [], [(7, 3)], [], [], []]
set_option maxRecDepth 100000 in
theorem ok_X12_back : ∀ q ∈ op_X12_back, av_ok av_T vwCl mt_all mt_X12_back q := av_zip_ok ok_mm (by decide) okj_all ok_o1 ok_o2 (hs := hn_X12_back) (by decide +kernel) (by decide +kernel)
def hn_X12_count : List (List (Nat × Nat)) := [
  [], [], [(6, 179)], [], [], [], [], [], [(6, 189)], [], [], [(6, 190)],
  [], [], [(6, 191)], [], [], [(6, 192)], [], [], [(6, 220)], [], [], [(6, 229)],
  [], [], [(9, 4)], [], [], [(6, 227)], [], [], [], [], [], [(6, 189)],
  [], [], [], [], []]
set_option maxRecDepth 100000 in
theorem ok_X12_count : ∀ q ∈ op_X12_count, av_ok av_T vwCl mt_all mt_X12_count q := av_zip_ok ok_mm (by decide) okj_all ok_o1 ok_o2 (hs := hn_X12_count) (by decide +kernel) (by decide +kernel)
def hn_J0_length_8abf5 : List (List (Nat × Nat)) := [
  [], [(9, 145)], [], [], [(2, 23)], [], []]
set_option maxRecDepth 100000 in
theorem ok_J0_length_8abf5 : ∀ q ∈ op_J0_length_8abf5, av_ok av_T vwCl mt_all mt_J0_length_8abf5 q := av_zip_ok ok_mm (by decide) okj_all ok_o1 ok_o2 (hs := hn_J0_length_8abf5) (by decide +kernel) (by decide +kernel)
def hn_J0_charAt_5068e : List (List (Nat × Nat)) := [
  [], [(2, 33)], [], [], [(9, 145)], [], [(2, 37)], []]
set_option maxRecDepth 100000 in
theorem ok_J0_charAt_5068e : ∀ q ∈ op_J0_charAt_5068e, av_ok av_T vwCl mt_all mt_J0_charAt_5068e q := av_zip_ok ok_mm (by decide) okj_all ok_o1 ok_o2 (hs := hn_J0_charAt_5068e) (by decide +kernel) (by decide +kernel)
def hn_J0_coder_7d493 : List (List (Nat × Nat)) := [
  [(2, 27)], [], [], [(9, 146)], [], []]
set_option maxRecDepth 100000 in
theorem ok_J0_coder_7d493 : ∀ q ∈ op_J0_coder_7d493, av_ok av_T vwCl mt_all mt_J0_coder_7d493 q := av_zip_ok ok_mm (by decide) okj_all ok_o1 ok_o2 (hs := hn_J0_coder_7d493) (by decide +kernel) (by decide +kernel)
def hn_J0_isLatin1_aae02 : List (List (Nat × Nat)) := [
  [(2, 27)], [], [], [(9, 146)], [], [], [], []]
set_option maxRecDepth 100000 in
theorem ok_J0_isLatin1_aae02 : ∀ q ∈ op_J0_isLatin1_aae02, av_ok av_T vwCl mt_all mt_J0_isLatin1_aae02 q := av_zip_ok ok_mm (by decide) okj_all ok_o1 ok_o2 (hs := hn_J0_isLatin1_aae02) (by decide +kernel) (by decide +kernel)
def hn_J0_checkIndex_df160 : List (List (Nat × Nat)) := [
  [], [], [(2, 43)], [(2, 45)], [], []]
set_option maxRecDepth 100000 in
theorem ok_J0_checkIndex_df160 : ∀ q ∈ op_J0_checkIndex_df160, av_ok av_T vwCl mt_all mt_J0_checkIndex_df160 q := av_zip_ok ok_mm (by decide) okj_all ok_o1 ok_o2 (hs := hn_J0_checkIndex_df160) (by decide +kernel) (by decide +kernel)
def hn_J1_charAt_3b067 : List (List (Nat × Nat)) := [
  [], [], [], [(2, 40)], [], [], [], [], [], [], []]
set_option maxRecDepth 100000 in
theorem ok_J1_charAt_3b067 : ∀ q ∈ op_J1_charAt_3b067, av_ok av_T vwCl mt_all mt_J1_charAt_3b067 q := av_zip_ok ok_mm (by decide) okj_all ok_o1 ok_o2 (hs := hn_J1_charAt_3b067) (by decide +kernel) (by decide +kernel)
def hn_J3_checkIndex_8e157 : List (List (Nat × Nat)) := [
  [], [], [], [], [], [], []]
set_option maxRecDepth 100000 in
theorem ok_J3_checkIndex_8e157 : ∀ q ∈ op_J3_checkIndex_8e157, av_ok av_T vwCl mt_all mt_J3_checkIndex_8e157 q := av_zip_ok ok_mm (by decide) okj_all ok_o1 ok_o2 (hs := hn_J3_checkIndex_8e157) (by decide +kernel) (by decide +kernel)
