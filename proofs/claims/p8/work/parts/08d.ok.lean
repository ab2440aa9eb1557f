/-! ===== the rows of the methods ===== -/
def hn_X11_holds : List (List (Nat × Nat)) := [
  [], [(3, 127)], [], [(3, 120)], [], [], [(5, 64)], [], [], [], [], [(3, 115)],
  [(1, 190)], [], [], [], [], [], [], [], [], [(3, 127)], [], [(3, 115)],
  [], [(5, 38)], [], [], [], [(3, 118)], [], [(3, 115)], [], [(3, 127)], [], [(3, 121)],
  [], [(4, 156)], [], [(3, 127)], [(5, 5)], [], [], [], [], [], []]
set_option maxRecDepth 100000 in
theorem ok_X11_holds : ∀ q ∈ op_X11_holds, cv_ok cv_T vwCl mt_all mt_X11_holds q := cv_zip_ok ok_mm (by decide) okj_all ok_o1 ok_o2 (hs := hn_X11_holds) (by decide +kernel) (by decide +kernel)
def hn_X11_way : List (List (Nat × Nat)) := [
  [], [], [(5, 0)], [], [], [(4, 153)], [], [(5, 4)], [], [], [], [],
  [], [(5, 81)], [], [], [], [], [(5, 81)], [], []]
set_option maxRecDepth 100000 in
theorem ok_X11_way : ∀ q ∈ op_X11_way, cv_ok cv_T vwCl mt_all mt_X11_way q := cv_zip_ok ok_mm (by decide) okj_all ok_o1 ok_o2 (hs := hn_X11_way) (by decide +kernel) (by decide +kernel)
def hn_X11_dropWithBrace : List (List (Nat × Nat)) := [
  [], [(3, 127)], [], [(3, 120)], [], [], [(5, 64)], [], [(3, 127)], [], [(2, 206)], [],
  [(3, 118)], [], [(3, 115)], [], [(3, 127)], [], [(3, 121)], [], [(4, 156)], [], [(3, 127)], [(5, 5)],
  []]
set_option maxRecDepth 100000 in
theorem ok_X11_dropWithBrace : ∀ q ∈ op_X11_dropWithBrace, cv_ok cv_T vwCl mt_all mt_X11_dropWithBrace q := cv_zip_ok ok_mm (by decide) okj_all ok_o1 ok_o2 (hs := hn_X11_dropWithBrace) (by decide +kernel) (by decide +kernel)
def hn_X11_enough_0 : List (List (Nat × Nat)) := [
  [], [], [(5, 0)], [], [], [(4, 153)], [], [], [(5, 59)], [], [], [],
  [], [(3, 115)], [(5, 89)], [], [], [], [], [], [], [], [], [],
  [], [], [], [], [(3, 127)], [], [(3, 120)], [], [], [(5, 64)], [], [(3, 127)],
  [], [(2, 203)], [], [(3, 118)], [], [(3, 115)], [], [(3, 127)], [], [(3, 121)], [], [(4, 156)],
  [], [(3, 127)], [(2, 194)], [], [], [], [], [], [], [], [], []]
set_option maxRecDepth 100000 in
theorem ok_X11_enough_0 : ∀ q ∈ op_X11_enough_0, cv_ok cv_T vwCl mt_all mt_X11_enough q := cv_zip_ok ok_mm (by decide) okj_all ok_o1 ok_o2 (hs := hn_X11_enough_0) (by decide +kernel) (by decide +kernel)
def hn_X11_enough_1 : List (List (Nat × Nat)) := [
  [], [], []]
set_option maxRecDepth 100000 in
theorem ok_X11_enough_1 : ∀ q ∈ op_X11_enough_1, cv_ok cv_T vwCl mt_all mt_X11_enough q := cv_zip_ok ok_mm (by decide) okj_all ok_o1 ok_o2 (hs := hn_X11_enough_1) (by decide +kernel) (by decide +kernel)
theorem ok_X11_enough : ∀ q ∈ op_X11_enough, cv_ok cv_T vwCl mt_all mt_X11_enough q := List.forall_mem_append.mpr ⟨ok_X11_enough_0, ok_X11_enough_1⟩
def hn_X11_bears_0 : List (List (Nat × Nat)) := [
  [], [], [(5, 0)], [], [], [(4, 153)], [], [], [(5, 59)], [], [], [],
  [], [(3, 115)], [(5, 89)], [], [], [], [], [], [], [], [], [(3, 115)],
  [(5, 89)], [], [], [], [], [], [], [], [], [], [], [],
  [], [], [], [(3, 127)], [], [(3, 120)], [], [], [(5, 64)], [], [(3, 127)], [],
  [(2, 212)], [], [(3, 127)], [(5, 97)], [], [], [], [], [], [], [], []]
set_option maxRecDepth 100000 in
theorem ok_X11_bears_0 : ∀ q ∈ op_X11_bears_0, cv_ok cv_T vwCl mt_all mt_X11_bears q := cv_zip_ok ok_mm (by decide) okj_all ok_o1 ok_o2 (hs := hn_X11_bears_0) (by decide +kernel) (by decide +kernel)
def hn_X11_bears_1 : List (List (Nat × Nat)) := [
  [], [], [], [], [], [], [(3, 118)], [], [(3, 115)], [], [(3, 127)], [],
  [(3, 121)], [], [(4, 156)], [], [(3, 127)], [(5, 5)], [], [], [], [], [], [],
  [], []]
set_option maxRecDepth 100000 in
theorem ok_X11_bears_1 : ∀ q ∈ op_X11_bears_1, cv_ok cv_T vwCl mt_all mt_X11_bears q := cv_zip_ok ok_mm (by decide) okj_all ok_o1 ok_o2 (hs := hn_X11_bears_1) (by decide +kernel) (by decide +kernel)
theorem ok_X11_bears : ∀ q ∈ op_X11_bears, cv_ok cv_T vwCl mt_all mt_X11_bears q := List.forall_mem_append.mpr ⟨ok_X11_bears_0, ok_X11_bears_1⟩
def hn_X11_knock : List (List (Nat × Nat)) := [
  [], [], [(5, 0)], [], [], [], [], [], [], [], [(3, 115)], [],
  [(5, 102)], [], [(5, 103)], [], [], [(3, 118)], [], [(3, 115)], [], [(3, 120)], [], [],
  [], [(3, 121)], [], [(5, 104)], [], [(3, 118)], [], [(3, 115)], [], [(5, 105)], [], [],
  [(3, 118)], [(2, 161)], [], [(5, 103)], [], [], []]
set_option maxRecDepth 100000 in
theorem ok_X11_knock : ∀ q ∈ op_X11_knock, cv_ok cv_T vwCl mt_all mt_X11_knock q := cv_zip_ok ok_mm (by decide) okj_all ok_o1 ok_o2 (hs := hn_X11_knock) (by decide +kernel) (by decide +kernel)
def hn_X11_measure : List (List (Nat × Nat)) := [
  [], [(5, 110)], [], [], [], [], [], [(5, 111)], [], [], [], [],
  [], [], [], [(5, 0)], [], [], [(4, 142)], [], [], [], [], [],
  [], [], [], [], [], [], [(3, 125)], [], [], [], [], [],
  [(5, 112)], []]
set_option maxRecDepth 100000 in
theorem ok_X11_measure : ∀ q ∈ op_X11_measure, cv_ok cv_T vwCl mt_all mt_X11_measure q := cv_zip_ok ok_mm (by decide) okj_all ok_o1 ok_o2 (hs := hn_X11_measure) (by decide +kernel) (by decide +kernel)
def hn_X11_strike : List (List (Nat × Nat)) := [
  [], [], [], [], [(3, 125)], [(3, 46)], [], [], [(3, 125)], [], [(5, 120)], [],
  [], []]
set_option maxRecDepth 100000 in
theorem ok_X11_strike : ∀ q ∈ op_X11_strike, cv_ok cv_T vwCl mt_all mt_X11_strike q := cv_zip_ok ok_mm (by decide) okj_all ok_o1 ok_o2 (hs := hn_X11_strike) (by decide +kernel) (by decide +kernel)
def hn_X11_known : List (List (Nat × Nat)) := [
  [], [], [], [], [], [(3, 125)], [(3, 46)], [], [], [], [], [(3, 125)],
  [], [(3, 48)], [], []]
set_option maxRecDepth 100000 in
theorem ok_X11_known : ∀ q ∈ op_X11_known, cv_ok cv_T vwCl mt_all mt_X11_known q := cv_zip_ok ok_mm (by decide) okj_all ok_o1 ok_o2 (hs := hn_X11_known) (by decide +kernel) (by decide +kernel)
def hn_X11_fits : List (List (Nat × Nat)) := [
  [], [], [(5, 0)], [], [], [], [], [(3, 126)], [], [(3, 115)], [], [(3, 118)],
  [], [(3, 125)], [], [], [(5, 132)], [], [(3, 126)], [(3, 84)], []]
set_option maxRecDepth 100000 in
theorem ok_X11_fits : ∀ q ∈ op_X11_fits, cv_ok cv_T vwCl mt_all mt_X11_fits q := cv_zip_ok ok_mm (by decide) okj_all ok_o1 ok_o2 (hs := hn_X11_fits) (by decide +kernel) (by decide +kernel)
def hn_X11_odds : List (List (Nat × Nat)) := [
  [], [], [(5, 0)], [], [], [], [], [], [(3, 115)], [(1, 203)], [], [],
  [], [], [], [], [], [], [], [(3, 126)], [], [(3, 115)], [], [(3, 118)],
  [], [(3, 125)], [], [], [(5, 132)], [], [(3, 126)], [(3, 84)], [], [], [], [],
  [(3, 126)], [(3, 84)], [], [], [], [], [], [], [], [], [], [],
  [(3, 115)], [], [(5, 171)], [], [], [(3, 126)], [], [(3, 115)], [(5, 179)], []]
set_option maxRecDepth 100000 in
theorem ok_X11_odds : ∀ q ∈ op_X11_odds, cv_ok cv_T vwCl mt_all mt_X11_odds q := cv_zip_ok ok_mm (by decide) okj_all ok_o1 ok_o2 (hs := hn_X11_odds) (by decide +kernel) (by decide +kernel)
def hn_X11_test_0 : List (List (Nat × Nat)) := [
  [], [], [(5, 0)], [], [], [], [], [], [], [], [], [],
  [(3, 126)], [], [(3, 115)], [], [(3, 118)], [], [(3, 125)], [], [], [(3, 121)], [(5, 132)], [],
  [(3, 126)], [(3, 84)], [(5, 188)], [], [], [], [], [], [], [], [], [],
  [], [], [], [(3, 126)], [], [(3, 115)], [], [(5, 194)], [], [(3, 126)], [], [(3, 115)],
  [], [(5, 194)], [], [], [], [], [], [], [], [], [], []]
set_option maxRecDepth 100000 in
theorem ok_X11_test_0 : ∀ q ∈ op_X11_test_0, cv_ok cv_T vwCl mt_all mt_X11_test q := cv_zip_ok ok_mm (by decide) okj_all ok_o1 ok_o2 (hs := hn_X11_test_0) (by decide +kernel) (by decide +kernel)
def hn_X11_test_1 : List (List (Nat × Nat)) := [
  [(3, 126)], [], [(3, 115)], [], [(5, 194)], []]
set_option maxRecDepth 100000 in
theorem ok_X11_test_1 : ∀ q ∈ op_X11_test_1, cv_ok cv_T vwCl mt_all mt_X11_test q := cv_zip_ok ok_mm (by decide) okj_all ok_o1 ok_o2 (hs := hn_X11_test_1) (by decide +kernel) (by decide +kernel)
theorem ok_X11_test : ∀ q ∈ op_X11_test, cv_ok cv_T vwCl mt_all mt_X11_test q := List.forall_mem_append.mpr ⟨ok_X11_test_0, ok_X11_test_1⟩
def hn_X11_low : List (List (Nat × Nat)) := [
  [], [], [(5, 0)], [], [], [(5, 206)], [], [(5, 4)], [], [], [(3, 120)], [],
  [], [], [(5, 209)], []]
set_option maxRecDepth 100000 in
theorem ok_X11_low : ∀ q ∈ op_X11_low, cv_ok cv_T vwCl mt_all mt_X11_low q := cv_zip_ok ok_mm (by decide) okj_all ok_o1 ok_o2 (hs := hn_X11_low) (by decide +kernel) (by decide +kernel)
def hn_X11_rest : List (List (Nat × Nat)) := [
  [], [], [(5, 0)], [], [], [], [], [], [], [], [], [],
  [], [], [(3, 120)], [], [], [], [(5, 209)], [], [(3, 120)], [], [], [],
  [(5, 209)], [], [], [], [], [], [], []]
set_option maxRecDepth 100000 in
theorem ok_X11_rest : ∀ q ∈ op_X11_rest, cv_ok cv_T vwCl mt_all mt_X11_rest q := cv_zip_ok ok_mm (by decide) okj_all ok_o1 ok_o2 (hs := hn_X11_rest) (by decide +kernel) (by decide +kernel)
def hn_X11_shuts : List (List (Nat × Nat)) := [
  [], [], [(5, 0)], [], [], [], [], [], [], [], [], [],
  [], [], [(3, 120)], [], [], [], [], [], [(5, 209)], [], [(3, 120)], [],
  [], [], [(5, 209)], [], [], [], [], [], [], [], [], [],
  [], [], [], []]
set_option maxRecDepth 100000 in
theorem ok_X11_shuts : ∀ q ∈ op_X11_shuts, cv_ok cv_T vwCl mt_all mt_X11_shuts q := cv_zip_ok ok_mm (by decide) okj_all ok_o1 ok_o2 (hs := hn_X11_shuts) (by decide +kernel) (by decide +kernel)
def hn_X11_above : List (List (Nat × Nat)) := [
  [], [], [(5, 0)], [], [], [(5, 206)], [], [(5, 4)], [], [], [(3, 120)], [],
  [], [], [(5, 230)], []]
set_option maxRecDepth 100000 in
theorem ok_X11_above : ∀ q ∈ op_X11_above, cv_ok cv_T vwCl mt_all mt_X11_above q := cv_zip_ok ok_mm (by decide) okj_all ok_o1 ok_o2 (hs := hn_X11_above) (by decide +kernel) (by decide +kernel)
def hn_X11_opens : List (List (Nat × Nat)) := [
  [], [], [(5, 0)], [], [], [], [], [], [], [], [], [],
  [(3, 120)], [], [], [], [(5, 230)], [], [], [], [], [], [], [],
  [], []]
set_option maxRecDepth 100000 in
theorem ok_X11_opens : ∀ q ∈ op_X11_opens, cv_ok cv_T vwCl mt_all mt_X11_opens q := cv_zip_ok ok_mm (by decide) okj_all ok_o1 ok_o2 (hs := hn_X11_opens) (by decide +kernel) (by decide +kernel)
def hn_X11_stand_0 : List (List (Nat × Nat)) := [
  [], [], [(5, 0)], [], [], [(5, 206)], [], [], [], [], [], [],
  [(5, 4)], [], [], [(3, 127)], [], [(3, 120)], [], [], [(5, 64)], [], [], [],
  [], [], [], [], [], [], [], [], [], [(6, 4)], [], [],
  [], [], [], [], [], [], [(3, 127)], [], [], [], [], [(6, 7)],
  [], [], [(3, 127)], [], [], [], [(6, 7)], [], [], [], [], [(3, 127)]]
set_option maxRecDepth 100000 in
theorem ok_X11_stand_0 : ∀ q ∈ op_X11_stand_0, cv_ok cv_T vwCl mt_all mt_X11_stand q := cv_zip_ok ok_mm (by decide) okj_all ok_o1 ok_o2 (hs := hn_X11_stand_0) (by decide +kernel) (by decide +kernel)
def hn_X11_stand_1 : List (List (Nat × Nat)) := [
  [(2, 221)], [], [], [(3, 127)], [(2, 223)], [], [], [], [], [], [(5, 4)], []]
set_option maxRecDepth 100000 in
theorem ok_X11_stand_1 : ∀ q ∈ op_X11_stand_1, cv_ok cv_T vwCl mt_all mt_X11_stand q := cv_zip_ok ok_mm (by decide) okj_all ok_o1 ok_o2 (hs := hn_X11_stand_1) (by decide +kernel) (by decide +kernel)
theorem ok_X11_stand : ∀ q ∈ op_X11_stand, cv_ok cv_T vwCl mt_all mt_X11_stand q := List.forall_mem_append.mpr ⟨ok_X11_stand_0, ok_X11_stand_1⟩
def hn_X11_first_0 : List (List (Nat × Nat)) := [
  [], [(3, 115)], [(1, 173)], [], [], [], [], [], [], [], [], [],
  [], [], [(3, 115)], [(1, 173)], [], [], [], [], [], [], [], [(3, 115)],
  [(1, 173)], [], [], [], [], [], [(3, 115)], [(1, 173)], [], [], [(3, 128)], [],
  [], [], [], [], [], [(6, 16)], [(6, 20)], [], [], [], [], [],
  [(3, 128)], [], [(3, 115)], [(1, 173)], [(6, 24)], [], [], [], [(3, 128)], [(3, 103)], [], []]
set_option maxRecDepth 100000 in
theorem ok_X11_first_0 : ∀ q ∈ op_X11_first_0, cv_ok cv_T vwCl mt_all mt_X11_first q := cv_zip_ok ok_mm (by decide) okj_all ok_o1 ok_o2 (hs := hn_X11_first_0) (by decide +kernel) (by decide +kernel)
def hn_X11_first_1 : List (List (Nat × Nat)) := [
  [(3, 128)], [], [], [], [(6, 33)], []]
set_option maxRecDepth 100000 in
theorem ok_X11_first_1 : ∀ q ∈ op_X11_first_1, cv_ok cv_T vwCl mt_all mt_X11_first q := cv_zip_ok ok_mm (by decide) okj_all ok_o1 ok_o2 (hs := hn_X11_first_1) (by decide +kernel) (by decide +kernel)
theorem ok_X11_first : ∀ q ∈ op_X11_first, cv_ok cv_T vwCl mt_all mt_X11_first q := List.forall_mem_append.mpr ⟨ok_X11_first_0, ok_X11_first_1⟩
def hn_X11_unlatchedWeeks : List (List (Nat × Nat)) := [
  [], [], [(5, 0)], [], [], [], [], [(3, 127)], [], [(3, 120)], [], [],
  [(5, 64)], [], [], [], [], [], [], [(3, 115)], [(1, 173)], [], [], [],
  [], [], [], [], [], [], [(3, 127)], [], [(2, 200)], [], [(3, 127)], [(5, 5)],
  [], [(2, 200)], [], [(3, 118)], [], [(3, 115)], [], [(3, 127)], [], [(3, 121)], [], [],
  [], [(4, 156)], [], [(3, 127)], [(5, 12)], [], [], [], [], [], []]
set_option maxRecDepth 100000 in
theorem ok_X11_unlatchedWeeks : ∀ q ∈ op_X11_unlatchedWeeks, cv_ok cv_T vwCl mt_all mt_X11_unlatchedWeeks q := cv_zip_ok ok_mm (by decide) okj_all ok_o1 ok_o2 (hs := hn_X11_unlatchedWeeks) (by decide +kernel) (by decide +kernel)
def hn_X11_wind_0 : List (List (Nat × Nat)) := [
  [], [], [], [], [], [], [], [], [], [], [], [],
  [], [], [], [], [], [], [], [], [], [], [(5, 0)], [],
  [], [], [], [], [], [], [], [(5, 59)], [], [], [], [],
  [], [], [], [], [], [], [], [], [], [], [(3, 127)], [],
  [(3, 120)], [], [], [(5, 64)], [], [(3, 127)], [(2, 212)], [], [], [], [], []]
set_option maxRecDepth 100000 in
theorem ok_X11_wind_0 : ∀ q ∈ op_X11_wind_0, cv_ok cv_T vwCl mt_all mt_X11_wind q := cv_zip_ok ok_mm (by decide) okj_all ok_o1 ok_o2 (hs := hn_X11_wind_0) (by decide +kernel) (by decide +kernel)
def hn_X11_wind_1 : List (List (Nat × Nat)) := [
  [], [], [(6, 41)], [], [(6, 42)], [], [(6, 43)], [], [], [], [(3, 127)], [],
  [], [], [], [], [], [], [], [], [], [], [], [],
  [], [(2, 212)], [], [(3, 118)], [], [(3, 115)], [], [(3, 127)], [], [(3, 121)], [], [],
  [], [(4, 156)], [], [], [], [(3, 127)], [(5, 5)], [], [], [], [], [],
  [], []]
set_option maxRecDepth 100000 in
theorem ok_X11_wind_1 : ∀ q ∈ op_X11_wind_1, cv_ok cv_T vwCl mt_all mt_X11_wind q := cv_zip_ok ok_mm (by decide) okj_all ok_o1 ok_o2 (hs := hn_X11_wind_1) (by decide +kernel) (by decide +kernel)
theorem ok_X11_wind : ∀ q ∈ op_X11_wind, cv_ok cv_T vwCl mt_all mt_X11_wind q := List.forall_mem_append.mpr ⟨ok_X11_wind_0, ok_X11_wind_1⟩
def hn_X11_keep : List (List (Nat × Nat)) := [
  [], [], [], [], [], [], [(3, 122)], [], [], [], [(3, 120)], [],
  [], [(5, 64)], [], [], [], [], [(3, 121)], [(3, 123)], [], [(3, 121)], []]
set_option maxRecDepth 100000 in
theorem ok_X11_keep : ∀ q ∈ op_X11_keep, cv_ok cv_T vwCl mt_all mt_X11_keep q := cv_zip_ok ok_mm (by decide) okj_all ok_o1 ok_o2 (hs := hn_X11_keep) (by decide +kernel) (by decide +kernel)
def hn_X11_back : List (List (Nat × Nat)) := [
  [], [(3, 123)], [], [], [], [], [], [], [], [], [], [],
  [(3, 120)], [], [], [], [(3, 122)], [], [], [(5, 64)], [], [], [], [],
  [(3, 123)], [(3, 121)], [], [(3, 124)], [(4, 113)], [], [(3, 121)], []]
set_option maxRecDepth 100000 in
theorem ok_X11_back : ∀ q ∈ op_X11_back, cv_ok cv_T vwCl mt_all mt_X11_back q := cv_zip_ok ok_mm (by decide) okj_all ok_o1 ok_o2 (hs := hn_X11_back) (by decide +kernel) (by decide +kernel)
def hn_X11_count : List (List (Nat × Nat)) := [
  [], [], [], [(3, 115)], [(1, 173)], [], [], [(3, 115)], [(1, 190)], [], [], [(3, 115)],
  [(1, 203)], [], [], [(3, 115)], [(1, 156)], [], [], [(3, 121)], [], [], [(3, 125)], [(3, 46)],
  [], [], [(3, 125)], [(6, 56)], [], [], [(3, 124)], [(3, 22)], [], [], [(6, 57)], [],
  [], []]
set_option maxRecDepth 100000 in
theorem ok_X11_count : ∀ q ∈ op_X11_count, cv_ok cv_T vwCl mt_all mt_X11_count q := cv_zip_ok ok_mm (by decide) okj_all ok_o1 ok_o2 (hs := hn_X11_count) (by decide +kernel) (by decide +kernel)
def hn_X11_costOfAllDone : List (List (Nat × Nat)) := [
  [], [], [], [], [], [], [(3, 115)], [(1, 173)], [], [], [], [(3, 120)],
  [], [], [], [], [(3, 115)], [], [(3, 120)], [], [], [(2, 214)], [(5, 69)], [],
  [], [], [], [], []]
set_option maxRecDepth 100000 in
theorem ok_X11_costOfAllDone : ∀ q ∈ op_X11_costOfAllDone, cv_ok cv_T vwCl mt_all mt_X11_costOfAllDone q := cv_zip_ok ok_mm (by decide) okj_all ok_o1 ok_o2 (hs := hn_X11_costOfAllDone) (by decide +kernel) (by decide +kernel)
def hn_X12_init_0 : List (List (Nat × Nat)) := [
  [], [(6, 158)], [], [], [(1, 142)], [(6, 177)], [], [], [(1, 142)], [], [], [],
  [], [], [], [], [], [], [], [], [], [], [], [],
  [], [], [], [], [], [], [], [], [], [], [], [],
  [], [], [], [], [], [], [], [], [], [], [], [],
  [], [], [], [], [], [], [], [], [], [], [], []]
set_option maxRecDepth 100000 in
theorem ok_X12_init_0 : ∀ q ∈ op_X12_init_0, cv_ok cv_T vwCl mt_all mt_X12_init q := cv_zip_ok ok_mm (by decide) okj_all ok_o1 ok_o2 (hs := hn_X12_init_0) (by decide +kernel) (by decide +kernel)
def hn_X12_init_1 : List (List (Nat × Nat)) := [
  [], [], [], [], [], [], [], [], [], [], [], [],
  [], [], [], [], [], [], [], [], [], [], [], [],
  [], [], [], [], [], [], [], [], [], [], [], [],
  [], [], [], [], [], [], [], [], [], [], [], [],
  [], [], [], [], [], [], [], [], [], [], [], []]
set_option maxRecDepth 100000 in
theorem ok_X12_init_1 : ∀ q ∈ op_X12_init_1, cv_ok cv_T vwCl mt_all mt_X12_init q := cv_zip_ok ok_mm (by decide) okj_all ok_o1 ok_o2 (hs := hn_X12_init_1) (by decide +kernel) (by decide +kernel)
def hn_X12_init_2 : List (List (Nat × Nat)) := [
  [], [], [], [], [], [], [], [], [], [], [], [],
  [], [], [], [], [], [], [], [], [], [], [], [],
  [], [], [], [], [], [], [], [], [], [], [], [],
  [], [], [], [], [], [], [], [], [], [], [], [],
  [], [], [], [], [], [], [], [], [], [], [], []]
set_option maxRecDepth 100000 in
theorem ok_X12_init_2 : ∀ q ∈ op_X12_init_2, cv_ok cv_T vwCl mt_all mt_X12_init q := cv_zip_ok ok_mm (by decide) okj_all ok_o1 ok_o2 (hs := hn_X12_init_2) (by decide +kernel) (by decide +kernel)
def hn_X12_init_3 : List (List (Nat × Nat)) := [
  [], [], [], [], [], [], [], [], [], [], [], [],
  [], [], [], [], [], [], [], [], [], [], [], [],
  [], [], [], [], [], [], [], [], [], [], [], [],
  [], [], [], [], [], [], [], [], [], [], [], [],
  [], [], [], [], [], [], [], [], [], [], [], []]
set_option maxRecDepth 100000 in
theorem ok_X12_init_3 : ∀ q ∈ op_X12_init_3, cv_ok cv_T vwCl mt_all mt_X12_init q := cv_zip_ok ok_mm (by decide) okj_all ok_o1 ok_o2 (hs := hn_X12_init_3) (by decide +kernel) (by decide +kernel)
def hn_X12_init_4 : List (List (Nat × Nat)) := [
  [], [], [], [], [], [], [], [], [], [], [], [],
  [], [], [], [], [], [], [], [], [], [], [], [],
  [], [], [], [], [], [], [], [], [], [], [], [],
  [], [], [], [], [], [], [], [], [], [], [], [],
  [], [], [], [], [], [], [], [], [], [], [], []]
set_option maxRecDepth 100000 in
theorem ok_X12_init_4 : ∀ q ∈ op_X12_init_4, cv_ok cv_T vwCl mt_all mt_X12_init q := cv_zip_ok ok_mm (by decide) okj_all ok_o1 ok_o2 (hs := hn_X12_init_4) (by decide +kernel) (by decide +kernel)
def hn_X12_init_5 : List (List (Nat × Nat)) := [
  [], [], [], [], [], [], [], [], [], [], [], [],
  [], [], [], [], [], [], [], [], [], [], [], [],
  [], [], [], [], [], [], [], [], [], [], [], [],
  [], [], [], [], [], [], [], [], [], [], [], [],
  [], [], [], [], [], [], [], [], [], [], [], []]
set_option maxRecDepth 100000 in
theorem ok_X12_init_5 : ∀ q ∈ op_X12_init_5, cv_ok cv_T vwCl mt_all mt_X12_init q := cv_zip_ok ok_mm (by decide) okj_all ok_o1 ok_o2 (hs := hn_X12_init_5) (by decide +kernel) (by decide +kernel)
def hn_X12_init_6 : List (List (Nat × Nat)) := [
  [], [], [], [], [], [], [], [], [], [], [], [],
  [], [], [], [], [], [], [], [], [], [], [], [],
  [], [], [], [], [], [], [], [], [], [], [], [],
  [], [], [], [], [], [], [], [], [], [], [], [],
  [], [], [], [], [], [], [], [], [], [], [], []]
set_option maxRecDepth 100000 in
theorem ok_X12_init_6 : ∀ q ∈ op_X12_init_6, cv_ok cv_T vwCl mt_all mt_X12_init q := cv_zip_ok ok_mm (by decide) okj_all ok_o1 ok_o2 (hs := hn_X12_init_6) (by decide +kernel) (by decide +kernel)
def hn_X12_init_7 : List (List (Nat × Nat)) := [
  [], [], [], [], [], [], [], [], [], [], [], [],
  [], [], [], [], [], [], [], [], [], [], [], [],
  [], [], [], [], [], [], [], [], [], [], [], [],
  [], [], [], [], [], [], [], [], [], [], [], [],
  [], [], [], [], [], [], [], [], [], [], [], []]
set_option maxRecDepth 100000 in
theorem ok_X12_init_7 : ∀ q ∈ op_X12_init_7, cv_ok cv_T vwCl mt_all mt_X12_init q := cv_zip_ok ok_mm (by decide) okj_all ok_o1 ok_o2 (hs := hn_X12_init_7) (by decide +kernel) (by decide +kernel)
def hn_X12_init_8 : List (List (Nat × Nat)) := [
  [], [], [], [], [], [], [], [], [], [], [], [],
  [], [], [], [], [], [], [], [], [], [], [], [],
  [], [], [], [], [], [], [], [], [], [], [], [],
  [], [], [], [], [], [], [], [], [], [], [], [],
  [], [], [], [], [], [], [], [], [], [], [], []]
set_option maxRecDepth 100000 in
theorem ok_X12_init_8 : ∀ q ∈ op_X12_init_8, cv_ok cv_T vwCl mt_all mt_X12_init q := cv_zip_ok ok_mm (by decide) okj_all ok_o1 ok_o2 (hs := hn_X12_init_8) (by decide +kernel) (by decide +kernel)
def hn_X12_init_9 : List (List (Nat × Nat)) := [
  [], [], [], [], [], [], [], [], [], [], [], [],
  [], [], [], [], [], [], [], [], [], [], [], [],
  [], [], [], [], [], [], [], [], [], [], [], [],
  [], [], [], [], [], [], [], [], [], [], [], [],
  [], [], [], [], [], [], [], [], [], [], [], []]
set_option maxRecDepth 100000 in
theorem ok_X12_init_9 : ∀ q ∈ op_X12_init_9, cv_ok cv_T vwCl mt_all mt_X12_init q := cv_zip_ok ok_mm (by decide) okj_all ok_o1 ok_o2 (hs := hn_X12_init_9) (by decide +kernel) (by decide +kernel)
def hn_X12_init_10 : List (List (Nat × Nat)) := [
  [], [], [], [], [], [], [], [], [], [], [], [],
  [], [], [], [], [], [], [], [], [], [], [], [],
  [], [], [], [], [], [], [], [], [], [], [], [],
  [], [], [], [], [], [], [], [], [], [], [], [],
  [], [], [], [], [], [], [], [], [], [], [], []]
set_option maxRecDepth 100000 in
theorem ok_X12_init_10 : ∀ q ∈ op_X12_init_10, cv_ok cv_T vwCl mt_all mt_X12_init q := cv_zip_ok ok_mm (by decide) okj_all ok_o1 ok_o2 (hs := hn_X12_init_10) (by decide +kernel) (by decide +kernel)
def hn_X12_init_11 : List (List (Nat × Nat)) := [
  [], [], [], [], [], [], [], [], [], [], [], [],
  [], [], [], [], [], [], [], [], [], [], [], [],
  [], [], [], [], [], [], [], [], [], [], [], [],
  [], [], [], [], [], [], [], [], [], [], [], [],
  [], [], [], [], [], [], [], [], [], [(6, 180)], [], []]
set_option maxRecDepth 100000 in
theorem ok_X12_init_11 : ∀ q ∈ op_X12_init_11, cv_ok cv_T vwCl mt_all mt_X12_init q := cv_zip_ok ok_mm (by decide) okj_all ok_o1 ok_o2 (hs := hn_X12_init_11) (by decide +kernel) (by decide +kernel)
def hn_X12_init_12 : List (List (Nat × Nat)) := [
  [(6, 182)], [], [], [(1, 142)], [(6, 198)], [], [], [(1, 142)], [(6, 199)], [], [], [(1, 142)],
  [(6, 200)], [], [], [(3, 72)], [(6, 201)], [], [], [(1, 142)], [(6, 202)], [], [], [(1, 142)],
  [(6, 203)], [], [], [(1, 142)], [(6, 204)], [], [], [(1, 142)], [(6, 205)], [], [], [(1, 142)],
  [(6, 206)], [], [], [(1, 142)], [(6, 207)], [], [], [(1, 142)], [(6, 208)], [], [], [(1, 142)],
  [(6, 209)], [], [], [(1, 142)], [(6, 210)], [], [], [(1, 142)], [(6, 211)], [], [], [(1, 142)]]
set_option maxRecDepth 100000 in
theorem ok_X12_init_12 : ∀ q ∈ op_X12_init_12, cv_ok cv_T vwCl mt_all mt_X12_init q := cv_zip_ok ok_mm (by decide) okj_all ok_o1 ok_o2 (hs := hn_X12_init_12) (by decide +kernel) (by decide +kernel)
def hn_X12_init_13 : List (List (Nat × Nat)) := [
  [(6, 212)], [], [], [(1, 142)], [(6, 213)], [], [], [(1, 142)], [(6, 221)], [], [], [(1, 142)],
  [(6, 222)], [], [], [(2, 173)], [(6, 223)], [], [], [(2, 173)], [(6, 224)], [], [], [(2, 173)],
  [(6, 226)], [], [], [(1, 142)], [(6, 228)], [], [], [(6, 230)], [], [], [(1, 142)], [(6, 231)],
  [], [], [(1, 142)], [(6, 232)], [], [], [(1, 142)], [(6, 233)], [], [], [(1, 142)], [(6, 234)],
  [], [], [(1, 142)], [(6, 235)], [], [], [(3, 72)], [(6, 236)], [], [], [(1, 142)], [(6, 237)]]
set_option maxRecDepth 100000 in
theorem ok_X12_init_13 : ∀ q ∈ op_X12_init_13, cv_ok cv_T vwCl mt_all mt_X12_init q := cv_zip_ok ok_mm (by decide) okj_all ok_o1 ok_o2 (hs := hn_X12_init_13) (by decide +kernel) (by decide +kernel)
def hn_X12_init_14 : List (List (Nat × Nat)) := [
  [], [], [(1, 142)], [], [], [], [], [], [], [], [], [],
  [], [], [], [], [], [], [], [], [], [], [], [],
  [], [], [], [], [], [], [], [], [], [], [], [],
  [], [], [], [(6, 238)], [], [], [(1, 142)], [], [], [], [], [],
  [], [], [], [], [], [], [], [], [], [], [], []]
set_option maxRecDepth 100000 in
theorem ok_X12_init_14 : ∀ q ∈ op_X12_init_14, cv_ok cv_T vwCl mt_all mt_X12_init q := cv_zip_ok ok_mm (by decide) okj_all ok_o1 ok_o2 (hs := hn_X12_init_14) (by decide +kernel) (by decide +kernel)
def hn_X12_init_15 : List (List (Nat × Nat)) := [
  [], [], [], [], [], [], [], [], [], [], [], [],
  [], [], [], [], [], [], [], [(6, 239)], [], [], [(1, 142)], [(7, 0)],
  [], [], [(1, 142)], [(7, 1)], [], [], [(1, 142)], [(7, 2)], [], [], [(1, 142)], [(7, 5)],
  [], [(6, 159)], [], [(6, 163)], []]
set_option maxRecDepth 100000 in
theorem ok_X12_init_15 : ∀ q ∈ op_X12_init_15, cv_ok cv_T vwCl mt_all mt_X12_init q := cv_zip_ok ok_mm (by decide) okj_all ok_o1 ok_o2 (hs := hn_X12_init_15) (by decide +kernel) (by decide +kernel)
theorem ok_X12_init : ∀ q ∈ op_X12_init, cv_ok cv_T vwCl mt_all mt_X12_init q := List.forall_mem_append.mpr ⟨ok_X12_init_0, List.forall_mem_append.mpr ⟨ok_X12_init_1, List.forall_mem_append.mpr ⟨ok_X12_init_2, List.forall_mem_append.mpr ⟨ok_X12_init_3, List.forall_mem_append.mpr ⟨ok_X12_init_4, List.forall_mem_append.mpr ⟨ok_X12_init_5, List.forall_mem_append.mpr ⟨ok_X12_init_6, List.forall_mem_append.mpr ⟨ok_X12_init_7, List.forall_mem_append.mpr ⟨ok_X12_init_8, List.forall_mem_append.mpr ⟨ok_X12_init_9, List.forall_mem_append.mpr ⟨ok_X12_init_10, List.forall_mem_append.mpr ⟨ok_X12_init_11, List.forall_mem_append.mpr ⟨ok_X12_init_12, List.forall_mem_append.mpr ⟨ok_X12_init_13, List.forall_mem_append.mpr ⟨ok_X12_init_14, ok_X12_init_15⟩⟩⟩⟩⟩⟩⟩⟩⟩⟩⟩⟩⟩⟩⟩
