section
/-! ===== the rows of the methods ===== -/
def hn_X6_readDigits : List (List (Nat × Nat)) := [
  [], [(2, 73)], [], [(2, 72)], [], [], [(2, 70)], [], [(2, 73)], [], [], [],
  [], [(2, 70)], [], [(2, 73)], [], [], [], [], [(3, 201)], [], [], [(2, 80)],
  [], [], [(2, 70)], [], [(2, 73)], [], [], [], [], [(3, 183)], [(2, 80)], [],
  [], [(2, 73)], [], [], [(2, 73)], [], [], [], [(2, 76)], []]
set_option maxRecDepth 100000 in
theorem ok_X6_readDigits : ∀ q ∈ op_X6_readDigits, cv_ok cv_T vwCl mt_all mt_X6_readDigits q := cv_zip_ok ok_mm (by decide) okj_all ok_o1 ok_o2 (hs := hn_X6_readDigits) (by decide +kernel) (by decide +kernel)
def hn_X6_readSign_0 : List (List (Nat × Nat)) := [
  [], [], [(2, 73)], [], [], [(2, 73)], [], [], [(2, 76)], [], [], [],
  [], [(2, 76)], [], [], [], [(2, 76)], [], [], [], [(2, 76)], [], [],
  [], [(2, 80)], [], [], [], [(2, 80)], [], [], [], [(2, 80)], [], [],
  [], [(2, 80)], [], [], [], [(2, 80)], [], [], [], [], [(3, 206)], [],
  [], [], [], [], [(3, 206)], [], [], [], [], [(2, 80)], [], []]
set_option maxRecDepth 100000 in
theorem ok_X6_readSign_0 : ∀ q ∈ op_X6_readSign_0, cv_ok cv_T vwCl mt_all mt_X6_readSign q := cv_zip_ok ok_mm (by decide) okj_all ok_o1 ok_o2 (hs := hn_X6_readSign_0) (by decide +kernel) (by decide +kernel)
def hn_X6_readSign_1 : List (List (Nat × Nat)) := [
  [], [], [(3, 206)], [], [], [], [], [(2, 80)], [], [], [], [(2, 76)],
  []]
set_option maxRecDepth 100000 in
theorem ok_X6_readSign_1 : ∀ q ∈ op_X6_readSign_1, cv_ok cv_T vwCl mt_all mt_X6_readSign q := cv_zip_ok ok_mm (by decide) okj_all ok_o1 ok_o2 (hs := hn_X6_readSign_1) (by decide +kernel) (by decide +kernel)
theorem ok_X6_readSign : ∀ q ∈ op_X6_readSign, cv_ok cv_T vwCl mt_all mt_X6_readSign q := List.forall_mem_append.mpr ⟨ok_X6_readSign_0, ok_X6_readSign_1⟩
def hn_X6_takes : List (List (Nat × Nat)) := [
  [], [(2, 73)], [], [(2, 72)], [], [], [(2, 70)], [], [(2, 73)], [], [], [],
  [], [], [(2, 73)], [], [], [(2, 73)], [], [], [], []]
set_option maxRecDepth 100000 in
theorem ok_X6_takes : ∀ q ∈ op_X6_takes, cv_ok cv_T vwCl mt_all mt_X6_takes q := cv_zip_ok ok_mm (by decide) okj_all ok_o1 ok_o2 (hs := hn_X6_takes) (by decide +kernel) (by decide +kernel)
def hn_X6_isWord : List (List (Nat × Nat)) := [
  [], [(2, 76)], [], [], [], [(2, 80)], [], [], [], [], [], []]
set_option maxRecDepth 100000 in
theorem ok_X6_isWord : ∀ q ∈ op_X6_isWord, cv_ok cv_T vwCl mt_all mt_X6_isWord q := cv_zip_ok ok_mm (by decide) okj_all ok_o1 ok_o2 (hs := hn_X6_isWord) (by decide +kernel) (by decide +kernel)
def hn_X6_isWordFrom : List (List (Nat × Nat)) := [
  [], [(2, 76)], [], [], [], [(2, 80)], [], [], [], [(2, 80)], [], [],
  [], [], [], []]
set_option maxRecDepth 100000 in
theorem ok_X6_isWordFrom : ∀ q ∈ op_X6_isWordFrom, cv_ok cv_T vwCl mt_all mt_X6_isWordFrom q := cv_zip_ok ok_mm (by decide) okj_all ok_o1 ok_o2 (hs := hn_X6_isWordFrom) (by decide +kernel) (by decide +kernel)
def hn_X7_init : List (List (Nat × Nat)) := [
  [], [(1, 45)], [], [], [(1, 142)], [(1, 103)], [], [(1, 46)], []]
set_option maxRecDepth 100000 in
theorem ok_X7_init : ∀ q ∈ op_X7_init, cv_ok cv_T vwCl mt_all mt_X7_init q := cv_zip_ok ok_mm (by decide) okj_all ok_o1 ok_o2 (hs := hn_X7_init) (by decide +kernel) (by decide +kernel)
def hn_X7_clear : List (List (Nat × Nat)) := [
  [], [], [(1, 54)], [], [], [(1, 62)], [], [], [(1, 50)], [], [], [(1, 70)],
  [], [], [(1, 73)], [], [], [(1, 76)], [], [], [(1, 79)], [], [], [(1, 83)],
  [], [], [(1, 86)], [], [], [(1, 89)], [], [], [(1, 92)], [], [], [(1, 95)],
  [], [], [(1, 98)], [], [], [(1, 101)], [], [], [], [], [(1, 103)], [],
  [], [], [(1, 103)], [], [], [], [], [], []]
set_option maxRecDepth 100000 in
theorem ok_X7_clear : ∀ q ∈ op_X7_clear, cv_ok cv_T vwCl mt_all mt_X7_clear q := cv_zip_ok ok_mm (by decide) okj_all ok_o1 ok_o2 (hs := hn_X7_clear) (by decide +kernel) (by decide +kernel)
def hn_X7_setHeight : List (List (Nat × Nat)) := [
  [], [], [(1, 58)], [], [], [(1, 66)], [], [], [], [], [(1, 68)], []]
set_option maxRecDepth 100000 in
theorem ok_X7_setHeight : ∀ q ∈ op_X7_setHeight, cv_ok cv_T vwCl mt_all mt_X7_setHeight q := cv_zip_ok ok_mm (by decide) okj_all ok_o1 ok_o2 (hs := hn_X7_setHeight) (by decide +kernel) (by decide +kernel)
def hn_X7_span : List (List (Nat × Nat)) := [
  [], [(1, 68)], [], [(1, 66)], [], []]
set_option maxRecDepth 100000 in
theorem ok_X7_span : ∀ q ∈ op_X7_span, cv_ok cv_T vwCl mt_all mt_X7_span q := cv_zip_ok ok_mm (by decide) okj_all ok_o1 ok_o2 (hs := hn_X7_span) (by decide +kernel) (by decide +kernel)
def hn_X8_init : List (List (Nat × Nat)) := [
  [], [(3, 78)], [], [], [(1, 142)], [(3, 81)], [], [(3, 79), (2, 185), (1, 13)], [], [], [(3, 80)], [(3, 82)],
  []]
set_option maxRecDepth 100000 in
theorem ok_X8_init : ∀ q ∈ op_X8_init, cv_ok cv_T vwCl mt_all mt_X8_init q := cv_zip_ok ok_mm (by decide) okj_all ok_o1 ok_o2 (hs := hn_X8_init) (by decide +kernel) (by decide +kernel)
def hn_X8_judge_0 : List (List (Nat × Nat)) := [
  [], [], [(5, 136)], [], [], [], [(5, 150)], [], [], [], [(3, 83)], [],
  [], [], [], [(1, 201)], [], [], [(3, 82)], [], [], [(5, 151)], [], [(3, 82)],
  [], [], [], [(1, 201)], [], [], [], [], [], [], [(5, 152)], [],
  [], [(5, 153)], [], [], [], [], [], [], [], [], [], [],
  [], [], [(3, 82)], [], [], [(5, 161)], [], [], [(3, 82)], [], [(5, 162)], []]
set_option maxRecDepth 100000 in
theorem ok_X8_judge_0 : ∀ q ∈ op_X8_judge_0, cv_ok cv_T vwCl mt_all mt_X8_judge q := cv_zip_ok ok_mm (by decide) okj_all ok_o1 ok_o2 (hs := hn_X8_judge_0) (by decide +kernel) (by decide +kernel)
def hn_X8_judge_1 : List (List (Nat × Nat)) := [
  [], [], [], [], [], [], [], [(5, 153)], [], [], [], [],
  [(3, 83)], [], [], [], [], [], [], [], [], [(3, 83)], [], [],
  []]
set_option maxRecDepth 100000 in
theorem ok_X8_judge_1 : ∀ q ∈ op_X8_judge_1, cv_ok cv_T vwCl mt_all mt_X8_judge q := cv_zip_ok ok_mm (by decide) okj_all ok_o1 ok_o2 (hs := hn_X8_judge_1) (by decide +kernel) (by decide +kernel)
theorem ok_X8_judge : ∀ q ∈ op_X8_judge, cv_ok cv_T vwCl mt_all mt_X8_judge q := List.forall_mem_append.mpr ⟨ok_X8_judge_0, ok_X8_judge_1⟩
def hn_X8_record : List (List (Nat × Nat)) := [
  [], [], [], [], [], [], [], [], [], [], [], [],
  [], [], [], [(3, 81)], [], [], [], [(3, 81)], [], [], [(3, 82)], [],
  [(5, 157)], [], [], [], []]
set_option maxRecDepth 100000 in
theorem ok_X8_record : ∀ q ∈ op_X8_record, cv_ok cv_T vwCl mt_all mt_X8_record q := cv_zip_ok ok_mm (by decide) okj_all ok_o1 ok_o2 (hs := hn_X8_record) (by decide +kernel) (by decide +kernel)
def hn_X8_recorded : List (List (Nat × Nat)) := [
  [], [], [], [], [], [], [], [], [], [], [(3, 81)], [],
  [], [], [(3, 81)], [], [], [], [], []]
set_option maxRecDepth 100000 in
theorem ok_X8_recorded : ∀ q ∈ op_X8_recorded, cv_ok cv_T vwCl mt_all mt_X8_recorded q := cv_zip_ok ok_mm (by decide) okj_all ok_o1 ok_o2 (hs := hn_X8_recorded) (by decide +kernel) (by decide +kernel)
def hn_X8_weightOfFitting : List (List (Nat × Nat)) := [
  [], [], [], [], [], [], [(1, 201)], [], [], [], [(3, 83)], [],
  [], [], [], [], [], [], [(5, 183)], [], [], [], [], [],
  [], [], []]
set_option maxRecDepth 100000 in
theorem ok_X8_weightOfFitting : ∀ q ∈ op_X8_weightOfFitting, cv_ok cv_T vwCl mt_all mt_X8_weightOfFitting q := cv_zip_ok ok_mm (by decide) okj_all ok_o1 ok_o2 (hs := hn_X8_weightOfFitting) (by decide +kernel) (by decide +kernel)
def hn_X8_heaviestGroup_0 : List (List (Nat × Nat)) := [
  [], [], [], [], [], [], [(1, 201)], [], [], [], [], [],
  [], [], [(1, 201)], [], [], [(3, 83)], [], [], [], [], [], [],
  [(3, 83)], [], [], [], [], [], [], [], [], [], [], [],
  [], [], [], [(5, 198)], [], [], [], [(5, 198)], [], [], [], [],
  [(5, 183)], [], [], [], [], [], [], [(5, 150)], [], [], [], []]
set_option maxRecDepth 100000 in
theorem ok_X8_heaviestGroup_0 : ∀ q ∈ op_X8_heaviestGroup_0, cv_ok cv_T vwCl mt_all mt_X8_heaviestGroup q := cv_zip_ok ok_mm (by decide) okj_all ok_o1 ok_o2 (hs := hn_X8_heaviestGroup_0) (by decide +kernel) (by decide +kernel)
def hn_X8_heaviestGroup_1 : List (List (Nat × Nat)) := [
  []]
set_option maxRecDepth 100000 in
theorem ok_X8_heaviestGroup_1 : ∀ q ∈ op_X8_heaviestGroup_1, cv_ok cv_T vwCl mt_all mt_X8_heaviestGroup q := cv_zip_ok ok_mm (by decide) okj_all ok_o1 ok_o2 (hs := hn_X8_heaviestGroup_1) (by decide +kernel) (by decide +kernel)
theorem ok_X8_heaviestGroup : ∀ q ∈ op_X8_heaviestGroup, cv_ok cv_T vwCl mt_all mt_X8_heaviestGroup q := List.forall_mem_append.mpr ⟨ok_X8_heaviestGroup_0, ok_X8_heaviestGroup_1⟩
def hn_X9_init : List (List (Nat × Nat)) := [
  [], [(3, 98)], [], [], [(1, 142)], [(3, 99)], [], [], [(1, 142)], [(3, 100)], [], [],
  [(1, 142)], [(3, 101)], []]
set_option maxRecDepth 100000 in
theorem ok_X9_init : ∀ q ∈ op_X9_init, cv_ok cv_T vwCl mt_all mt_X9_init q := cv_zip_ok ok_mm (by decide) okj_all ok_o1 ok_o2 (hs := hn_X9_init) (by decide +kernel) (by decide +kernel)
def hn_X9_tell : List (List (Nat × Nat)) := [
  [], [], [], [], [], [], [], [], [], [], [(3, 99)], [],
  [], [], [(3, 99)], [], [], [], []]
set_option maxRecDepth 100000 in
theorem ok_X9_tell : ∀ q ∈ op_X9_tell, cv_ok cv_T vwCl mt_all mt_X9_tell q := cv_zip_ok ok_mm (by decide) okj_all ok_o1 ok_o2 (hs := hn_X9_tell) (by decide +kernel) (by decide +kernel)
def hn_X9_choose : List (List (Nat × Nat)) := [
  [], [], [], [], [], [], [], [], [], [], [], [],
  [], [], [], [(3, 102)], [], [], [], [], [], [], [], [],
  [(6, 28)], [], [], [], [], [], [(3, 102)], [], [], [], [], [(3, 102)],
  [], [], [], [(3, 102)], [], [], [], [], [], [], [(3, 101)], [],
  [], [(3, 100)], [], [], [], [], [], [], [], []]
set_option maxRecDepth 100000 in
theorem ok_X9_choose : ∀ q ∈ op_X9_choose, cv_ok cv_T vwCl mt_all mt_X9_choose q := cv_zip_ok ok_mm (by decide) okj_all ok_o1 ok_o2 (hs := hn_X9_choose) (by decide +kernel) (by decide +kernel)
def hn_X9_sumOf_0 : List (List (Nat × Nat)) := [
  [], [], [], [], [], [], [], [], [(6, 32)], [], [], [],
  [], [], [], [], [], [], [], [], [], [], [], [],
  [], [], [], [], [], [], [], [], [], [], [], [],
  [], [], [], [], [], [], [(3, 100)], [], [], [], [], [],
  [(3, 99)], [], [], [], [], [], [], [], [], [], [], []]
set_option maxRecDepth 100000 in
theorem ok_X9_sumOf_0 : ∀ q ∈ op_X9_sumOf_0, cv_ok cv_T vwCl mt_all mt_X9_sumOf q := cv_zip_ok ok_mm (by decide) okj_all ok_o1 ok_o2 (hs := hn_X9_sumOf_0) (by decide +kernel) (by decide +kernel)
def hn_X9_sumOf_1 : List (List (Nat × Nat)) := [
  []]
set_option maxRecDepth 100000 in
theorem ok_X9_sumOf_1 : ∀ q ∈ op_X9_sumOf_1, cv_ok cv_T vwCl mt_all mt_X9_sumOf q := cv_zip_ok ok_mm (by decide) okj_all ok_o1 ok_o2 (hs := hn_X9_sumOf_1) (by decide +kernel) (by decide +kernel)
theorem ok_X9_sumOf : ∀ q ∈ op_X9_sumOf, cv_ok cv_T vwCl mt_all mt_X9_sumOf q := List.forall_mem_append.mpr ⟨ok_X9_sumOf_0, ok_X9_sumOf_1⟩
def hn_X9_gateAt : List (List (Nat × Nat)) := [
  [], [], [], [], [], [], [(3, 101)], [], [], [], [], []]
set_option maxRecDepth 100000 in
theorem ok_X9_gateAt : ∀ q ∈ op_X9_gateAt, cv_ok cv_T vwCl mt_all mt_X9_gateAt q := cv_zip_ok ok_mm (by decide) okj_all ok_o1 ok_o2 (hs := hn_X9_gateAt) (by decide +kernel) (by decide +kernel)
def hn_X10_init : List (List (Nat × Nat)) := [
  [], [(2, 183)], [], [], [(2, 184)], [(3, 19)], [], [], [(1, 142)], [(3, 20)], [], [],
  [], [], [], [], [(3, 19)], [], [(2, 184), (2, 185), (1, 13)], [], [], [(2, 186)], [], [],
  [], []]
set_option maxRecDepth 100000 in
theorem ok_X10_init : ∀ q ∈ op_X10_init, cv_ok cv_T vwCl mt_all mt_X10_init q := cv_zip_ok ok_mm (by decide) okj_all ok_o1 ok_o2 (hs := hn_X10_init) (by decide +kernel) (by decide +kernel)
def hn_X10_clear : List (List (Nat × Nat)) := [
  [], [], [(3, 21)], []]
set_option maxRecDepth 100000 in
theorem ok_X10_clear : ∀ q ∈ op_X10_clear, cv_ok cv_T vwCl mt_all mt_X10_clear q := cv_zip_ok ok_mm (by decide) okj_all ok_o1 ok_o2 (hs := hn_X10_clear) (by decide +kernel) (by decide +kernel)
def hn_X10_push : List (List (Nat × Nat)) := [
  [], [(3, 21)], [], [], [], [(5, 30)], [], [(3, 21)], [], [], [(3, 21)], [],
  [], [], [(3, 19)], [], [(3, 21)], [], [], [(5, 34)], [], [(3, 20)], [], [(3, 21)],
  [], [], [], [], [(3, 21)], [], [], [(3, 21)], []]
set_option maxRecDepth 100000 in
theorem ok_X10_push : ∀ q ∈ op_X10_push, cv_ok cv_T vwCl mt_all mt_X10_push q := cv_zip_ok ok_mm (by decide) okj_all ok_o1 ok_o2 (hs := hn_X10_push) (by decide +kernel) (by decide +kernel)
def hn_X10_dropEarliest : List (List (Nat × Nat)) := [
  [], [(3, 19)], [], [], [], [], [], [], [], [], [], [(3, 19)],
  [], [], [], [], [(3, 19)], [], [], [], [], [(3, 20)], [], [],
  [], [], [(3, 20)], [], [], [], [], [], [], [(3, 19)], [], [],
  [], [], [], [(3, 21)], []]
set_option maxRecDepth 100000 in
theorem ok_X10_dropEarliest : ∀ q ∈ op_X10_dropEarliest, cv_ok cv_T vwCl mt_all mt_X10_dropEarliest q := cv_zip_ok ok_mm (by decide) okj_all ok_o1 ok_o2 (hs := hn_X10_dropEarliest) (by decide +kernel) (by decide +kernel)
def hn_X10_latestGate : List (List (Nat × Nat)) := [
  [], [(3, 21)], [], [], [(3, 21)], [], [], [], [(3, 20)], [], [(3, 21)], [],
  [], [], [], [], []]
set_option maxRecDepth 100000 in
theorem ok_X10_latestGate : ∀ q ∈ op_X10_latestGate, cv_ok cv_T vwCl mt_all mt_X10_latestGate q := cv_zip_ok ok_mm (by decide) okj_all ok_o1 ok_o2 (hs := hn_X10_latestGate) (by decide +kernel) (by decide +kernel)
def hn_X10_popInto : List (List (Nat × Nat)) := [
  [], [(3, 21)], [], [], [(3, 21)], [], [], [], [], [(3, 21)], [], [],
  [(3, 21)], [], [], [(3, 19)], [], [(3, 21)], [], [(5, 34)], []]
set_option maxRecDepth 100000 in
theorem ok_X10_popInto : ∀ q ∈ op_X10_popInto, cv_ok cv_T vwCl mt_all mt_X10_popInto q := cv_zip_ok ok_mm (by decide) okj_all ok_o1 ok_o2 (hs := hn_X10_popInto) (by decide +kernel) (by decide +kernel)
def hn_X11_init_0 : List (List (Nat × Nat)) := [
  [], [(1, 30)], [], [], [(1, 141)], [(3, 113)], [], [(1, 33), (1, 34), (1, 2)], [], [(1, 35)], [(3, 115)], [],
  [(1, 33), (1, 34), (1, 2)], [], [(1, 35)], [(3, 116)], [], [(2, 6), (2, 7), (1, 4)], [], [], [(3, 113)], [], [(3, 116)], [(2, 8)],
  [(3, 117)], [], [(2, 150), (2, 151), (1, 11)], [], [], [(3, 118)], [], [(2, 174), (1, 41), (1, 3)], [], [(2, 175)], [(3, 119)], [],
  [], [(2, 176)], [(3, 120)], [], [], [(2, 176)], [(3, 122)], [], [], [(3, 123)], [], [(2, 178), (2, 179), (1, 12)],
  [], [], [(3, 119)], [(2, 180)], [(3, 124)], [], [(3, 30), (3, 31), (1, 14)], [], [], [(3, 125)], [], [(3, 73), (3, 74), (1, 15)]]
set_option maxRecDepth 100000 in
theorem ok_X11_init_0 : ∀ q ∈ op_X11_init_0, cv_ok cv_T vwCl mt_all mt_X11_init q := cv_zip_ok ok_mm (by decide) okj_all ok_o1 ok_o2 (hs := hn_X11_init_0) (by decide +kernel) (by decide +kernel)
def hn_X11_init_1 : List (List (Nat × Nat)) := [
  [], [], [(3, 119)], [(3, 75)], [(3, 126)], [], [(2, 176), (2, 185), (1, 13)], [], [], [(3, 119)], [(3, 92)], [(3, 127)],
  [], [(3, 93), (3, 94), (1, 16)], [], [], [(3, 128)], [], [], [], [], [], [], [(3, 120)],
  [], [(2, 176), (2, 185), (1, 13)], [], [], [(3, 119)], [(3, 92)], [], [], [(3, 122)], [], [(2, 176), (2, 185), (1, 13)], [],
  [], [(3, 119)], [(3, 92)], [], [], [], []]
set_option maxRecDepth 100000 in
theorem ok_X11_init_1 : ∀ q ∈ op_X11_init_1, cv_ok cv_T vwCl mt_all mt_X11_init q := cv_zip_ok ok_mm (by decide) okj_all ok_o1 ok_o2 (hs := hn_X11_init_1) (by decide +kernel) (by decide +kernel)
theorem ok_X11_init : ∀ q ∈ op_X11_init, cv_ok cv_T vwCl mt_all mt_X11_init q := List.forall_mem_append.mpr ⟨ok_X11_init_0, ok_X11_init_1⟩
def hn_X11_feed : List (List (Nat × Nat)) := [
  [], [(3, 114)], [], [], [], [], [], [], [(3, 166)], [], [], [(3, 166)],
  [], [], [(3, 166)], [], [], [(3, 166)], [], [], [(3, 166)], [], [(3, 114)], []]
set_option maxRecDepth 100000 in
theorem ok_X11_feed : ∀ q ∈ op_X11_feed, cv_ok cv_T vwCl mt_all mt_X11_feed q := cv_zip_ok ok_mm (by decide) okj_all ok_o1 ok_o2 (hs := hn_X11_feed) (by decide +kernel) (by decide +kernel)
def hn_X11_putOnTape : List (List (Nat × Nat)) := [
  [], [], [], [], [], [(3, 114)], [], [], [(3, 114)], [], [(3, 113)], [],
  [], [], [(3, 113)], [], [(3, 114)], [], [], [], [], [], [], [],
  [(3, 114)], [], [], [(3, 114)], [], [], []]
set_option maxRecDepth 100000 in
theorem ok_X11_putOnTape : ∀ q ∈ op_X11_putOnTape, cv_ok cv_T vwCl mt_all mt_X11_putOnTape q := cv_zip_ok ok_mm (by decide) okj_all ok_o1 ok_o2 (hs := hn_X11_putOnTape) (by decide +kernel) (by decide +kernel)
def hn_X11_text : List (List (Nat × Nat)) := [
  [], [], [], [], [(3, 114)], [], [], [], [], [], [(3, 114)], [],
  [(3, 117)], [], [(3, 116)], [], [(3, 174)], [], [], [], [], [], [(4, 93)], [],
  []]
set_option maxRecDepth 100000 in
theorem ok_X11_text : ∀ q ∈ op_X11_text, cv_ok cv_T vwCl mt_all mt_X11_text q := cv_zip_ok ok_mm (by decide) okj_all ok_o1 ok_o2 (hs := hn_X11_text) (by decide +kernel) (by decide +kernel)
def hn_X11_takeSpare : List (List (Nat × Nat)) := [
  [], [(3, 115)], [], [], [], [(3, 116)], [(3, 115)], [], [], [(3, 116)], [], [(3, 118)],
  [(4, 97)], [], [], [], [], [], [], [(3, 120)], [], [], [], [(3, 115)],
  [], [(4, 101)], [], [], [], [], [(3, 121)], [], [], [(3, 123)], [], [(3, 124)],
  [(4, 113)], [], [(3, 125)], [(4, 117)], []]
set_option maxRecDepth 100000 in
theorem ok_X11_takeSpare : ∀ q ∈ op_X11_takeSpare, cv_ok cv_T vwCl mt_all mt_X11_takeSpare q := cv_zip_ok ok_mm (by decide) okj_all ok_o1 ok_o2 (hs := hn_X11_takeSpare) (by decide +kernel) (by decide +kernel)
def hn_X11_fault : List (List (Nat × Nat)) := [
  [], [], [], [(3, 117)], [(2, 134)], [], [], [], [], [], [(3, 117)], [(2, 136)],
  [], [], []]
set_option maxRecDepth 100000 in
theorem ok_X11_fault : ∀ q ∈ op_X11_fault, cv_ok cv_T vwCl mt_all mt_X11_fault q := cv_zip_ok ok_mm (by decide) okj_all ok_o1 ok_o2 (hs := hn_X11_fault) (by decide +kernel) (by decide +kernel)
def hn_X11_named : List (List (Nat × Nat)) := [
  [], [], [], [], [(3, 115)], [(1, 170)], [], [(3, 115)], [(1, 173)], [(4, 129)], [], [],
  [], [], [], [], [(3, 115)], [(1, 176)], [], [(3, 115)], [(1, 190)], [(4, 129)], [], [],
  [], [], [], [], [(3, 115)], [(1, 193)], [], [(3, 115)], [(1, 203)], [(4, 129)], [], [],
  []]
set_option maxRecDepth 100000 in
theorem ok_X11_named : ∀ q ∈ op_X11_named, cv_ok cv_T vwCl mt_all mt_X11_named q := cv_zip_ok ok_mm (by decide) okj_all ok_o1 ok_o2 (hs := hn_X11_named) (by decide +kernel) (by decide +kernel)
def hn_X11_placeOf : List (List (Nat × Nat)) := [
  [], [], [], [], [], [], [], [], [], [], [], [],
  [], [], [], [], [], [], [], []]
set_option maxRecDepth 100000 in
theorem ok_X11_placeOf : ∀ q ∈ op_X11_placeOf, cv_ok cv_T vwCl mt_all mt_X11_placeOf q := cv_zip_ok ok_mm (by decide) okj_all ok_o1 ok_o2 (hs := hn_X11_placeOf) (by decide +kernel) (by decide +kernel)
def hn_X11_isGate : List (List (Nat × Nat)) := [
  [], [], [], [], [(3, 115)], [(1, 173)], [], [], [], [(3, 120)], [], [],
  [], [], [], []]
set_option maxRecDepth 100000 in
theorem ok_X11_isGate : ∀ q ∈ op_X11_isGate, cv_ok cv_T vwCl mt_all mt_X11_isGate q := cv_zip_ok ok_mm (by decide) okj_all ok_o1 ok_o2 (hs := hn_X11_isGate) (by decide +kernel) (by decide +kernel)
def hn_X11_isBound : List (List (Nat × Nat)) := [
  [], [(5, 62)], [], [], [(5, 63)], [], [], [], [], []]
set_option maxRecDepth 100000 in
theorem ok_X11_isBound : ∀ q ∈ op_X11_isBound, cv_ok cv_T vwCl mt_all mt_X11_isBound q := cv_zip_ok ok_mm (by decide) okj_all ok_o1 ok_o2 (hs := hn_X11_isBound) (by decide +kernel) (by decide +kernel)
def hn_X11_isAhead : List (List (Nat × Nat)) := [
  [], [], [], [], [], [], [], [], []]
set_option maxRecDepth 100000 in
theorem ok_X11_isAhead : ∀ q ∈ op_X11_isAhead, cv_ok cv_T vwCl mt_all mt_X11_isAhead q := cv_zip_ok ok_mm (by decide) okj_all ok_o1 ok_o2 (hs := hn_X11_isAhead) (by decide +kernel) (by decide +kernel)
def hn_X11_isAngle : List (List (Nat × Nat)) := [
  [], [], [], [], [], [], [], [], []]
set_option maxRecDepth 100000 in
theorem ok_X11_isAngle : ∀ q ∈ op_X11_isAngle, cv_ok cv_T vwCl mt_all mt_X11_isAngle q := cv_zip_ok ok_mm (by decide) okj_all ok_o1 ok_o2 (hs := hn_X11_isAngle) (by decide +kernel) (by decide +kernel)
def hn_X11_isWeek : List (List (Nat × Nat)) := [
  [], [], [], [], [], [], [], [], []]
set_option maxRecDepth 100000 in
theorem ok_X11_isWeek : ∀ q ∈ op_X11_isWeek, cv_ok cv_T vwCl mt_all mt_X11_isWeek q := cv_zip_ok ok_mm (by decide) okj_all ok_o1 ok_o2 (hs := hn_X11_isWeek) (by decide +kernel) (by decide +kernel)
def hn_X11_works : List (List (Nat × Nat)) := [
  [], [(3, 115)], [], [(4, 134)], [], [], [], [], [], [], [], [],
  [], [], [], [(3, 115)], [(1, 180)], [], [], [], [], [], [], [],
  [(3, 115)], [(1, 184)], [], [], [], [], [(3, 115)], [(1, 188)], [], [], []]
set_option maxRecDepth 100000 in
theorem ok_X11_works : ∀ q ∈ op_X11_works, cv_ok cv_T vwCl mt_all mt_X11_works q := cv_zip_ok ok_mm (by decide) okj_all ok_o1 ok_o2 (hs := hn_X11_works) (by decide +kernel) (by decide +kernel)
def hn_X11_firm : List (List (Nat × Nat)) := [
  [], [(4, 142)], [], [], [(3, 115)], [], [(4, 145)], [], [], []]
set_option maxRecDepth 100000 in
theorem ok_X11_firm : ∀ q ∈ op_X11_firm, cv_ok cv_T vwCl mt_all mt_X11_firm q := cv_zip_ok ok_mm (by decide) okj_all ok_o1 ok_o2 (hs := hn_X11_firm) (by decide +kernel) (by decide +kernel)
def hn_X11_weeks : List (List (Nat × Nat)) := [
  [], [(4, 153)], [], [], [(3, 121)], [], [], [], [], [], [], [],
  [], [], [], [(3, 115)], [(1, 173)], [], [], [], [(3, 120)], [], [], [],
  [(3, 118)], [], [(3, 115)], [], [(3, 120)], [], [], [], [(3, 121)], [], [(4, 156)], [],
  [], [], [], [(3, 121)], [], [], [(3, 121)], [], [(3, 121)], []]
set_option maxRecDepth 100000 in
theorem ok_X11_weeks : ∀ q ∈ op_X11_weeks, cv_ok cv_T vwCl mt_all mt_X11_weeks q := cv_zip_ok ok_mm (by decide) okj_all ok_o1 ok_o2 (hs := hn_X11_weeks) (by decide +kernel) (by decide +kernel)
def hn_X11_sags : List (List (Nat × Nat)) := [
  [], [], [(5, 0)], [], [(5, 4)], [], [], [(3, 120)], [], [], [], [],
  [], [], [(5, 5)], [], [], [(2, 194)], [], [], [(2, 196)], [], [], [(2, 198)],
  [], [], [(2, 200)], [], [], [(5, 6)], [], [], [(2, 196)], [], [], [(5, 7)],
  [], [(5, 4)], []]
set_option maxRecDepth 100000 in
theorem ok_X11_sags : ∀ q ∈ op_X11_sags, cv_ok cv_T vwCl mt_all mt_X11_sags q := cv_zip_ok ok_mm (by decide) okj_all ok_o1 ok_o2 (hs := hn_X11_sags) (by decide +kernel) (by decide +kernel)
def hn_X11_latched : List (List (Nat × Nat)) := [
  [], [], [(5, 0)], [], [], [], [], [(3, 120)], [], [], [(5, 12)], [],
  [], [], [], []]
set_option maxRecDepth 100000 in
theorem ok_X11_latched : ∀ q ∈ op_X11_latched, cv_ok cv_T vwCl mt_all mt_X11_latched q := cv_zip_ok ok_mm (by decide) okj_all ok_o1 ok_o2 (hs := hn_X11_latched) (by decide +kernel) (by decide +kernel)
def hn_X11_gives : List (List (Nat × Nat)) := [
  [], [], [(5, 0)], [], [], [], [], [(3, 120)], [], [], [], [],
  [(5, 6)], [], [(2, 196)], [], [(5, 7)], [(5, 21)], [(5, 21)], [], [], [(5, 6)], [], [],
  [], [], [], [(2, 196)], [], [], [], [], [], []]
set_option maxRecDepth 100000 in
theorem ok_X11_gives : ∀ q ∈ op_X11_gives, cv_ok cv_T vwCl mt_all mt_X11_gives q := cv_zip_ok ok_mm (by decide) okj_all ok_o1 ok_o2 (hs := hn_X11_gives) (by decide +kernel) (by decide +kernel)
def hn_X11_work : List (List (Nat × Nat)) := [
  [], [], [(5, 0)], [], [], [(3, 115)], [], [(4, 134)], [], [], [], [],
  [(3, 120)], [], [], [], [], [(2, 214)], [], [], [], [], [], [],
  [], [], [(3, 124)], [], [], [(5, 26)], [], [], [(3, 115)], [], [(5, 38)], [],
  []]
set_option maxRecDepth 100000 in
theorem ok_X11_work : ∀ q ∈ op_X11_work, cv_ok cv_T vwCl mt_all mt_X11_work q := cv_zip_ok ok_mm (by decide) okj_all ok_o1 ok_o2 (hs := hn_X11_work) (by decide +kernel) (by decide +kernel)
def hn_X11_undo : List (List (Nat × Nat)) := [
  [], [(3, 124)], [(3, 22)], [], [], [], [], [(3, 124)], [(5, 47)], [], [], [],
  [(5, 0)], [], [], [(3, 124)], [], [(3, 120)], [], [], [(5, 51)], [], [(3, 124)], [(3, 22)],
  []]
set_option maxRecDepth 100000 in
theorem ok_X11_undo : ∀ q ∈ op_X11_undo, cv_ok cv_T vwCl mt_all mt_X11_undo q := cv_zip_ok ok_mm (by decide) okj_all ok_o1 ok_o2 (hs := hn_X11_undo) (by decide +kernel) (by decide +kernel)
def hn_X11_lasts : List (List (Nat × Nat)) := [
  [], [], [(5, 0)], [], [], [(5, 59)], [], [], [], [], [(3, 127)], [],
  [(3, 120)], [], [], [(5, 64)], [], [], [], [], [], [], [(3, 118)], [],
  [(3, 115)], [], [(3, 127)], [], [(3, 121)], [], [], [], [], [], [(4, 156)], [],
  [(3, 127)], [(5, 5)], [], [], [], [], [], [], [], []]
set_option maxRecDepth 100000 in
theorem ok_X11_lasts : ∀ q ∈ op_X11_lasts, cv_ok cv_T vwCl mt_all mt_X11_lasts q := cv_zip_ok ok_mm (by decide) okj_all ok_o1 ok_o2 (hs := hn_X11_lasts) (by decide +kernel) (by decide +kernel)
def hn_X11_least_0 : List (List (Nat × Nat)) := [
  [], [], [(5, 0)], [], [], [(4, 153)], [], [], [(5, 59)], [], [], [],
  [], [], [], [], [], [], [], [], [], [], [], [],
  [], [], [(3, 115)], [(1, 190)], [], [], [], [(3, 115)], [], [(5, 69)], [], [],
  [], [], [], [], [], [], [], [], [], [], [(3, 120)], [],
  [], [(2, 214)], [], [], [], [], [], [], [], [], [], [(5, 73)]]
set_option maxRecDepth 100000 in
theorem ok_X11_least_0 : ∀ q ∈ op_X11_least_0, cv_ok cv_T vwCl mt_all mt_X11_least q := cv_zip_ok ok_mm (by decide) okj_all ok_o1 ok_o2 (hs := hn_X11_least_0) (by decide +kernel) (by decide +kernel)
def hn_X11_least_1 : List (List (Nat × Nat)) := [
  [], [], [], [], [], [], [], [], [], [], [], [],
  []]
set_option maxRecDepth 100000 in
theorem ok_X11_least_1 : ∀ q ∈ op_X11_least_1, cv_ok cv_T vwCl mt_all mt_X11_least q := cv_zip_ok ok_mm (by decide) okj_all ok_o1 ok_o2 (hs := hn_X11_least_1) (by decide +kernel) (by decide +kernel)
theorem ok_X11_least : ∀ q ∈ op_X11_least, cv_ok cv_T vwCl mt_all mt_X11_least q := List.forall_mem_append.mpr ⟨ok_X11_least_0, ok_X11_least_1⟩
end
section
/-! ===== the rows of the methods ===== -/
def hn_X11_holds : List (List (Nat × Nat)) := [
  [], [(3, 127)], [], [(3, 120)], [], [], [(5, 64)], [], [], [], [], [(3, 115)],
  [(1, 190)], [], [], [], [], [], [], [], [], [(3, 127)], [], [(3, 115)],
  [], [(5, 38)], [], [], [], [(3, 118)], [], [(3, 115)], [], [(3, 127)], [], [(3, 121)],
  [], [(4, 156)], [], [(3, 127)], [(5, 5)], [], [], [], [], [], []]
set_option maxRecDepth 100000 in
theorem ok_X11_holds : ∀ q ∈ op_X11_holds, cv_ok cv_T vwCl mt_all mt_X11_holds q := cv_zip_ok ok_mm (by decide) okj_all ok_o1 ok_o2 (hs := hn_X11_holds) (by decide +kernel) (by decide +kernel)
def hn_X11_way : List (List (Nat × Nat)) := [
  [], [], [(5, 0)], [], [], [(4, 153)], [], [(5, 4)], [], [], [], [],
  [], [(5, 81)], [], [], [], [], [(5, 81)], [], []]
set_option maxRecDepth 100000 in
theorem ok_X11_way : ∀ q ∈ op_X11_way, cv_ok cv_T vwCl mt_all mt_X11_way q := cv_zip_ok ok_mm (by decide) okj_all ok_o1 ok_o2 (hs := hn_X11_way) (by decide +kernel) (by decide +kernel)
def hn_X11_dropWithBrace : List (List (Nat × Nat)) := [
  [], [(3, 127)], [], [(3, 120)], [], [], [(5, 64)], [], [(3, 127)], [], [(2, 206)], [],
  [(3, 118)], [], [(3, 115)], [], [(3, 127)], [], [(3, 121)], [], [(4, 156)], [], [(3, 127)], [(5, 5)],
  []]
set_option maxRecDepth 100000 in
theorem ok_X11_dropWithBrace : ∀ q ∈ op_X11_dropWithBrace, cv_ok cv_T vwCl mt_all mt_X11_dropWithBrace q := cv_zip_ok ok_mm (by decide) okj_all ok_o1 ok_o2 (hs := hn_X11_dropWithBrace) (by decide +kernel) (by decide +kernel)
def hn_X11_enough_0 : List (List (Nat × Nat)) := [
  [], [], [(5, 0)], [], [], [(4, 153)], [], [], [(5, 59)], [], [], [],
  [], [(3, 115)], [(5, 89)], [], [], [], [], [], [], [], [], [],
  [], [], [], [], [(3, 127)], [], [(3, 120)], [], [], [(5, 64)], [], [(3, 127)],
  [], [(2, 203)], [], [(3, 118)], [], [(3, 115)], [], [(3, 127)], [], [(3, 121)], [], [(4, 156)],
  [], [(3, 127)], [(2, 194)], [], [], [], [], [], [], [], [], []]
set_option maxRecDepth 100000 in
theorem ok_X11_enough_0 : ∀ q ∈ op_X11_enough_0, cv_ok cv_T vwCl mt_all mt_X11_enough q := cv_zip_ok ok_mm (by decide) okj_all ok_o1 ok_o2 (hs := hn_X11_enough_0) (by decide +kernel) (by decide +kernel)
def hn_X11_enough_1 : List (List (Nat × Nat)) := [
  [], [], []]
set_option maxRecDepth 100000 in
theorem ok_X11_enough_1 : ∀ q ∈ op_X11_enough_1, cv_ok cv_T vwCl mt_all mt_X11_enough q := cv_zip_ok ok_mm (by decide) okj_all ok_o1 ok_o2 (hs := hn_X11_enough_1) (by decide +kernel) (by decide +kernel)
theorem ok_X11_enough : ∀ q ∈ op_X11_enough, cv_ok cv_T vwCl mt_all mt_X11_enough q := List.forall_mem_append.mpr ⟨ok_X11_enough_0, ok_X11_enough_1⟩
def hn_X11_bears_0 : List (List (Nat × Nat)) := [
  [], [], [(5, 0)], [], [], [(4, 153)], [], [], [(5, 59)], [], [], [],
  [], [(3, 115)], [(5, 89)], [], [], [], [], [], [], [], [], [(3, 115)],
  [(5, 89)], [], [], [], [], [], [], [], [], [], [], [],
  [], [], [], [(3, 127)], [], [(3, 120)], [], [], [(5, 64)], [], [(3, 127)], [],
  [(2, 212)], [], [(3, 127)], [(5, 97)], [], [], [], [], [], [], [], []]
set_option maxRecDepth 100000 in
theorem ok_X11_bears_0 : ∀ q ∈ op_X11_bears_0, cv_ok cv_T vwCl mt_all mt_X11_bears q := cv_zip_ok ok_mm (by decide) okj_all ok_o1 ok_o2 (hs := hn_X11_bears_0) (by decide +kernel) (by decide +kernel)
def hn_X11_bears_1 : List (List (Nat × Nat)) := [
  [], [], [], [], [], [], [(3, 118)], [], [(3, 115)], [], [(3, 127)], [],
  [(3, 121)], [], [(4, 156)], [], [(3, 127)], [(5, 5)], [], [], [], [], [], [],
  [], []]
set_option maxRecDepth 100000 in
theorem ok_X11_bears_1 : ∀ q ∈ op_X11_bears_1, cv_ok cv_T vwCl mt_all mt_X11_bears q := cv_zip_ok ok_mm (by decide) okj_all ok_o1 ok_o2 (hs := hn_X11_bears_1) (by decide +kernel) (by decide +kernel)
theorem ok_X11_bears : ∀ q ∈ op_X11_bears, cv_ok cv_T vwCl mt_all mt_X11_bears q := List.forall_mem_append.mpr ⟨ok_X11_bears_0, ok_X11_bears_1⟩
def hn_X11_knock : List (List (Nat × Nat)) := [
  [], [], [(5, 0)], [], [], [], [], [], [], [], [(3, 115)], [],
  [(5, 102)], [], [(5, 103)], [], [], [(3, 118)], [], [(3, 115)], [], [(3, 120)], [], [],
  [], [(3, 121)], [], [(5, 104)], [], [(3, 118)], [], [(3, 115)], [], [(5, 105)], [], [],
  [(3, 118)], [(2, 161)], [], [(5, 103)], [], [], []]
set_option maxRecDepth 100000 in
theorem ok_X11_knock : ∀ q ∈ op_X11_knock, cv_ok cv_T vwCl mt_all mt_X11_knock q := cv_zip_ok ok_mm (by decide) okj_all ok_o1 ok_o2 (hs := hn_X11_knock) (by decide +kernel) (by decide +kernel)
def hn_X11_measure : List (List (Nat × Nat)) := [
  [], [(5, 110)], [], [], [], [], [], [(5, 111)], [], [], [], [],
  [], [], [], [(5, 0)], [], [], [(4, 142)], [], [], [], [], [],
  [], [], [], [], [], [], [(3, 125)], [], [], [], [], [],
  [(5, 112)], []]
set_option maxRecDepth 100000 in
theorem ok_X11_measure : ∀ q ∈ op_X11_measure, cv_ok cv_T vwCl mt_all mt_X11_measure q := cv_zip_ok ok_mm (by decide) okj_all ok_o1 ok_o2 (hs := hn_X11_measure) (by decide +kernel) (by decide +kernel)
def hn_X11_strike : List (List (Nat × Nat)) := [
  [], [], [], [], [(3, 125)], [(3, 46)], [], [], [(3, 125)], [], [(5, 120)], [],
  [], []]
set_option maxRecDepth 100000 in
theorem ok_X11_strike : ∀ q ∈ op_X11_strike, cv_ok cv_T vwCl mt_all mt_X11_strike q := cv_zip_ok ok_mm (by decide) okj_all ok_o1 ok_o2 (hs := hn_X11_strike) (by decide +kernel) (by decide +kernel)
def hn_X11_known : List (List (Nat × Nat)) := [
  [], [], [], [], [], [(3, 125)], [(3, 46)], [], [], [], [], [(3, 125)],
  [], [(3, 48)], [], []]
set_option maxRecDepth 100000 in
theorem ok_X11_known : ∀ q ∈ op_X11_known, cv_ok cv_T vwCl mt_all mt_X11_known q := cv_zip_ok ok_mm (by decide) okj_all ok_o1 ok_o2 (hs := hn_X11_known) (by decide +kernel) (by decide +kernel)
def hn_X11_fits : List (List (Nat × Nat)) := [
  [], [], [(5, 0)], [], [], [], [], [(3, 126)], [], [(3, 115)], [], [(3, 118)],
  [], [(3, 125)], [], [], [(5, 132)], [], [(3, 126)], [(3, 84)], []]
set_option maxRecDepth 100000 in
theorem ok_X11_fits : ∀ q ∈ op_X11_fits, cv_ok cv_T vwCl mt_all mt_X11_fits q := cv_zip_ok ok_mm (by decide) okj_all ok_o1 ok_o2 (hs := hn_X11_fits) (by decide +kernel) (by decide +kernel)
def hn_X11_odds : List (List (Nat × Nat)) := [
  [], [], [(5, 0)], [], [], [], [], [], [(3, 115)], [(1, 203)], [], [],
  [], [], [], [], [], [], [], [(3, 126)], [], [(3, 115)], [], [(3, 118)],
  [], [(3, 125)], [], [], [(5, 132)], [], [(3, 126)], [(3, 84)], [], [], [], [],
  [(3, 126)], [(3, 84)], [], [], [], [], [], [], [], [], [], [],
  [(3, 115)], [], [(5, 171)], [], [], [(3, 126)], [], [(3, 115)], [(5, 179)], []]
set_option maxRecDepth 100000 in
theorem ok_X11_odds : ∀ q ∈ op_X11_odds, cv_ok cv_T vwCl mt_all mt_X11_odds q := cv_zip_ok ok_mm (by decide) okj_all ok_o1 ok_o2 (hs := hn_X11_odds) (by decide +kernel) (by decide +kernel)
def hn_X11_test_0 : List (List (Nat × Nat)) := [
  [], [], [(5, 0)], [], [], [], [], [], [], [], [], [],
  [(3, 126)], [], [(3, 115)], [], [(3, 118)], [], [(3, 125)], [], [], [(3, 121)], [(5, 132)], [],
  [(3, 126)], [(3, 84)], [(5, 188)], [], [], [], [], [], [], [], [], [],
  [], [], [], [(3, 126)], [], [(3, 115)], [], [(5, 194)], [], [(3, 126)], [], [(3, 115)],
  [], [(5, 194)], [], [], [], [], [], [], [], [], [], []]
set_option maxRecDepth 100000 in
theorem ok_X11_test_0 : ∀ q ∈ op_X11_test_0, cv_ok cv_T vwCl mt_all mt_X11_test q := cv_zip_ok ok_mm (by decide) okj_all ok_o1 ok_o2 (hs := hn_X11_test_0) (by decide +kernel) (by decide +kernel)
def hn_X11_test_1 : List (List (Nat × Nat)) := [
  [(3, 126)], [], [(3, 115)], [], [(5, 194)], []]
set_option maxRecDepth 100000 in
theorem ok_X11_test_1 : ∀ q ∈ op_X11_test_1, cv_ok cv_T vwCl mt_all mt_X11_test q := cv_zip_ok ok_mm (by decide) okj_all ok_o1 ok_o2 (hs := hn_X11_test_1) (by decide +kernel) (by decide +kernel)
theorem ok_X11_test : ∀ q ∈ op_X11_test, cv_ok cv_T vwCl mt_all mt_X11_test q := List.forall_mem_append.mpr ⟨ok_X11_test_0, ok_X11_test_1⟩
def hn_X11_low : List (List (Nat × Nat)) := [
  [], [], [(5, 0)], [], [], [(5, 206)], [], [(5, 4)], [], [], [(3, 120)], [],
  [], [], [(5, 209)], []]
set_option maxRecDepth 100000 in
theorem ok_X11_low : ∀ q ∈ op_X11_low, cv_ok cv_T vwCl mt_all mt_X11_low q := cv_zip_ok ok_mm (by decide) okj_all ok_o1 ok_o2 (hs := hn_X11_low) (by decide +kernel) (by decide +kernel)
def hn_X11_rest : List (List (Nat × Nat)) := [
  [], [], [(5, 0)], [], [], [], [], [], [], [], [], [],
  [], [], [(3, 120)], [], [], [], [(5, 209)], [], [(3, 120)], [], [], [],
  [(5, 209)], [], [], [], [], [], [], []]
set_option maxRecDepth 100000 in
theorem ok_X11_rest : ∀ q ∈ op_X11_rest, cv_ok cv_T vwCl mt_all mt_X11_rest q := cv_zip_ok ok_mm (by decide) okj_all ok_o1 ok_o2 (hs := hn_X11_rest) (by decide +kernel) (by decide +kernel)
def hn_X11_shuts : List (List (Nat × Nat)) := [
  [], [], [(5, 0)], [], [], [], [], [], [], [], [], [],
  [], [], [(3, 120)], [], [], [], [], [], [(5, 209)], [], [(3, 120)], [],
  [], [], [(5, 209)], [], [], [], [], [], [], [], [], [],
  [], [], [], []]
set_option maxRecDepth 100000 in
theorem ok_X11_shuts : ∀ q ∈ op_X11_shuts, cv_ok cv_T vwCl mt_all mt_X11_shuts q := cv_zip_ok ok_mm (by decide) okj_all ok_o1 ok_o2 (hs := hn_X11_shuts) (by decide +kernel) (by decide +kernel)
def hn_X11_above : List (List (Nat × Nat)) := [
  [], [], [(5, 0)], [], [], [(5, 206)], [], [(5, 4)], [], [], [(3, 120)], [],
  [], [], [(5, 230)], []]
set_option maxRecDepth 100000 in
theorem ok_X11_above : ∀ q ∈ op_X11_above, cv_ok cv_T vwCl mt_all mt_X11_above q := cv_zip_ok ok_mm (by decide) okj_all ok_o1 ok_o2 (hs := hn_X11_above) (by decide +kernel) (by decide +kernel)
def hn_X11_opens : List (List (Nat × Nat)) := [
  [], [], [(5, 0)], [], [], [], [], [], [], [], [], [],
  [(3, 120)], [], [], [], [(5, 230)], [], [], [], [], [], [], [],
  [], []]
set_option maxRecDepth 100000 in
theorem ok_X11_opens : ∀ q ∈ op_X11_opens, cv_ok cv_T vwCl mt_all mt_X11_opens q := cv_zip_ok ok_mm (by decide) okj_all ok_o1 ok_o2 (hs := hn_X11_opens) (by decide +kernel) (by decide +kernel)
def hn_X11_stand_0 : List (List (Nat × Nat)) := [
  [], [], [(5, 0)], [], [], [(5, 206)], [], [], [], [], [], [],
  [(5, 4)], [], [], [(3, 127)], [], [(3, 120)], [], [], [(5, 64)], [], [], [],
  [], [], [], [], [], [], [], [], [], [(6, 4)], [], [],
  [], [], [], [], [], [], [(3, 127)], [], [], [], [], [(6, 7)],
  [], [], [(3, 127)], [], [], [], [(6, 7)], [], [], [], [], [(3, 127)]]
set_option maxRecDepth 100000 in
theorem ok_X11_stand_0 : ∀ q ∈ op_X11_stand_0, cv_ok cv_T vwCl mt_all mt_X11_stand q := cv_zip_ok ok_mm (by decide) okj_all ok_o1 ok_o2 (hs := hn_X11_stand_0) (by decide +kernel) (by decide +kernel)
def hn_X11_stand_1 : List (List (Nat × Nat)) := [
  [(2, 221)], [], [], [(3, 127)], [(2, 223)], [], [], [], [], [], [(5, 4)], []]
set_option maxRecDepth 100000 in
theorem ok_X11_stand_1 : ∀ q ∈ op_X11_stand_1, cv_ok cv_T vwCl mt_all mt_X11_stand q := cv_zip_ok ok_mm (by decide) okj_all ok_o1 ok_o2 (hs := hn_X11_stand_1) (by decide +kernel) (by decide +kernel)
theorem ok_X11_stand : ∀ q ∈ op_X11_stand, cv_ok cv_T vwCl mt_all mt_X11_stand q := List.forall_mem_append.mpr ⟨ok_X11_stand_0, ok_X11_stand_1⟩
def hn_X11_first_0 : List (List (Nat × Nat)) := [
  [], [(3, 115)], [(1, 173)], [], [], [], [], [], [], [], [], [],
  [], [], [(3, 115)], [(1, 173)], [], [], [], [], [], [], [], [(3, 115)],
  [(1, 173)], [], [], [], [], [], [(3, 115)], [(1, 173)], [], [], [(3, 128)], [],
  [], [], [], [], [], [(6, 16)], [(6, 20)], [], [], [], [], [],
  [(3, 128)], [], [(3, 115)], [(1, 173)], [(6, 24)], [], [], [], [(3, 128)], [(3, 103)], [], []]
set_option maxRecDepth 100000 in
theorem ok_X11_first_0 : ∀ q ∈ op_X11_first_0, cv_ok cv_T vwCl mt_all mt_X11_first q := cv_zip_ok ok_mm (by decide) okj_all ok_o1 ok_o2 (hs := hn_X11_first_0) (by decide +kernel) (by decide +kernel)
def hn_X11_first_1 : List (List (Nat × Nat)) := [
  [(3, 128)], [], [], [], [(6, 33)], []]
set_option maxRecDepth 100000 in
theorem ok_X11_first_1 : ∀ q ∈ op_X11_first_1, cv_ok cv_T vwCl mt_all mt_X11_first q := cv_zip_ok ok_mm (by decide) okj_all ok_o1 ok_o2 (hs := hn_X11_first_1) (by decide +kernel) (by decide +kernel)
theorem ok_X11_first : ∀ q ∈ op_X11_first, cv_ok cv_T vwCl mt_all mt_X11_first q := List.forall_mem_append.mpr ⟨ok_X11_first_0, ok_X11_first_1⟩
def hn_X11_unlatchedWeeks : List (List (Nat × Nat)) := [
  [], [], [(5, 0)], [], [], [], [], [(3, 127)], [], [(3, 120)], [], [],
  [(5, 64)], [], [], [], [], [], [], [(3, 115)], [(1, 173)], [], [], [],
  [], [], [], [], [], [], [(3, 127)], [], [(2, 200)], [], [(3, 127)], [(5, 5)],
  [], [(2, 200)], [], [(3, 118)], [], [(3, 115)], [], [(3, 127)], [], [(3, 121)], [], [],
  [], [(4, 156)], [], [(3, 127)], [(5, 12)], [], [], [], [], [], []]
set_option maxRecDepth 100000 in
theorem ok_X11_unlatchedWeeks : ∀ q ∈ op_X11_unlatchedWeeks, cv_ok cv_T vwCl mt_all mt_X11_unlatchedWeeks q := cv_zip_ok ok_mm (by decide) okj_all ok_o1 ok_o2 (hs := hn_X11_unlatchedWeeks) (by decide +kernel) (by decide +kernel)
def hn_X11_wind_0 : List (List (Nat × Nat)) := [
  [], [], [], [], [], [], [], [], [], [], [], [],
  [], [], [], [], [], [], [], [], [], [], [(5, 0)], [],
  [], [], [], [], [], [], [], [(5, 59)], [], [], [], [],
  [], [], [], [], [], [], [], [], [], [], [(3, 127)], [],
  [(3, 120)], [], [], [(5, 64)], [], [(3, 127)], [(2, 212)], [], [], [], [], []]
set_option maxRecDepth 100000 in
theorem ok_X11_wind_0 : ∀ q ∈ op_X11_wind_0, cv_ok cv_T vwCl mt_all mt_X11_wind q := cv_zip_ok ok_mm (by decide) okj_all ok_o1 ok_o2 (hs := hn_X11_wind_0) (by decide +kernel) (by decide +kernel)
def hn_X11_wind_1 : List (List (Nat × Nat)) := [
  [], [], [(6, 41)], [], [(6, 42)], [], [(6, 43)], [], [], [], [(3, 127)], [],
  [], [], [], [], [], [], [], [], [], [], [], [],
  [], [(2, 212)], [], [(3, 118)], [], [(3, 115)], [], [(3, 127)], [], [(3, 121)], [], [],
  [], [(4, 156)], [], [], [], [(3, 127)], [(5, 5)], [], [], [], [], [],
  [], []]
set_option maxRecDepth 100000 in
theorem ok_X11_wind_1 : ∀ q ∈ op_X11_wind_1, cv_ok cv_T vwCl mt_all mt_X11_wind q := cv_zip_ok ok_mm (by decide) okj_all ok_o1 ok_o2 (hs := hn_X11_wind_1) (by decide +kernel) (by decide +kernel)
theorem ok_X11_wind : ∀ q ∈ op_X11_wind, cv_ok cv_T vwCl mt_all mt_X11_wind q := List.forall_mem_append.mpr ⟨ok_X11_wind_0, ok_X11_wind_1⟩
def hn_X11_keep : List (List (Nat × Nat)) := [
  [], [], [], [], [], [], [(3, 122)], [], [], [], [(3, 120)], [],
  [], [(5, 64)], [], [], [], [], [(3, 121)], [(3, 123)], [], [(3, 121)], []]
set_option maxRecDepth 100000 in
theorem ok_X11_keep : ∀ q ∈ op_X11_keep, cv_ok cv_T vwCl mt_all mt_X11_keep q := cv_zip_ok ok_mm (by decide) okj_all ok_o1 ok_o2 (hs := hn_X11_keep) (by decide +kernel) (by decide +kernel)
def hn_X11_back : List (List (Nat × Nat)) := [
  [], [(3, 123)], [], [], [], [], [], [], [], [], [], [],
  [(3, 120)], [], [], [], [(3, 122)], [], [], [(5, 64)], [], [], [], [],
  [(3, 123)], [(3, 121)], [], [(3, 124)], [(4, 113)], [], [(3, 121)], []]
set_option maxRecDepth 100000 in
theorem ok_X11_back : ∀ q ∈ op_X11_back, cv_ok cv_T vwCl mt_all mt_X11_back q := cv_zip_ok ok_mm (by decide) okj_all ok_o1 ok_o2 (hs := hn_X11_back) (by decide +kernel) (by decide +kernel)
def hn_X11_count : List (List (Nat × Nat)) := [
  [], [], [], [(3, 115)], [(1, 173)], [], [], [(3, 115)], [(1, 190)], [], [], [(3, 115)],
  [(1, 203)], [], [], [(3, 115)], [(1, 156)], [], [], [(3, 121)], [], [], [(3, 125)], [(3, 46)],
  [], [], [(3, 125)], [(6, 56)], [], [], [(3, 124)], [(3, 22)], [], [], [(6, 57)], [],
  [], []]
set_option maxRecDepth 100000 in
theorem ok_X11_count : ∀ q ∈ op_X11_count, cv_ok cv_T vwCl mt_all mt_X11_count q := cv_zip_ok ok_mm (by decide) okj_all ok_o1 ok_o2 (hs := hn_X11_count) (by decide +kernel) (by decide +kernel)
def hn_X11_costOfAllDone : List (List (Nat × Nat)) := [
  [], [], [], [], [], [], [(3, 115)], [(1, 173)], [], [], [], [(3, 120)],
  [], [], [], [], [(3, 115)], [], [(3, 120)], [], [], [(2, 214)], [(5, 69)], [],
  [], [], [], [], []]
set_option maxRecDepth 100000 in
theorem ok_X11_costOfAllDone : ∀ q ∈ op_X11_costOfAllDone, cv_ok cv_T vwCl mt_all mt_X11_costOfAllDone q := cv_zip_ok ok_mm (by decide) okj_all ok_o1 ok_o2 (hs := hn_X11_costOfAllDone) (by decide +kernel) (by decide +kernel)
def hn_X12_init_0 : List (List (Nat × Nat)) := [
  [], [(6, 158)], [], [], [(1, 142)], [(6, 177)], [], [], [(1, 142)], [], [], [],
  [], [], [], [], [], [], [], [], [], [], [], [],
  [], [], [], [], [], [], [], [], [], [], [], [],
  [], [], [], [], [], [], [], [], [], [], [], [],
  [], [], [], [], [], [], [], [], [], [], [], []]
set_option maxRecDepth 100000 in
theorem ok_X12_init_0 : ∀ q ∈ op_X12_init_0, cv_ok cv_T vwCl mt_all mt_X12_init q := cv_zip_ok ok_mm (by decide) okj_all ok_o1 ok_o2 (hs := hn_X12_init_0) (by decide +kernel) (by decide +kernel)
def hn_X12_init_1 : List (List (Nat × Nat)) := [
  [], [], [], [], [], [], [], [], [], [], [], [],
  [], [], [], [], [], [], [], [], [], [], [], [],
  [], [], [], [], [], [], [], [], [], [], [], [],
  [], [], [], [], [], [], [], [], [], [], [], [],
  [], [], [], [], [], [], [], [], [], [], [], []]
set_option maxRecDepth 100000 in
theorem ok_X12_init_1 : ∀ q ∈ op_X12_init_1, cv_ok cv_T vwCl mt_all mt_X12_init q := cv_zip_ok ok_mm (by decide) okj_all ok_o1 ok_o2 (hs := hn_X12_init_1) (by decide +kernel) (by decide +kernel)
def hn_X12_init_2 : List (List (Nat × Nat)) := [
  [], [], [], [], [], [], [], [], [], [], [], [],
  [], [], [], [], [], [], [], [], [], [], [], [],
  [], [], [], [], [], [], [], [], [], [], [], [],
  [], [], [], [], [], [], [], [], [], [], [], [],
  [], [], [], [], [], [], [], [], [], [], [], []]
set_option maxRecDepth 100000 in
theorem ok_X12_init_2 : ∀ q ∈ op_X12_init_2, cv_ok cv_T vwCl mt_all mt_X12_init q := cv_zip_ok ok_mm (by decide) okj_all ok_o1 ok_o2 (hs := hn_X12_init_2) (by decide +kernel) (by decide +kernel)
def hn_X12_init_3 : List (List (Nat × Nat)) := [
  [], [], [], [], [], [], [], [], [], [], [], [],
  [], [], [], [], [], [], [], [], [], [], [], [],
  [], [], [], [], [], [], [], [], [], [], [], [],
  [], [], [], [], [], [], [], [], [], [], [], [],
  [], [], [], [], [], [], [], [], [], [], [], []]
set_option maxRecDepth 100000 in
theorem ok_X12_init_3 : ∀ q ∈ op_X12_init_3, cv_ok cv_T vwCl mt_all mt_X12_init q := cv_zip_ok ok_mm (by decide) okj_all ok_o1 ok_o2 (hs := hn_X12_init_3) (by decide +kernel) (by decide +kernel)
def hn_X12_init_4 : List (List (Nat × Nat)) := [
  [], [], [], [], [], [], [], [], [], [], [], [],
  [], [], [], [], [], [], [], [], [], [], [], [],
  [], [], [], [], [], [], [], [], [], [], [], [],
  [], [], [], [], [], [], [], [], [], [], [], [],
  [], [], [], [], [], [], [], [], [], [], [], []]
set_option maxRecDepth 100000 in
theorem ok_X12_init_4 : ∀ q ∈ op_X12_init_4, cv_ok cv_T vwCl mt_all mt_X12_init q := cv_zip_ok ok_mm (by decide) okj_all ok_o1 ok_o2 (hs := hn_X12_init_4) (by decide +kernel) (by decide +kernel)
def hn_X12_init_5 : List (List (Nat × Nat)) := [
  [], [], [], [], [], [], [], [], [], [], [], [],
  [], [], [], [], [], [], [], [], [], [], [], [],
  [], [], [], [], [], [], [], [], [], [], [], [],
  [], [], [], [], [], [], [], [], [], [], [], [],
  [], [], [], [], [], [], [], [], [], [], [], []]
set_option maxRecDepth 100000 in
theorem ok_X12_init_5 : ∀ q ∈ op_X12_init_5, cv_ok cv_T vwCl mt_all mt_X12_init q := cv_zip_ok ok_mm (by decide) okj_all ok_o1 ok_o2 (hs := hn_X12_init_5) (by decide +kernel) (by decide +kernel)
def hn_X12_init_6 : List (List (Nat × Nat)) := [
  [], [], [], [], [], [], [], [], [], [], [], [],
  [], [], [], [], [], [], [], [], [], [], [], [],
  [], [], [], [], [], [], [], [], [], [], [], [],
  [], [], [], [], [], [], [], [], [], [], [], [],
  [], [], [], [], [], [], [], [], [], [], [], []]
set_option maxRecDepth 100000 in
theorem ok_X12_init_6 : ∀ q ∈ op_X12_init_6, cv_ok cv_T vwCl mt_all mt_X12_init q := cv_zip_ok ok_mm (by decide) okj_all ok_o1 ok_o2 (hs := hn_X12_init_6) (by decide +kernel) (by decide +kernel)
def hn_X12_init_7 : List (List (Nat × Nat)) := [
  [], [], [], [], [], [], [], [], [], [], [], [],
  [], [], [], [], [], [], [], [], [], [], [], [],
  [], [], [], [], [], [], [], [], [], [], [], [],
  [], [], [], [], [], [], [], [], [], [], [], [],
  [], [], [], [], [], [], [], [], [], [], [], []]
set_option maxRecDepth 100000 in
theorem ok_X12_init_7 : ∀ q ∈ op_X12_init_7, cv_ok cv_T vwCl mt_all mt_X12_init q := cv_zip_ok ok_mm (by decide) okj_all ok_o1 ok_o2 (hs := hn_X12_init_7) (by decide +kernel) (by decide +kernel)
def hn_X12_init_8 : List (List (Nat × Nat)) := [
  [], [], [], [], [], [], [], [], [], [], [], [],
  [], [], [], [], [], [], [], [], [], [], [], [],
  [], [], [], [], [], [], [], [], [], [], [], [],
  [], [], [], [], [], [], [], [], [], [], [], [],
  [], [], [], [], [], [], [], [], [], [], [], []]
set_option maxRecDepth 100000 in
theorem ok_X12_init_8 : ∀ q ∈ op_X12_init_8, cv_ok cv_T vwCl mt_all mt_X12_init q := cv_zip_ok ok_mm (by decide) okj_all ok_o1 ok_o2 (hs := hn_X12_init_8) (by decide +kernel) (by decide +kernel)
def hn_X12_init_9 : List (List (Nat × Nat)) := [
  [], [], [], [], [], [], [], [], [], [], [], [],
  [], [], [], [], [], [], [], [], [], [], [], [],
  [], [], [], [], [], [], [], [], [], [], [], [],
  [], [], [], [], [], [], [], [], [], [], [], [],
  [], [], [], [], [], [], [], [], [], [], [], []]
set_option maxRecDepth 100000 in
theorem ok_X12_init_9 : ∀ q ∈ op_X12_init_9, cv_ok cv_T vwCl mt_all mt_X12_init q := cv_zip_ok ok_mm (by decide) okj_all ok_o1 ok_o2 (hs := hn_X12_init_9) (by decide +kernel) (by decide +kernel)
def hn_X12_init_10 : List (List (Nat × Nat)) := [
  [], [], [], [], [], [], [], [], [], [], [], [],
  [], [], [], [], [], [], [], [], [], [], [], [],
  [], [], [], [], [], [], [], [], [], [], [], [],
  [], [], [], [], [], [], [], [], [], [], [], [],
  [], [], [], [], [], [], [], [], [], [], [], []]
set_option maxRecDepth 100000 in
theorem ok_X12_init_10 : ∀ q ∈ op_X12_init_10, cv_ok cv_T vwCl mt_all mt_X12_init q := cv_zip_ok ok_mm (by decide) okj_all ok_o1 ok_o2 (hs := hn_X12_init_10) (by decide +kernel) (by decide +kernel)
def hn_X12_init_11 : List (List (Nat × Nat)) := [
  [], [], [], [], [], [], [], [], [], [], [], [],
  [], [], [], [], [], [], [], [], [], [], [], [],
  [], [], [], [], [], [], [], [], [], [], [], [],
  [], [], [], [], [], [], [], [], [], [], [], [],
  [], [], [], [], [], [], [], [], [], [(6, 180)], [], []]
set_option maxRecDepth 100000 in
theorem ok_X12_init_11 : ∀ q ∈ op_X12_init_11, cv_ok cv_T vwCl mt_all mt_X12_init q := cv_zip_ok ok_mm (by decide) okj_all ok_o1 ok_o2 (hs := hn_X12_init_11) (by decide +kernel) (by decide +kernel)
def hn_X12_init_12 : List (List (Nat × Nat)) := [
  [(6, 182)], [], [], [(1, 142)], [(6, 198)], [], [], [(1, 142)], [(6, 199)], [], [], [(1, 142)],
  [(6, 200)], [], [], [(3, 72)], [(6, 201)], [], [], [(1, 142)], [(6, 202)], [], [], [(1, 142)],
  [(6, 203)], [], [], [(1, 142)], [(6, 204)], [], [], [(1, 142)], [(6, 205)], [], [], [(1, 142)],
  [(6, 206)], [], [], [(1, 142)], [(6, 207)], [], [], [(1, 142)], [(6, 208)], [], [], [(1, 142)],
  [(6, 209)], [], [], [(1, 142)], [(6, 210)], [], [], [(1, 142)], [(6, 211)], [], [], [(1, 142)]]
set_option maxRecDepth 100000 in
theorem ok_X12_init_12 : ∀ q ∈ op_X12_init_12, cv_ok cv_T vwCl mt_all mt_X12_init q := cv_zip_ok ok_mm (by decide) okj_all ok_o1 ok_o2 (hs := hn_X12_init_12) (by decide +kernel) (by decide +kernel)
def hn_X12_init_13 : List (List (Nat × Nat)) := [
  [(6, 212)], [], [], [(1, 142)], [(6, 213)], [], [], [(1, 142)], [(6, 221)], [], [], [(1, 142)],
  [(6, 222)], [], [], [(2, 173)], [(6, 223)], [], [], [(2, 173)], [(6, 224)], [], [], [(2, 173)],
  [(6, 226)], [], [], [(1, 142)], [(6, 228)], [], [], [(6, 230)], [], [], [(1, 142)], [(6, 231)],
  [], [], [(1, 142)], [(6, 232)], [], [], [(1, 142)], [(6, 233)], [], [], [(1, 142)], [(6, 234)],
  [], [], [(1, 142)], [(6, 235)], [], [], [(3, 72)], [(6, 236)], [], [], [(1, 142)], [(6, 237)]]
set_option maxRecDepth 100000 in
theorem ok_X12_init_13 : ∀ q ∈ op_X12_init_13, cv_ok cv_T vwCl mt_all mt_X12_init q := cv_zip_ok ok_mm (by decide) okj_all ok_o1 ok_o2 (hs := hn_X12_init_13) (by decide +kernel) (by decide +kernel)
def hn_X12_init_14 : List (List (Nat × Nat)) := [
  [], [], [(1, 142)], [], [], [], [], [], [], [], [], [],
  [], [], [], [], [], [], [], [], [], [], [], [],
  [], [], [], [], [], [], [], [], [], [], [], [],
  [], [], [], [(6, 238)], [], [], [(1, 142)], [], [], [], [], [],
  [], [], [], [], [], [], [], [], [], [], [], []]
set_option maxRecDepth 100000 in
theorem ok_X12_init_14 : ∀ q ∈ op_X12_init_14, cv_ok cv_T vwCl mt_all mt_X12_init q := cv_zip_ok ok_mm (by decide) okj_all ok_o1 ok_o2 (hs := hn_X12_init_14) (by decide +kernel) (by decide +kernel)
def hn_X12_init_15 : List (List (Nat × Nat)) := [
  [], [], [], [], [], [], [], [], [], [], [], [],
  [], [], [], [], [], [], [], [(6, 239)], [], [], [(1, 142)], [(7, 0)],
  [], [], [(1, 142)], [(7, 1)], [], [], [(1, 142)], [(7, 2)], [], [], [(1, 142)], [(7, 5)],
  [], [(6, 159)], [], [(6, 163)], []]
set_option maxRecDepth 100000 in
theorem ok_X12_init_15 : ∀ q ∈ op_X12_init_15, cv_ok cv_T vwCl mt_all mt_X12_init q := cv_zip_ok ok_mm (by decide) okj_all ok_o1 ok_o2 (hs := hn_X12_init_15) (by decide +kernel) (by decide +kernel)
theorem ok_X12_init : ∀ q ∈ op_X12_init, cv_ok cv_T vwCl mt_all mt_X12_init q := List.forall_mem_append.mpr ⟨ok_X12_init_0, List.forall_mem_append.mpr ⟨ok_X12_init_1, List.forall_mem_append.mpr ⟨ok_X12_init_2, List.forall_mem_append.mpr ⟨ok_X12_init_3, List.forall_mem_append.mpr ⟨ok_X12_init_4, List.forall_mem_append.mpr ⟨ok_X12_init_5, List.forall_mem_append.mpr ⟨ok_X12_init_6, List.forall_mem_append.mpr ⟨ok_X12_init_7, List.forall_mem_append.mpr ⟨ok_X12_init_8, List.forall_mem_append.mpr ⟨ok_X12_init_9, List.forall_mem_append.mpr ⟨ok_X12_init_10, List.forall_mem_append.mpr ⟨ok_X12_init_11, List.forall_mem_append.mpr ⟨ok_X12_init_12, List.forall_mem_append.mpr ⟨ok_X12_init_13, List.forall_mem_append.mpr ⟨ok_X12_init_14, ok_X12_init_15⟩⟩⟩⟩⟩⟩⟩⟩⟩⟩⟩⟩⟩⟩⟩
end
