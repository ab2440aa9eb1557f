/-! ===== the rows of the methods ===== -/
def hn_X12_feed_0 : List (List (Nat × Nat)) := [
  [], [], [(6, 179)], [], [(6, 178)], [], [], [], [], [], [], [],
  [], [], [], [], [], [], [], [], [], [], [], [],
  [], [], [], [], [], [], [], [], [], [], [], [],
  [], [], [], [(6, 177)], [], [(6, 178)], [], [], [], [], [], [],
  [], [], [], [], [], [], [], [], [], [], [], []]
set_option maxRecDepth 100000 in
theorem ok_X12_feed_0 : ∀ q ∈ op_X12_feed_0, cv_ok cv_T vwCl mt_all mt_X12_feed q := cv_zip_ok ok_mm (by decide) okj_all ok_o1 ok_o2 (hs := hn_X12_feed_0) (by decide +kernel) (by decide +kernel)
def hn_X12_feed_1 : List (List (Nat × Nat)) := [
  [(6, 178)], [], [], [(6, 178)], [], [(6, 178)], []]
set_option maxRecDepth 100000 in
theorem ok_X12_feed_1 : ∀ q ∈ op_X12_feed_1, cv_ok cv_T vwCl mt_all mt_X12_feed q := cv_zip_ok ok_mm (by decide) okj_all ok_o1 ok_o2 (hs := hn_X12_feed_1) (by decide +kernel) (by decide +kernel)
theorem ok_X12_feed : ∀ q ∈ op_X12_feed, cv_ok cv_T vwCl mt_all mt_X12_feed q := List.forall_mem_append.mpr ⟨ok_X12_feed_0, ok_X12_feed_1⟩
def hn_X12_isIn : List (List (Nat × Nat)) := [
  [], [], [], [], [], [], [], [], [], []]
set_option maxRecDepth 100000 in
theorem ok_X12_isIn : ∀ q ∈ op_X12_isIn, cv_ok cv_T vwCl mt_all mt_X12_isIn q := cv_zip_ok ok_mm (by decide) okj_all ok_o1 ok_o2 (hs := hn_X12_isIn) (by decide +kernel) (by decide +kernel)
def hn_X12_isOf : List (List (Nat × Nat)) := [
  [], [], [], [], [], [], [], [], [], [], []]
set_option maxRecDepth 100000 in
theorem ok_X12_isOf : ∀ q ∈ op_X12_isOf, cv_ok cv_T vwCl mt_all mt_X12_isOf q := cv_zip_ok ok_mm (by decide) okj_all ok_o1 ok_o2 (hs := hn_X12_isOf) (by decide +kernel) (by decide +kernel)
def hn_X12_sizeOf : List (List (Nat × Nat)) := [
  [], [], [], [], [], [], []]
set_option maxRecDepth 100000 in
theorem ok_X12_sizeOf : ∀ q ∈ op_X12_sizeOf, cv_ok cv_T vwCl mt_all mt_X12_sizeOf q := cv_zip_ok ok_mm (by decide) okj_all ok_o1 ok_o2 (hs := hn_X12_sizeOf) (by decide +kernel) (by decide +kernel)
def hn_X12_wrong : List (List (Nat × Nat)) := [
  [], [], [(6, 181)], [], [], [(6, 187)], [(6, 182)], [], []]
set_option maxRecDepth 100000 in
theorem ok_X12_wrong : ∀ q ∈ op_X12_wrong, cv_ok cv_T vwCl mt_all mt_X12_wrong q := cv_zip_ok ok_mm (by decide) okj_all ok_o1 ok_o2 (hs := hn_X12_wrong) (by decide +kernel) (by decide +kernel)
def hn_X12_wordAt_0 : List (List (Nat × Nat)) := [
  [], [], [], [], [], [], [(6, 180)], [], [], [], [], [],
  [(6, 180)], [], [], [], [], [], [], [], [], [], [], [],
  [], [], [], [], [], [], [], [], [], [], [], [],
  [], [], [(6, 180)], [], [], [], [], [], [(6, 177)], [], [], [],
  [], [], [], [], [], [], [], [], [], [], [], []]
set_option maxRecDepth 100000 in
theorem ok_X12_wordAt_0 : ∀ q ∈ op_X12_wordAt_0, cv_ok cv_T vwCl mt_all mt_X12_wordAt q := cv_zip_ok ok_mm (by decide) okj_all ok_o1 ok_o2 (hs := hn_X12_wordAt_0) (by decide +kernel) (by decide +kernel)
def hn_X12_wordAt_1 : List (List (Nat × Nat)) := [
  [], [], [], [], [], [], [], [], [], []]
set_option maxRecDepth 100000 in
theorem ok_X12_wordAt_1 : ∀ q ∈ op_X12_wordAt_1, cv_ok cv_T vwCl mt_all mt_X12_wordAt q := cv_zip_ok ok_mm (by decide) okj_all ok_o1 ok_o2 (hs := hn_X12_wordAt_1) (by decide +kernel) (by decide +kernel)
theorem ok_X12_wordAt : ∀ q ∈ op_X12_wordAt, cv_ok cv_T vwCl mt_all mt_X12_wordAt q := List.forall_mem_append.mpr ⟨ok_X12_wordAt_0, ok_X12_wordAt_1⟩
def hn_X12_isSmall : List (List (Nat × Nat)) := [
  [], [], [(6, 183)], [], [], [(6, 177)], [], [], [], [], [], [(6, 177)],
  [], [], [], [], [], [], [], []]
set_option maxRecDepth 100000 in
theorem ok_X12_isSmall : ∀ q ∈ op_X12_isSmall, cv_ok cv_T vwCl mt_all mt_X12_isSmall q := cv_zip_ok ok_mm (by decide) okj_all ok_o1 ok_o2 (hs := hn_X12_isSmall) (by decide +kernel) (by decide +kernel)
def hn_X12_isDigit : List (List (Nat × Nat)) := [
  [], [], [(6, 183)], [], [], [(6, 177)], [], [], [], [], [], [(6, 177)],
  [], [], [], [], [], [], [], []]
set_option maxRecDepth 100000 in
theorem ok_X12_isDigit : ∀ q ∈ op_X12_isDigit, cv_ok cv_T vwCl mt_all mt_X12_isDigit q := cv_zip_ok ok_mm (by decide) okj_all ok_o1 ok_o2 (hs := hn_X12_isDigit) (by decide +kernel) (by decide +kernel)
def hn_X12_token_0 : List (List (Nat × Nat)) := [
  [], [(6, 184)], [], [(6, 183)], [], [], [(6, 177)], [], [(6, 184)], [], [], [],
  [], [(6, 177)], [], [(6, 184)], [], [], [], [], [], [(6, 184)], [], [],
  [(6, 184)], [], [], [], [(6, 184)], [(6, 187)], [], [(6, 184)], [], [(6, 183)], [], [],
  [], [(6, 185)], [], [], [], [(6, 184)], [(7, 157)], [], [], [], [(6, 184)], [(7, 157)],
  [], [], [], [(6, 184)], [], [], [(6, 184)], [], [], [], [], [(6, 187)]]
set_option maxRecDepth 100000 in
theorem ok_X12_token_0 : ∀ q ∈ op_X12_token_0, cv_ok cv_T vwCl mt_all mt_X12_token q := cv_zip_ok ok_mm (by decide) okj_all ok_o1 ok_o2 (hs := hn_X12_token_0) (by decide +kernel) (by decide +kernel)
def hn_X12_token_1 : List (List (Nat × Nat)) := [
  [], [(6, 184)], [(7, 161)], [(6, 186)], [], [], [(6, 186)], [], [], [], [], [(6, 184)],
  [], [(6, 187)], [], [], [], [], [], [], [(6, 185)], [], [(6, 185)], [],
  [], [], [], [], [(6, 187)], [], [(6, 184)], [(7, 165)], [(6, 186)], [], [], [],
  [(6, 184)], [(7, 169)], [], [], [], [(6, 185)], [], [], [(6, 186)], [], [], [(6, 184)],
  [(7, 169)], [], [], [], [(6, 186)], [], [], [], [(6, 186)], [], [], []]
set_option maxRecDepth 100000 in
theorem ok_X12_token_1 : ∀ q ∈ op_X12_token_1, cv_ok cv_T vwCl mt_all mt_X12_token q := cv_zip_ok ok_mm (by decide) okj_all ok_o1 ok_o2 (hs := hn_X12_token_1) (by decide +kernel) (by decide +kernel)
def hn_X12_token_2 : List (List (Nat × Nat)) := [
  [(6, 186)], [], [], [(6, 177)], [], [(6, 184)], [], [], [], [], [(6, 186)], [],
  [], [(6, 184)], [], [], [(6, 184)], [], [], [(7, 173)], []]
set_option maxRecDepth 100000 in
theorem ok_X12_token_2 : ∀ q ∈ op_X12_token_2, cv_ok cv_T vwCl mt_all mt_X12_token q := cv_zip_ok ok_mm (by decide) okj_all ok_o1 ok_o2 (hs := hn_X12_token_2) (by decide +kernel) (by decide +kernel)
theorem ok_X12_token : ∀ q ∈ op_X12_token, cv_ok cv_T vwCl mt_all mt_X12_token q := List.forall_mem_append.mpr ⟨ok_X12_token_0, List.forall_mem_append.mpr ⟨ok_X12_token_1, ok_X12_token_2⟩⟩
def hn_X12_signToken_0 : List (List (Nat × Nat)) := [
  [], [], [(6, 177)], [], [(6, 184)], [], [(6, 186)], [], [], [(6, 184)], [], [],
  [(6, 184)], [], [(6, 186)], [], [], [], [(6, 186)], [], [], [], [(6, 186)], [],
  [], [], [(6, 184)], [], [(6, 183)], [], [], [(6, 177)], [], [(6, 184)], [], [],
  [], [], [], [(6, 186)], [], [], [], [], [], [], [], [],
  [], [], [(6, 186)], [], [], [], [], [], [], [], [], []]
set_option maxRecDepth 100000 in
theorem ok_X12_signToken_0 : ∀ q ∈ op_X12_signToken_0, cv_ok cv_T vwCl mt_all mt_X12_signToken q := cv_zip_ok ok_mm (by decide) okj_all ok_o1 ok_o2 (hs := hn_X12_signToken_0) (by decide +kernel) (by decide +kernel)
def hn_X12_signToken_1 : List (List (Nat × Nat)) := [
  [], [], [], [], [], [], [(6, 184)], [], [], [(6, 184)], [], [],
  [(6, 185)], [], [], [(6, 186)], [], [], [], [], [], [(6, 186)], [], [],
  [], [], [], [], [], [], [], [], [], [], [], [],
  [], [], [], [(6, 186)], [], [], [(6, 186)], [], [], [], [(6, 186)], [],
  [], [], [(6, 186)], [], [], [], [(6, 186)], [], [], [], [(6, 186)], []]
set_option maxRecDepth 100000 in
theorem ok_X12_signToken_1 : ∀ q ∈ op_X12_signToken_1, cv_ok cv_T vwCl mt_all mt_X12_signToken q := cv_zip_ok ok_mm (by decide) okj_all ok_o1 ok_o2 (hs := hn_X12_signToken_1) (by decide +kernel) (by decide +kernel)
def hn_X12_signToken_2 : List (List (Nat × Nat)) := [
  [], [], [(6, 186)], [], [], [], [(6, 186)], [], [], [], [], [],
  [], [], [], [], [], [], [], [(6, 185)], []]
set_option maxRecDepth 100000 in
theorem ok_X12_signToken_2 : ∀ q ∈ op_X12_signToken_2, cv_ok cv_T vwCl mt_all mt_X12_signToken q := cv_zip_ok ok_mm (by decide) okj_all ok_o1 ok_o2 (hs := hn_X12_signToken_2) (by decide +kernel) (by decide +kernel)
theorem ok_X12_signToken : ∀ q ∈ op_X12_signToken, cv_ok cv_T vwCl mt_all mt_X12_signToken q := List.forall_mem_append.mpr ⟨ok_X12_signToken_0, List.forall_mem_append.mpr ⟨ok_X12_signToken_1, ok_X12_signToken_2⟩⟩
def hn_X12_packed : List (List (Nat × Nat)) := [
  [], [], [], [], [], [], [], [], [], [], [], [],
  [], [], [], [], [(6, 177)], [], [], [], [], [], [], [],
  [], [], [], [], []]
set_option maxRecDepth 100000 in
theorem ok_X12_packed : ∀ q ∈ op_X12_packed, cv_ok cv_T vwCl mt_all mt_X12_packed q := cv_zip_ok ok_mm (by decide) okj_all ok_o1 ok_o2 (hs := hn_X12_packed) (by decide +kernel) (by decide +kernel)
def hn_X12_isKey : List (List (Nat × Nat)) := [
  [], [(6, 185)], [], [], [], [(6, 186)], [], [], [], [], [], []]
set_option maxRecDepth 100000 in
theorem ok_X12_isKey : ∀ q ∈ op_X12_isKey, cv_ok cv_T vwCl mt_all mt_X12_isKey q := cv_zip_ok ok_mm (by decide) okj_all ok_o1 ok_o2 (hs := hn_X12_isKey) (by decide +kernel) (by decide +kernel)
def hn_X12_isSign : List (List (Nat × Nat)) := [
  [], [(6, 185)], [], [], [], [(6, 186)], [], [], [], [], [], []]
set_option maxRecDepth 100000 in
theorem ok_X12_isSign : ∀ q ∈ op_X12_isSign, cv_ok cv_T vwCl mt_all mt_X12_isSign q := cv_zip_ok ok_mm (by decide) okj_all ok_o1 ok_o2 (hs := hn_X12_isSign) (by decide +kernel) (by decide +kernel)
def hn_X12_number : List (List (Nat × Nat)) := [
  [], [(6, 185)], [], [], [], [], [(7, 181)], [], [], [(6, 186)], [], [],
  [(7, 197)], [], [], [], [(7, 181)], [], [], [], [(6, 186)], [(6, 188)], [], [(7, 153)],
  [], []]
set_option maxRecDepth 100000 in
theorem ok_X12_number : ∀ q ∈ op_X12_number, cv_ok cv_T vwCl mt_all mt_X12_number q := cv_zip_ok ok_mm (by decide) okj_all ok_o1 ok_o2 (hs := hn_X12_number) (by decide +kernel) (by decide +kernel)
def hn_X12_signed : List (List (Nat × Nat)) := [
  [], [], [(7, 208)], [], [], [], [], [(7, 153)], [], [], [], [(7, 193)],
  [], [], [], [], [], [], [], [(6, 188)], [], [], [], [(6, 188)],
  [(6, 188)], [], []]
set_option maxRecDepth 100000 in
theorem ok_X12_signed : ∀ q ∈ op_X12_signed, cv_ok cv_T vwCl mt_all mt_X12_signed q := cv_zip_ok ok_mm (by decide) okj_all ok_o1 ok_o2 (hs := hn_X12_signed) (by decide +kernel) (by decide +kernel)
def hn_X12_numbers : List (List (Nat × Nat)) := [
  [], [], [], [], [], [], [], [], [(7, 193)], [], [], [],
  [], [], [], [], [], [(6, 188)], [], [], [], [], []]
set_option maxRecDepth 100000 in
theorem ok_X12_numbers : ∀ q ∈ op_X12_numbers, cv_ok cv_T vwCl mt_all mt_X12_numbers q := cv_zip_ok ok_mm (by decide) okj_all ok_o1 ok_o2 (hs := hn_X12_numbers) (by decide +kernel) (by decide +kernel)
def hn_X12_plain : List (List (Nat × Nat)) := [
  [], [], [(6, 193)], [], [], [(6, 194)], [], [], [(6, 195)], [], [], [(6, 196)],
  [], [], [(6, 217)], [], [], [(6, 197)], [], [], [], [], [], [],
  [(6, 198)], [], [], [], [], [], [], [], [], [], [], [],
  [], [], [(6, 201)], [], [], [], [], [], [], [], []]
set_option maxRecDepth 100000 in
theorem ok_X12_plain : ∀ q ∈ op_X12_plain, cv_ok cv_T vwCl mt_all mt_X12_plain q := cv_zip_ok ok_mm (by decide) okj_all ok_o1 ok_o2 (hs := hn_X12_plain) (by decide +kernel) (by decide +kernel)
def hn_X12_copies : List (List (Nat × Nat)) := [
  [], [], [], [], [], [], [], [], [], [], [], [],
  [], [], [], []]
set_option maxRecDepth 100000 in
theorem ok_X12_copies : ∀ q ∈ op_X12_copies, cv_ok cv_T vwCl mt_all mt_X12_copies q := cv_zip_ok ok_mm (by decide) okj_all ok_o1 ok_o2 (hs := hn_X12_copies) (by decide +kernel) (by decide +kernel)
def hn_X12_keepText_0 : List (List (Nat × Nat)) := [
  [], [], [(6, 193)], [(6, 189)], [], [], [(6, 194)], [(6, 190)], [], [], [(6, 195)], [(6, 191)],
  [], [], [(6, 196)], [(6, 192)], [], [(6, 198)], [], [(6, 167)], [], [(6, 199)], [], [(6, 167)],
  [], [(6, 200)], [], [(6, 167)], [], [], [], [], [], [], [(6, 201)], [],
  [], [(6, 201)], [], [], [], [], [], [], [], [], [(6, 202)], [],
  [(6, 167)], [], [(6, 203)], [], [(6, 167)], [], [(6, 204)], [], [(6, 167)], [], [(6, 205)], []]
set_option maxRecDepth 100000 in
theorem ok_X12_keepText_0 : ∀ q ∈ op_X12_keepText_0, cv_ok cv_T vwCl mt_all mt_X12_keepText q := cv_zip_ok ok_mm (by decide) okj_all ok_o1 ok_o2 (hs := hn_X12_keepText_0) (by decide +kernel) (by decide +kernel)
def hn_X12_keepText_1 : List (List (Nat × Nat)) := [
  [(6, 167)], [], [(6, 206)], [], [(6, 167)], [], [(6, 207)], [], [(6, 167)], [], [(6, 208)], [],
  [(6, 167)], [], [(6, 209)], [], [(6, 167)], [], [(6, 210)], [], [(6, 167)], [], [(6, 211)], [],
  [(6, 167)], [], [], [], [], [], [], [], [(6, 170)], [], [(6, 221)], [],
  [], [], [], [(6, 222)], [], [(6, 174)], [], [], [], [], [(6, 220)], [],
  [], [(6, 229)], [], [], [(6, 230)], [], [], [(6, 227)], [], [], [(7, 3)], []]
set_option maxRecDepth 100000 in
theorem ok_X12_keepText_1 : ∀ q ∈ op_X12_keepText_1, cv_ok cv_T vwCl mt_all mt_X12_keepText q := cv_zip_ok ok_mm (by decide) okj_all ok_o1 ok_o2 (hs := hn_X12_keepText_1) (by decide +kernel) (by decide +kernel)
theorem ok_X12_keepText : ∀ q ∈ op_X12_keepText, cv_ok cv_T vwCl mt_all mt_X12_keepText q := List.forall_mem_append.mpr ⟨ok_X12_keepText_0, ok_X12_keepText_1⟩
def hn_X12_find : List (List (Nat × Nat)) := [
  [], [], [], [], [], [], [], [], [], [], [], [],
  [], [], [], [], [], []]
set_option maxRecDepth 100000 in
theorem ok_X12_find : ∀ q ∈ op_X12_find, cv_ok cv_T vwCl mt_all mt_X12_find q := cv_zip_ok ok_mm (by decide) okj_all ok_o1 ok_o2 (hs := hn_X12_find) (by decide +kernel) (by decide +kernel)
def hn_X12_newName : List (List (Nat × Nat)) := [
  [], [(6, 185)], [], [], [], [], [(7, 181)], [], [], [], [], [],
  [(6, 186)], [(8, 15)], [], [], [], [(7, 181)], [], [], [], [], [], [],
  [(6, 186)], [], [], [(7, 153)], [], []]
set_option maxRecDepth 100000 in
theorem ok_X12_newName : ∀ q ∈ op_X12_newName, cv_ok cv_T vwCl mt_all mt_X12_newName q := cv_zip_ok ok_mm (by decide) okj_all ok_o1 ok_o2 (hs := hn_X12_newName) (by decide +kernel) (by decide +kernel)
def hn_X12_groundLine : List (List (Nat × Nat)) := [
  [], [(6, 197)], [], [], [], [(7, 181)], [], [], [], [(6, 197)], [], [(7, 153)],
  [], [], [(6, 198)], [], [], [], [], [(7, 189)], []]
set_option maxRecDepth 100000 in
theorem ok_X12_groundLine : ∀ q ∈ op_X12_groundLine, cv_ok cv_T vwCl mt_all mt_X12_groundLine q := cv_zip_ok ok_mm (by decide) okj_all ok_o1 ok_o2 (hs := hn_X12_groundLine) (by decide +kernel) (by decide +kernel)
def hn_X12_lawLine : List (List (Nat × Nat)) := [
  [], [(7, 153)], [], [(6, 185)], [], [], [], [(6, 186)], [], [], [(7, 197)], [],
  [], [], [(7, 181)], [], [], [], [(6, 186)], [], [], [], [], [],
  [(6, 201)], [], [], [], [], [], [(7, 181)], [], [], [(6, 201)], [], [],
  [], [], [(7, 153)], [], [(6, 199)], [], [], [(6, 196)], [], [], [(7, 204)], [],
  [], [(6, 200)], [], [], [(6, 196)], [], [], []]
set_option maxRecDepth 100000 in
theorem ok_X12_lawLine : ∀ q ∈ op_X12_lawLine, cv_ok cv_T vwCl mt_all mt_X12_lawLine q := cv_zip_ok ok_mm (by decide) okj_all ok_o1 ok_o2 (hs := hn_X12_lawLine) (by decide +kernel) (by decide +kernel)
def hn_X12_hasWord : List (List (Nat × Nat)) := [
  [], [(6, 185)], [], [], [], [], [], [(6, 186)], [], [], [(7, 197)], [],
  [], [(6, 186)], [], [], [], [], [(6, 186)], [], [], [], [], [],
  []]
set_option maxRecDepth 100000 in
theorem ok_X12_hasWord : ∀ q ∈ op_X12_hasWord, cv_ok cv_T vwCl mt_all mt_X12_hasWord q := cv_zip_ok ok_mm (by decide) okj_all ok_o1 ok_o2 (hs := hn_X12_hasWord) (by decide +kernel) (by decide +kernel)
def hn_X12_gateLine_0 : List (List (Nat × Nat)) := [
  [], [(6, 193)], [], [], [], [], [(7, 181)], [], [], [(7, 153)], [], [],
  [(6, 202)], [], [], [(6, 193)], [(8, 11)], [], [], [], [], [], [], [(6, 193)],
  [], [], [], [], [], [], [(7, 193)], [], [], [], [], [(6, 203)],
  [], [], [(6, 188)], [], [], [], [], [(7, 193)], [], [], [], [],
  [(6, 203)], [], [], [], [], [(6, 188)], [], [], [], [], [(7, 193)], []]
set_option maxRecDepth 100000 in
theorem ok_X12_gateLine_0 : ∀ q ∈ op_X12_gateLine_0, cv_ok cv_T vwCl mt_all mt_X12_gateLine q := cv_zip_ok ok_mm (by decide) okj_all ok_o1 ok_o2 (hs := hn_X12_gateLine_0) (by decide +kernel) (by decide +kernel)
def hn_X12_gateLine_1 : List (List (Nat × Nat)) := [
  [], [], [], [(6, 203)], [], [], [], [], [(6, 188)], [], [], [(6, 203)],
  [], [], [], [], [], [], [(6, 203)], [], [], [], [], [(6, 203)],
  [], [], [], [], [], [], [], [], [(6, 203)], [], [], [],
  [], [], [], [(6, 203)], [], [], [], [], [], [], [(6, 203)], [],
  [], [], [], [], [], [(6, 203)], [], [], [], [], [], []]
set_option maxRecDepth 100000 in
theorem ok_X12_gateLine_1 : ∀ q ∈ op_X12_gateLine_1, cv_ok cv_T vwCl mt_all mt_X12_gateLine q := cv_zip_ok ok_mm (by decide) okj_all ok_o1 ok_o2 (hs := hn_X12_gateLine_1) (by decide +kernel) (by decide +kernel)
def hn_X12_gateLine_2 : List (List (Nat × Nat)) := [
  [(6, 203)], [], [], [], [], [], [], [(6, 203)], [], [], [], [],
  [], [], [(6, 203)], [], [], [], [], [], [], [(6, 203)], [], [],
  [], [], [], [], [(6, 203)], [], [], [], [], [], [], [(6, 203)],
  [], [], [], [], [], [], [], [], [], [], [], [(6, 204)],
  [], [], [], [(6, 193)], [], [], [], [], [], [], [], []]
set_option maxRecDepth 100000 in
theorem ok_X12_gateLine_2 : ∀ q ∈ op_X12_gateLine_2, cv_ok cv_T vwCl mt_all mt_X12_gateLine q := cv_zip_ok ok_mm (by decide) okj_all ok_o1 ok_o2 (hs := hn_X12_gateLine_2) (by decide +kernel) (by decide +kernel)
def hn_X12_gateLine_3 : List (List (Nat × Nat)) := [
  [], [], [], [(8, 18)], [], [], [], [], [], [], [], [],
  [(8, 22)], [], [], [], [(7, 181)], [], [], [], [], [], [], [],
  [], [(7, 153)], [], [], [], [(8, 25)], [], [], [], [], [(8, 18)], [],
  [], [], [], [(6, 193)], [], [], [(6, 193)], [], []]
set_option maxRecDepth 100000 in
theorem ok_X12_gateLine_3 : ∀ q ∈ op_X12_gateLine_3, cv_ok cv_T vwCl mt_all mt_X12_gateLine q := cv_zip_ok ok_mm (by decide) okj_all ok_o1 ok_o2 (hs := hn_X12_gateLine_3) (by decide +kernel) (by decide +kernel)
theorem ok_X12_gateLine : ∀ q ∈ op_X12_gateLine, cv_ok cv_T vwCl mt_all mt_X12_gateLine q := List.forall_mem_append.mpr ⟨ok_X12_gateLine_0, List.forall_mem_append.mpr ⟨ok_X12_gateLine_1, List.forall_mem_append.mpr ⟨ok_X12_gateLine_2, ok_X12_gateLine_3⟩⟩⟩
def hn_X12_hasRead_0 : List (List (Nat × Nat)) := [
  [], [], [], [], [(8, 29)], [], [], [], [], [(7, 193)], [], [],
  [], [], [(6, 203)], [], [], [], [], [(6, 188)], [], [], [], [(6, 203)],
  [], [], [], [], [], [], [(7, 189)], [], [], [], [(7, 220)], [],
  [], [], [(7, 220)], [], [], [], [(7, 181)], [], [], [(6, 203)], [], [],
  [], [], [], [(7, 220)], [], [], [], [], [], [], [(7, 153)], []]
set_option maxRecDepth 100000 in
theorem ok_X12_hasRead_0 : ∀ q ∈ op_X12_hasRead_0, cv_ok cv_T vwCl mt_all mt_X12_hasRead q := cv_zip_ok ok_mm (by decide) okj_all ok_o1 ok_o2 (hs := hn_X12_hasRead_0) (by decide +kernel) (by decide +kernel)
def hn_X12_hasRead_1 : List (List (Nat × Nat)) := [
  [], [], [], [(6, 203)], [], [], [], [], [], [], [(7, 189)], [],
  [], [], [(6, 203)], [], [], [], [], [], [], [(7, 189)], [], [],
  [], [(6, 204)], [], [], [], [(6, 193)], [], [], [], [], [], [(7, 189)],
  [], [], [], [(8, 37)], [], [], [], [(6, 203)], [], [], [], [],
  [], [], [(7, 189)], []]
set_option maxRecDepth 100000 in
theorem ok_X12_hasRead_1 : ∀ q ∈ op_X12_hasRead_1, cv_ok cv_T vwCl mt_all mt_X12_hasRead q := cv_zip_ok ok_mm (by decide) okj_all ok_o1 ok_o2 (hs := hn_X12_hasRead_1) (by decide +kernel) (by decide +kernel)
theorem ok_X12_hasRead : ∀ q ∈ op_X12_hasRead, cv_ok cv_T vwCl mt_all mt_X12_hasRead q := List.forall_mem_append.mpr ⟨ok_X12_hasRead_0, ok_X12_hasRead_1⟩
def hn_X12_hooksRead_0 : List (List (Nat × Nat)) := [
  [], [], [], [(6, 203)], [], [], [], [], [(7, 193)], [], [], [],
  [], [(6, 203)], [], [], [], [], [(6, 188)], [], [], [], [(6, 188)], [],
  [], [], [(6, 203)], [], [], [], [], [(7, 193)], [], [], [], [],
  [(6, 203)], [], [], [], [], [(6, 188)], [], [], [], [(8, 33)], [], [],
  [], [], [(6, 203)], [], [], [], [], [(6, 188)], [], [], [], [(8, 33)]]
set_option maxRecDepth 100000 in
theorem ok_X12_hooksRead_0 : ∀ q ∈ op_X12_hooksRead_0, cv_ok cv_T vwCl mt_all mt_X12_hooksRead q := cv_zip_ok ok_mm (by decide) okj_all ok_o1 ok_o2 (hs := hn_X12_hooksRead_0) (by decide +kernel) (by decide +kernel)
def hn_X12_hooksRead_1 : List (List (Nat × Nat)) := [
  [], [], [], [], [(6, 203)], [], [], [], [], [(6, 188)], [], [],
  []]
set_option maxRecDepth 100000 in
theorem ok_X12_hooksRead_1 : ∀ q ∈ op_X12_hooksRead_1, cv_ok cv_T vwCl mt_all mt_X12_hooksRead q := cv_zip_ok ok_mm (by decide) okj_all ok_o1 ok_o2 (hs := hn_X12_hooksRead_1) (by decide +kernel) (by decide +kernel)
theorem ok_X12_hooksRead : ∀ q ∈ op_X12_hooksRead, cv_ok cv_T vwCl mt_all mt_X12_hooksRead q := List.forall_mem_append.mpr ⟨ok_X12_hooksRead_0, ok_X12_hooksRead_1⟩
def hn_X12_causeRead : List (List (Nat × Nat)) := [
  [], [(6, 185)], [], [], [], [], [(7, 181)], [], [], [(6, 207)], [], [],
  [(6, 195)], [], [(6, 186)], [(8, 15)], [], [], [], [], [], [(7, 181)], [], [],
  [(6, 203)], [], [], [], [], [], [(8, 22)], [], [], [], [(7, 181)], [],
  [], [(6, 203)], [], [], [], [], [], [], [], [], [], [],
  [], [(7, 153)], [], []]
set_option maxRecDepth 100000 in
theorem ok_X12_causeRead : ∀ q ∈ op_X12_causeRead, cv_ok cv_T vwCl mt_all mt_X12_causeRead q := cv_zip_ok ok_mm (by decide) okj_all ok_o1 ok_o2 (hs := hn_X12_causeRead) (by decide +kernel) (by decide +kernel)
def hn_X12_workWord : List (List (Nat × Nat)) := [
  [], [(6, 185)], [], [], [], [], [], [(6, 186)], [], [], [], [],
  [], [(6, 186)], [], [], [], [], [], [(6, 186)], [], [], [], [],
  [], [(6, 186)], [], [], [(7, 197)], [], [], [(6, 186)], [], [], [], [],
  [], [], []]
set_option maxRecDepth 100000 in
theorem ok_X12_workWord : ∀ q ∈ op_X12_workWord, cv_ok cv_T vwCl mt_all mt_X12_workWord q := cv_zip_ok ok_mm (by decide) okj_all ok_o1 ok_o2 (hs := hn_X12_workWord) (by decide +kernel) (by decide +kernel)
def hn_X12_mostOf : List (List (Nat × Nat)) := [
  [], [], [], [], [], [], [], [], [], [], [], [],
  [], [], [], [], []]
set_option maxRecDepth 100000 in
theorem ok_X12_mostOf : ∀ q ∈ op_X12_mostOf, cv_ok cv_T vwCl mt_all mt_X12_mostOf q := cv_zip_ok ok_mm (by decide) okj_all ok_o1 ok_o2 (hs := hn_X12_mostOf) (by decide +kernel) (by decide +kernel)
def hn_X12_workLine_0 : List (List (Nat × Nat)) := [
  [], [(6, 194)], [], [], [], [], [(7, 181)], [], [], [(7, 153)], [], [],
  [(6, 205)], [], [], [(6, 194)], [(8, 11)], [], [], [], [], [(7, 193)], [], [],
  [], [], [], [], [(6, 194)], [], [], [], [], [(6, 206)], [], [],
  [(6, 188)], [], [], [(8, 45)], [], [], [], [], [], [(7, 181)], [], [],
  [(6, 206)], [], [], [], [], [], [], [(6, 206)], [], [], [], []]
set_option maxRecDepth 100000 in
theorem ok_X12_workLine_0 : ∀ q ∈ op_X12_workLine_0, cv_ok cv_T vwCl mt_all mt_X12_workLine q := cv_zip_ok ok_mm (by decide) okj_all ok_o1 ok_o2 (hs := hn_X12_workLine_0) (by decide +kernel) (by decide +kernel)
def hn_X12_workLine_1 : List (List (Nat × Nat)) := [
  [], [], [(7, 153)], [], [], [], [], [], [], [(8, 49)], [(7, 193)], [],
  [], [], [], [(6, 206)], [], [], [], [], [(6, 188)], [], [], [],
  [(6, 194)], [], [], [(6, 194)], [], []]
set_option maxRecDepth 100000 in
theorem ok_X12_workLine_1 : ∀ q ∈ op_X12_workLine_1, cv_ok cv_T vwCl mt_all mt_X12_workLine q := cv_zip_ok ok_mm (by decide) okj_all ok_o1 ok_o2 (hs := hn_X12_workLine_1) (by decide +kernel) (by decide +kernel)
theorem ok_X12_workLine : ∀ q ∈ op_X12_workLine, cv_ok cv_T vwCl mt_all mt_X12_workLine q := List.forall_mem_append.mpr ⟨ok_X12_workLine_0, ok_X12_workLine_1⟩
