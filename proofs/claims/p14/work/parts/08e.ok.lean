section
/-! ===== the rows of the methods ===== -/
def hn_X12_feed_0 : List (List (Nat × Nat)) := [
  [], [], [(6, 179)], [], [(6, 178)], [], [], [], [], [], [], [],
  [], [], [], [], [], [], [], [], [], [], [], [],
  [], [], [], [], [], [], [], [], [], [], [], [],
  [], [], [], [(6, 177)], [], [(6, 178)], [], [], [], [], [], [],
  [], [], [], [], [], [], [], [], [], [], [], []]
set_option maxRecDepth 100000 in
theorem ok_X12_feed_0 : ∀ q ∈ op_X12_feed_0, cv_ok cv_T vwCl mt_all mt_X12_feed q := cv_zip_ok ok_mm (by decide) okj_all ok_o1 ok_o2 (hs := hn_X12_feed_0) (by decide +kernel) (by decide +kernel)
def hn_X12_feed_1 : List (List (Nat × Nat)) := [
  [(6, 178)], [], [], [(6, 178)], [], [(6, 178)], []]
set_option maxRecDepth 100000 in
theorem ok_X12_feed_1 : ∀ q ∈ op_X12_feed_1, cv_ok cv_T vwCl mt_all mt_X12_feed q := cv_zip_ok ok_mm (by decide) okj_all ok_o1 ok_o2 (hs := hn_X12_feed_1) (by decide +kernel) (by decide +kernel)
theorem ok_X12_feed : ∀ q ∈ op_X12_feed, cv_ok cv_T vwCl mt_all mt_X12_feed q := List.forall_mem_append.mpr ⟨ok_X12_feed_0, ok_X12_feed_1⟩
def hn_X12_isIn : List (List (Nat × Nat)) := [
  [], [], [], [], [], [], [], [], [], []]
set_option maxRecDepth 100000 in
theorem ok_X12_isIn : ∀ q ∈ op_X12_isIn, cv_ok cv_T vwCl mt_all mt_X12_isIn q := cv_zip_ok ok_mm (by decide) okj_all ok_o1 ok_o2 (hs := hn_X12_isIn) (by decide +kernel) (by decide +kernel)
def hn_X12_isOf : List (List (Nat × Nat)) := [
  [], [], [], [], [], [], [], [], [], [], []]
set_option maxRecDepth 100000 in
theorem ok_X12_isOf : ∀ q ∈ op_X12_isOf, cv_ok cv_T vwCl mt_all mt_X12_isOf q := cv_zip_ok ok_mm (by decide) okj_all ok_o1 ok_o2 (hs := hn_X12_isOf) (by decide +kernel) (by decide +kernel)
def hn_X12_sizeOf : List (List (Nat × Nat)) := [
  [], [], [], [], [], [], []]
set_option maxRecDepth 100000 in
theorem ok_X12_sizeOf : ∀ q ∈ op_X12_sizeOf, cv_ok cv_T vwCl mt_all mt_X12_sizeOf q := cv_zip_ok ok_mm (by decide) okj_all ok_o1 ok_o2 (hs := hn_X12_sizeOf) (by decide +kernel) (by decide +kernel)
def hn_X12_wrong : List (List (Nat × Nat)) := [
  [], [], [(6, 181)], [], [], [(6, 187)], [(6, 182)], [], []]
set_option maxRecDepth 100000 in
theorem ok_X12_wrong : ∀ q ∈ op_X12_wrong, cv_ok cv_T vwCl mt_all mt_X12_wrong q := cv_zip_ok ok_mm (by decide) okj_all ok_o1 ok_o2 (hs := hn_X12_wrong) (by decide +kernel) (by decide +kernel)
def hn_X12_wordAt_0 : List (List (Nat × Nat)) := [
  [], [], [], [], [], [], [(6, 180)], [], [], [], [], [],
  [(6, 180)], [], [], [], [], [], [], [], [], [], [], [],
  [], [], [], [], [], [], [], [], [], [], [], [],
  [], [], [(6, 180)], [], [], [], [], [], [(6, 177)], [], [], [],
  [], [], [], [], [], [], [], [], [], [], [], []]
set_option maxRecDepth 100000 in
theorem ok_X12_wordAt_0 : ∀ q ∈ op_X12_wordAt_0, cv_ok cv_T vwCl mt_all mt_X12_wordAt q := cv_zip_ok ok_mm (by decide) okj_all ok_o1 ok_o2 (hs := hn_X12_wordAt_0) (by decide +kernel) (by decide +kernel)
def hn_X12_wordAt_1 : List (List (Nat × Nat)) := [
  [], [], [], [], [], [], [], [], [], []]
set_option maxRecDepth 100000 in
theorem ok_X12_wordAt_1 : ∀ q ∈ op_X12_wordAt_1, cv_ok cv_T vwCl mt_all mt_X12_wordAt q := cv_zip_ok ok_mm (by decide) okj_all ok_o1 ok_o2 (hs := hn_X12_wordAt_1) (by decide +kernel) (by decide +kernel)
theorem ok_X12_wordAt : ∀ q ∈ op_X12_wordAt, cv_ok cv_T vwCl mt_all mt_X12_wordAt q := List.forall_mem_append.mpr ⟨ok_X12_wordAt_0, ok_X12_wordAt_1⟩
def hn_X12_isSmall : List (List (Nat × Nat)) := [
  [], [], [(6, 183)], [], [], [(6, 177)], [], [], [], [], [], [(6, 177)],
  [], [], [], [], [], [], [], []]
set_option maxRecDepth 100000 in
theorem ok_X12_isSmall : ∀ q ∈ op_X12_isSmall, cv_ok cv_T vwCl mt_all mt_X12_isSmall q := cv_zip_ok ok_mm (by decide) okj_all ok_o1 ok_o2 (hs := hn_X12_isSmall) (by decide +kernel) (by decide +kernel)
def hn_X12_isDigit : List (List (Nat × Nat)) := [
  [], [], [(6, 183)], [], [], [(6, 177)], [], [], [], [], [], [(6, 177)],
  [], [], [], [], [], [], [], []]
set_option maxRecDepth 100000 in
theorem ok_X12_isDigit : ∀ q ∈ op_X12_isDigit, cv_ok cv_T vwCl mt_all mt_X12_isDigit q := cv_zip_ok ok_mm (by decide) okj_all ok_o1 ok_o2 (hs := hn_X12_isDigit) (by decide +kernel) (by decide +kernel)
def hn_X12_token_0 : List (List (Nat × Nat)) := [
  [], [(6, 184)], [], [(6, 183)], [], [], [(6, 177)], [], [(6, 184)], [], [], [],
  [], [(6, 177)], [], [(6, 184)], [], [], [], [], [], [(6, 184)], [], [],
  [(6, 184)], [], [], [], [(6, 184)], [(6, 187)], [], [(6, 184)], [], [(6, 183)], [], [],
  [], [(6, 185)], [], [], [], [(6, 184)], [(7, 157)], [], [], [], [(6, 184)], [(7, 157)],
  [], [], [], [(6, 184)], [], [], [(6, 184)], [], [], [], [], [(6, 187)]]
set_option maxRecDepth 100000 in
theorem ok_X12_token_0 : ∀ q ∈ op_X12_token_0, cv_ok cv_T vwCl mt_all mt_X12_token q := cv_zip_ok ok_mm (by decide) okj_all ok_o1 ok_o2 (hs := hn_X12_token_0) (by decide +kernel) (by decide +kernel)
def hn_X12_token_1 : List (List (Nat × Nat)) := [
  [], [(6, 184)], [(7, 161)], [(6, 186)], [], [], [(6, 186)], [], [], [], [], [(6, 184)],
  [], [(6, 187)], [], [], [], [], [], [], [(6, 185)], [], [(6, 185)], [],
  [], [], [], [], [(6, 187)], [], [(6, 184)], [(7, 165)], [(6, 186)], [], [], [],
  [(6, 184)], [(7, 169)], [], [], [], [(6, 185)], [], [], [(6, 186)], [], [], [(6, 184)],
  [(7, 169)], [], [], [], [(6, 186)], [], [], [], [(6, 186)], [], [], []]
set_option maxRecDepth 100000 in
theorem ok_X12_token_1 : ∀ q ∈ op_X12_token_1, cv_ok cv_T vwCl mt_all mt_X12_token q := cv_zip_ok ok_mm (by decide) okj_all ok_o1 ok_o2 (hs := hn_X12_token_1) (by decide +kernel) (by decide +kernel)
def hn_X12_token_2 : List (List (Nat × Nat)) := [
  [(6, 186)], [], [], [(6, 177)], [], [(6, 184)], [], [], [], [], [(6, 186)], [],
  [], [(6, 184)], [], [], [(6, 184)], [], [], [(7, 173)], []]
set_option maxRecDepth 100000 in
theorem ok_X12_token_2 : ∀ q ∈ op_X12_token_2, cv_ok cv_T vwCl mt_all mt_X12_token q := cv_zip_ok ok_mm (by decide) okj_all ok_o1 ok_o2 (hs := hn_X12_token_2) (by decide +kernel) (by decide +kernel)
theorem ok_X12_token : ∀ q ∈ op_X12_token, cv_ok cv_T vwCl mt_all mt_X12_token q := List.forall_mem_append.mpr ⟨ok_X12_token_0, List.forall_mem_append.mpr ⟨ok_X12_token_1, ok_X12_token_2⟩⟩
def hn_X12_signToken_0 : List (List (Nat × Nat)) := [
  [], [], [(6, 177)], [], [(6, 184)], [], [(6, 186)], [], [], [(6, 184)], [], [],
  [(6, 184)], [], [(6, 186)], [], [], [], [(6, 186)], [], [], [], [(6, 186)], [],
  [], [], [(6, 184)], [], [(6, 183)], [], [], [(6, 177)], [], [(6, 184)], [], [],
  [], [], [], [(6, 186)], [], [], [], [], [], [], [], [],
  [], [], [(6, 186)], [], [], [], [], [], [], [], [], []]
set_option maxRecDepth 100000 in
theorem ok_X12_signToken_0 : ∀ q ∈ op_X12_signToken_0, cv_ok cv_T vwCl mt_all mt_X12_signToken q := cv_zip_ok ok_mm (by decide) okj_all ok_o1 ok_o2 (hs := hn_X12_signToken_0) (by decide +kernel) (by decide +kernel)
def hn_X12_signToken_1 : List (List (Nat × Nat)) := [
  [], [], [], [], [], [], [(6, 184)], [], [], [(6, 184)], [], [],
  [(6, 185)], [], [], [(6, 186)], [], [], [], [], [], [(6, 186)], [], [],
  [], [], [], [], [], [], [], [], [], [], [], [],
  [], [], [], [(6, 186)], [], [], [(6, 186)], [], [], [], [(6, 186)], [],
  [], [], [(6, 186)], [], [], [], [(6, 186)], [], [], [], [(6, 186)], []]
set_option maxRecDepth 100000 in
theorem ok_X12_signToken_1 : ∀ q ∈ op_X12_signToken_1, cv_ok cv_T vwCl mt_all mt_X12_signToken q := cv_zip_ok ok_mm (by decide) okj_all ok_o1 ok_o2 (hs := hn_X12_signToken_1) (by decide +kernel) (by decide +kernel)
def hn_X12_signToken_2 : List (List (Nat × Nat)) := [
  [], [], [(6, 186)], [], [], [], [(6, 186)], [], [], [], [], [],
  [], [], [], [], [], [], [], [(6, 185)], []]
set_option maxRecDepth 100000 in
theorem ok_X12_signToken_2 : ∀ q ∈ op_X12_signToken_2, cv_ok cv_T vwCl mt_all mt_X12_signToken q := cv_zip_ok ok_mm (by decide) okj_all ok_o1 ok_o2 (hs := hn_X12_signToken_2) (by decide +kernel) (by decide +kernel)
theorem ok_X12_signToken : ∀ q ∈ op_X12_signToken, cv_ok cv_T vwCl mt_all mt_X12_signToken q := List.forall_mem_append.mpr ⟨ok_X12_signToken_0, List.forall_mem_append.mpr ⟨ok_X12_signToken_1, ok_X12_signToken_2⟩⟩
def hn_X12_packed : List (List (Nat × Nat)) := [
  [], [], [], [], [], [], [], [], [], [], [], [],
  [], [], [], [], [(6, 177)], [], [], [], [], [], [], [],
  [], [], [], [], []]
set_option maxRecDepth 100000 in
theorem ok_X12_packed : ∀ q ∈ op_X12_packed, cv_ok cv_T vwCl mt_all mt_X12_packed q := cv_zip_ok ok_mm (by decide) okj_all ok_o1 ok_o2 (hs := hn_X12_packed) (by decide +kernel) (by decide +kernel)
def hn_X12_isKey : List (List (Nat × Nat)) := [
  [], [(6, 185)], [], [], [], [(6, 186)], [], [], [], [], [], []]
set_option maxRecDepth 100000 in
theorem ok_X12_isKey : ∀ q ∈ op_X12_isKey, cv_ok cv_T vwCl mt_all mt_X12_isKey q := cv_zip_ok ok_mm (by decide) okj_all ok_o1 ok_o2 (hs := hn_X12_isKey) (by decide +kernel) (by decide +kernel)
def hn_X12_isSign : List (List (Nat × Nat)) := [
  [], [(6, 185)], [], [], [], [(6, 186)], [], [], [], [], [], []]
set_option maxRecDepth 100000 in
theorem ok_X12_isSign : ∀ q ∈ op_X12_isSign, cv_ok cv_T vwCl mt_all mt_X12_isSign q := cv_zip_ok ok_mm (by decide) okj_all ok_o1 ok_o2 (hs := hn_X12_isSign) (by decide +kernel) (by decide +kernel)
def hn_X12_number : List (List (Nat × Nat)) := [
  [], [(6, 185)], [], [], [], [], [(7, 181)], [], [], [(6, 186)], [], [],
  [(7, 197)], [], [], [], [(7, 181)], [], [], [], [(6, 186)], [(6, 188)], [], [(7, 153)],
  [], []]
set_option maxRecDepth 100000 in
theorem ok_X12_number : ∀ q ∈ op_X12_number, cv_ok cv_T vwCl mt_all mt_X12_number q := cv_zip_ok ok_mm (by decide) okj_all ok_o1 ok_o2 (hs := hn_X12_number) (by decide +kernel) (by decide +kernel)
def hn_X12_signed : List (List (Nat × Nat)) := [
  [], [], [(7, 208)], [], [], [], [], [(7, 153)], [], [], [], [(7, 193)],
  [], [], [], [], [], [], [], [(6, 188)], [], [], [], [(6, 188)],
  [(6, 188)], [], []]
set_option maxRecDepth 100000 in
theorem ok_X12_signed : ∀ q ∈ op_X12_signed, cv_ok cv_T vwCl mt_all mt_X12_signed q := cv_zip_ok ok_mm (by decide) okj_all ok_o1 ok_o2 (hs := hn_X12_signed) (by decide +kernel) (by decide +kernel)
def hn_X12_numbers : List (List (Nat × Nat)) := [
  [], [], [], [], [], [], [], [], [(7, 193)], [], [], [],
  [], [], [], [], [], [(6, 188)], [], [], [], [], []]
set_option maxRecDepth 100000 in
theorem ok_X12_numbers : ∀ q ∈ op_X12_numbers, cv_ok cv_T vwCl mt_all mt_X12_numbers q := cv_zip_ok ok_mm (by decide) okj_all ok_o1 ok_o2 (hs := hn_X12_numbers) (by decide +kernel) (by decide +kernel)
def hn_X12_plain : List (List (Nat × Nat)) := [
  [], [], [(6, 193)], [], [], [(6, 194)], [], [], [(6, 195)], [], [], [(6, 196)],
  [], [], [(6, 217)], [], [], [(6, 197)], [], [], [], [], [], [],
  [(6, 198)], [], [], [], [], [], [], [], [], [], [], [],
  [], [], [(6, 201)], [], [], [], [], [], [], [], []]
set_option maxRecDepth 100000 in
theorem ok_X12_plain : ∀ q ∈ op_X12_plain, cv_ok cv_T vwCl mt_all mt_X12_plain q := cv_zip_ok ok_mm (by decide) okj_all ok_o1 ok_o2 (hs := hn_X12_plain) (by decide +kernel) (by decide +kernel)
def hn_X12_copies : List (List (Nat × Nat)) := [
  [], [], [], [], [], [], [], [], [], [], [], [],
  [], [], [], []]
set_option maxRecDepth 100000 in
theorem ok_X12_copies : ∀ q ∈ op_X12_copies, cv_ok cv_T vwCl mt_all mt_X12_copies q := cv_zip_ok ok_mm (by decide) okj_all ok_o1 ok_o2 (hs := hn_X12_copies) (by decide +kernel) (by decide +kernel)
def hn_X12_keepText_0 : List (List (Nat × Nat)) := [
  [], [], [(6, 193)], [(6, 189)], [], [], [(6, 194)], [(6, 190)], [], [], [(6, 195)], [(6, 191)],
  [], [], [(6, 196)], [(6, 192)], [], [(6, 198)], [], [(6, 167)], [], [(6, 199)], [], [(6, 167)],
  [], [(6, 200)], [], [(6, 167)], [], [], [], [], [], [], [(6, 201)], [],
  [], [(6, 201)], [], [], [], [], [], [], [], [], [(6, 202)], [],
  [(6, 167)], [], [(6, 203)], [], [(6, 167)], [], [(6, 204)], [], [(6, 167)], [], [(6, 205)], []]
set_option maxRecDepth 100000 in
theorem ok_X12_keepText_0 : ∀ q ∈ op_X12_keepText_0, cv_ok cv_T vwCl mt_all mt_X12_keepText q := cv_zip_ok ok_mm (by decide) okj_all ok_o1 ok_o2 (hs := hn_X12_keepText_0) (by decide +kernel) (by decide +kernel)
def hn_X12_keepText_1 : List (List (Nat × Nat)) := [
  [(6, 167)], [], [(6, 206)], [], [(6, 167)], [], [(6, 207)], [], [(6, 167)], [], [(6, 208)], [],
  [(6, 167)], [], [(6, 209)], [], [(6, 167)], [], [(6, 210)], [], [(6, 167)], [], [(6, 211)], [],
  [(6, 167)], [], [], [], [], [], [], [], [(6, 170)], [], [(6, 221)], [],
  [], [], [], [(6, 222)], [], [(6, 174)], [], [], [], [], [(6, 220)], [],
  [], [(6, 229)], [], [], [(6, 230)], [], [], [(6, 227)], [], [], [(7, 3)], []]
set_option maxRecDepth 100000 in
theorem ok_X12_keepText_1 : ∀ q ∈ op_X12_keepText_1, cv_ok cv_T vwCl mt_all mt_X12_keepText q := cv_zip_ok ok_mm (by decide) okj_all ok_o1 ok_o2 (hs := hn_X12_keepText_1) (by decide +kernel) (by decide +kernel)
theorem ok_X12_keepText : ∀ q ∈ op_X12_keepText, cv_ok cv_T vwCl mt_all mt_X12_keepText q := List.forall_mem_append.mpr ⟨ok_X12_keepText_0, ok_X12_keepText_1⟩
def hn_X12_find : List (List (Nat × Nat)) := [
  [], [], [], [], [], [], [], [], [], [], [], [],
  [], [], [], [], [], []]
set_option maxRecDepth 100000 in
theorem ok_X12_find : ∀ q ∈ op_X12_find, cv_ok cv_T vwCl mt_all mt_X12_find q := cv_zip_ok ok_mm (by decide) okj_all ok_o1 ok_o2 (hs := hn_X12_find) (by decide +kernel) (by decide +kernel)
def hn_X12_newName : List (List (Nat × Nat)) := [
  [], [(6, 185)], [], [], [], [], [(7, 181)], [], [], [], [], [],
  [(6, 186)], [(8, 15)], [], [], [], [(7, 181)], [], [], [], [], [], [],
  [(6, 186)], [], [], [(7, 153)], [], []]
set_option maxRecDepth 100000 in
theorem ok_X12_newName : ∀ q ∈ op_X12_newName, cv_ok cv_T vwCl mt_all mt_X12_newName q := cv_zip_ok ok_mm (by decide) okj_all ok_o1 ok_o2 (hs := hn_X12_newName) (by decide +kernel) (by decide +kernel)
def hn_X12_groundLine : List (List (Nat × Nat)) := [
  [], [(6, 197)], [], [], [], [(7, 181)], [], [], [], [(6, 197)], [], [(7, 153)],
  [], [], [(6, 198)], [], [], [], [], [(7, 189)], []]
set_option maxRecDepth 100000 in
theorem ok_X12_groundLine : ∀ q ∈ op_X12_groundLine, cv_ok cv_T vwCl mt_all mt_X12_groundLine q := cv_zip_ok ok_mm (by decide) okj_all ok_o1 ok_o2 (hs := hn_X12_groundLine) (by decide +kernel) (by decide +kernel)
def hn_X12_lawLine : List (List (Nat × Nat)) := [
  [], [(7, 153)], [], [(6, 185)], [], [], [], [(6, 186)], [], [], [(7, 197)], [],
  [], [], [(7, 181)], [], [], [], [(6, 186)], [], [], [], [], [],
  [(6, 201)], [], [], [], [], [], [(7, 181)], [], [], [(6, 201)], [], [],
  [], [], [(7, 153)], [], [(6, 199)], [], [], [(6, 196)], [], [], [(7, 204)], [],
  [], [(6, 200)], [], [], [(6, 196)], [], [], []]
set_option maxRecDepth 100000 in
theorem ok_X12_lawLine : ∀ q ∈ op_X12_lawLine, cv_ok cv_T vwCl mt_all mt_X12_lawLine q := cv_zip_ok ok_mm (by decide) okj_all ok_o1 ok_o2 (hs := hn_X12_lawLine) (by decide +kernel) (by decide +kernel)
def hn_X12_hasWord : List (List (Nat × Nat)) := [
  [], [(6, 185)], [], [], [], [], [], [(6, 186)], [], [], [(7, 197)], [],
  [], [(6, 186)], [], [], [], [], [(6, 186)], [], [], [], [], [],
  []]
set_option maxRecDepth 100000 in
theorem ok_X12_hasWord : ∀ q ∈ op_X12_hasWord, cv_ok cv_T vwCl mt_all mt_X12_hasWord q := cv_zip_ok ok_mm (by decide) okj_all ok_o1 ok_o2 (hs := hn_X12_hasWord) (by decide +kernel) (by decide +kernel)
def hn_X12_gateLine_0 : List (List (Nat × Nat)) := [
  [], [(6, 193)], [], [], [], [], [(7, 181)], [], [], [(7, 153)], [], [],
  [(6, 202)], [], [], [(6, 193)], [(8, 11)], [], [], [], [], [], [], [(6, 193)],
  [], [], [], [], [], [], [(7, 193)], [], [], [], [], [(6, 203)],
  [], [], [(6, 188)], [], [], [], [], [(7, 193)], [], [], [], [],
  [(6, 203)], [], [], [], [], [(6, 188)], [], [], [], [], [(7, 193)], []]
set_option maxRecDepth 100000 in
theorem ok_X12_gateLine_0 : ∀ q ∈ op_X12_gateLine_0, cv_ok cv_T vwCl mt_all mt_X12_gateLine q := cv_zip_ok ok_mm (by decide) okj_all ok_o1 ok_o2 (hs := hn_X12_gateLine_0) (by decide +kernel) (by decide +kernel)
def hn_X12_gateLine_1 : List (List (Nat × Nat)) := [
  [], [], [], [(6, 203)], [], [], [], [], [(6, 188)], [], [], [(6, 203)],
  [], [], [], [], [], [], [(6, 203)], [], [], [], [], [(6, 203)],
  [], [], [], [], [], [], [], [], [(6, 203)], [], [], [],
  [], [], [], [(6, 203)], [], [], [], [], [], [], [(6, 203)], [],
  [], [], [], [], [], [(6, 203)], [], [], [], [], [], []]
set_option maxRecDepth 100000 in
theorem ok_X12_gateLine_1 : ∀ q ∈ op_X12_gateLine_1, cv_ok cv_T vwCl mt_all mt_X12_gateLine q := cv_zip_ok ok_mm (by decide) okj_all ok_o1 ok_o2 (hs := hn_X12_gateLine_1) (by decide +kernel) (by decide +kernel)
def hn_X12_gateLine_2 : List (List (Nat × Nat)) := [
  [(6, 203)], [], [], [], [], [], [], [(6, 203)], [], [], [], [],
  [], [], [(6, 203)], [], [], [], [], [], [], [(6, 203)], [], [],
  [], [], [], [], [(6, 203)], [], [], [], [], [], [], [(6, 203)],
  [], [], [], [], [], [], [], [], [], [], [], [(6, 204)],
  [], [], [], [(6, 193)], [], [], [], [], [], [], [], []]
set_option maxRecDepth 100000 in
theorem ok_X12_gateLine_2 : ∀ q ∈ op_X12_gateLine_2, cv_ok cv_T vwCl mt_all mt_X12_gateLine q := cv_zip_ok ok_mm (by decide) okj_all ok_o1 ok_o2 (hs := hn_X12_gateLine_2) (by decide +kernel) (by decide +kernel)
def hn_X12_gateLine_3 : List (List (Nat × Nat)) := [
  [], [], [], [(8, 18)], [], [], [], [], [], [], [], [],
  [(8, 22)], [], [], [], [(7, 181)], [], [], [], [], [], [], [],
  [], [(7, 153)], [], [], [], [(8, 25)], [], [], [], [], [(8, 18)], [],
  [], [], [], [(6, 193)], [], [], [(6, 193)], [], []]
set_option maxRecDepth 100000 in
theorem ok_X12_gateLine_3 : ∀ q ∈ op_X12_gateLine_3, cv_ok cv_T vwCl mt_all mt_X12_gateLine q := cv_zip_ok ok_mm (by decide) okj_all ok_o1 ok_o2 (hs := hn_X12_gateLine_3) (by decide +kernel) (by decide +kernel)
theorem ok_X12_gateLine : ∀ q ∈ op_X12_gateLine, cv_ok cv_T vwCl mt_all mt_X12_gateLine q := List.forall_mem_append.mpr ⟨ok_X12_gateLine_0, List.forall_mem_append.mpr ⟨ok_X12_gateLine_1, List.forall_mem_append.mpr ⟨ok_X12_gateLine_2, ok_X12_gateLine_3⟩⟩⟩
def hn_X12_hasRead_0 : List (List (Nat × Nat)) := [
  [], [], [], [], [(8, 29)], [], [], [], [], [(7, 193)], [], [],
  [], [], [(6, 203)], [], [], [], [], [(6, 188)], [], [], [], [(6, 203)],
  [], [], [], [], [], [], [(7, 189)], [], [], [], [(7, 220)], [],
  [], [], [(7, 220)], [], [], [], [(7, 181)], [], [], [(6, 203)], [], [],
  [], [], [], [(7, 220)], [], [], [], [], [], [], [(7, 153)], []]
set_option maxRecDepth 100000 in
theorem ok_X12_hasRead_0 : ∀ q ∈ op_X12_hasRead_0, cv_ok cv_T vwCl mt_all mt_X12_hasRead q := cv_zip_ok ok_mm (by decide) okj_all ok_o1 ok_o2 (hs := hn_X12_hasRead_0) (by decide +kernel) (by decide +kernel)
def hn_X12_hasRead_1 : List (List (Nat × Nat)) := [
  [], [], [], [(6, 203)], [], [], [], [], [], [], [(7, 189)], [],
  [], [], [(6, 203)], [], [], [], [], [], [], [(7, 189)], [], [],
  [], [(6, 204)], [], [], [], [(6, 193)], [], [], [], [], [], [(7, 189)],
  [], [], [], [(8, 37)], [], [], [], [(6, 203)], [], [], [], [],
  [], [], [(7, 189)], []]
set_option maxRecDepth 100000 in
theorem ok_X12_hasRead_1 : ∀ q ∈ op_X12_hasRead_1, cv_ok cv_T vwCl mt_all mt_X12_hasRead q := cv_zip_ok ok_mm (by decide) okj_all ok_o1 ok_o2 (hs := hn_X12_hasRead_1) (by decide +kernel) (by decide +kernel)
theorem ok_X12_hasRead : ∀ q ∈ op_X12_hasRead, cv_ok cv_T vwCl mt_all mt_X12_hasRead q := List.forall_mem_append.mpr ⟨ok_X12_hasRead_0, ok_X12_hasRead_1⟩
def hn_X12_hooksRead_0 : List (List (Nat × Nat)) := [
  [], [], [], [(6, 203)], [], [], [], [], [(7, 193)], [], [], [],
  [], [(6, 203)], [], [], [], [], [(6, 188)], [], [], [], [(6, 188)], [],
  [], [], [(6, 203)], [], [], [], [], [(7, 193)], [], [], [], [],
  [(6, 203)], [], [], [], [], [(6, 188)], [], [], [], [(8, 33)], [], [],
  [], [], [(6, 203)], [], [], [], [], [(6, 188)], [], [], [], [(8, 33)]]
set_option maxRecDepth 100000 in
theorem ok_X12_hooksRead_0 : ∀ q ∈ op_X12_hooksRead_0, cv_ok cv_T vwCl mt_all mt_X12_hooksRead q := cv_zip_ok ok_mm (by decide) okj_all ok_o1 ok_o2 (hs := hn_X12_hooksRead_0) (by decide +kernel) (by decide +kernel)
def hn_X12_hooksRead_1 : List (List (Nat × Nat)) := [
  [], [], [], [], [(6, 203)], [], [], [], [], [(6, 188)], [], [],
  []]
set_option maxRecDepth 100000 in
theorem ok_X12_hooksRead_1 : ∀ q ∈ op_X12_hooksRead_1, cv_ok cv_T vwCl mt_all mt_X12_hooksRead q := cv_zip_ok ok_mm (by decide) okj_all ok_o1 ok_o2 (hs := hn_X12_hooksRead_1) (by decide +kernel) (by decide +kernel)
theorem ok_X12_hooksRead : ∀ q ∈ op_X12_hooksRead, cv_ok cv_T vwCl mt_all mt_X12_hooksRead q := List.forall_mem_append.mpr ⟨ok_X12_hooksRead_0, ok_X12_hooksRead_1⟩
def hn_X12_causeRead : List (List (Nat × Nat)) := [
  [], [(6, 185)], [], [], [], [], [(7, 181)], [], [], [(6, 207)], [], [],
  [(6, 195)], [], [(6, 186)], [(8, 15)], [], [], [], [], [], [(7, 181)], [], [],
  [(6, 203)], [], [], [], [], [], [(8, 22)], [], [], [], [(7, 181)], [],
  [], [(6, 203)], [], [], [], [], [], [], [], [], [], [],
  [], [(7, 153)], [], []]
set_option maxRecDepth 100000 in
theorem ok_X12_causeRead : ∀ q ∈ op_X12_causeRead, cv_ok cv_T vwCl mt_all mt_X12_causeRead q := cv_zip_ok ok_mm (by decide) okj_all ok_o1 ok_o2 (hs := hn_X12_causeRead) (by decide +kernel) (by decide +kernel)
def hn_X12_workWord : List (List (Nat × Nat)) := [
  [], [(6, 185)], [], [], [], [], [], [(6, 186)], [], [], [], [],
  [], [(6, 186)], [], [], [], [], [], [(6, 186)], [], [], [], [],
  [], [(6, 186)], [], [], [(7, 197)], [], [], [(6, 186)], [], [], [], [],
  [], [], []]
set_option maxRecDepth 100000 in
theorem ok_X12_workWord : ∀ q ∈ op_X12_workWord, cv_ok cv_T vwCl mt_all mt_X12_workWord q := cv_zip_ok ok_mm (by decide) okj_all ok_o1 ok_o2 (hs := hn_X12_workWord) (by decide +kernel) (by decide +kernel)
def hn_X12_mostOf : List (List (Nat × Nat)) := [
  [], [], [], [], [], [], [], [], [], [], [], [],
  [], [], [], [], []]
set_option maxRecDepth 100000 in
theorem ok_X12_mostOf : ∀ q ∈ op_X12_mostOf, cv_ok cv_T vwCl mt_all mt_X12_mostOf q := cv_zip_ok ok_mm (by decide) okj_all ok_o1 ok_o2 (hs := hn_X12_mostOf) (by decide +kernel) (by decide +kernel)
def hn_X12_workLine_0 : List (List (Nat × Nat)) := [
  [], [(6, 194)], [], [], [], [], [(7, 181)], [], [], [(7, 153)], [], [],
  [(6, 205)], [], [], [(6, 194)], [(8, 11)], [], [], [], [], [(7, 193)], [], [],
  [], [], [], [], [(6, 194)], [], [], [], [], [(6, 206)], [], [],
  [(6, 188)], [], [], [(8, 45)], [], [], [], [], [], [(7, 181)], [], [],
  [(6, 206)], [], [], [], [], [], [], [(6, 206)], [], [], [], []]
set_option maxRecDepth 100000 in
theorem ok_X12_workLine_0 : ∀ q ∈ op_X12_workLine_0, cv_ok cv_T vwCl mt_all mt_X12_workLine q := cv_zip_ok ok_mm (by decide) okj_all ok_o1 ok_o2 (hs := hn_X12_workLine_0) (by decide +kernel) (by decide +kernel)
def hn_X12_workLine_1 : List (List (Nat × Nat)) := [
  [], [], [(7, 153)], [], [], [], [], [], [], [(8, 49)], [(7, 193)], [],
  [], [], [], [(6, 206)], [], [], [], [], [(6, 188)], [], [], [],
  [(6, 194)], [], [], [(6, 194)], [], []]
set_option maxRecDepth 100000 in
theorem ok_X12_workLine_1 : ∀ q ∈ op_X12_workLine_1, cv_ok cv_T vwCl mt_all mt_X12_workLine q := cv_zip_ok ok_mm (by decide) okj_all ok_o1 ok_o2 (hs := hn_X12_workLine_1) (by decide +kernel) (by decide +kernel)
theorem ok_X12_workLine : ∀ q ∈ op_X12_workLine, cv_ok cv_T vwCl mt_all mt_X12_workLine q := List.forall_mem_append.mpr ⟨ok_X12_workLine_0, ok_X12_workLine_1⟩
end
section
/-! ===== the rows of the methods ===== -/
def hn_X12_causeLine_0 : List (List (Nat × Nat)) := [
  [], [(6, 195)], [], [], [], [], [(7, 181)], [], [], [(7, 153)], [], [],
  [(6, 207)], [], [], [(6, 195)], [(8, 11)], [], [], [], [], [(7, 193)], [], [],
  [], [], [], [], [(6, 195)], [], [], [], [], [(6, 208)], [], [],
  [(6, 188)], [], [], [(6, 185)], [], [], [], [(6, 186)], [], [], [(7, 197)], [],
  [], [], [(7, 181)], [], [], [(6, 208)], [], [], [], [], [(6, 186)], []]
set_option maxRecDepth 100000 in
theorem ok_X12_causeLine_0 : ∀ q ∈ op_X12_causeLine_0, cv_ok cv_T vwCl mt_all mt_X12_causeLine q := cv_zip_ok ok_mm (by decide) okj_all ok_o1 ok_o2 (hs := hn_X12_causeLine_0) (by decide +kernel) (by decide +kernel)
def hn_X12_causeLine_1 : List (List (Nat × Nat)) := [
  [], [], [], [(7, 153)], [], [], [], [(7, 193)], [], [], [], [],
  [(6, 208)], [], [], [], [], [(6, 188)], [], [], [], [(6, 195)], [], [],
  [(6, 195)], [], []]
set_option maxRecDepth 100000 in
theorem ok_X12_causeLine_1 : ∀ q ∈ op_X12_causeLine_1, cv_ok cv_T vwCl mt_all mt_X12_causeLine q := cv_zip_ok ok_mm (by decide) okj_all ok_o1 ok_o2 (hs := hn_X12_causeLine_1) (by decide +kernel) (by decide +kernel)
theorem ok_X12_causeLine : ∀ q ∈ op_X12_causeLine, cv_ok cv_T vwCl mt_all mt_X12_causeLine q := List.forall_mem_append.mpr ⟨ok_X12_causeLine_0, ok_X12_causeLine_1⟩
def hn_X12_lineRead : List (List (Nat × Nat)) := [
  [], [(6, 185)], [], [], [], [(6, 186)], [], [], [], [], [(7, 181)], [],
  [], [(6, 186)], [], [], [(7, 185)], [], [], [], [(7, 200)], [], [], [],
  [(8, 7)], [], [], [], [(8, 41)], [], [], [], [(8, 52)], [], [], [],
  [], [], [], [], [(7, 208)], [], [], [], [(7, 181)], [], [], [(7, 153)],
  [], []]
set_option maxRecDepth 100000 in
theorem ok_X12_lineRead : ∀ q ∈ op_X12_lineRead, cv_ok cv_T vwCl mt_all mt_X12_lineRead q := cv_zip_ok ok_mm (by decide) okj_all ok_o1 ok_o2 (hs := hn_X12_lineRead) (by decide +kernel) (by decide +kernel)
def hn_X12_text : List (List (Nat × Nat)) := [
  [], [], [(6, 179)], [], [], [], [], [(6, 178)], [], [], [], [],
  [], [(6, 183)], [], [], [(6, 178)], [], [], [(6, 181)], [], [], [(6, 182)], [],
  [], [(6, 184)], [], [(6, 159)], [], [(7, 153)], [], [], [], [(6, 185)], [], [],
  [(7, 177)], [], [], [], [], [], [], [(6, 163)], [], []]
set_option maxRecDepth 100000 in
theorem ok_X12_text : ∀ q ∈ op_X12_text, cv_ok cv_T vwCl mt_all mt_X12_text q := cv_zip_ok ok_mm (by decide) okj_all ok_o1 ok_o2 (hs := hn_X12_text) (by decide +kernel) (by decide +kernel)
def hn_X12_fault : List (List (Nat × Nat)) := [
  [], [], [(6, 179)], [], [], [], [(6, 181)], [], [], [], [], [],
  [(6, 182)], [], [], []]
set_option maxRecDepth 100000 in
theorem ok_X12_fault : ∀ q ∈ op_X12_fault, cv_ok cv_T vwCl mt_all mt_X12_fault q := cv_zip_ok ok_mm (by decide) okj_all ok_o1 ok_o2 (hs := hn_X12_fault) (by decide +kernel) (by decide +kernel)
def hn_X12_named : List (List (Nat × Nat)) := [
  [], [], [(6, 179)], [], [], [], [(6, 202)], [], [], [(6, 189)], [], [(8, 15)],
  [], [], [], [], [], [(6, 205)], [], [], [(6, 190)], [], [(8, 15)], [],
  [], [], [], [], [(6, 207)], [], [], [(6, 191)], [], [(8, 15)], [], [],
  []]
set_option maxRecDepth 100000 in
theorem ok_X12_named : ∀ q ∈ op_X12_named, cv_ok cv_T vwCl mt_all mt_X12_named q := cv_zip_ok ok_mm (by decide) okj_all ok_o1 ok_o2 (hs := hn_X12_named) (by decide +kernel) (by decide +kernel)
def hn_X12_rank : List (List (Nat × Nat)) := [
  [], [], [], [], [], [], [], [], [], [], [], [],
  [], [], [], [], [], [], [], [], [], [], [], [],
  [], [], [], [], [], [], [], []]
set_option maxRecDepth 100000 in
theorem ok_X12_rank : ∀ q ∈ op_X12_rank, cv_ok cv_T vwCl mt_all mt_X12_rank q := cv_zip_ok ok_mm (by decide) okj_all ok_o1 ok_o2 (hs := hn_X12_rank) (by decide +kernel) (by decide +kernel)
def hn_X12_grown : List (List (Nat × Nat)) := [
  [], [(6, 209)], [], [], [(6, 196)], [], [], [], [], [(6, 210)], [], [],
  [(6, 196)], [], [], [], [], [(6, 211)], [], [], [(6, 196)], [], [], [],
  [], [(6, 213)], [], [(6, 215)], [], [(6, 196)], [], [], [], [(6, 215)], [], [],
  [(6, 215)], [], [], [(6, 196)], [], [], [(6, 196)], []]
set_option maxRecDepth 100000 in
theorem ok_X12_grown : ∀ q ∈ op_X12_grown, cv_ok cv_T vwCl mt_all mt_X12_grown q := cv_zip_ok ok_mm (by decide) okj_all ok_o1 ok_o2 (hs := hn_X12_grown) (by decide +kernel) (by decide +kernel)
def hn_X12_dropHeld : List (List (Nat × Nat)) := [
  [], [], [(6, 215)], [], [], [(6, 215)], [], [(6, 213)], [], [(6, 215)], [], []]
set_option maxRecDepth 100000 in
theorem ok_X12_dropHeld : ∀ q ∈ op_X12_dropHeld, cv_ok cv_T vwCl mt_all mt_X12_dropHeld q := cv_zip_ok ok_mm (by decide) okj_all ok_o1 ok_o2 (hs := hn_X12_dropHeld) (by decide +kernel) (by decide +kernel)
def hn_X12_bind : List (List (Nat × Nat)) := [
  [], [(6, 214)], [], [], [(6, 212)], [], [(6, 214)], [], [], [], [(8, 0)], [],
  [], [], [], [(6, 214)], [], [], [(6, 214)], [], [(6, 212)], [], [(6, 214)], [],
  [], [], [], [], [], [], [], [(8, 3)], [], [], [(8, 3)], [],
  [], [], [], [], [(7, 228)], [], []]
set_option maxRecDepth 100000 in
theorem ok_X12_bind : ∀ q ∈ op_X12_bind, cv_ok cv_T vwCl mt_all mt_X12_bind q := cv_zip_ok ok_mm (by decide) okj_all ok_o1 ok_o2 (hs := hn_X12_bind) (by decide +kernel) (by decide +kernel)
def hn_X12_isCounted : List (List (Nat × Nat)) := [
  [], [(6, 217)], [], [], [], [], [(7, 181)], [], [], [], [(6, 217)], [],
  [], [(6, 217)], [], []]
set_option maxRecDepth 100000 in
theorem ok_X12_isCounted : ∀ q ∈ op_X12_isCounted, cv_ok cv_T vwCl mt_all mt_X12_isCounted q := cv_zip_ok ok_mm (by decide) okj_all ok_o1 ok_o2 (hs := hn_X12_isCounted) (by decide +kernel) (by decide +kernel)
def hn_X12_waitsFor : List (List (Nat × Nat)) := [
  [], [(6, 212)], [], [(6, 214)], [], [], [], [], [(6, 214)], [], [], [(6, 214)],
  []]
set_option maxRecDepth 100000 in
theorem ok_X12_waitsFor : ∀ q ∈ op_X12_waitsFor, cv_ok cv_T vwCl mt_all mt_X12_waitsFor q := cv_zip_ok ok_mm (by decide) okj_all ok_o1 ok_o2 (hs := hn_X12_waitsFor) (by decide +kernel) (by decide +kernel)
def hn_X12_leafRead_0 : List (List (Nat × Nat)) := [
  [], [], [(7, 208)], [], [], [(6, 216)], [], [], [], [], [(7, 181)], [],
  [], [], [(6, 216)], [], [], [(6, 216)], [], [], [(7, 216)], [], [], [(6, 219)],
  [], [(7, 153)], [], [], [], [], [(7, 220)], [], [], [(6, 219)], [], [],
  [(7, 224)], [], [], [], [], [], [(7, 216)], [], [(7, 153)], [], [], [],
  [(6, 185)], [], [], [], [(6, 186)], [], [], [], [], [], [], []]
set_option maxRecDepth 100000 in
theorem ok_X12_leafRead_0 : ∀ q ∈ op_X12_leafRead_0, cv_ok cv_T vwCl mt_all mt_X12_leafRead q := cv_zip_ok ok_mm (by decide) okj_all ok_o1 ok_o2 (hs := hn_X12_leafRead_0) (by decide +kernel) (by decide +kernel)
def hn_X12_leafRead_1 : List (List (Nat × Nat)) := [
  [], [], [(6, 185)], [], [], [], [], [(7, 181)], [], [], [], [],
  [(6, 186)], [], [], [], [], [(7, 181)], [], [], [(7, 224)], [], [], [],
  [], [], [], [], [], [], [], [], [], [(6, 186)], [], [],
  [], [], [(6, 186)], [], [(7, 228)], [], [], [(6, 218)], [], [(7, 153)], [], []]
set_option maxRecDepth 100000 in
theorem ok_X12_leafRead_1 : ∀ q ∈ op_X12_leafRead_1, cv_ok cv_T vwCl mt_all mt_X12_leafRead q := cv_zip_ok ok_mm (by decide) okj_all ok_o1 ok_o2 (hs := hn_X12_leafRead_1) (by decide +kernel) (by decide +kernel)
theorem ok_X12_leafRead : ∀ q ∈ op_X12_leafRead, cv_ok cv_T vwCl mt_all mt_X12_leafRead q := List.forall_mem_append.mpr ⟨ok_X12_leafRead_0, ok_X12_leafRead_1⟩
def hn_X12_signs_0 : List (List (Nat × Nat)) := [
  [], [], [(7, 208)], [], [], [(6, 216)], [], [], [], [(7, 236)], [], [],
  [(6, 214)], [], [], [(6, 214)], [], [], [(6, 216)], [], [], [(6, 216)], [], [(7, 153)],
  [], [], [], [], [(7, 220)], [], [], [], [], [], [(7, 220)], [],
  [], [], [], [(6, 185)], [], [], [], [], [(6, 186)], [], [], [],
  [], [(7, 208)], [], [], [], [], [], [(7, 208)], [], [], [], []]
set_option maxRecDepth 100000 in
theorem ok_X12_signs_0 : ∀ q ∈ op_X12_signs_0, cv_ok cv_T vwCl mt_all mt_X12_signs q := cv_zip_ok ok_mm (by decide) okj_all ok_o1 ok_o2 (hs := hn_X12_signs_0) (by decide +kernel) (by decide +kernel)
def hn_X12_signs_1 : List (List (Nat × Nat)) := [
  [], [(7, 208)], [], [], [], [], [], [(7, 208)], [], [], [], [],
  [], [], [], [], [], [(7, 181)], [], [], [], [(8, 0)], [], [],
  [], [], [], [(8, 0)], [(7, 236)], [], [(8, 0)], [], [], [], [(6, 214)], [],
  [], [(6, 212)], [], [(6, 214)], [], [], [], [(8, 0)], [], [], [], [],
  [(7, 181)], [], [], [(7, 224)], [], [], [], [], [], [(7, 216)], [], []]
set_option maxRecDepth 100000 in
theorem ok_X12_signs_1 : ∀ q ∈ op_X12_signs_1, cv_ok cv_T vwCl mt_all mt_X12_signs q := cv_zip_ok ok_mm (by decide) okj_all ok_o1 ok_o2 (hs := hn_X12_signs_1) (by decide +kernel) (by decide +kernel)
def hn_X12_signs_2 : List (List (Nat × Nat)) := [
  [(6, 218)], [], [], [(8, 0)], [], [], [], [], [], [(6, 219)], [], [(7, 153)],
  [], []]
set_option maxRecDepth 100000 in
theorem ok_X12_signs_2 : ∀ q ∈ op_X12_signs_2, cv_ok cv_T vwCl mt_all mt_X12_signs q := cv_zip_ok ok_mm (by decide) okj_all ok_o1 ok_o2 (hs := hn_X12_signs_2) (by decide +kernel) (by decide +kernel)
theorem ok_X12_signs : ∀ q ∈ op_X12_signs, cv_ok cv_T vwCl mt_all mt_X12_signs q := List.forall_mem_append.mpr ⟨ok_X12_signs_0, List.forall_mem_append.mpr ⟨ok_X12_signs_1, ok_X12_signs_2⟩⟩
def hn_X12_sumRead : List (List (Nat × Nat)) := [
  [], [], [(6, 214)], [], [], [(6, 215)], [], [], [(6, 216)], [], [], [(6, 218)],
  [], [], [(6, 219)], [], [], [(7, 208)], [], [], [(6, 218)], [], [], [(6, 216)],
  [], [], [(6, 218)], [], [], [(7, 212)], [], [], [], [(7, 232)], [], [],
  [], [], [], [(7, 236)], [], []]
set_option maxRecDepth 100000 in
theorem ok_X12_sumRead : ∀ q ∈ op_X12_sumRead, cv_ok cv_T vwCl mt_all mt_X12_sumRead q := cv_zip_ok ok_mm (by decide) okj_all ok_o1 ok_o2 (hs := hn_X12_sumRead) (by decide +kernel) (by decide +kernel)
def hn_X12_lays : List (List (Nat × Nat)) := [
  [], [], [], [], [], [], [], [], [], [], [], [],
  [], [], [], [], [], []]
set_option maxRecDepth 100000 in
theorem ok_X12_lays : ∀ q ∈ op_X12_lays, cv_ok cv_T vwCl mt_all mt_X12_lays q := cv_zip_ok ok_mm (by decide) okj_all ok_o1 ok_o2 (hs := hn_X12_lays) (by decide +kernel) (by decide +kernel)
def hn_X12_begins_0 : List (List (Nat × Nat)) := [
  [], [], [], [], [], [], [(6, 222)], [], [], [], [], [],
  [], [(6, 222)], [], [], [(6, 203)], [], [], [], [], [], [], [],
  [], [(6, 222)], [], [], [(6, 203)], [], [], [], [], [], [], [],
  [], [(6, 222)], [], [], [(6, 203)], [], [], [], [], [], [], [],
  [], [(6, 222)], [], [], [(6, 203)], [], [], [], [], [], [], []]
set_option maxRecDepth 100000 in
theorem ok_X12_begins_0 : ∀ q ∈ op_X12_begins_0, cv_ok cv_T vwCl mt_all mt_X12_begins q := cv_zip_ok ok_mm (by decide) okj_all ok_o1 ok_o2 (hs := hn_X12_begins_0) (by decide +kernel) (by decide +kernel)
def hn_X12_begins_1 : List (List (Nat × Nat)) := [
  []]
set_option maxRecDepth 100000 in
theorem ok_X12_begins_1 : ∀ q ∈ op_X12_begins_1, cv_ok cv_T vwCl mt_all mt_X12_begins q := cv_zip_ok ok_mm (by decide) okj_all ok_o1 ok_o2 (hs := hn_X12_begins_1) (by decide +kernel) (by decide +kernel)
theorem ok_X12_begins : ∀ q ∈ op_X12_begins, cv_ok cv_T vwCl mt_all mt_X12_begins q := List.forall_mem_append.mpr ⟨ok_X12_begins_0, ok_X12_begins_1⟩
def hn_X12_loads : List (List (Nat × Nat)) := [
  [], [(6, 222)], [], [], [(6, 221)], [], [], [], [(6, 174)], []]
set_option maxRecDepth 100000 in
theorem ok_X12_loads : ∀ q ∈ op_X12_loads, cv_ok cv_T vwCl mt_all mt_X12_loads q := cv_zip_ok ok_mm (by decide) okj_all ok_o1 ok_o2 (hs := hn_X12_loads) (by decide +kernel) (by decide +kernel)
def hn_X12_spanOf : List (List (Nat × Nat)) := [
  [], [(6, 203)], [], [], [], [], [], [], [], [(6, 203)], [], [],
  [], [], [], [], [], []]
set_option maxRecDepth 100000 in
theorem ok_X12_spanOf : ∀ q ∈ op_X12_spanOf, cv_ok cv_T vwCl mt_all mt_X12_spanOf q := cv_zip_ok ok_mm (by decide) okj_all ok_o1 ok_o2 (hs := hn_X12_spanOf) (by decide +kernel) (by decide +kernel)
def hn_X12_pullOf : List (List (Nat × Nat)) := [
  [], [(6, 203)], [], [], [], [], [], [(6, 203)], [], [], [], [],
  [], [], [], [], [(6, 222)], [], [], [], [], [], [], [],
  [], [(8, 80)], [], [], [], [], [], [], [(6, 222)], [], [], [],
  [], [], [], []]
set_option maxRecDepth 100000 in
theorem ok_X12_pullOf : ∀ q ∈ op_X12_pullOf, cv_ok cv_T vwCl mt_all mt_X12_pullOf q := cv_zip_ok ok_mm (by decide) okj_all ok_o1 ok_o2 (hs := hn_X12_pullOf) (by decide +kernel) (by decide +kernel)
def hn_X12_partOf : List (List (Nat × Nat)) := [
  [], [(6, 203)], [], [], [], [], [], [], [], [], [], [(6, 222)],
  [], [], [], [], [], [], [(6, 203)], [], [], [], [], [],
  [], [], [], [], [], [], [], [], [(6, 222)], [], [], [],
  [], [], [(6, 222)], [], [], [], [], [], [], [], [(8, 80)], [],
  [], [], []]
set_option maxRecDepth 100000 in
theorem ok_X12_partOf : ∀ q ∈ op_X12_partOf, cv_ok cv_T vwCl mt_all mt_X12_partOf q := cv_zip_ok ok_mm (by decide) okj_all ok_o1 ok_o2 (hs := hn_X12_partOf) (by decide +kernel) (by decide +kernel)
def hn_X12_dropOf : List (List (Nat × Nat)) := [
  [], [], [], [(8, 120)], [], [], [], [(8, 120)], [], [], [], [],
  [(8, 120)], [], [], [(6, 222)], [], [], [], []]
set_option maxRecDepth 100000 in
theorem ok_X12_dropOf : ∀ q ∈ op_X12_dropOf, cv_ok cv_T vwCl mt_all mt_X12_dropOf q := cv_zip_ok ok_mm (by decide) okj_all ok_o1 ok_o2 (hs := hn_X12_dropOf) (by decide +kernel) (by decide +kernel)
def hn_X12_firmOf : List (List (Nat × Nat)) := [
  [], [(6, 198)], [], [], [], [], [], [], [], [], []]
set_option maxRecDepth 100000 in
theorem ok_X12_firmOf : ∀ q ∈ op_X12_firmOf, cv_ok cv_T vwCl mt_all mt_X12_firmOf q := cv_zip_ok ok_mm (by decide) okj_all ok_o1 ok_o2 (hs := hn_X12_firmOf) (by decide +kernel) (by decide +kernel)
def hn_X12_bounded : List (List (Nat × Nat)) := [
  [], [], [(6, 225)], [], [], [(8, 136)], [], [], [], [(8, 137)], [], [],
  [], [], [], [(6, 225)], [], [(6, 225)], [], [], [], [], []]
set_option maxRecDepth 100000 in
theorem ok_X12_bounded : ∀ q ∈ op_X12_bounded, cv_ok cv_T vwCl mt_all mt_X12_bounded q := cv_zip_ok ok_mm (by decide) okj_all ok_o1 ok_o2 (hs := hn_X12_bounded) (by decide +kernel) (by decide +kernel)
def hn_X12_compares : List (List (Nat × Nat)) := [
  [], [], [], [], [], [], [], [], [], [], [], [],
  [], [], [], [], [], [], [], [], [], [], [], [],
  [], [], [], [], [], [], [], [], [], [], [], [],
  [], [], [], [], [], [], [], [], [], [], [], [],
  [], []]
set_option maxRecDepth 100000 in
theorem ok_X12_compares : ∀ q ∈ op_X12_compares, cv_ok cv_T vwCl mt_all mt_X12_compares q := cv_zip_ok ok_mm (by decide) okj_all ok_o1 ok_o2 (hs := hn_X12_compares) (by decide +kernel) (by decide +kernel)
def hn_X12_times : List (List (Nat × Nat)) := [
  [], [], [], [], [], [], [], [], [], [], [], [],
  [], [], [], [], [(8, 136)], [], [], [], [], [], [], [],
  [], [], [], [], [], [], [], [], [], [], [(6, 225)], [],
  [], [], [], [], [], [(6, 225)], [], [(6, 225)], [], [], [], [],
  [], [], []]
set_option maxRecDepth 100000 in
theorem ok_X12_times : ∀ q ∈ op_X12_times, cv_ok cv_T vwCl mt_all mt_X12_times q := cv_zip_ok ok_mm (by decide) okj_all ok_o1 ok_o2 (hs := hn_X12_times) (by decide +kernel) (by decide +kernel)
def hn_X12_valueOf_0 : List (List (Nat × Nat)) := [
  [], [(6, 209)], [], [], [], [], [(6, 210)], [], [], [], [], [],
  [(6, 209)], [], [], [], [], [], [(6, 223)], [], [(6, 210)], [], [], [],
  [], [], [(6, 224)], [], [(6, 210)], [], [], [], [], [], [(6, 209)], [],
  [], [], [], [], [], [], [], [], [], [], [], [],
  [(6, 224)], [], [(6, 211)], [], [], [], [], [], [(6, 209)], [], [], []]
set_option maxRecDepth 100000 in
theorem ok_X12_valueOf_0 : ∀ q ∈ op_X12_valueOf_0, cv_ok cv_T vwCl mt_all mt_X12_valueOf q := cv_zip_ok ok_mm (by decide) okj_all ok_o1 ok_o2 (hs := hn_X12_valueOf_0) (by decide +kernel) (by decide +kernel)
def hn_X12_valueOf_1 : List (List (Nat × Nat)) := [
  [], [], [], [], [], [], [], [], [], [], [], [],
  [], [], [], [], [], [], [], [], [], [], [], [],
  [], [], [], [], [(8, 132)], [], [], [], [], [], [(8, 132)], [],
  [], [], [], [(8, 138)], [], [], [], [(6, 225)], [], [], [], [],
  [], [], [], [], [(6, 225)], [], [(6, 225)], [], [], [], [], []]
set_option maxRecDepth 100000 in
theorem ok_X12_valueOf_1 : ∀ q ∈ op_X12_valueOf_1, cv_ok cv_T vwCl mt_all mt_X12_valueOf q := cv_zip_ok ok_mm (by decide) okj_all ok_o1 ok_o2 (hs := hn_X12_valueOf_1) (by decide +kernel) (by decide +kernel)
def hn_X12_valueOf_2 : List (List (Nat × Nat)) := [
  [], [], [], [(6, 209)], [], [], [], [], [(8, 142)], [], [], [],
  [], []]
set_option maxRecDepth 100000 in
theorem ok_X12_valueOf_2 : ∀ q ∈ op_X12_valueOf_2, cv_ok cv_T vwCl mt_all mt_X12_valueOf q := cv_zip_ok ok_mm (by decide) okj_all ok_o1 ok_o2 (hs := hn_X12_valueOf_2) (by decide +kernel) (by decide +kernel)
theorem ok_X12_valueOf : ∀ q ∈ op_X12_valueOf, cv_ok cv_T vwCl mt_all mt_X12_valueOf q := List.forall_mem_append.mpr ⟨ok_X12_valueOf_0, List.forall_mem_append.mpr ⟨ok_X12_valueOf_1, ok_X12_valueOf_2⟩⟩
def hn_X12_layNames_0 : List (List (Nat × Nat)) := [
  [], [(6, 223)], [], [], [], [(8, 84)], [], [], [], [(6, 223)], [], [],
  [], [(8, 96)], [], [(6, 222)], [], [], [], [], [], [], [(6, 223)], [],
  [], [(6, 222)], [], [], [], [], [], [(6, 223)], [], [], [(6, 203)], [],
  [], [], [], [], [], [], [], [], [(6, 223)], [], [], [(6, 222)],
  [], [], [], [], [], [], [], [], [], [(6, 223)], [], []]
set_option maxRecDepth 100000 in
theorem ok_X12_layNames_0 : ∀ q ∈ op_X12_layNames_0, cv_ok cv_T vwCl mt_all mt_X12_layNames q := cv_zip_ok ok_mm (by decide) okj_all ok_o1 ok_o2 (hs := hn_X12_layNames_0) (by decide +kernel) (by decide +kernel)
def hn_X12_layNames_1 : List (List (Nat × Nat)) := [
  [(6, 222)], [], [], [], [], [], [], [], [], [], [(6, 223)], [],
  [], [], [(8, 116)], [], [], [], [(6, 223)], [], [], [], [], [],
  [(6, 223)], [], [], [(6, 222)], [], [], [], [], [], [(6, 223)], [], [],
  [], [], []]
set_option maxRecDepth 100000 in
theorem ok_X12_layNames_1 : ∀ q ∈ op_X12_layNames_1, cv_ok cv_T vwCl mt_all mt_X12_layNames q := cv_zip_ok ok_mm (by decide) okj_all ok_o1 ok_o2 (hs := hn_X12_layNames_1) (by decide +kernel) (by decide +kernel)
theorem ok_X12_layNames : ∀ q ∈ op_X12_layNames, cv_ok cv_T vwCl mt_all mt_X12_layNames q := List.forall_mem_append.mpr ⟨ok_X12_layNames_0, ok_X12_layNames_1⟩
def hn_X12_lawOf : List (List (Nat × Nat)) := [
  [], [], [(6, 201)], [], [], [], [], [], [], [(6, 225)], [], [(6, 225)],
  [], [], [], [], [(6, 199)], [], [], [], [], [], [(6, 200)], [],
  [], [], [], [(6, 224)], [], [], [], [(8, 128)], [], [], [], [],
  [(6, 225)], [], [], [], [], [(6, 224)], [], [(6, 200)], [], [], [], [],
  [], []]
set_option maxRecDepth 100000 in
theorem ok_X12_lawOf : ∀ q ∈ op_X12_lawOf, cv_ok cv_T vwCl mt_all mt_X12_lawOf q := cv_zip_ok ok_mm (by decide) okj_all ok_o1 ok_o2 (hs := hn_X12_lawOf) (by decide +kernel) (by decide +kernel)
def hn_X12_goes_0 : List (List (Nat × Nat)) := [
  [], [], [], [], [(8, 112)], [], [], [], [], [], [], [],
  [(8, 124)], [], [], [(6, 226)], [], [], [], [], [], [], [], [],
  [(8, 145)], [], [], [(8, 145)], [], [], [], [], [], [], [], [],
  [], [(6, 191)], [], [], [(6, 222)], [], [], [], [(8, 22)], [], [], [(6, 226)],
  [], [(6, 208)], [], [], [], [], [], [], [], [], [], [(6, 208)]]
set_option maxRecDepth 100000 in
theorem ok_X12_goes_0 : ∀ q ∈ op_X12_goes_0, cv_ok cv_T vwCl mt_all mt_X12_goes q := cv_zip_ok ok_mm (by decide) okj_all ok_o1 ok_o2 (hs := hn_X12_goes_0) (by decide +kernel) (by decide +kernel)
def hn_X12_goes_1 : List (List (Nat × Nat)) := [
  [], [], [], [], [], [], [], [], [], [], [], [],
  [], [], [], [], [], [(6, 222)], [], [], [], [], [(6, 226)], [],
  [], [], [], [], [(6, 222)], [], [], [(8, 146)], [], [], [(8, 146)], [],
  [], [], [], [], [], []]
set_option maxRecDepth 100000 in
theorem ok_X12_goes_1 : ∀ q ∈ op_X12_goes_1, cv_ok cv_T vwCl mt_all mt_X12_goes q := cv_zip_ok ok_mm (by decide) okj_all ok_o1 ok_o2 (hs := hn_X12_goes_1) (by decide +kernel) (by decide +kernel)
theorem ok_X12_goes : ∀ q ∈ op_X12_goes, cv_ok cv_T vwCl mt_all mt_X12_goes q := List.forall_mem_append.mpr ⟨ok_X12_goes_0, ok_X12_goes_1⟩
def hn_X12_goesOn : List (List (Nat × Nat)) := [
  [], [], [], [], [], [], [], [], [(6, 220)], [], [], [(8, 108)],
  [], [], []]
set_option maxRecDepth 100000 in
theorem ok_X12_goesOn : ∀ q ∈ op_X12_goesOn, cv_ok cv_T vwCl mt_all mt_X12_goesOn q := cv_zip_ok ok_mm (by decide) okj_all ok_o1 ok_o2 (hs := hn_X12_goesOn) (by decide +kernel) (by decide +kernel)
def hn_X12_isGate : List (List (Nat × Nat)) := [
  [], [], [], [], [(6, 189)], [], [], [], [], []]
set_option maxRecDepth 100000 in
theorem ok_X12_isGate : ∀ q ∈ op_X12_isGate, cv_ok cv_T vwCl mt_all mt_X12_isGate q := cv_zip_ok ok_mm (by decide) okj_all ok_o1 ok_o2 (hs := hn_X12_isGate) (by decide +kernel) (by decide +kernel)
def hn_X12_fails : List (List (Nat × Nat)) := [
  [], [], [(6, 179)], [], []]
set_option maxRecDepth 100000 in
theorem ok_X12_fails : ∀ q ∈ op_X12_fails, cv_ok cv_T vwCl mt_all mt_X12_fails q := cv_zip_ok ok_mm (by decide) okj_all ok_o1 ok_o2 (hs := hn_X12_fails) (by decide +kernel) (by decide +kernel)
def hn_X12_look_0 : List (List (Nat × Nat)) := [
  [], [], [(6, 179)], [], [], [(8, 68)], [], [], [], [(8, 72)], [], [],
  [], [(8, 76)], [], [], [], [(6, 203)], [], [], [], [], [], [],
  [(6, 203)], [], [], [], [], [], [], [], [], [(6, 203)], [], [],
  [], [], [], [], [], [], [], [(8, 80)], [], [], [], [(8, 84)],
  [], [], [(6, 222)], [], [], [], [], [(6, 203)], [], [], [], []]
set_option maxRecDepth 100000 in
theorem ok_X12_look_0 : ∀ q ∈ op_X12_look_0, cv_ok cv_T vwCl mt_all mt_X12_look q := cv_zip_ok ok_mm (by decide) okj_all ok_o1 ok_o2 (hs := hn_X12_look_0) (by decide +kernel) (by decide +kernel)
def hn_X12_look_1 : List (List (Nat × Nat)) := [
  [], [], [], [], [(6, 222)], [], [], [], [], [(6, 222)], [], [],
  [], [], [(6, 222)], [], [], [], [], [(6, 222)], [], [], [], [],
  [], [(8, 72)], []]
set_option maxRecDepth 100000 in
theorem ok_X12_look_1 : ∀ q ∈ op_X12_look_1, cv_ok cv_T vwCl mt_all mt_X12_look q := cv_zip_ok ok_mm (by decide) okj_all ok_o1 ok_o2 (hs := hn_X12_look_1) (by decide +kernel) (by decide +kernel)
theorem ok_X12_look : ∀ q ∈ op_X12_look, cv_ok cv_T vwCl mt_all mt_X12_look q := List.forall_mem_append.mpr ⟨ok_X12_look_0, ok_X12_look_1⟩
end
section
/-! ===== the rows of the methods ===== -/
def hn_X12_works : List (List (Nat × Nat)) := [
  [], [], [(6, 179)], [], [], [], [], [(6, 190)], [], [], [], [],
  [(7, 197)], [], [], [], [], [(6, 206)], [], [], [], [], [], [],
  []]
set_option maxRecDepth 100000 in
theorem ok_X12_works : ∀ q ∈ op_X12_works, cv_ok cv_T vwCl mt_all mt_X12_works q := cv_zip_ok ok_mm (by decide) okj_all ok_o1 ok_o2 (hs := hn_X12_works) (by decide +kernel) (by decide +kernel)
def hn_X12_firm : List (List (Nat × Nat)) := [
  [], [], [(6, 179)], [], [], [], [(7, 197)], [], [], [], [(8, 96)], [],
  [], []]
set_option maxRecDepth 100000 in
theorem ok_X12_firm : ∀ q ∈ op_X12_firm, cv_ok cv_T vwCl mt_all mt_X12_firm q := cv_zip_ok ok_mm (by decide) okj_all ok_o1 ok_o2 (hs := hn_X12_firm) (by decide +kernel) (by decide +kernel)
def hn_X12_weeks : List (List (Nat × Nat)) := [
  [], [], [(6, 179)], [], [], [], [(7, 197)], [], [], [(6, 220)], [], [],
  [], [], [], [], [], [], [], [], [(6, 189)], [], [], [],
  [(8, 76)], [], [], [], [(8, 104)], [], [(6, 221)], [], [], [], [], [(6, 222)],
  [], [(6, 174)], [], [], [], [], [(6, 220)], [], [], [(6, 220)], [], [(6, 220)],
  []]
set_option maxRecDepth 100000 in
theorem ok_X12_weeks : ∀ q ∈ op_X12_weeks, cv_ok cv_T vwCl mt_all mt_X12_weeks q := cv_zip_ok ok_mm (by decide) okj_all ok_o1 ok_o2 (hs := hn_X12_weeks) (by decide +kernel) (by decide +kernel)
def hn_X12_sags : List (List (Nat × Nat)) := [
  [], [], [(6, 179)], [], [], [(8, 68)], [], [], [], [], [(7, 197)], [],
  [(8, 151)], [], [], [], [(8, 76)], [], [], [], [], [(8, 116)], [], [],
  [], [], [], [(6, 222)], [], [], [], [], [], [], [], [],
  [], [], [(8, 120)], []]
set_option maxRecDepth 100000 in
theorem ok_X12_sags : ∀ q ∈ op_X12_sags, cv_ok cv_T vwCl mt_all mt_X12_sags q := cv_zip_ok ok_mm (by decide) okj_all ok_o1 ok_o2 (hs := hn_X12_sags) (by decide +kernel) (by decide +kernel)
def hn_X12_isLatched : List (List (Nat × Nat)) := [
  [], [], [(8, 116)], [], [], [], [(6, 203)], [], [], [], [], [],
  [], [], [], [], [], [(6, 203)], [], [], [], [], [], [],
  [], [], [], [], []]
set_option maxRecDepth 100000 in
theorem ok_X12_isLatched : ∀ q ∈ op_X12_isLatched, cv_ok cv_T vwCl mt_all mt_X12_isLatched q := cv_zip_ok ok_mm (by decide) okj_all ok_o1 ok_o2 (hs := hn_X12_isLatched) (by decide +kernel) (by decide +kernel)
def hn_X12_latched : List (List (Nat × Nat)) := [
  [], [], [(6, 179)], [], [], [(8, 68)], [], [], [], [], [], [(8, 76)],
  [], [], [(8, 156)], [], [], [], [], []]
set_option maxRecDepth 100000 in
theorem ok_X12_latched : ∀ q ∈ op_X12_latched, cv_ok cv_T vwCl mt_all mt_X12_latched q := cv_zip_ok ok_mm (by decide) okj_all ok_o1 ok_o2 (hs := hn_X12_latched) (by decide +kernel) (by decide +kernel)
def hn_X12_gives : List (List (Nat × Nat)) := [
  [], [], [(6, 179)], [], [], [(8, 68)], [], [], [], [], [], [(8, 76)],
  [], [], [], [], [], [], [], [], [], [], [(8, 120)], [],
  [], [], [(8, 120)], [], [], [], [], [], [], [], [], []]
set_option maxRecDepth 100000 in
theorem ok_X12_gives : ∀ q ∈ op_X12_gives, cv_ok cv_T vwCl mt_all mt_X12_gives q := cv_zip_ok ok_mm (by decide) okj_all ok_o1 ok_o2 (hs := hn_X12_gives) (by decide +kernel) (by decide +kernel)
def hn_X12_does_0 : List (List (Nat × Nat)) := [
  [], [(6, 206)], [], [], [], [], [], [], [], [], [(6, 206)], [],
  [], [], [], [], [], [], [], [(6, 222)], [], [], [], [],
  [], [(6, 222)], [], [], [], [], [], [(6, 222)], [], [], [], [],
  [], [], [], [], [(6, 222)], [], [], [], [], [], [(6, 222)], [],
  [], [], [], [], [], [], [], [(6, 222)], [], [], [], []]
set_option maxRecDepth 100000 in
theorem ok_X12_does_0 : ∀ q ∈ op_X12_does_0, cv_ok cv_T vwCl mt_all mt_X12_does q := cv_zip_ok ok_mm (by decide) okj_all ok_o1 ok_o2 (hs := hn_X12_does_0) (by decide +kernel) (by decide +kernel)
def hn_X12_does_1 : List (List (Nat × Nat)) := [
  [(6, 222)], [], [], [], [], [], [], [], [], [(6, 222)], [], [],
  [], [], [(6, 222)], [], [], [], [], [], [], [], [(6, 222)], [],
  [], [], [], [], [], [], [], []]
set_option maxRecDepth 100000 in
theorem ok_X12_does_1 : ∀ q ∈ op_X12_does_1, cv_ok cv_T vwCl mt_all mt_X12_does q := cv_zip_ok ok_mm (by decide) okj_all ok_o1 ok_o2 (hs := hn_X12_does_1) (by decide +kernel) (by decide +kernel)
theorem ok_X12_does : ∀ q ∈ op_X12_does, cv_ok cv_T vwCl mt_all mt_X12_does q := List.forall_mem_append.mpr ⟨ok_X12_does_0, ok_X12_does_1⟩
def hn_X12_work_0 : List (List (Nat × Nat)) := [
  [], [], [(6, 179)], [], [], [(8, 68)], [], [], [], [], [], [(6, 190)],
  [], [], [(6, 221)], [], [], [], [], [], [], [], [(8, 22)], [],
  [], [], [], [(6, 227)], [], [], [], [], [], [], [], [],
  [(6, 228)], [], [], [(6, 228)], [], [], [], [], [], [], [], [],
  [], [(6, 227)], [], [], [(6, 227)], [], [(6, 228)], [], [], [(6, 227)], [], []]
set_option maxRecDepth 100000 in
theorem ok_X12_work_0 : ∀ q ∈ op_X12_work_0, cv_ok cv_T vwCl mt_all mt_X12_work q := cv_zip_ok ok_mm (by decide) okj_all ok_o1 ok_o2 (hs := hn_X12_work_0) (by decide +kernel) (by decide +kernel)
def hn_X12_work_1 : List (List (Nat × Nat)) := [
  [], [], [(6, 228)], [], [], [(6, 227)], [], [], [], [], [(6, 221)], [],
  [], [], [(6, 174)], [], [], [(6, 227)], [], [], [(6, 227)], [], [], [(8, 76)],
  [], [], [(8, 168)], [], [(6, 221)], [], [], [], [], [(6, 222)], [], [(6, 174)],
  [], []]
set_option maxRecDepth 100000 in
theorem ok_X12_work_1 : ∀ q ∈ op_X12_work_1, cv_ok cv_T vwCl mt_all mt_X12_work q := cv_zip_ok ok_mm (by decide) okj_all ok_o1 ok_o2 (hs := hn_X12_work_1) (by decide +kernel) (by decide +kernel)
theorem ok_X12_work : ∀ q ∈ op_X12_work, cv_ok cv_T vwCl mt_all mt_X12_work q := List.forall_mem_append.mpr ⟨ok_X12_work_0, ok_X12_work_1⟩
def hn_X12_undo : List (List (Nat × Nat)) := [
  [], [], [(6, 179)], [], [(6, 227)], [], [], [], [], [], [(6, 227)], [],
  [], [(6, 227)], [], [(6, 221)], [], [], [(6, 228)], [], [], [(6, 227)], [], [],
  [], [], [(6, 228)], [], [], [(6, 227)], [], [], [], [(6, 174)], [], [(6, 227)],
  []]
set_option maxRecDepth 100000 in
theorem ok_X12_undo : ∀ q ∈ op_X12_undo, cv_ok cv_T vwCl mt_all mt_X12_undo q := cv_zip_ok ok_mm (by decide) okj_all ok_o1 ok_o2 (hs := hn_X12_undo) (by decide +kernel) (by decide +kernel)
def hn_X12_isBound : List (List (Nat × Nat)) := [
  [], [(8, 183)], [(8, 184)], [(7, 197)], []]
set_option maxRecDepth 100000 in
theorem ok_X12_isBound : ∀ q ∈ op_X12_isBound, cv_ok cv_T vwCl mt_all mt_X12_isBound q := cv_zip_ok ok_mm (by decide) okj_all ok_o1 ok_o2 (hs := hn_X12_isBound) (by decide +kernel) (by decide +kernel)
def hn_X12_lasts : List (List (Nat × Nat)) := [
  [], [], [(6, 179)], [], [], [(8, 68)], [], [], [(8, 180)], [], [], [],
  [], [], [(8, 76)], [], [], [], [], [], [], [], [], [],
  [], [], [], [(6, 220)], [], [], [(8, 108)], [], [], [], [(8, 116)], [],
  [], [], [], [], [], [], [], [], [], [], [], []]
set_option maxRecDepth 100000 in
theorem ok_X12_lasts : ∀ q ∈ op_X12_lasts, cv_ok cv_T vwCl mt_all mt_X12_lasts q := cv_zip_ok ok_mm (by decide) okj_all ok_o1 ok_o2 (hs := hn_X12_lasts) (by decide +kernel) (by decide +kernel)
def hn_X12_costOf : List (List (Nat × Nat)) := [
  [], [], [], [], [], [], [(6, 190)], [], [], [], [], [(8, 22)],
  [], [], [(6, 206)], [], [], [], [], [], [], [], [], [],
  [], [], []]
set_option maxRecDepth 100000 in
theorem ok_X12_costOf : ∀ q ∈ op_X12_costOf, cv_ok cv_T vwCl mt_all mt_X12_costOf q := cv_zip_ok ok_mm (by decide) okj_all ok_o1 ok_o2 (hs := hn_X12_costOf) (by decide +kernel) (by decide +kernel)
def hn_X12_least_0 : List (List (Nat × Nat)) := [
  [], [], [(6, 179)], [], [], [(8, 68)], [], [], [], [], [(7, 197)], [],
  [], [(8, 180)], [], [], [], [], [(7, 197)], [], [], [], [], [],
  [], [], [], [], [], [(6, 190)], [], [], [], [], [(6, 221)], [],
  [], [], [], [], [], [], [], [], [], [], [], [(8, 189)],
  [], [], [(8, 189)], [], [], [], [], [(8, 76)], [], [], [], []]
set_option maxRecDepth 100000 in
theorem ok_X12_least_0 : ∀ q ∈ op_X12_least_0, cv_ok cv_T vwCl mt_all mt_X12_least q := cv_zip_ok ok_mm (by decide) okj_all ok_o1 ok_o2 (hs := hn_X12_least_0) (by decide +kernel) (by decide +kernel)
def hn_X12_least_1 : List (List (Nat × Nat)) := [
  [(6, 190)], [], [], [], [(8, 22)], [], [], [], [(8, 168)], [], [], [],
  [], [], [(8, 104)], [], [], [(8, 116)], [], [], [], [], [], [],
  [], [], [], [], [], [], [], [], [(8, 189)], [], [], []]
set_option maxRecDepth 100000 in
theorem ok_X12_least_1 : ∀ q ∈ op_X12_least_1, cv_ok cv_T vwCl mt_all mt_X12_least q := cv_zip_ok ok_mm (by decide) okj_all ok_o1 ok_o2 (hs := hn_X12_least_1) (by decide +kernel) (by decide +kernel)
theorem ok_X12_least : ∀ q ∈ op_X12_least, cv_ok cv_T vwCl mt_all mt_X12_least q := List.forall_mem_append.mpr ⟨ok_X12_least_0, ok_X12_least_1⟩
def hn_X12_dropBy : List (List (Nat × Nat)) := [
  [], [], [(8, 76)], [], [(6, 222)], [], [], [], [], [], [], [(8, 104)],
  [], [], [(8, 116)], []]
set_option maxRecDepth 100000 in
theorem ok_X12_dropBy : ∀ q ∈ op_X12_dropBy, cv_ok cv_T vwCl mt_all mt_X12_dropBy q := cv_zip_ok ok_mm (by decide) okj_all ok_o1 ok_o2 (hs := hn_X12_dropBy) (by decide +kernel) (by decide +kernel)
def hn_X12_way : List (List (Nat × Nat)) := [
  [], [], [(6, 179)], [], [], [(8, 68)], [], [], [], [], [(7, 197)], [],
  [(8, 151)], [], [], [], [], [], [(8, 197)], [], [], [], [], [],
  [], [(8, 197)], [], []]
set_option maxRecDepth 100000 in
theorem ok_X12_way : ∀ q ∈ op_X12_way, cv_ok cv_T vwCl mt_all mt_X12_way q := cv_zip_ok ok_mm (by decide) okj_all ok_o1 ok_o2 (hs := hn_X12_way) (by decide +kernel) (by decide +kernel)
def hn_X12_enough : List (List (Nat × Nat)) := [
  [], [], [(6, 179)], [], [], [(8, 68)], [], [], [], [], [(7, 197)], [],
  [], [(8, 180)], [], [], [], [], [], [], [], [], [], [],
  [(8, 76)], [], [(6, 222)], [], [], [], [], [], [], [(8, 104)], [], [(6, 222)],
  [], [], [], [], [], [], [], [], [], []]
set_option maxRecDepth 100000 in
theorem ok_X12_enough : ∀ q ∈ op_X12_enough, cv_ok cv_T vwCl mt_all mt_X12_enough q := cv_zip_ok ok_mm (by decide) okj_all ok_o1 ok_o2 (hs := hn_X12_enough) (by decide +kernel) (by decide +kernel)
def hn_X12_bears : List (List (Nat × Nat)) := [
  [], [], [(6, 179)], [], [], [(8, 68)], [], [], [], [], [(7, 197)], [],
  [], [(8, 180)], [], [], [], [], [], [], [], [], [], [(8, 76)],
  [], [(6, 222)], [], [], [], [], [], [], [(8, 104)], [], [], [(8, 116)],
  [], [], [], [], [], [], [], []]
set_option maxRecDepth 100000 in
theorem ok_X12_bears : ∀ q ∈ op_X12_bears, cv_ok cv_T vwCl mt_all mt_X12_bears q := cv_zip_ok ok_mm (by decide) okj_all ok_o1 ok_o2 (hs := hn_X12_bears) (by decide +kernel) (by decide +kernel)
def hn_X12_knock : List (List (Nat × Nat)) := [
  [], [], [(6, 179)], [], [], [(8, 68)], [], [], [], [], [(7, 197)], [],
  [(8, 213)], [], [], [], [(8, 76)], [], [], [], [(6, 220)], [], [(8, 112)], [],
  [], [(8, 124)], [], [], [(6, 225)], [], [(8, 213)], [], [], []]
set_option maxRecDepth 100000 in
theorem ok_X12_knock : ∀ q ∈ op_X12_knock, cv_ok cv_T vwCl mt_all mt_X12_knock q := cv_zip_ok ok_mm (by decide) okj_all ok_o1 ok_o2 (hs := hn_X12_knock) (by decide +kernel) (by decide +kernel)
def hn_X12_measure_0 : List (List (Nat × Nat)) := [
  [], [], [(6, 179)], [], [(6, 229)], [], [], [], [], [(8, 68)], [], [],
  [], [], [(7, 197)], [], [], [], [], [(7, 197)], [], [], [(8, 218)], [(8, 219)],
  [(7, 197)], [], [], [], [(8, 219)], [(7, 197)], [], [], [], [], [(6, 231)], [],
  [(6, 229)], [], [], [], [(6, 232)], [], [(6, 229)], [], [], [], [(6, 233)], [],
  [(6, 229)], [], [], [], [(6, 234)], [], [(6, 229)], [], [], [], [(6, 235)], []]
set_option maxRecDepth 100000 in
theorem ok_X12_measure_0 : ∀ q ∈ op_X12_measure_0, cv_ok cv_T vwCl mt_all mt_X12_measure q := cv_zip_ok ok_mm (by decide) okj_all ok_o1 ok_o2 (hs := hn_X12_measure_0) (by decide +kernel) (by decide +kernel)
def hn_X12_measure_1 : List (List (Nat × Nat)) := [
  [(6, 229)], [], [], [], [], [(6, 229)], [], [], [(6, 229)], [], [(6, 229)], [],
  [], []]
set_option maxRecDepth 100000 in
theorem ok_X12_measure_1 : ∀ q ∈ op_X12_measure_1, cv_ok cv_T vwCl mt_all mt_X12_measure q := cv_zip_ok ok_mm (by decide) okj_all ok_o1 ok_o2 (hs := hn_X12_measure_1) (by decide +kernel) (by decide +kernel)
theorem ok_X12_measure : ∀ q ∈ op_X12_measure, cv_ok cv_T vwCl mt_all mt_X12_measure q := List.forall_mem_append.mpr ⟨ok_X12_measure_0, ok_X12_measure_1⟩
def hn_X12_strike : List (List (Nat × Nat)) := [
  [], [], [(6, 179)], [], [(6, 229)], [], [], [], [], [], [], [(6, 229)],
  [], [], [], [], [(6, 231)], [], [(6, 229)], [], [], [], [(6, 232)], [],
  [(6, 229)], [], [], [], [], [(6, 229)], [], [], [(6, 229)], [], [(6, 229)], [],
  [], []]
set_option maxRecDepth 100000 in
theorem ok_X12_strike : ∀ q ∈ op_X12_strike, cv_ok cv_T vwCl mt_all mt_X12_strike q := cv_zip_ok ok_mm (by decide) okj_all ok_o1 ok_o2 (hs := hn_X12_strike) (by decide +kernel) (by decide +kernel)
def hn_X12_known : List (List (Nat × Nat)) := [
  [], [], [(6, 179)], [], [], [], [(6, 229)], [(7, 197)], [], [], [], [],
  [], [(6, 230)], [], []]
set_option maxRecDepth 100000 in
theorem ok_X12_known : ∀ q ∈ op_X12_known, cv_ok cv_T vwCl mt_all mt_X12_known q := cv_zip_ok ok_mm (by decide) okj_all ok_o1 ok_o2 (hs := hn_X12_known) (by decide +kernel) (by decide +kernel)
def hn_X12_knownMany : List (List (Nat × Nat)) := [
  [], [(6, 230)], [], [], [(6, 229)], [], [], [(6, 230)], []]
set_option maxRecDepth 100000 in
theorem ok_X12_knownMany : ∀ q ∈ op_X12_knownMany, cv_ok cv_T vwCl mt_all mt_X12_knownMany q := cv_zip_ok ok_mm (by decide) okj_all ok_o1 ok_o2 (hs := hn_X12_knownMany) (by decide +kernel) (by decide +kernel)
def hn_X12_layCounts : List (List (Nat × Nat)) := [
  [], [], [], [], [(9, 0)], [], [], [(6, 236)], [], [], [], [],
  [], [], [(9, 0)], [], [], [], [], [], [], [(6, 231)], [], [],
  [], [], [(6, 236)], [], [], [], [], [(6, 236)], [], [(6, 232)], [], [],
  [], [], [], [], []]
set_option maxRecDepth 100000 in
theorem ok_X12_layCounts : ∀ q ∈ op_X12_layCounts, cv_ok cv_T vwCl mt_all mt_X12_layCounts q := cv_zip_ok ok_mm (by decide) okj_all ok_o1 ok_o2 (hs := hn_X12_layCounts) (by decide +kernel) (by decide +kernel)
def hn_X12_beginsBy : List (List (Nat × Nat)) := [
  [], [], [(6, 170)], [], [(6, 222)], [], [], [], [(6, 191)], [], [], [],
  [], [], [], [], []]
set_option maxRecDepth 100000 in
theorem ok_X12_beginsBy : ∀ q ∈ op_X12_beginsBy, cv_ok cv_T vwCl mt_all mt_X12_beginsBy q := cv_zip_ok ok_mm (by decide) okj_all ok_o1 ok_o2 (hs := hn_X12_beginsBy) (by decide +kernel) (by decide +kernel)
def hn_X12_valueNow : List (List (Nat × Nat)) := [
  [], [], [], [], [(8, 116)], [], [], [(6, 222)], [], [], [], [],
  []]
set_option maxRecDepth 100000 in
theorem ok_X12_valueNow : ∀ q ∈ op_X12_valueNow, cv_ok cv_T vwCl mt_all mt_X12_valueNow q := cv_zip_ok ok_mm (by decide) okj_all ok_o1 ok_o2 (hs := hn_X12_valueNow) (by decide +kernel) (by decide +kernel)
def hn_X12_isSo : List (List (Nat × Nat)) := [
  [], [], [], [], [(9, 0)], [], [], [(6, 236)], [], [], [], [],
  [(6, 231)], [], [], [], [], [], [(6, 232)], [], [], [], [], [],
  [], [], [], [(6, 233)], [], [], [(9, 16)], [], [(6, 234)], [], [], [],
  [(6, 235)], [], [], [(7, 197)], [], [], [], [], [], [], []]
set_option maxRecDepth 100000 in
theorem ok_X12_isSo : ∀ q ∈ op_X12_isSo, cv_ok cv_T vwCl mt_all mt_X12_isSo q := cv_zip_ok ok_mm (by decide) okj_all ok_o1 ok_o2 (hs := hn_X12_isSo) (by decide +kernel) (by decide +kernel)
def hn_X12_isFit : List (List (Nat × Nat)) := [
  [], [], [], [], [], [], [(9, 0)], [], [], [(6, 236)], [], [],
  [], [], [(6, 231)], [], [], [], [], [], [(6, 232)], [], [], [],
  [], [], [(6, 232)], [], [], [], [], [], [], [], [], [],
  [], [(9, 8)], [], [], [], [], [], [], [], [], [], [],
  [], [], [(8, 108)], [], [], [], [(9, 12)], [], [], [], [], []]
set_option maxRecDepth 100000 in
theorem ok_X12_isFit : ∀ q ∈ op_X12_isFit, cv_ok cv_T vwCl mt_all mt_X12_isFit q := cv_zip_ok ok_mm (by decide) okj_all ok_o1 ok_o2 (hs := hn_X12_isFit) (by decide +kernel) (by decide +kernel)
def hn_X12_fitting : List (List (Nat × Nat)) := [
  [], [(8, 236)], [], [], [], [], [], [], [(6, 191)], [], [], [],
  [], [], [(9, 4)], [], [], [], [], [], [], [], [], [],
  [], [], []]
set_option maxRecDepth 100000 in
theorem ok_X12_fitting : ∀ q ∈ op_X12_fitting, cv_ok cv_T vwCl mt_all mt_X12_fitting q := cv_zip_ok ok_mm (by decide) okj_all ok_o1 ok_o2 (hs := hn_X12_fitting) (by decide +kernel) (by decide +kernel)
def hn_X12_fits : List (List (Nat × Nat)) := [
  [], [], [(6, 179)], [], [], [(8, 68)], [], [], [], [(8, 232)], [], [],
  []]
set_option maxRecDepth 100000 in
theorem ok_X12_fits : ∀ q ∈ op_X12_fits, cv_ok cv_T vwCl mt_all mt_X12_fits q := cv_zip_ok ok_mm (by decide) okj_all ok_o1 ok_o2 (hs := hn_X12_fits) (by decide +kernel) (by decide +kernel)
def hn_X12_weightOf : List (List (Nat × Nat)) := [
  [], [], [(6, 191)], [], [], [(6, 208)], [], [], [], [], [], [],
  []]
set_option maxRecDepth 100000 in
theorem ok_X12_weightOf : ∀ q ∈ op_X12_weightOf, cv_ok cv_T vwCl mt_all mt_X12_weightOf q := cv_zip_ok ok_mm (by decide) okj_all ok_o1 ok_o2 (hs := hn_X12_weightOf) (by decide +kernel) (by decide +kernel)
def hn_X12_common : List (List (Nat × Nat)) := [
  [], [], [], [], [], [], [], [], [], [], [], [],
  [], [], [], [], []]
set_option maxRecDepth 100000 in
theorem ok_X12_common : ∀ q ∈ op_X12_common, cv_ok cv_T vwCl mt_all mt_X12_common q := cv_zip_ok ok_mm (by decide) okj_all ok_o1 ok_o2 (hs := hn_X12_common) (by decide +kernel) (by decide +kernel)
def hn_X12_odds_0 : List (List (Nat × Nat)) := [
  [], [], [(6, 179)], [], [], [(8, 68)], [], [], [], [], [(6, 191)], [(7, 197)],
  [], [], [], [], [(7, 197)], [], [], [], [], [], [(8, 232)], [],
  [], [], [], [], [], [], [], [], [], [], [(6, 191)], [],
  [], [], [], [(8, 22)], [], [], [], [(9, 24)], [], [], [], [],
  [], [], [], [], [(8, 22)], [], [], [], [(9, 24)], [], [], []]
set_option maxRecDepth 100000 in
theorem ok_X12_odds_0 : ∀ q ∈ op_X12_odds_0, cv_ok cv_T vwCl mt_all mt_X12_odds q := cv_zip_ok ok_mm (by decide) okj_all ok_o1 ok_o2 (hs := hn_X12_odds_0) (by decide +kernel) (by decide +kernel)
def hn_X12_odds_1 : List (List (Nat × Nat)) := [
  [], [], [], [], [], [], [], [(9, 28)], [], []]
set_option maxRecDepth 100000 in
theorem ok_X12_odds_1 : ∀ q ∈ op_X12_odds_1, cv_ok cv_T vwCl mt_all mt_X12_odds q := cv_zip_ok ok_mm (by decide) okj_all ok_o1 ok_o2 (hs := hn_X12_odds_1) (by decide +kernel) (by decide +kernel)
theorem ok_X12_odds : ∀ q ∈ op_X12_odds, cv_ok cv_T vwCl mt_all mt_X12_odds q := List.forall_mem_append.mpr ⟨ok_X12_odds_0, ok_X12_odds_1⟩
def hn_X12_heaviest_0 : List (List (Nat × Nat)) := [
  [], [], [], [], [(6, 191)], [], [], [], [], [(9, 8)], [], [],
  [], [], [(6, 220)], [], [], [], [], [(8, 108)], [], [], [], [(6, 237)],
  [], [], [], [], [(9, 16)], [], [], [], [], [], [], [],
  [], [], [(6, 191)], [], [], [], [], [], [], [], [(6, 191)], [],
  [], [], [], [(8, 22)], [], [], [], [(8, 22)], [], [], [(6, 237)], []]
set_option maxRecDepth 100000 in
theorem ok_X12_heaviest_0 : ∀ q ∈ op_X12_heaviest_0, cv_ok cv_T vwCl mt_all mt_X12_heaviest q := cv_zip_ok ok_mm (by decide) okj_all ok_o1 ok_o2 (hs := hn_X12_heaviest_0) (by decide +kernel) (by decide +kernel)
def hn_X12_heaviest_1 : List (List (Nat × Nat)) := [
  [], [], [(6, 237)], [], [], [], [], [], [(9, 24)], [], [], [],
  [], [], [], [], [], [], [], [], [], [], [], [],
  [], []]
set_option maxRecDepth 100000 in
theorem ok_X12_heaviest_1 : ∀ q ∈ op_X12_heaviest_1, cv_ok cv_T vwCl mt_all mt_X12_heaviest q := cv_zip_ok ok_mm (by decide) okj_all ok_o1 ok_o2 (hs := hn_X12_heaviest_1) (by decide +kernel) (by decide +kernel)
theorem ok_X12_heaviest : ∀ q ∈ op_X12_heaviest, cv_ok cv_T vwCl mt_all mt_X12_heaviest q := List.forall_mem_append.mpr ⟨ok_X12_heaviest_0, ok_X12_heaviest_1⟩
def hn_X12_test_0 : List (List (Nat × Nat)) := [
  [], [], [(6, 179)], [], [], [(8, 68)], [], [], [], [], [(7, 197)], [],
  [], [], [], [], [(8, 232)], [], [], [], [], [], [], [],
  [(6, 191)], [], [], [], [], [(8, 22)], [], [], [], [], [], [],
  [], [], [], [], [], [], [], [], [], [], [], [],
  [], [], [], [], [], [], [], [], [(9, 35)], [], [], []]
set_option maxRecDepth 100000 in
theorem ok_X12_test_0 : ∀ q ∈ op_X12_test_0, cv_ok cv_T vwCl mt_all mt_X12_test q := cv_zip_ok ok_mm (by decide) okj_all ok_o1 ok_o2 (hs := hn_X12_test_0) (by decide +kernel) (by decide +kernel)
def hn_X12_test_1 : List (List (Nat × Nat)) := [
  [], [], [], [], [], [], [], [], [], [], [], [],
  [], [], [], []]
set_option maxRecDepth 100000 in
theorem ok_X12_test_1 : ∀ q ∈ op_X12_test_1, cv_ok cv_T vwCl mt_all mt_X12_test q := cv_zip_ok ok_mm (by decide) okj_all ok_o1 ok_o2 (hs := hn_X12_test_1) (by decide +kernel) (by decide +kernel)
theorem ok_X12_test : ∀ q ∈ op_X12_test, cv_ok cv_T vwCl mt_all mt_X12_test q := List.forall_mem_append.mpr ⟨ok_X12_test_0, ok_X12_test_1⟩
def hn_X12_lowOf : List (List (Nat × Nat)) := [
  [], [], [(6, 203)], [], [], [], [], [], [], [], [], [(6, 222)],
  [], [], [], [], [], [(8, 80)], [], [], [], [(6, 203)], [], [],
  [], [], [], [], [], [], [], [], [], [], [], [(6, 203)],
  [], [], [], [], [], [], [], [], [], [], [(6, 238)], [],
  [], [], [], [], [(6, 239)], [], [], [], [], []]
set_option maxRecDepth 100000 in
theorem ok_X12_lowOf : ∀ q ∈ op_X12_lowOf, cv_ok cv_T vwCl mt_all mt_X12_lowOf q := cv_zip_ok ok_mm (by decide) okj_all ok_o1 ok_o2 (hs := hn_X12_lowOf) (by decide +kernel) (by decide +kernel)
def hn_X12_isAngle : List (List (Nat × Nat)) := [
  [], [], [], [(7, 197)], []]
set_option maxRecDepth 100000 in
theorem ok_X12_isAngle : ∀ q ∈ op_X12_isAngle, cv_ok cv_T vwCl mt_all mt_X12_isAngle q := cv_zip_ok ok_mm (by decide) okj_all ok_o1 ok_o2 (hs := hn_X12_isAngle) (by decide +kernel) (by decide +kernel)
def hn_X12_low : List (List (Nat × Nat)) := [
  [], [], [(6, 179)], [], [], [(8, 68)], [], [], [], [(9, 43)], [], [(8, 151)],
  [], [], [], [(8, 76)], [], [], [], [(9, 47)], []]
set_option maxRecDepth 100000 in
theorem ok_X12_low : ∀ q ∈ op_X12_low, cv_ok cv_T vwCl mt_all mt_X12_low q := cv_zip_ok ok_mm (by decide) okj_all ok_o1 ok_o2 (hs := hn_X12_low) (by decide +kernel) (by decide +kernel)
def hn_X12_rest : List (List (Nat × Nat)) := [
  [], [], [(6, 179)], [], [], [(8, 68)], [], [], [], [], [], [(8, 76)],
  [], [], [], [], [], [], [], [], [], [], [(9, 47)], [],
  [], [], [(9, 47)], [], [], [], [], [], [], [], [], []]
set_option maxRecDepth 100000 in
theorem ok_X12_rest : ∀ q ∈ op_X12_rest, cv_ok cv_T vwCl mt_all mt_X12_rest q := cv_zip_ok ok_mm (by decide) okj_all ok_o1 ok_o2 (hs := hn_X12_rest) (by decide +kernel) (by decide +kernel)
end
