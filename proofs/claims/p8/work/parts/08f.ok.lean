/-! ===== the rows of the methods ===== -/
def hn_X12_causeLine_0 : List (List (Nat × Nat)) := [
  [], [(6, 195)], [], [], [], [], [(7, 181)], [], [], [(7, 153)], [], [],
  [(6, 207)], [], [], [(6, 195)], [(8, 11)], [], [], [], [], [(7, 193)], [], [],
  [], [], [], [], [(6, 195)], [], [], [], [], [(6, 208)], [], [],
  [(6, 188)], [], [], [(6, 185)], [], [], [], [(6, 186)], [], [], [(7, 197)], [],
  [], [], [(7, 181)], [], [], [(6, 208)], [], [], [], [], [(6, 186)], []]
set_option maxRecDepth 100000 in
theorem ok_X12_causeLine_0 : ∀ q ∈ op_X12_causeLine_0, cv_ok cv_T vwCl mt_all mt_X12_causeLine q := cv_zip_ok ok_mm (by decide) okj_all ok_o1 ok_o2 (hs := hn_X12_causeLine_0) (by decide +kernel) (by decide +kernel)
def hn_X12_causeLine_1 : List (List (Nat × Nat)) := [
  [], [], [], [(7, 153)], [], [], [], [(7, 193)], [], [], [], [],
  [(6, 208)], [], [], [], [], [(6, 188)], [], [], [], [(6, 195)], [], [],
  [(6, 195)], [], []]
set_option maxRecDepth 100000 in
theorem ok_X12_causeLine_1 : ∀ q ∈ op_X12_causeLine_1, cv_ok cv_T vwCl mt_all mt_X12_causeLine q := cv_zip_ok ok_mm (by decide) okj_all ok_o1 ok_o2 (hs := hn_X12_causeLine_1) (by decide +kernel) (by decide +kernel)
theorem ok_X12_causeLine : ∀ q ∈ op_X12_causeLine, cv_ok cv_T vwCl mt_all mt_X12_causeLine q := List.forall_mem_append.mpr ⟨ok_X12_causeLine_0, ok_X12_causeLine_1⟩
def hn_X12_lineRead : List (List (Nat × Nat)) := [
  [], [(6, 185)], [], [], [], [(6, 186)], [], [], [], [], [(7, 181)], [],
  [], [(6, 186)], [], [], [(7, 185)], [], [], [], [(7, 200)], [], [], [],
  [(8, 7)], [], [], [], [(8, 41)], [], [], [], [(8, 52)], [], [], [],
  [], [], [], [], [(7, 208)], [], [], [], [(7, 181)], [], [], [(7, 153)],
  [], []]
set_option maxRecDepth 100000 in
theorem ok_X12_lineRead : ∀ q ∈ op_X12_lineRead, cv_ok cv_T vwCl mt_all mt_X12_lineRead q := cv_zip_ok ok_mm (by decide) okj_all ok_o1 ok_o2 (hs := hn_X12_lineRead) (by decide +kernel) (by decide +kernel)
def hn_X12_text : List (List (Nat × Nat)) := [
  [], [], [(6, 179)], [], [], [], [], [(6, 178)], [], [], [], [],
  [], [(6, 183)], [], [], [(6, 178)], [], [], [(6, 181)], [], [], [(6, 182)], [],
  [], [(6, 184)], [], [(6, 159)], [], [(7, 153)], [], [], [], [(6, 185)], [], [],
  [(7, 177)], [], [], [], [], [], [], [(6, 163)], [], []]
set_option maxRecDepth 100000 in
theorem ok_X12_text : ∀ q ∈ op_X12_text, cv_ok cv_T vwCl mt_all mt_X12_text q := cv_zip_ok ok_mm (by decide) okj_all ok_o1 ok_o2 (hs := hn_X12_text) (by decide +kernel) (by decide +kernel)
def hn_X12_fault : List (List (Nat × Nat)) := [
  [], [], [(6, 179)], [], [], [], [(6, 181)], [], [], [], [], [],
  [(6, 182)], [], [], []]
set_option maxRecDepth 100000 in
theorem ok_X12_fault : ∀ q ∈ op_X12_fault, cv_ok cv_T vwCl mt_all mt_X12_fault q := cv_zip_ok ok_mm (by decide) okj_all ok_o1 ok_o2 (hs := hn_X12_fault) (by decide +kernel) (by decide +kernel)
def hn_X12_named : List (List (Nat × Nat)) := [
  [], [], [(6, 179)], [], [], [], [(6, 202)], [], [], [(6, 189)], [], [(8, 15)],
  [], [], [], [], [], [(6, 205)], [], [], [(6, 190)], [], [(8, 15)], [],
  [], [], [], [], [(6, 207)], [], [], [(6, 191)], [], [(8, 15)], [], [],
  []]
set_option maxRecDepth 100000 in
theorem ok_X12_named : ∀ q ∈ op_X12_named, cv_ok cv_T vwCl mt_all mt_X12_named q := cv_zip_ok ok_mm (by decide) okj_all ok_o1 ok_o2 (hs := hn_X12_named) (by decide +kernel) (by decide +kernel)
def hn_X12_rank : List (List (Nat × Nat)) := [
  [], [], [], [], [], [], [], [], [], [], [], [],
  [], [], [], [], [], [], [], [], [], [], [], [],
  [], [], [], [], [], [], [], []]
set_option maxRecDepth 100000 in
theorem ok_X12_rank : ∀ q ∈ op_X12_rank, cv_ok cv_T vwCl mt_all mt_X12_rank q := cv_zip_ok ok_mm (by decide) okj_all ok_o1 ok_o2 (hs := hn_X12_rank) (by decide +kernel) (by decide +kernel)
def hn_X12_grown : List (List (Nat × Nat)) := [
  [], [(6, 209)], [], [], [(6, 196)], [], [], [], [], [(6, 210)], [], [],
  [(6, 196)], [], [], [], [], [(6, 211)], [], [], [(6, 196)], [], [], [],
  [], [(6, 213)], [], [(6, 215)], [], [(6, 196)], [], [], [], [(6, 215)], [], [],
  [(6, 215)], [], [], [(6, 196)], [], [], [(6, 196)], []]
set_option maxRecDepth 100000 in
theorem ok_X12_grown : ∀ q ∈ op_X12_grown, cv_ok cv_T vwCl mt_all mt_X12_grown q := cv_zip_ok ok_mm (by decide) okj_all ok_o1 ok_o2 (hs := hn_X12_grown) (by decide +kernel) (by decide +kernel)
def hn_X12_dropHeld : List (List (Nat × Nat)) := [
  [], [], [(6, 215)], [], [], [(6, 215)], [], [(6, 213)], [], [(6, 215)], [], []]
set_option maxRecDepth 100000 in
theorem ok_X12_dropHeld : ∀ q ∈ op_X12_dropHeld, cv_ok cv_T vwCl mt_all mt_X12_dropHeld q := cv_zip_ok ok_mm (by decide) okj_all ok_o1 ok_o2 (hs := hn_X12_dropHeld) (by decide +kernel) (by decide +kernel)
def hn_X12_bind : List (List (Nat × Nat)) := [
  [], [(6, 214)], [], [], [(6, 212)], [], [(6, 214)], [], [], [], [(8, 0)], [],
  [], [], [], [(6, 214)], [], [], [(6, 214)], [], [(6, 212)], [], [(6, 214)], [],
  [], [], [], [], [], [], [], [(8, 3)], [], [], [(8, 3)], [],
  [], [], [], [], [(7, 228)], [], []]
set_option maxRecDepth 100000 in
theorem ok_X12_bind : ∀ q ∈ op_X12_bind, cv_ok cv_T vwCl mt_all mt_X12_bind q := cv_zip_ok ok_mm (by decide) okj_all ok_o1 ok_o2 (hs := hn_X12_bind) (by decide +kernel) (by decide +kernel)
def hn_X12_isCounted : List (List (Nat × Nat)) := [
  [], [(6, 217)], [], [], [], [], [(7, 181)], [], [], [], [(6, 217)], [],
  [], [(6, 217)], [], []]
set_option maxRecDepth 100000 in
theorem ok_X12_isCounted : ∀ q ∈ op_X12_isCounted, cv_ok cv_T vwCl mt_all mt_X12_isCounted q := cv_zip_ok ok_mm (by decide) okj_all ok_o1 ok_o2 (hs := hn_X12_isCounted) (by decide +kernel) (by decide +kernel)
def hn_X12_waitsFor : List (List (Nat × Nat)) := [
  [], [(6, 212)], [], [(6, 214)], [], [], [], [], [(6, 214)], [], [], [(6, 214)],
  []]
set_option maxRecDepth 100000 in
theorem ok_X12_waitsFor : ∀ q ∈ op_X12_waitsFor, cv_ok cv_T vwCl mt_all mt_X12_waitsFor q := cv_zip_ok ok_mm (by decide) okj_all ok_o1 ok_o2 (hs := hn_X12_waitsFor) (by decide +kernel) (by decide +kernel)
def hn_X12_leafRead_0 : List (List (Nat × Nat)) := [
  [], [], [(7, 208)], [], [], [(6, 216)], [], [], [], [], [(7, 181)], [],
  [], [], [(6, 216)], [], [], [(6, 216)], [], [], [(7, 216)], [], [], [(6, 219)],
  [], [(7, 153)], [], [], [], [], [(7, 220)], [], [], [(6, 219)], [], [],
  [(7, 224)], [], [], [], [], [], [(7, 216)], [], [(7, 153)], [], [], [],
  [(6, 185)], [], [], [], [(6, 186)], [], [], [], [], [], [], []]
set_option maxRecDepth 100000 in
theorem ok_X12_leafRead_0 : ∀ q ∈ op_X12_leafRead_0, cv_ok cv_T vwCl mt_all mt_X12_leafRead q := cv_zip_ok ok_mm (by decide) okj_all ok_o1 ok_o2 (hs := hn_X12_leafRead_0) (by decide +kernel) (by decide +kernel)
def hn_X12_leafRead_1 : List (List (Nat × Nat)) := [
  [], [], [(6, 185)], [], [], [], [], [(7, 181)], [], [], [], [],
  [(6, 186)], [], [], [], [], [(7, 181)], [], [], [(7, 224)], [], [], [],
  [], [], [], [], [], [], [], [], [], [(6, 186)], [], [],
  [], [], [(6, 186)], [], [(7, 228)], [], [], [(6, 218)], [], [(7, 153)], [], []]
set_option maxRecDepth 100000 in
theorem ok_X12_leafRead_1 : ∀ q ∈ op_X12_leafRead_1, cv_ok cv_T vwCl mt_all mt_X12_leafRead q := cv_zip_ok ok_mm (by decide) okj_all ok_o1 ok_o2 (hs := hn_X12_leafRead_1) (by decide +kernel) (by decide +kernel)
theorem ok_X12_leafRead : ∀ q ∈ op_X12_leafRead, cv_ok cv_T vwCl mt_all mt_X12_leafRead q := List.forall_mem_append.mpr ⟨ok_X12_leafRead_0, ok_X12_leafRead_1⟩
def hn_X12_signs_0 : List (List (Nat × Nat)) := [
  [], [], [(7, 208)], [], [], [(6, 216)], [], [], [], [(7, 236)], [], [],
  [(6, 214)], [], [], [(6, 214)], [], [], [(6, 216)], [], [], [(6, 216)], [], [(7, 153)],
  [], [], [], [], [(7, 220)], [], [], [], [], [], [(7, 220)], [],
  [], [], [], [(6, 185)], [], [], [], [], [(6, 186)], [], [], [],
  [], [(7, 208)], [], [], [], [], [], [(7, 208)], [], [], [], []]
set_option maxRecDepth 100000 in
theorem ok_X12_signs_0 : ∀ q ∈ op_X12_signs_0, cv_ok cv_T vwCl mt_all mt_X12_signs q := cv_zip_ok ok_mm (by decide) okj_all ok_o1 ok_o2 (hs := hn_X12_signs_0) (by decide +kernel) (by decide +kernel)
def hn_X12_signs_1 : List (List (Nat × Nat)) := [
  [], [(7, 208)], [], [], [], [], [], [(7, 208)], [], [], [], [],
  [], [], [], [], [], [(7, 181)], [], [], [], [(8, 0)], [], [],
  [], [], [], [(8, 0)], [(7, 236)], [], [(8, 0)], [], [], [], [(6, 214)], [],
  [], [(6, 212)], [], [(6, 214)], [], [], [], [(8, 0)], [], [], [], [],
  [(7, 181)], [], [], [(7, 224)], [], [], [], [], [], [(7, 216)], [], []]
set_option maxRecDepth 100000 in
theorem ok_X12_signs_1 : ∀ q ∈ op_X12_signs_1, cv_ok cv_T vwCl mt_all mt_X12_signs q := cv_zip_ok ok_mm (by decide) okj_all ok_o1 ok_o2 (hs := hn_X12_signs_1) (by decide +kernel) (by decide +kernel)
def hn_X12_signs_2 : List (List (Nat × Nat)) := [
  [(6, 218)], [], [], [(8, 0)], [], [], [], [], [], [(6, 219)], [], [(7, 153)],
  [], []]
set_option maxRecDepth 100000 in
theorem ok_X12_signs_2 : ∀ q ∈ op_X12_signs_2, cv_ok cv_T vwCl mt_all mt_X12_signs q := cv_zip_ok ok_mm (by decide) okj_all ok_o1 ok_o2 (hs := hn_X12_signs_2) (by decide +kernel) (by decide +kernel)
theorem ok_X12_signs : ∀ q ∈ op_X12_signs, cv_ok cv_T vwCl mt_all mt_X12_signs q := List.forall_mem_append.mpr ⟨ok_X12_signs_0, List.forall_mem_append.mpr ⟨ok_X12_signs_1, ok_X12_signs_2⟩⟩
def hn_X12_sumRead : List (List (Nat × Nat)) := [
  [], [], [(6, 214)], [], [], [(6, 215)], [], [], [(6, 216)], [], [], [(6, 218)],
  [], [], [(6, 219)], [], [], [(7, 208)], [], [], [(6, 218)], [], [], [(6, 216)],
  [], [], [(6, 218)], [], [], [(7, 212)], [], [], [], [(7, 232)], [], [],
  [], [], [], [(7, 236)], [], []]
set_option maxRecDepth 100000 in
theorem ok_X12_sumRead : ∀ q ∈ op_X12_sumRead, cv_ok cv_T vwCl mt_all mt_X12_sumRead q := cv_zip_ok ok_mm (by decide) okj_all ok_o1 ok_o2 (hs := hn_X12_sumRead) (by decide +kernel) (by decide +kernel)
def hn_X12_lays : List (List (Nat × Nat)) := [
  [], [], [], [], [], [], [], [], [], [], [], [],
  [], [], [], [], [], []]
set_option maxRecDepth 100000 in
theorem ok_X12_lays : ∀ q ∈ op_X12_lays, cv_ok cv_T vwCl mt_all mt_X12_lays q := cv_zip_ok ok_mm (by decide) okj_all ok_o1 ok_o2 (hs := hn_X12_lays) (by decide +kernel) (by decide +kernel)
def hn_X12_begins_0 : List (List (Nat × Nat)) := [
  [], [], [], [], [], [], [(6, 222)], [], [], [], [], [],
  [], [(6, 222)], [], [], [(6, 203)], [], [], [], [], [], [], [],
  [], [(6, 222)], [], [], [(6, 203)], [], [], [], [], [], [], [],
  [], [(6, 222)], [], [], [(6, 203)], [], [], [], [], [], [], [],
  [], [(6, 222)], [], [], [(6, 203)], [], [], [], [], [], [], []]
set_option maxRecDepth 100000 in
theorem ok_X12_begins_0 : ∀ q ∈ op_X12_begins_0, cv_ok cv_T vwCl mt_all mt_X12_begins q := cv_zip_ok ok_mm (by decide) okj_all ok_o1 ok_o2 (hs := hn_X12_begins_0) (by decide +kernel) (by decide +kernel)
def hn_X12_begins_1 : List (List (Nat × Nat)) := [
  []]
set_option maxRecDepth 100000 in
theorem ok_X12_begins_1 : ∀ q ∈ op_X12_begins_1, cv_ok cv_T vwCl mt_all mt_X12_begins q := cv_zip_ok ok_mm (by decide) okj_all ok_o1 ok_o2 (hs := hn_X12_begins_1) (by decide +kernel) (by decide +kernel)
theorem ok_X12_begins : ∀ q ∈ op_X12_begins, cv_ok cv_T vwCl mt_all mt_X12_begins q := List.forall_mem_append.mpr ⟨ok_X12_begins_0, ok_X12_begins_1⟩
def hn_X12_loads : List (List (Nat × Nat)) := [
  [], [(6, 222)], [], [], [(6, 221)], [], [], [], [(6, 174)], []]
set_option maxRecDepth 100000 in
theorem ok_X12_loads : ∀ q ∈ op_X12_loads, cv_ok cv_T vwCl mt_all mt_X12_loads q := cv_zip_ok ok_mm (by decide) okj_all ok_o1 ok_o2 (hs := hn_X12_loads) (by decide +kernel) (by decide +kernel)
def hn_X12_spanOf : List (List (Nat × Nat)) := [
  [], [(6, 203)], [], [], [], [], [], [], [], [(6, 203)], [], [],
  [], [], [], [], [], []]
set_option maxRecDepth 100000 in
theorem ok_X12_spanOf : ∀ q ∈ op_X12_spanOf, cv_ok cv_T vwCl mt_all mt_X12_spanOf q := cv_zip_ok ok_mm (by decide) okj_all ok_o1 ok_o2 (hs := hn_X12_spanOf) (by decide +kernel) (by decide +kernel)
def hn_X12_pullOf : List (List (Nat × Nat)) := [
  [], [(6, 203)], [], [], [], [], [], [(6, 203)], [], [], [], [],
  [], [], [], [], [(6, 222)], [], [], [], [], [], [], [],
  [], [(8, 80)], [], [], [], [], [], [], [(6, 222)], [], [], [],
  [], [], [], []]
set_option maxRecDepth 100000 in
theorem ok_X12_pullOf : ∀ q ∈ op_X12_pullOf, cv_ok cv_T vwCl mt_all mt_X12_pullOf q := cv_zip_ok ok_mm (by decide) okj_all ok_o1 ok_o2 (hs := hn_X12_pullOf) (by decide +kernel) (by decide +kernel)
def hn_X12_partOf : List (List (Nat × Nat)) := [
  [], [(6, 203)], [], [], [], [], [], [], [], [], [], [(6, 222)],
  [], [], [], [], [], [], [(6, 203)], [], [], [], [], [],
  [], [], [], [], [], [], [], [], [(6, 222)], [], [], [],
  [], [], [(6, 222)], [], [], [], [], [], [], [], [(8, 80)], [],
  [], [], []]
set_option maxRecDepth 100000 in
theorem ok_X12_partOf : ∀ q ∈ op_X12_partOf, cv_ok cv_T vwCl mt_all mt_X12_partOf q := cv_zip_ok ok_mm (by decide) okj_all ok_o1 ok_o2 (hs := hn_X12_partOf) (by decide +kernel) (by decide +kernel)
def hn_X12_dropOf : List (List (Nat × Nat)) := [
  [], [], [], [(8, 120)], [], [], [], [(8, 120)], [], [], [], [],
  [(8, 120)], [], [], [(6, 222)], [], [], [], []]
set_option maxRecDepth 100000 in
theorem ok_X12_dropOf : ∀ q ∈ op_X12_dropOf, cv_ok cv_T vwCl mt_all mt_X12_dropOf q := cv_zip_ok ok_mm (by decide) okj_all ok_o1 ok_o2 (hs := hn_X12_dropOf) (by decide +kernel) (by decide +kernel)
def hn_X12_firmOf : List (List (Nat × Nat)) := [
  [], [(6, 198)], [], [], [], [], [], [], [], [], []]
set_option maxRecDepth 100000 in
theorem ok_X12_firmOf : ∀ q ∈ op_X12_firmOf, cv_ok cv_T vwCl mt_all mt_X12_firmOf q := cv_zip_ok ok_mm (by decide) okj_all ok_o1 ok_o2 (hs := hn_X12_firmOf) (by decide +kernel) (by decide +kernel)
def hn_X12_bounded : List (List (Nat × Nat)) := [
  [], [], [(6, 225)], [], [], [(8, 136)], [], [], [], [(8, 137)], [], [],
  [], [], [], [(6, 225)], [], [(6, 225)], [], [], [], [], []]
set_option maxRecDepth 100000 in
theorem ok_X12_bounded : ∀ q ∈ op_X12_bounded, cv_ok cv_T vwCl mt_all mt_X12_bounded q := cv_zip_ok ok_mm (by decide) okj_all ok_o1 ok_o2 (hs := hn_X12_bounded) (by decide +kernel) (by decide +kernel)
def hn_X12_compares : List (List (Nat × Nat)) := [
  [], [], [], [], [], [], [], [], [], [], [], [],
  [], [], [], [], [], [], [], [], [], [], [], [],
  [], [], [], [], [], [], [], [], [], [], [], [],
  [], [], [], [], [], [], [], [], [], [], [], [],
  [], []]
set_option maxRecDepth 100000 in
theorem ok_X12_compares : ∀ q ∈ op_X12_compares, cv_ok cv_T vwCl mt_all mt_X12_compares q := cv_zip_ok ok_mm (by decide) okj_all ok_o1 ok_o2 (hs := hn_X12_compares) (by decide +kernel) (by decide +kernel)
def hn_X12_times : List (List (Nat × Nat)) := [
  [], [], [], [], [], [], [], [], [], [], [], [],
  [], [], [], [], [(8, 136)], [], [], [], [], [], [], [],
  [], [], [], [], [], [], [], [], [], [], [(6, 225)], [],
  [], [], [], [], [], [(6, 225)], [], [(6, 225)], [], [], [], [],
  [], [], []]
set_option maxRecDepth 100000 in
theorem ok_X12_times : ∀ q ∈ op_X12_times, cv_ok cv_T vwCl mt_all mt_X12_times q := cv_zip_ok ok_mm (by decide) okj_all ok_o1 ok_o2 (hs := hn_X12_times) (by decide +kernel) (by decide +kernel)
def hn_X12_valueOf_0 : List (List (Nat × Nat)) := [
  [], [(6, 209)], [], [], [], [], [(6, 210)], [], [], [], [], [],
  [(6, 209)], [], [], [], [], [], [(6, 223)], [], [(6, 210)], [], [], [],
  [], [], [(6, 224)], [], [(6, 210)], [], [], [], [], [], [(6, 209)], [],
  [], [], [], [], [], [], [], [], [], [], [], [],
  [(6, 224)], [], [(6, 211)], [], [], [], [], [], [(6, 209)], [], [], []]
set_option maxRecDepth 100000 in
theorem ok_X12_valueOf_0 : ∀ q ∈ op_X12_valueOf_0, cv_ok cv_T vwCl mt_all mt_X12_valueOf q := cv_zip_ok ok_mm (by decide) okj_all ok_o1 ok_o2 (hs := hn_X12_valueOf_0) (by decide +kernel) (by decide +kernel)
def hn_X12_valueOf_1 : List (List (Nat × Nat)) := [
  [], [], [], [], [], [], [], [], [], [], [], [],
  [], [], [], [], [], [], [], [], [], [], [], [],
  [], [], [], [], [(8, 132)], [], [], [], [], [], [(8, 132)], [],
  [], [], [], [(8, 138)], [], [], [], [(6, 225)], [], [], [], [],
  [], [], [], [], [(6, 225)], [], [(6, 225)], [], [], [], [], []]
set_option maxRecDepth 100000 in
theorem ok_X12_valueOf_1 : ∀ q ∈ op_X12_valueOf_1, cv_ok cv_T vwCl mt_all mt_X12_valueOf q := cv_zip_ok ok_mm (by decide) okj_all ok_o1 ok_o2 (hs := hn_X12_valueOf_1) (by decide +kernel) (by decide +kernel)
def hn_X12_valueOf_2 : List (List (Nat × Nat)) := [
  [], [], [], [(6, 209)], [], [], [], [], [(8, 142)], [], [], [],
  [], []]
set_option maxRecDepth 100000 in
theorem ok_X12_valueOf_2 : ∀ q ∈ op_X12_valueOf_2, cv_ok cv_T vwCl mt_all mt_X12_valueOf q := cv_zip_ok ok_mm (by decide) okj_all ok_o1 ok_o2 (hs := hn_X12_valueOf_2) (by decide +kernel) (by decide +kernel)
theorem ok_X12_valueOf : ∀ q ∈ op_X12_valueOf, cv_ok cv_T vwCl mt_all mt_X12_valueOf q := List.forall_mem_append.mpr ⟨ok_X12_valueOf_0, List.forall_mem_append.mpr ⟨ok_X12_valueOf_1, ok_X12_valueOf_2⟩⟩
def hn_X12_layNames_0 : List (List (Nat × Nat)) := [
  [], [(6, 223)], [], [], [], [(8, 84)], [], [], [], [(6, 223)], [], [],
  [], [(8, 96)], [], [(6, 222)], [], [], [], [], [], [], [(6, 223)], [],
  [], [(6, 222)], [], [], [], [], [], [(6, 223)], [], [], [(6, 203)], [],
  [], [], [], [], [], [], [], [], [(6, 223)], [], [], [(6, 222)],
  [], [], [], [], [], [], [], [], [], [(6, 223)], [], []]
set_option maxRecDepth 100000 in
theorem ok_X12_layNames_0 : ∀ q ∈ op_X12_layNames_0, cv_ok cv_T vwCl mt_all mt_X12_layNames q := cv_zip_ok ok_mm (by decide) okj_all ok_o1 ok_o2 (hs := hn_X12_layNames_0) (by decide +kernel) (by decide +kernel)
def hn_X12_layNames_1 : List (List (Nat × Nat)) := [
  [(6, 222)], [], [], [], [], [], [], [], [], [], [(6, 223)], [],
  [], [], [(8, 116)], [], [], [], [(6, 223)], [], [], [], [], [],
  [(6, 223)], [], [], [(6, 222)], [], [], [], [], [], [(6, 223)], [], [],
  [], [], []]
set_option maxRecDepth 100000 in
theorem ok_X12_layNames_1 : ∀ q ∈ op_X12_layNames_1, cv_ok cv_T vwCl mt_all mt_X12_layNames q := cv_zip_ok ok_mm (by decide) okj_all ok_o1 ok_o2 (hs := hn_X12_layNames_1) (by decide +kernel) (by decide +kernel)
theorem ok_X12_layNames : ∀ q ∈ op_X12_layNames, cv_ok cv_T vwCl mt_all mt_X12_layNames q := List.forall_mem_append.mpr ⟨ok_X12_layNames_0, ok_X12_layNames_1⟩
def hn_X12_lawOf : List (List (Nat × Nat)) := [
  [], [], [(6, 201)], [], [], [], [], [], [], [(6, 225)], [], [(6, 225)],
  [], [], [], [], [(6, 199)], [], [], [], [], [], [(6, 200)], [],
  [], [], [], [(6, 224)], [], [], [], [(8, 128)], [], [], [], [],
  [(6, 225)], [], [], [], [], [(6, 224)], [], [(6, 200)], [], [], [], [],
  [], []]
set_option maxRecDepth 100000 in
theorem ok_X12_lawOf : ∀ q ∈ op_X12_lawOf, cv_ok cv_T vwCl mt_all mt_X12_lawOf q := cv_zip_ok ok_mm (by decide) okj_all ok_o1 ok_o2 (hs := hn_X12_lawOf) (by decide +kernel) (by decide +kernel)
def hn_X12_goes_0 : List (List (Nat × Nat)) := [
  [], [], [], [], [(8, 112)], [], [], [], [], [], [], [],
  [(8, 124)], [], [], [(6, 226)], [], [], [], [], [], [], [], [],
  [(8, 145)], [], [], [(8, 145)], [], [], [], [], [], [], [], [],
  [], [(6, 191)], [], [], [(6, 222)], [], [], [], [(8, 22)], [], [], [(6, 226)],
  [], [(6, 208)], [], [], [], [], [], [], [], [], [], [(6, 208)]]
set_option maxRecDepth 100000 in
theorem ok_X12_goes_0 : ∀ q ∈ op_X12_goes_0, cv_ok cv_T vwCl mt_all mt_X12_goes q := cv_zip_ok ok_mm (by decide) okj_all ok_o1 ok_o2 (hs := hn_X12_goes_0) (by decide +kernel) (by decide +kernel)
def hn_X12_goes_1 : List (List (Nat × Nat)) := [
  [], [], [], [], [], [], [], [], [], [], [], [],
  [], [], [], [], [], [(6, 222)], [], [], [], [], [(6, 226)], [],
  [], [], [], [], [(6, 222)], [], [], [(8, 146)], [], [], [(8, 146)], [],
  [], [], [], [], [], []]
set_option maxRecDepth 100000 in
theorem ok_X12_goes_1 : ∀ q ∈ op_X12_goes_1, cv_ok cv_T vwCl mt_all mt_X12_goes q := cv_zip_ok ok_mm (by decide) okj_all ok_o1 ok_o2 (hs := hn_X12_goes_1) (by decide +kernel) (by decide +kernel)
theorem ok_X12_goes : ∀ q ∈ op_X12_goes, cv_ok cv_T vwCl mt_all mt_X12_goes q := List.forall_mem_append.mpr ⟨ok_X12_goes_0, ok_X12_goes_1⟩
def hn_X12_goesOn : List (List (Nat × Nat)) := [
  [], [], [], [], [], [], [], [], [(6, 220)], [], [], [(8, 108)],
  [], [], []]
set_option maxRecDepth 100000 in
theorem ok_X12_goesOn : ∀ q ∈ op_X12_goesOn, cv_ok cv_T vwCl mt_all mt_X12_goesOn q := cv_zip_ok ok_mm (by decide) okj_all ok_o1 ok_o2 (hs := hn_X12_goesOn) (by decide +kernel) (by decide +kernel)
def hn_X12_isGate : List (List (Nat × Nat)) := [
  [], [], [], [], [(6, 189)], [], [], [], [], []]
set_option maxRecDepth 100000 in
theorem ok_X12_isGate : ∀ q ∈ op_X12_isGate, cv_ok cv_T vwCl mt_all mt_X12_isGate q := cv_zip_ok ok_mm (by decide) okj_all ok_o1 ok_o2 (hs := hn_X12_isGate) (by decide +kernel) (by decide +kernel)
def hn_X12_fails : List (List (Nat × Nat)) := [
  [], [], [(6, 179)], [], []]
set_option maxRecDepth 100000 in
theorem ok_X12_fails : ∀ q ∈ op_X12_fails, cv_ok cv_T vwCl mt_all mt_X12_fails q := cv_zip_ok ok_mm (by decide) okj_all ok_o1 ok_o2 (hs := hn_X12_fails) (by decide +kernel) (by decide +kernel)
def hn_X12_look_0 : List (List (Nat × Nat)) := [
  [], [], [(6, 179)], [], [], [(8, 68)], [], [], [], [(8, 72)], [], [],
  [], [(8, 76)], [], [], [], [(6, 203)], [], [], [], [], [], [],
  [(6, 203)], [], [], [], [], [], [], [], [], [(6, 203)], [], [],
  [], [], [], [], [], [], [], [(8, 80)], [], [], [], [(8, 84)],
  [], [], [(6, 222)], [], [], [], [], [(6, 203)], [], [], [], []]
set_option maxRecDepth 100000 in
theorem ok_X12_look_0 : ∀ q ∈ op_X12_look_0, cv_ok cv_T vwCl mt_all mt_X12_look q := cv_zip_ok ok_mm (by decide) okj_all ok_o1 ok_o2 (hs := hn_X12_look_0) (by decide +kernel) (by decide +kernel)
def hn_X12_look_1 : List (List (Nat × Nat)) := [
  [], [], [], [], [(6, 222)], [], [], [], [], [(6, 222)], [], [],
  [], [], [(6, 222)], [], [], [], [], [(6, 222)], [], [], [], [],
  [], [(8, 72)], []]
set_option maxRecDepth 100000 in
theorem ok_X12_look_1 : ∀ q ∈ op_X12_look_1, cv_ok cv_T vwCl mt_all mt_X12_look q := cv_zip_ok ok_mm (by decide) okj_all ok_o1 ok_o2 (hs := hn_X12_look_1) (by decide +kernel) (by decide +kernel)
theorem ok_X12_look : ∀ q ∈ op_X12_look, cv_ok cv_T vwCl mt_all mt_X12_look q := List.forall_mem_append.mpr ⟨ok_X12_look_0, ok_X12_look_1⟩
