/-! names: printed by wip/whole/gen/names.py out of the claim -/
def jm_T0 : u_T := fun k => match k with
  | 0 => ("CodeCover", "pad", "LCodeCover$Pad;", true)
  | 1 => ("CodeCover", "tree", "LCodeCover$Tree;", true)
  | 2 => ("CodeCover", "patterns", "LCodeCover$Patterns;", true)
  | 3 => ("CodeCover", "covering", "LCodeCover$Covering;", true)
  | 4 => ("CodeCover", "row", "LCodeCover$Row;", true)
  | 5 => ("CodeCover", "order", "LCodeCover$Order;", true)
  | 6 => ("CodeCover", "lifetimes", "LCodeCover$Lifetimes;", true)
  | 7 => ("CodeCover", "machine", "LCodeCover$Machine;", true)
  | _ => ("CodeCover", "search", "LCodeCover$Search;", true)
def jm_ty0 : Nat → FieldType := fun k => match k with
  | 0 => (.object "CodeCover$Pad")
  | 1 => (.object "CodeCover$Tree")
  | 2 => (.object "CodeCover$Patterns")
  | 3 => (.object "CodeCover$Covering")
  | 4 => (.object "CodeCover$Row")
  | 5 => (.object "CodeCover$Order")
  | 6 => (.object "CodeCover$Lifetimes")
  | 7 => (.object "CodeCover$Machine")
  | _ => (.object "CodeCover$Search")
def jm_T1 : u_T := fun k => match k with
  | 0 => ("CodeCover$Pad", "sign", "[I", true)
  | 1 => ("CodeCover$Pad", "open", "[I", true)
  | _ => ("CodeCover$Pad", "count", "I", false)
def jm_ty1 : Nat → FieldType := fun k => match k with
  | 0 => (.array .int)
  | 1 => (.array .int)
  | _ => .int
def jm_T2 : u_T := fun k => match k with
  | 0 => ("CodeCover$Tree", "sign", "[I", true)
  | 1 => ("CodeCover$Tree", "parent", "[I", true)
  | 2 => ("CodeCover$Tree", "size", "[I", true)
  | 3 => ("CodeCover$Tree", "need", "[I", true)
  | _ => ("CodeCover$Tree", "count", "I", false)
def jm_ty2 : Nat → FieldType := fun k => match k with
  | 0 => (.array .int)
  | 1 => (.array .int)
  | 2 => (.array .int)
  | 3 => (.array .int)
  | _ => .int
def jm_T3 : u_T := fun k => match k with
  | 0 => ("CodeCover$Patterns", "head", "[I", true)
  | 1 => ("CodeCover$Patterns", "price", "[I", true)
  | 2 => ("CodeCover$Patterns", "length", "[I", true)
  | 3 => ("CodeCover$Patterns", "text", "[[I", true)
  | _ => ("CodeCover$Patterns", "count", "I", false)
def jm_ty3 : Nat → FieldType := fun k => match k with
  | 0 => (.array .int)
  | 1 => (.array .int)
  | 2 => (.array .int)
  | 3 => (.array (.array .int))
  | _ => .int
def jm_T4 : u_T := fun k => match k with
  | 0 => ("CodeCover$Covering", "tree", "LCodeCover$Tree;", true)
  | 1 => ("CodeCover$Covering", "patterns", "LCodeCover$Patterns;", true)
  | 2 => ("CodeCover$Covering", "plainCost", "[I", true)
  | 3 => ("CodeCover$Covering", "plainBy", "[I", true)
  | 4 => ("CodeCover$Covering", "cost", "[I", true)
  | 5 => ("CodeCover$Covering", "by", "[I", true)
  | 6 => ("CodeCover$Covering", "codePattern", "[I", true)
  | 7 => ("CodeCover$Covering", "codeNode", "[I", true)
  | 8 => ("CodeCover$Covering", "codeCount", "I", false)
  | _ => ("CodeCover$Covering", "stale", "Z", false)
def jm_ty4 : Nat → FieldType := fun k => match k with
  | 0 => (.object "CodeCover$Tree")
  | 1 => (.object "CodeCover$Patterns")
  | 2 => (.array .int)
  | 3 => (.array .int)
  | 4 => (.array .int)
  | 5 => (.array .int)
  | 6 => (.array .int)
  | 7 => (.array .int)
  | 8 => .int
  | _ => .boolean
def jm_T5 : u_T := fun k => match k with
  | 0 => ("CodeCover$Row", "cells", "[[I", true)
  | 1 => ("CodeCover$Row", "cycle", "[I", true)
  | 2 => ("CodeCover$Row", "spare", "[I", true)
  | 3 => ("CodeCover$Row", "count", "I", false)
  | _ => ("CodeCover$Row", "version", "I", false)
def jm_ty5 : Nat → FieldType := fun k => match k with
  | 0 => (.array (.array .int))
  | 1 => (.array .int)
  | 2 => (.array .int)
  | 3 => .int
  | _ => .int
def jm_T6 : u_T := fun k => match k with
  | 0 => ("CodeCover$Order", "row", "LCodeCover$Row;", true)
  | 1 => ("CodeCover$Order", "needed", "[I", true)
  | 2 => ("CodeCover$Order", "firstSetter", "[I", true)
  | 3 => ("CodeCover$Order", "secondSetter", "[I", true)
  | 4 => ("CodeCover$Order", "tail", "[I", true)
  | 5 => ("CodeCover$Order", "byTail", "[I", true)
  | 6 => ("CodeCover$Order", "start", "[I", true)
  | 7 => ("CodeCover$Order", "chosen", "[I", true)
  | 8 => ("CodeCover$Order", "found", "[I", true)
  | 9 => ("CodeCover$Order", "leastEnd", "I", false)
  | 10 => ("CodeCover$Order", "count", "I", false)
  | _ => ("CodeCover$Order", "version", "I", false)
def jm_ty6 : Nat → FieldType := fun k => match k with
  | 0 => (.object "CodeCover$Row")
  | 1 => (.array .int)
  | 2 => (.array .int)
  | 3 => (.array .int)
  | 4 => (.array .int)
  | 5 => (.array .int)
  | 6 => (.array .int)
  | 7 => (.array .int)
  | 8 => (.array .int)
  | 9 => .int
  | 10 => .int
  | _ => .int
def jm_T7 : u_T := fun k => match k with
  | 0 => ("CodeCover$Lifetimes", "row", "LCodeCover$Row;", true)
  | 1 => ("CodeCover$Lifetimes", "until", "[I", true)
  | 2 => ("CodeCover$Lifetimes", "living", "[I", true)
  | 3 => ("CodeCover$Lifetimes", "kept", "I", false)
  | 4 => ("CodeCover$Lifetimes", "lightest", "I", false)
  | _ => ("CodeCover$Lifetimes", "leastWeight", "I", false)
def jm_ty7 : Nat → FieldType := fun k => match k with
  | 0 => (.object "CodeCover$Row")
  | 1 => (.array .int)
  | 2 => (.array .int)
  | 3 => .int
  | 4 => .int
  | _ => .int
def jm_T8 : u_T := fun k => match k with
  | 0 => ("CodeCover$Machine", "row", "LCodeCover$Row;", true)
  | _ => ("CodeCover$Machine", "register", "[J", true)
def jm_ty8 : Nat → FieldType := fun k => match k with
  | 0 => (.object "CodeCover$Row")
  | _ => (.array .long)
def jm_T9 : u_T := fun k => match k with
  | 0 => ("CodeCover$Search", "row", "LCodeCover$Row;", true)
  | 1 => ("CodeCover$Search", "machine", "LCodeCover$Machine;", true)
  | 2 => ("CodeCover$Search", "moves", "LCodeCover$Moves;", true)
  | 3 => ("CodeCover$Search", "due", "[J", true)
  | 4 => ("CodeCover$Search", "before", "[[J", true)
  | 5 => ("CodeCover$Search", "trial", "[J", true)
  | 6 => ("CodeCover$Search", "op", "[I", true)
  | 7 => ("CodeCover$Search", "to", "[I", true)
  | 8 => ("CodeCover$Search", "one", "[I", true)
  | 9 => ("CodeCover$Search", "two", "[I", true)
  | 10 => ("CodeCover$Search", "length", "I", false)
  | 11 => ("CodeCover$Search", "tried", "I", false)
  | _ => ("CodeCover$Search", "version", "I", false)
def jm_ty9 : Nat → FieldType := fun k => match k with
  | 0 => (.object "CodeCover$Row")
  | 1 => (.object "CodeCover$Machine")
  | 2 => (.object "CodeCover$Moves")
  | 3 => (.array .long)
  | 4 => (.array (.array .long))
  | 5 => (.array .long)
  | 6 => (.array .int)
  | 7 => (.array .int)
  | 8 => (.array .int)
  | 9 => (.array .int)
  | 10 => .int
  | 11 => .int
  | _ => .int
def jm_T10 : u_T := fun k => match k with
  | 0 => ("CodeCover$Moves", "one", "[I", true)
  | 1 => ("CodeCover$Moves", "two", "[I", true)
  | 2 => ("CodeCover$Moves", "reads", "[I", true)
  | 3 => ("CodeCover$Moves", "atFirst", "[Z", true)
  | 4 => ("CodeCover$Moves", "begin", "[I", true)
  | _ => ("CodeCover$Moves", "count", "I", false)
def jm_ty10 : Nat → FieldType := fun k => match k with
  | 0 => (.array .int)
  | 1 => (.array .int)
  | 2 => (.array .int)
  | 3 => (.array .boolean)
  | 4 => (.array .int)
  | _ => .int
def jm_T11 : u_T := fun k => match k with
  | 0 => ("CodeCoverModel", "pad", "[I", true)
  | 1 => ("CodeCoverModel", "padMany", "I", false)
  | 2 => ("CodeCoverModel", "sign", "[I", true)
  | 3 => ("CodeCoverModel", "partOf", "[I", true)
  | 4 => ("CodeCoverModel", "nodes", "I", false)
  | 5 => ("CodeCoverModel", "walkSign", "[I", true)
  | 6 => ("CodeCoverModel", "walkPartOf", "[I", true)
  | 7 => ("CodeCoverModel", "walkLacks", "[I", true)
  | 8 => ("CodeCoverModel", "walked", "I", false)
  | 9 => ("CodeCoverModel", "need", "[I", true)
  | 10 => ("CodeCoverModel", "headOf", "[I", true)
  | 11 => ("CodeCoverModel", "priceOf", "[I", true)
  | 12 => ("CodeCoverModel", "patternSigns", "[I", true)
  | 13 => ("CodeCoverModel", "patternLong", "[I", true)
  | 14 => ("CodeCoverModel", "patterns", "I", false)
  | 15 => ("CodeCoverModel", "plain", "[I", true)
  | 16 => ("CodeCoverModel", "plainBy", "[I", true)
  | 17 => ("CodeCoverModel", "cover", "[I", true)
  | 18 => ("CodeCoverModel", "coverBy", "[I", true)
  | 19 => ("CodeCoverModel", "todoNode", "[I", true)
  | 20 => ("CodeCoverModel", "todoHow", "[I", true)
  | 21 => ("CodeCoverModel", "todoBy", "[I", true)
  | 22 => ("CodeCoverModel", "todos", "I", false)
  | 23 => ("CodeCoverModel", "codeBy", "[I", true)
  | 24 => ("CodeCoverModel", "codeAt", "[I", true)
  | 25 => ("CodeCoverModel", "codes", "I", false)
  | 26 => ("CodeCoverModel", "ops", "[I", true)
  | 27 => ("CodeCoverModel", "sets", "[I", true)
  | 28 => ("CodeCoverModel", "ones", "[I", true)
  | 29 => ("CodeCoverModel", "twos", "[I", true)
  | 30 => ("CodeCoverModel", "waits", "[I", true)
  | 31 => ("CodeCoverModel", "weights", "[I", true)
  | 32 => ("CodeCoverModel", "many", "I", false)
  | 33 => ("CodeCoverModel", "order", "[I", true)
  | 34 => ("CodeCoverModel", "cycle", "[I", true)
  | 35 => ("CodeCoverModel", "bestOrder", "[I", true)
  | 36 => ("CodeCoverModel", "bestEnd", "I", false)
  | 37 => ("CodeCoverModel", "endTo", "[I", true)
  | 38 => ("CodeCoverModel", "aside", "[I", true)
  | 39 => ("CodeCoverModel", "kept", "I", false)
  | 40 => ("CodeCoverModel", "places", "[I", true)
  | 41 => ("CodeCoverModel", "registers", "[I", true)
  | 42 => ("CodeCoverModel", "wanted", "[I", true)
  | 43 => ("CodeCoverModel", "shorts", "[I", true)
  | _ => ("CodeCoverModel", "short3", "[I", true)
def jm_ty11 : Nat → FieldType := fun k => match k with
  | 0 => (.array .int)
  | 1 => .int
  | 2 => (.array .int)
  | 3 => (.array .int)
  | 4 => .int
  | 5 => (.array .int)
  | 6 => (.array .int)
  | 7 => (.array .int)
  | 8 => .int
  | 9 => (.array .int)
  | 10 => (.array .int)
  | 11 => (.array .int)
  | 12 => (.array .int)
  | 13 => (.array .int)
  | 14 => .int
  | 15 => (.array .int)
  | 16 => (.array .int)
  | 17 => (.array .int)
  | 18 => (.array .int)
  | 19 => (.array .int)
  | 20 => (.array .int)
  | 21 => (.array .int)
  | 22 => .int
  | 23 => (.array .int)
  | 24 => (.array .int)
  | 25 => .int
  | 26 => (.array .int)
  | 27 => (.array .int)
  | 28 => (.array .int)
  | 29 => (.array .int)
  | 30 => (.array .int)
  | 31 => (.array .int)
  | 32 => .int
  | 33 => (.array .int)
  | 34 => (.array .int)
  | 35 => (.array .int)
  | 36 => .int
  | 37 => (.array .int)
  | 38 => (.array .int)
  | 39 => .int
  | 40 => (.array .int)
  | 41 => (.array .int)
  | 42 => (.array .int)
  | 43 => (.array .int)
  | _ => (.array .int)
def jm_cl : List vw_C := [("CodeCover", jm_T0, 9), ("CodeCover$Pad", jm_T1, 3), ("CodeCover$Tree", jm_T2, 5), ("CodeCover$Patterns", jm_T3, 5), ("CodeCover$Covering", jm_T4, 10), ("CodeCover$Row", jm_T5, 5), ("CodeCover$Order", jm_T6, 12), ("CodeCover$Lifetimes", jm_T7, 6), ("CodeCover$Machine", jm_T8, 2), ("CodeCover$Search", jm_T9, 13), ("CodeCover$Moves", jm_T10, 6), ("CodeCoverModel", jm_T11, 45)]
def jm_ft (ci : Nat) : List Nat := match ci with
  | 0 => [2, 2, 2, 2, 2, 2, 2, 2, 2]
  | 1 => [2, 2, 0]
  | 2 => [2, 2, 2, 2, 0]
  | 3 => [2, 2, 2, 2, 0]
  | 4 => [2, 2, 2, 2, 2, 2, 2, 2, 0, 3]
  | 5 => [2, 2, 2, 0, 0]
  | 6 => [2, 2, 2, 2, 2, 2, 2, 2, 2, 0, 0, 0]
  | 7 => [2, 2, 2, 0, 0, 0]
  | 8 => [2, 2]
  | 9 => [2, 2, 2, 2, 2, 2, 2, 2, 2, 2, 0, 0, 0]
  | 10 => [2, 2, 2, 2, 2, 0]
  | 11 => [2, 0, 2, 2, 0, 2, 2, 2, 0, 2, 2, 2, 2, 2, 0, 2, 2, 2, 2, 2, 2, 2, 0, 2, 2, 0, 2, 2, 2, 2, 2, 2, 0, 2, 2, 2, 0, 2, 2, 0, 2, 2, 2, 2, 2]
  | _ => []
def jm_ty (ci : Nat) : Nat → FieldType := match ci with
  | 0 => jm_ty0
  | 1 => jm_ty1
  | 2 => jm_ty2
  | 3 => jm_ty3
  | 4 => jm_ty4
  | 5 => jm_ty5
  | 6 => jm_ty6
  | 7 => jm_ty7
  | 8 => jm_ty8
  | 9 => jm_ty9
  | 10 => jm_ty10
  | 11 => jm_ty11
  | _ => fun _ => .int
/-- the code of a type: 0 int, 1 long, 2 a reference, 3 boolean -/
def jm_tc (t : FieldType) : Nat := match t with
  | .int => 0
  | .long => 1
  | .boolean => 3
  | .object _ => 2
  | .array _ => 2
  | _ => 9
def jm_wG : List Cond := lw_tbl.filter goodWord
theorem jm_mem1 {w : Cond} (h : w ∈ tables_1_1) (g : goodWord w = true) : w ∈ jm_wG := List.mem_filter.mpr ⟨List.mem_append_right _ (show w ∈ tables_1 from List.mem_append_left _ h), g⟩
theorem jm_mem2 {w : Cond} (h : w ∈ tables_1_2) (g : goodWord w = true) : w ∈ jm_wG := List.mem_filter.mpr ⟨List.mem_append_right _ (show w ∈ tables_1 from List.mem_append_right _ (List.mem_append_left _ h)), g⟩
theorem jm_mem3 {w : Cond} (h : w ∈ tables_1_3) (g : goodWord w = true) : w ∈ jm_wG := List.mem_filter.mpr ⟨List.mem_append_right _ (show w ∈ tables_1 from List.mem_append_right _ (List.mem_append_right _ (List.mem_append_left _ h))), g⟩
theorem jm_mem4 {w : Cond} (h : w ∈ tables_1_4) (g : goodWord w = true) : w ∈ jm_wG := List.mem_filter.mpr ⟨List.mem_append_right _ (show w ∈ tables_1 from List.mem_append_right _ (List.mem_append_right _ (List.mem_append_right _ (List.mem_append_left _ h)))), g⟩
theorem jm_mem5 {w : Cond} (h : w ∈ tables_1_5) (g : goodWord w = true) : w ∈ jm_wG := List.mem_filter.mpr ⟨List.mem_append_right _ (show w ∈ tables_1 from List.mem_append_right _ (List.mem_append_right _ (List.mem_append_right _ (List.mem_append_right _ (List.mem_append_left _ h))))), g⟩
theorem jm_mem6 {w : Cond} (h : w ∈ tables_1_6) (g : goodWord w = true) : w ∈ jm_wG := List.mem_filter.mpr ⟨List.mem_append_right _ (show w ∈ tables_1 from List.mem_append_right _ (List.mem_append_right _ (List.mem_append_right _ (List.mem_append_right _ (List.mem_append_right _ (h)))))), g⟩
theorem jm_memP {w : Cond} (h : w ∈ k2_sels lw_privs) (g : goodWord w = true) : w ∈ jm_wG := List.mem_filter.mpr ⟨List.mem_append_left _ h, g⟩
set_option maxRecDepth 20000 in
theorem jm_clok0 : (∀ w ∈ u_ws "CodeCover" jm_T0 9, w ∈ jm_wG) ∧ 9 = (jm_ft 0).length ∧ (∀ k, k < 9 → parseFieldDescriptor (jm_T0 k).2.2.1 = some (jm_ty 0 k)) ∧ (∀ a, a < 9 → ∀ b, b < 9 → a ≠ b → (jm_T0 a).2.1 ≠ (jm_T0 b).2.1) ∧ ∀ k, k < 9 → jm_tc (jm_ty 0 k) = (jm_ft 0).getD k 0 := ⟨by decide +kernel, by decide +kernel, by decide +kernel, by decide +kernel, by decide +kernel⟩
set_option maxRecDepth 20000 in
theorem jm_clok1 : (∀ w ∈ u_ws "CodeCover$Pad" jm_T1 3, w ∈ jm_wG) ∧ 3 = (jm_ft 1).length ∧ (∀ k, k < 3 → parseFieldDescriptor (jm_T1 k).2.2.1 = some (jm_ty 1 k)) ∧ (∀ a, a < 3 → ∀ b, b < 3 → a ≠ b → (jm_T1 a).2.1 ≠ (jm_T1 b).2.1) ∧ ∀ k, k < 3 → jm_tc (jm_ty 1 k) = (jm_ft 1).getD k 0 := ⟨by decide +kernel, by decide +kernel, by decide +kernel, by decide +kernel, by decide +kernel⟩
set_option maxRecDepth 20000 in
theorem jm_clok2 : (∀ w ∈ u_ws "CodeCover$Tree" jm_T2 5, w ∈ jm_wG) ∧ 5 = (jm_ft 2).length ∧ (∀ k, k < 5 → parseFieldDescriptor (jm_T2 k).2.2.1 = some (jm_ty 2 k)) ∧ (∀ a, a < 5 → ∀ b, b < 5 → a ≠ b → (jm_T2 a).2.1 ≠ (jm_T2 b).2.1) ∧ ∀ k, k < 5 → jm_tc (jm_ty 2 k) = (jm_ft 2).getD k 0 := ⟨by decide +kernel, by decide +kernel, by decide +kernel, by decide +kernel, by decide +kernel⟩
set_option maxRecDepth 20000 in
theorem jm_clok3 : (∀ w ∈ u_ws "CodeCover$Patterns" jm_T3 5, w ∈ jm_wG) ∧ 5 = (jm_ft 3).length ∧ (∀ k, k < 5 → parseFieldDescriptor (jm_T3 k).2.2.1 = some (jm_ty 3 k)) ∧ (∀ a, a < 5 → ∀ b, b < 5 → a ≠ b → (jm_T3 a).2.1 ≠ (jm_T3 b).2.1) ∧ ∀ k, k < 5 → jm_tc (jm_ty 3 k) = (jm_ft 3).getD k 0 := ⟨by decide +kernel, by decide +kernel, by decide +kernel, by decide +kernel, by decide +kernel⟩
set_option maxRecDepth 20000 in
theorem jm_clok4 : (∀ w ∈ u_ws "CodeCover$Covering" jm_T4 10, w ∈ jm_wG) ∧ 10 = (jm_ft 4).length ∧ (∀ k, k < 10 → parseFieldDescriptor (jm_T4 k).2.2.1 = some (jm_ty 4 k)) ∧ (∀ a, a < 10 → ∀ b, b < 10 → a ≠ b → (jm_T4 a).2.1 ≠ (jm_T4 b).2.1) ∧ ∀ k, k < 10 → jm_tc (jm_ty 4 k) = (jm_ft 4).getD k 0 := ⟨by decide +kernel, by decide +kernel, by decide +kernel, by decide +kernel, by decide +kernel⟩
set_option maxRecDepth 20000 in
theorem jm_clok5 : (∀ w ∈ u_ws "CodeCover$Row" jm_T5 5, w ∈ jm_wG) ∧ 5 = (jm_ft 5).length ∧ (∀ k, k < 5 → parseFieldDescriptor (jm_T5 k).2.2.1 = some (jm_ty 5 k)) ∧ (∀ a, a < 5 → ∀ b, b < 5 → a ≠ b → (jm_T5 a).2.1 ≠ (jm_T5 b).2.1) ∧ ∀ k, k < 5 → jm_tc (jm_ty 5 k) = (jm_ft 5).getD k 0 := ⟨by decide +kernel, by decide +kernel, by decide +kernel, by decide +kernel, by decide +kernel⟩
set_option maxRecDepth 20000 in
theorem jm_clok6 : (∀ w ∈ u_ws "CodeCover$Order" jm_T6 12, w ∈ jm_wG) ∧ 12 = (jm_ft 6).length ∧ (∀ k, k < 12 → parseFieldDescriptor (jm_T6 k).2.2.1 = some (jm_ty 6 k)) ∧ (∀ a, a < 12 → ∀ b, b < 12 → a ≠ b → (jm_T6 a).2.1 ≠ (jm_T6 b).2.1) ∧ ∀ k, k < 12 → jm_tc (jm_ty 6 k) = (jm_ft 6).getD k 0 := ⟨by decide +kernel, by decide +kernel, by decide +kernel, by decide +kernel, by decide +kernel⟩
set_option maxRecDepth 20000 in
theorem jm_clok7 : (∀ w ∈ u_ws "CodeCover$Lifetimes" jm_T7 6, w ∈ jm_wG) ∧ 6 = (jm_ft 7).length ∧ (∀ k, k < 6 → parseFieldDescriptor (jm_T7 k).2.2.1 = some (jm_ty 7 k)) ∧ (∀ a, a < 6 → ∀ b, b < 6 → a ≠ b → (jm_T7 a).2.1 ≠ (jm_T7 b).2.1) ∧ ∀ k, k < 6 → jm_tc (jm_ty 7 k) = (jm_ft 7).getD k 0 := ⟨by decide +kernel, by decide +kernel, by decide +kernel, by decide +kernel, by decide +kernel⟩
set_option maxRecDepth 20000 in
theorem jm_clok8 : (∀ w ∈ u_ws "CodeCover$Machine" jm_T8 2, w ∈ jm_wG) ∧ 2 = (jm_ft 8).length ∧ (∀ k, k < 2 → parseFieldDescriptor (jm_T8 k).2.2.1 = some (jm_ty 8 k)) ∧ (∀ a, a < 2 → ∀ b, b < 2 → a ≠ b → (jm_T8 a).2.1 ≠ (jm_T8 b).2.1) ∧ ∀ k, k < 2 → jm_tc (jm_ty 8 k) = (jm_ft 8).getD k 0 := ⟨by decide +kernel, by decide +kernel, by decide +kernel, by decide +kernel, by decide +kernel⟩
set_option maxRecDepth 20000 in
theorem jm_clok9 : (∀ w ∈ u_ws "CodeCover$Search" jm_T9 13, w ∈ jm_wG) ∧ 13 = (jm_ft 9).length ∧ (∀ k, k < 13 → parseFieldDescriptor (jm_T9 k).2.2.1 = some (jm_ty 9 k)) ∧ (∀ a, a < 13 → ∀ b, b < 13 → a ≠ b → (jm_T9 a).2.1 ≠ (jm_T9 b).2.1) ∧ ∀ k, k < 13 → jm_tc (jm_ty 9 k) = (jm_ft 9).getD k 0 := ⟨by decide +kernel, by decide +kernel, by decide +kernel, by decide +kernel, by decide +kernel⟩
set_option maxRecDepth 20000 in
theorem jm_clok10 : (∀ w ∈ u_ws "CodeCover$Moves" jm_T10 6, w ∈ jm_wG) ∧ 6 = (jm_ft 10).length ∧ (∀ k, k < 6 → parseFieldDescriptor (jm_T10 k).2.2.1 = some (jm_ty 10 k)) ∧ (∀ a, a < 6 → ∀ b, b < 6 → a ≠ b → (jm_T10 a).2.1 ≠ (jm_T10 b).2.1) ∧ ∀ k, k < 6 → jm_tc (jm_ty 10 k) = (jm_ft 10).getD k 0 := ⟨by decide +kernel, by decide +kernel, by decide +kernel, by decide +kernel, by decide +kernel⟩
set_option maxRecDepth 20000 in
theorem jm_clok11 : (∀ w ∈ u_ws "CodeCoverModel" jm_T11 45, w ∈ jm_wG) ∧ 45 = (jm_ft 11).length ∧ (∀ k, k < 45 → parseFieldDescriptor (jm_T11 k).2.2.1 = some (jm_ty 11 k)) ∧ (∀ a, a < 45 → ∀ b, b < 45 → a ≠ b → (jm_T11 a).2.1 ≠ (jm_T11 b).2.1) ∧ ∀ k, k < 45 → jm_tc (jm_ty 11 k) = (jm_ft 11).getD k 0 := ⟨by decide +kernel, by decide +kernel, by decide +kernel, by decide +kernel, by decide +kernel⟩
theorem jm_clok {ci N : Nat} {C : String} {T : u_T} (hc : jm_cl[ci]? = some (C, T, N)) : (∀ w ∈ u_ws C T N, w ∈ jm_wG) ∧ N = (jm_ft ci).length ∧ (∀ k, k < N → parseFieldDescriptor (T k).2.2.1 = some (jm_ty ci k)) ∧ (∀ a, a < N → ∀ b, b < N → a ≠ b → (T a).2.1 ≠ (T b).2.1) ∧ ∀ k, k < N → jm_tc (jm_ty ci k) = (jm_ft ci).getD k 0 := by
  match ci, hc with
  | 0, hc => cases hc; exact jm_clok0
  | 1, hc => cases hc; exact jm_clok1
  | 2, hc => cases hc; exact jm_clok2
  | 3, hc => cases hc; exact jm_clok3
  | 4, hc => cases hc; exact jm_clok4
  | 5, hc => cases hc; exact jm_clok5
  | 6, hc => cases hc; exact jm_clok6
  | 7, hc => cases hc; exact jm_clok7
  | 8, hc => cases hc; exact jm_clok8
  | 9, hc => cases hc; exact jm_clok9
  | 10, hc => cases hc; exact jm_clok10
  | 11, hc => cases hc; exact jm_clok11
  | n + 12, hc => simp [jm_cl] at hc
