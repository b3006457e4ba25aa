/-! fewer locals, a value by another name, constants -/
def jm_keep : List Bool → List (Option jm_V) → List (Option jm_V)
  | b :: bs, v :: vs => (if b then v else none) :: jm_keep bs vs
  | _, _ => []
theorem jm_keep_at : ∀ (bs : List Bool) (ls : List (Option jm_V)) (i : Nat) (v : jm_V), (jm_keep bs ls)[i]? = some (some v) → ls[i]? = some (some v)
  | [], ls, i, v, h => by simp [jm_keep] at h
  | b :: bs, [], i, v, h => by simp [jm_keep] at h
  | b :: bs, w :: ls, 0, v, h => by
    simp only [jm_keep, List.getElem?_cons_zero, Option.some.injEq] at h
    cases b
    · simp at h
    · simpa using h
  | b :: bs, w :: ls, i + 1, v, h => by
    simp only [jm_keep, List.getElem?_cons_succ] at h ⊢
    exact jm_keep_at bs ls i v h
theorem jm_keepG {E : jm_Env} {M : jm_M} {d cu su pc : Nat} {ls ls2 : List (Option jm_V)} {st : List jm_V} {sh : List jm_C} {h : jm_H} {Q : jm_Q} (bs : List Bool) (h2 : jm_keep bs ls = ls2) (hn : ls2.length = ls.length) (k : jm_G E M d cu su pc ls2 st sh h Q) : jm_G E M d cu su pc ls st sh h Q := by
  subst h2
  intro p e s m args below meth c H locs as0 as A lsM cx hS hA hx hw hl hlo hso hln
  refine k p e s m args below meth c H locs as0 as A lsM cx hS hA hx hw ⟨hl.1, hl.2.1, fun q hq => ?_⟩ (fun i v hv => hlo i v (jm_keep_at bs ls i v hv)) hso (hn.trans hln)
  obtain ⟨v, h1, h2⟩ := jm_lv_mem hq
  rw [h2]
  exact jm_lv_at hl (jm_keep_at bs ls _ v h1)
theorem jm_topI {E : jm_Env} {M : jm_M} {d cu su pc : Nat} {ls : List (Option jm_V)} {st : List jm_V} {sh : List jm_C} {h : jm_H} {Q : jm_Q} {x y : Int} (e : x = y) (k : jm_G E M d cu su pc ls (jm_I y :: st) sh h Q) : jm_G E M d cu su pc ls (jm_I x :: st) sh h Q := e ▸ k
theorem jm_topL {E : jm_Env} {M : jm_M} {d cu su pc : Nat} {ls : List (Option jm_V)} {st : List jm_V} {sh : List jm_C} {h : jm_H} {Q : jm_Q} {x y : Int} (e : x = y) (k : jm_G E M d cu su pc ls (jm_L y :: st) sh h Q) : jm_G E M d cu su pc ls (jm_L x :: st) sh h Q := e ▸ k
theorem jb_m6 : (Int8.ofInt (-6)).toInt32 = Int32.ofInt (-6) ∧ jm_o32 (-6) := ⟨by decide, jm_o32c rfl⟩
theorem jb_m5 : (Int8.ofInt (-5)).toInt32 = Int32.ofInt (-5) ∧ jm_o32 (-5) := ⟨by decide, jm_o32c rfl⟩
theorem jb_m4 : (Int8.ofInt (-4)).toInt32 = Int32.ofInt (-4) ∧ jm_o32 (-4) := ⟨by decide, jm_o32c rfl⟩
theorem jb_m3 : (Int8.ofInt (-3)).toInt32 = Int32.ofInt (-3) ∧ jm_o32 (-3) := ⟨by decide, jm_o32c rfl⟩
theorem jb_m2 : (Int8.ofInt (-2)).toInt32 = Int32.ofInt (-2) ∧ jm_o32 (-2) := ⟨by decide, jm_o32c rfl⟩
theorem jb_6 : (Int8.ofInt 6).toInt32 = Int32.ofInt 6 ∧ jm_o32 6 := ⟨by decide, jm_o32c rfl⟩
theorem jb_7 : (Int8.ofInt 7).toInt32 = Int32.ofInt 7 ∧ jm_o32 7 := ⟨by decide, jm_o32c rfl⟩
theorem jb_8 : (Int8.ofInt 8).toInt32 = Int32.ofInt 8 ∧ jm_o32 8 := ⟨by decide, jm_o32c rfl⟩
theorem jb_10 : (Int8.ofInt 10).toInt32 = Int32.ofInt 10 ∧ jm_o32 10 := ⟨by decide, jm_o32c rfl⟩
theorem jb_12 : (Int8.ofInt 12).toInt32 = Int32.ofInt 12 ∧ jm_o32 12 := ⟨by decide, jm_o32c rfl⟩
theorem jb_15 : (Int8.ofInt 15).toInt32 = Int32.ofInt 15 ∧ jm_o32 15 := ⟨by decide, jm_o32c rfl⟩
theorem jb_16 : (Int8.ofInt 16).toInt32 = Int32.ofInt 16 ∧ jm_o32 16 := ⟨by decide, jm_o32c rfl⟩
theorem jb_20 : (Int8.ofInt 20).toInt32 = Int32.ofInt 20 ∧ jm_o32 20 := ⟨by decide, jm_o32c rfl⟩
theorem jb_24 : (Int8.ofInt 24).toInt32 = Int32.ofInt 24 ∧ jm_o32 24 := ⟨by decide, jm_o32c rfl⟩
theorem jb_30 : (Int8.ofInt 30).toInt32 = Int32.ofInt 30 ∧ jm_o32 30 := ⟨by decide, jm_o32c rfl⟩
theorem jb_33 : (Int8.ofInt 33).toInt32 = Int32.ofInt 33 ∧ jm_o32 33 := ⟨by decide, jm_o32c rfl⟩
theorem jb_38 : (Int8.ofInt 38).toInt32 = Int32.ofInt 38 ∧ jm_o32 38 := ⟨by decide, jm_o32c rfl⟩
theorem jb_42 : (Int8.ofInt 42).toInt32 = Int32.ofInt 42 ∧ jm_o32 42 := ⟨by decide, jm_o32c rfl⟩
theorem jb_43 : (Int8.ofInt 43).toInt32 = Int32.ofInt 43 ∧ jm_o32 43 := ⟨by decide, jm_o32c rfl⟩
theorem jb_45 : (Int8.ofInt 45).toInt32 = Int32.ofInt 45 ∧ jm_o32 45 := ⟨by decide, jm_o32c rfl⟩
theorem jb_48 : (Int8.ofInt 48).toInt32 = Int32.ofInt 48 ∧ jm_o32 48 := ⟨by decide, jm_o32c rfl⟩
theorem jb_57 : (Int8.ofInt 57).toInt32 = Int32.ofInt 57 ∧ jm_o32 57 := ⟨by decide, jm_o32c rfl⟩
theorem jb_60 : (Int8.ofInt 60).toInt32 = Int32.ofInt 60 ∧ jm_o32 60 := ⟨by decide, jm_o32c rfl⟩
theorem jb_63 : (Int8.ofInt 63).toInt32 = Int32.ofInt 63 ∧ jm_o32 63 := ⟨by decide, jm_o32c rfl⟩
theorem jb_64 : (Int8.ofInt 64).toInt32 = Int32.ofInt 64 ∧ jm_o32 64 := ⟨by decide, jm_o32c rfl⟩
theorem jb_65 : (Int8.ofInt 65).toInt32 = Int32.ofInt 65 ∧ jm_o32 65 := ⟨by decide, jm_o32c rfl⟩
theorem jb_75 : (Int8.ofInt 75).toInt32 = Int32.ofInt 75 ∧ jm_o32 75 := ⟨by decide, jm_o32c rfl⟩
theorem jb_82 : (Int8.ofInt 82).toInt32 = Int32.ofInt 82 ∧ jm_o32 82 := ⟨by decide, jm_o32c rfl⟩
theorem jb_86 : (Int8.ofInt 86).toInt32 = Int32.ofInt 86 ∧ jm_o32 86 := ⟨by decide, jm_o32c rfl⟩
theorem jb_97 : (Int8.ofInt 97).toInt32 = Int32.ofInt 97 ∧ jm_o32 97 := ⟨by decide, jm_o32c rfl⟩
theorem jb_100 : (Int8.ofInt 100).toInt32 = Int32.ofInt 100 ∧ jm_o32 100 := ⟨by decide, jm_o32c rfl⟩
theorem jb_104 : (Int8.ofInt 104).toInt32 = Int32.ofInt 104 ∧ jm_o32 104 := ⟨by decide, jm_o32c rfl⟩
theorem jb_126 : (Int8.ofInt 126).toInt32 = Int32.ofInt 126 ∧ jm_o32 126 := ⟨by decide, jm_o32c rfl⟩
theorem js_153 : (Int16.ofInt 153).toInt32 = Int32.ofInt 153 ∧ jm_o32 153 := ⟨by decide, jm_o32c rfl⟩
theorem js_256 : (Int16.ofInt 256).toInt32 = Int32.ofInt 256 ∧ jm_o32 256 := ⟨by decide, jm_o32c rfl⟩
theorem js_1000 : (Int16.ofInt 1000).toInt32 = Int32.ofInt 1000 ∧ jm_o32 1000 := ⟨by decide, jm_o32c rfl⟩
theorem js_23409 : (Int16.ofInt 23409).toInt32 = Int32.ofInt 23409 ∧ jm_o32 23409 := ⟨by decide, jm_o32c rfl⟩
theorem jc_525 : Cond.constant "CodeCover$Covering" 64 (Int32.ofInt 1000000) ∈ jm_wG := by
  rw [show Int32.ofInt 1000000 = (1000000 : Int32) by decide]
  exact jw_525
theorem jc_667 : Cond.constant "CodeCover$Order" 56 (Int32.ofInt 1000000) ∈ jm_wG := by
  rw [show Int32.ofInt 1000000 = (1000000 : Int32) by decide]
  exact jw_667
theorem jc_734 : Cond.constant "java/lang/Integer" 265 (Int32.ofInt 1431655765) ∈ jm_wG := by
  rw [show Int32.ofInt 1431655765 = (1431655765 : Int32) by decide]
  exact jw_734
theorem jc_735 : Cond.constant "java/lang/Integer" 266 (Int32.ofInt 858993459) ∈ jm_wG := by
  rw [show Int32.ofInt 858993459 = (858993459 : Int32) by decide]
  exact jw_735
theorem jc_736 : Cond.constant "java/lang/Integer" 267 (Int32.ofInt 252645135) ∈ jm_wG := by
  rw [show Int32.ofInt 252645135 = (252645135 : Int32) by decide]
  exact jw_736
theorem jc_746 : Cond.constant "CodeCover$Lifetimes" 57 (Int32.ofInt 1000000) ∈ jm_wG := by
  rw [show Int32.ofInt 1000000 = (1000000 : Int32) by decide]
  exact jw_746
theorem jc_770 : Cond.constantLong "CodeCover$Machine" 31 (Int64.ofInt 8608480567731124087) ∈ jm_wG := by
  rw [show Int64.ofInt 8608480567731124087 = (8608480567731124087 : Int64) by decide]
  exact jw_770
theorem jc_771 : Cond.constantLong "CodeCover$Machine" 33 (Int64.ofInt (-8608480567731124088)) ∈ jm_wG := by
  rw [show Int64.ofInt (-8608480567731124088) = (-8608480567731124088 : Int64) by decide]
  exact jw_771
theorem jc_772 : Cond.constantLong "CodeCover$Machine" 35 (Int64.ofInt (-1)) ∈ jm_wG := by
  rw [show Int64.ofInt (-1) = (-1 : Int64) by decide]
  exact jw_772
theorem jc_773 : Cond.constantLong "CodeCover" 237 (Int64.ofInt 15) ∈ jm_wG := by
  rw [show Int64.ofInt 15 = (15 : Int64) by decide]
  exact jw_773
theorem jc_785 : Cond.constantLong "CodeCover$Search" 66 (Int64.ofInt (-81985529216486896)) ∈ jm_wG := by
  rw [show Int64.ofInt (-81985529216486896) = (-81985529216486896 : Int64) by decide]
  exact jw_785
theorem jc_789 : Cond.constantLong "CodeCover$Search" 89 (Int64.ofInt 4364540684564061060) ∈ jm_wG := by
  rw [show Int64.ofInt 4364540684564061060 = (4364540684564061060 : Int64) by decide]
  exact jw_789
theorem jc_790 : Cond.constantLong "CodeCover$Search" 91 (Int64.ofInt 1229782938247303441) ∈ jm_wG := by
  rw [show Int64.ofInt 1229782938247303441 = (1229782938247303441 : Int64) by decide]
  exact jw_790
theorem jc_976 : Cond.constantLong "CodeCoverModel" 122 (Int64.ofInt 33) ∈ jm_wG := by
  rw [show Int64.ofInt 33 = (33 : Int64) by decide]
  exact jw_976
theorem jc_977 : Cond.constantLong "CodeCoverModel" 124 (Int64.ofInt 126) ∈ jm_wG := by
  rw [show Int64.ofInt 126 = (126 : Int64) by decide]
  exact jw_977
theorem jc_1006 : Cond.constantLong "CodeCoverModel" 133 (Int64.ofInt 48) ∈ jm_wG := by
  rw [show Int64.ofInt 48 = (48 : Int64) by decide]
  exact jw_1006
theorem jc_1007 : Cond.constantLong "CodeCoverModel" 135 (Int64.ofInt 57) ∈ jm_wG := by
  rw [show Int64.ofInt 57 = (57 : Int64) by decide]
  exact jw_1007
theorem jc_1011 : Cond.constantLong "CodeCoverModel" 137 (Int64.ofInt 97) ∈ jm_wG := by
  rw [show Int64.ofInt 97 = (97 : Int64) by decide]
  exact jw_1011
theorem jc_1012 : Cond.constantLong "CodeCoverModel" 139 (Int64.ofInt 104) ∈ jm_wG := by
  rw [show Int64.ofInt 104 = (104 : Int64) by decide]
  exact jw_1012
theorem jc_1044 : Cond.constantLong "CodeCoverModel" 184 (Int64.ofInt 20) ∈ jm_wG := by
  rw [show Int64.ofInt 20 = (20 : Int64) by decide]
  exact jw_1044
theorem jc_1064 : Cond.constant "CodeCoverModel" 192 (Int32.ofInt 1000000) ∈ jm_wG := by
  rw [show Int32.ofInt 1000000 = (1000000 : Int32) by decide]
  exact jw_1064
theorem jc_1093 : Cond.constantLong "CodeCoverModel" 220 (Int64.ofInt 2) ∈ jm_wG := by
  rw [show Int64.ofInt 2 = (2 : Int64) by decide]
  exact jw_1093
theorem jc_1094 : Cond.constantLong "CodeCoverModel" 222 (Int64.ofInt 8) ∈ jm_wG := by
  rw [show Int64.ofInt 8 = (8 : Int64) by decide]
  exact jw_1094
theorem jc_1099 : Cond.constantLong "CodeCoverModel" 226 (Int64.ofInt 6) ∈ jm_wG := by
  rw [show Int64.ofInt 6 = (6 : Int64) by decide]
  exact jw_1099
theorem jc_1103 : Cond.constantLong "CodeCoverModel" 224 (Int64.ofInt 5) ∈ jm_wG := by
  rw [show Int64.ofInt 5 = (5 : Int64) by decide]
  exact jw_1103
theorem jc_1172 : Cond.constantLong "CodeCoverModel" 269 (Int64.ofInt 63) ∈ jm_wG := by
  rw [show Int64.ofInt 63 = (63 : Int64) by decide]
  exact jw_1172
theorem jc_1177 : Cond.constantLong "CodeCoverModel" 271 (Int64.ofInt 100) ∈ jm_wG := by
  rw [show Int64.ofInt 100 = (100 : Int64) by decide]
  exact jw_1177
theorem jc_1205 : Cond.constantLong "CodeCoverModel" 282 (Int64.ofInt 12) ∈ jm_wG := by
  rw [show Int64.ofInt 12 = (12 : Int64) by decide]
  exact jw_1205
theorem jc_1221 : Cond.constantLong "CodeCoverModel" 297 (Int64.ofInt 15) ∈ jm_wG := by
  rw [show Int64.ofInt 15 = (15 : Int64) by decide]
  exact jw_1221
theorem jc_1237 : Cond.constantLong "CodeCoverModel" 309 (Int64.ofInt 3) ∈ jm_wG := by
  rw [show Int64.ofInt 3 = (3 : Int64) by decide]
  exact jw_1237
theorem jc_1246 : Cond.constant "CodeCoverModel" 305 (Int32.ofInt 3581577) ∈ jm_wG := by
  rw [show Int32.ofInt 3581577 = (3581577 : Int32) by decide]
  exact jw_1246
