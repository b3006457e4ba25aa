theorem jm_sok_tail {n : Nat} {v : jm_V} {st : List jm_V} (h : jm_sok n (v :: st)) : jm_sok n st := fun w hw => h w (List.mem_cons_of_mem _ hw)
theorem jm_sok_head {n : Nat} {v : jm_V} {st : List jm_V} (h : jm_sok n (v :: st)) : jm_ok n v := h v List.mem_cons_self
theorem jm_sok_cons {n : Nat} {v : jm_V} {st : List jm_V} (hv : jm_ok n v) (h : jm_sok n st) : jm_sok n (v :: st) := by
  intro w hw
  rcases List.mem_cons.mp hw with rfl | q
  · exact hv
  · exact h w q
theorem jm_add32 (x y : Int) : Int32.ofInt x + Int32.ofInt y = Int32.ofInt (jm_w32 (x + y)) := by
  apply Int32.toInt_inj.mp
  rw [Int32.toInt_add, jm_i32, jm_i32, jm_i32, jm_w32_id (jm_w32_o _)]
  show (jm_w32 x + jm_w32 y).bmod 4294967296 = _
  unfold jm_w32
  simp
theorem jm_sub32 (x y : Int) : Int32.ofInt x - Int32.ofInt y = Int32.ofInt (jm_w32 (x - y)) := by
  apply Int32.toInt_inj.mp
  rw [Int32.toInt_sub, jm_i32, jm_i32, jm_i32, jm_w32_id (jm_w32_o _)]
  show (jm_w32 x - jm_w32 y).bmod 4294967296 = _
  unfold jm_w32
  simp
theorem jm_mul32 (x y : Int) : Int32.ofInt x * Int32.ofInt y = Int32.ofInt (jm_w32 (x * y)) := by
  apply Int32.toInt_inj.mp
  rw [Int32.toInt_mul, jm_i32, jm_i32, jm_i32, jm_w32_id (jm_w32_o _)]
  show (jm_w32 x * jm_w32 y).bmod 4294967296 = _
  unfold jm_w32
  simp
theorem jm_add64 (x y : Int) : Int64.ofInt x + Int64.ofInt y = Int64.ofInt (jm_w64 (x + y)) := by
  apply Int64.toInt_inj.mp
  rw [Int64.toInt_add, jm_i64, jm_i64, jm_i64, jm_w64_id (jm_w64_o _)]
  show (jm_w64 x + jm_w64 y).bmod 18446744073709551616 = _
  unfold jm_w64
  simp
theorem jm_sub64 (x y : Int) : Int64.ofInt x - Int64.ofInt y = Int64.ofInt (jm_w64 (x - y)) := by
  apply Int64.toInt_inj.mp
  rw [Int64.toInt_sub, jm_i64, jm_i64, jm_i64, jm_w64_id (jm_w64_o _)]
  show (jm_w64 x - jm_w64 y).bmod 18446744073709551616 = _
  unfold jm_w64
  simp
theorem jm_mul64 (x y : Int) : Int64.ofInt x * Int64.ofInt y = Int64.ofInt (jm_w64 (x * y)) := by
  apply Int64.toInt_inj.mp
  rw [Int64.toInt_mul, jm_i64, jm_i64, jm_i64, jm_w64_id (jm_w64_o _)]
  show (jm_w64 x * jm_w64 y).bmod 18446744073709551616 = _
  unfold jm_w64
  simp
def jv_and (x y : Int) : Int := (Int32.ofInt x &&& Int32.ofInt y).toInt
def jv_or (x y : Int) : Int := (Int32.ofInt x ||| Int32.ofInt y).toInt
def jv_xor (x y : Int) : Int := (Int32.ofInt x ^^^ Int32.ofInt y).toInt
def jv_div (x y : Int) : Int := (Int32.ofInt x / Int32.ofInt y).toInt
def jv_rem (x y : Int) : Int := (Int32.ofInt x - Int32.ofInt x / Int32.ofInt y * Int32.ofInt y).toInt
def jv_shl (x y : Int) : Int := (Int32.ofInt x <<< (Int32.ofInt y &&& 31)).toInt
def jv_shr (x y : Int) : Int := (Int32.ofInt x >>> (Int32.ofInt y &&& 31)).toInt
def jv_ushr (x y : Int) : Int := ((Int32.ofInt x).toUInt32 >>> ((Int32.ofInt y).toUInt32 &&& Int32.toUInt32 31)).toInt32.toInt
def jv_land (x y : Int) : Int := (Int64.ofInt x &&& Int64.ofInt y).toInt
def jv_lor (x y : Int) : Int := (Int64.ofInt x ||| Int64.ofInt y).toInt
def jv_lxor (x y : Int) : Int := (Int64.ofInt x ^^^ Int64.ofInt y).toInt
def jv_lshl (x y : Int) : Int := (Int64.ofInt x <<< ((Int32.ofInt y).toInt64 &&& 63)).toInt
def jv_lcmp (x y : Int) : Int := if y < x then 1 else if x = y then 0 else -1
theorem jm_lt32 {x y : Int} (hx : jm_o32 x) (hy : jm_o32 y) : Int32.ofInt x < Int32.ofInt y ↔ x < y := by rw [Int32.lt_iff_toInt_lt, jm_i32o hx, jm_i32o hy]
theorem jm_le32 {x y : Int} (hx : jm_o32 x) (hy : jm_o32 y) : Int32.ofInt x ≤ Int32.ofInt y ↔ x ≤ y := by rw [Int32.le_iff_toInt_le, jm_i32o hx, jm_i32o hy]
theorem jm_eq32 {x y : Int} (hx : jm_o32 x) (hy : jm_o32 y) : Int32.ofInt x = Int32.ofInt y ↔ x = y := by rw [← Int32.toInt_inj, jm_i32o hx, jm_i32o hy]
theorem jm_lt64 {x y : Int} (hx : jm_o64 x) (hy : jm_o64 y) : Int64.ofInt x < Int64.ofInt y ↔ x < y := by rw [Int64.lt_iff_toInt_lt, jm_i64o hx, jm_i64o hy]
theorem jm_eq64 {x y : Int} (hx : jm_o64 x) (hy : jm_o64 y) : Int64.ofInt x = Int64.ofInt y ↔ x = y := by rw [← Int64.toInt_inj, jm_i64o hx, jm_i64o hy]
theorem jm_o0 : jm_o32 0 := by unfold jm_o32; omega
theorem jm_z32 : (0 : Int32) = Int32.ofInt 0 := by decide
theorem jm_lcmp_eq {x y : Int} (hx : jm_o64 x) (hy : jm_o64 y) : lg_cmp (Int64.ofInt x) (Int64.ofInt y) = Int32.ofInt (jv_lcmp x y) := by
  unfold lg_cmp jv_lcmp
  simp only [gt_iff_lt, jm_lt64 hy hx, jm_eq64 hx hy]
  split
  · rfl
  · split <;> rfl
theorem jm_lcmp_o (x y : Int) : jm_o32 (jv_lcmp x y) := by
  unfold jv_lcmp jm_o32
  split
  · omega
  · split <;> omega
theorem jm_iconst {E : jm_Env} {M : jm_M} {d cu su pc : Nat} {ls : List (Option jm_V)} {st : List jm_V} {sh : List jm_C} {h : jm_H} {Q : jm_Q} {n : Int} (hd : decode M.2.1 pc = .ok (.iconst n, 1)) (hn : jm_o32 n)
    (k : jm_G E M d cu su (pc + 1) ls (jm_I n :: st) sh h Q) : jm_G E M d cu su pc ls st sh h Q := by
  intro p e s m args below meth c H locs as0 as A lsM cx hS hA hx hw hl hlo hso hln
  exact lv_iconst cx.1 cx.2.1 hd rfl (k p e s m args below meth c H locs as0 as A lsM cx hS hA hx hw hl hlo (jm_sok_cons hn hso) hln)
theorem jm_bipush {E : jm_Env} {M : jm_M} {d cu su pc : Nat} {ls : List (Option jm_V)} {st : List jm_V} {sh : List jm_C} {h : jm_H} {Q : jm_Q} {n : Int} (hd : decode M.2.1 pc = .ok (.bipush n, 2)) (hn : (Int8.ofInt n).toInt32 = Int32.ofInt n ∧ jm_o32 n)
    (k : jm_G E M d cu su (pc + 2) ls (jm_I n :: st) sh h Q) : jm_G E M d cu su pc ls st sh h Q := by
  intro p e s m args below meth c H locs as0 as A lsM cx hS hA hx hw hl hlo hso hln
  exact lv_bipush cx.1 cx.2.1 hd hn.1 (k p e s m args below meth c H locs as0 as A lsM cx hS hA hx hw hl hlo (jm_sok_cons hn.2 hso) hln)
theorem jm_sipush {E : jm_Env} {M : jm_M} {d cu su pc : Nat} {ls : List (Option jm_V)} {st : List jm_V} {sh : List jm_C} {h : jm_H} {Q : jm_Q} {n : Int} (hd : decode M.2.1 pc = .ok (.sipush n, 3)) (hn : (Int16.ofInt n).toInt32 = Int32.ofInt n ∧ jm_o32 n)
    (k : jm_G E M d cu su (pc + 3) ls (jm_I n :: st) sh h Q) : jm_G E M d cu su pc ls st sh h Q := by
  intro p e s m args below meth c H locs as0 as A lsM cx hS hA hx hw hl hlo hso hln
  exact lv_sipush cx.1 cx.2.1 hd hn.1 (k p e s m args below meth c H locs as0 as A lsM cx hS hA hx hw hl hlo (jm_sok_cons hn.2 hso) hln)
theorem jm_lconst {E : jm_Env} {M : jm_M} {d cu su pc : Nat} {ls : List (Option jm_V)} {st : List jm_V} {sh : List jm_C} {h : jm_H} {Q : jm_Q} {n : Fin 2} {x : Int} (hd : decode M.2.1 pc = .ok (.lconst n, 1)) (hn : Int64.ofNat (n : Nat) = Int64.ofInt x ∧ jm_o64 x)
    (k : jm_G E M d cu su (pc + 1) ls (jm_L x :: st) sh h Q) : jm_G E M d cu su pc ls st sh h Q := by
  intro p e s m args below meth c H locs as0 as A lsM cx hS hA hx hw hl hlo hso hln
  exact lv_lconst cx.1 cx.2.1 hd hn.1 (k p e s m args below meth c H locs as0 as A lsM cx hS hA hx hw hl hlo (jm_sok_cons hn.2 hso) hln)
theorem jm_ldc {E : jm_Env} {M : jm_M} {d cu su pc : Nat} {ls : List (Option jm_V)} {st : List jm_V} {sh : List jm_C} {h : jm_H} {Q : jm_Q} {i : Nat} {x : Int} (hd : decode M.2.1 pc = .ok (.ldc i, 2)) (hc : Cond.constant M.1.cls i (Int32.ofInt x) ∈ jm_wG) (hn : jm_o32 x)
    (k : jm_G E M d cu su (pc + 2) ls (jm_I x :: st) sh h Q) : jm_G E M d cu su pc ls st sh h Q := by
  intro p e s m args below meth c H locs as0 as A lsM cx hS hA hx hw hl hlo hso hln
  exact lv_ldc cx.1 cx.2.1 cx.2.2.2.1 (cx.2.2.2.2.1 _ (List.mem_cons_of_mem _ hc)) hd (k p e s m args below meth c H locs as0 as A lsM cx hS hA hx hw hl hlo (jm_sok_cons hn hso) hln)
theorem jm_ldcw {E : jm_Env} {M : jm_M} {d cu su pc : Nat} {ls : List (Option jm_V)} {st : List jm_V} {sh : List jm_C} {h : jm_H} {Q : jm_Q} {i : Nat} {x : Int} (hd : decode M.2.1 pc = .ok (.ldc_w i, 3)) (hc : Cond.constant M.1.cls i (Int32.ofInt x) ∈ jm_wG) (hn : jm_o32 x)
    (k : jm_G E M d cu su (pc + 3) ls (jm_I x :: st) sh h Q) : jm_G E M d cu su pc ls st sh h Q := by
  intro p e s m args below meth c H locs as0 as A lsM cx hS hA hx hw hl hlo hso hln
  exact lv_ldcw cx.1 cx.2.1 cx.2.2.2.1 (cx.2.2.2.2.1 _ (List.mem_cons_of_mem _ hc)) hd (k p e s m args below meth c H locs as0 as A lsM cx hS hA hx hw hl hlo (jm_sok_cons hn hso) hln)
theorem jm_ldc2 {E : jm_Env} {M : jm_M} {d cu su pc : Nat} {ls : List (Option jm_V)} {st : List jm_V} {sh : List jm_C} {h : jm_H} {Q : jm_Q} {i : Nat} {x : Int} (hd : decode M.2.1 pc = .ok (.ldc2_w i, 3)) (hc : Cond.constantLong M.1.cls i (Int64.ofInt x) ∈ jm_wG) (hn : jm_o64 x)
    (k : jm_G E M d cu su (pc + 3) ls (jm_L x :: st) sh h Q) : jm_G E M d cu su pc ls st sh h Q := by
  intro p e s m args below meth c H locs as0 as A lsM cx hS hA hx hw hl hlo hso hln
  exact lv_ldc2 cx.1 cx.2.1 cx.2.2.2.1 (cx.2.2.2.2.1 _ (List.mem_cons_of_mem _ hc)) hd (k p e s m args below meth c H locs as0 as A lsM cx hS hA hx hw hl hlo (jm_sok_cons hn hso) hln)
theorem jm_iload_n {E : jm_Env} {M : jm_M} {d cu su pc : Nat} {ls : List (Option jm_V)} {st : List jm_V} {sh : List jm_C} {h : jm_H} {Q : jm_Q} {n : Fin 4} {i : Nat} {x : Int} (hd : decode M.2.1 pc = .ok (.iload_n n, 1)) (hi : (n : Nat) = i) (hv : ls[i]? = some (some (jm_I x)))
    (k : jm_G E M d cu su (pc + 1) ls (jm_I x :: st) sh h Q) : jm_G E M d cu su pc ls st sh h Q := by
  intro p e s m args below meth c H locs as0 as A lsM cx hS hA hx hw hl hlo hso hln
  exact lv_iload_n cx.1 cx.2.1 hd hi (jm_lv_at hl hv) (k p e s m args below meth c H locs as0 as A lsM cx hS hA hx hw hl hlo (jm_sok_cons (hlo _ _ hv) hso) hln)
theorem jm_iload {E : jm_Env} {M : jm_M} {d cu su pc : Nat} {ls : List (Option jm_V)} {st : List jm_V} {sh : List jm_C} {h : jm_H} {Q : jm_Q} {i : Nat} {x : Int} (hd : decode M.2.1 pc = .ok (.iload i, 2)) (hv : ls[i]? = some (some (jm_I x)))
    (k : jm_G E M d cu su (pc + 2) ls (jm_I x :: st) sh h Q) : jm_G E M d cu su pc ls st sh h Q := by
  intro p e s m args below meth c H locs as0 as A lsM cx hS hA hx hw hl hlo hso hln
  exact lv_iload cx.1 cx.2.1 hd (jm_lv_at hl hv) (k p e s m args below meth c H locs as0 as A lsM cx hS hA hx hw hl hlo (jm_sok_cons (hlo _ _ hv) hso) hln)
theorem jm_istore_n {E : jm_Env} {M : jm_M} {d cu su pc : Nat} {ls : List (Option jm_V)} {st : List jm_V} {sh : List jm_C} {h : jm_H} {Q : jm_Q} {n : Fin 4} {i : Nat} {x : Int} (hd : decode M.2.1 pc = .ok (.istore_n n, 1)) (hi : (n : Nat) = i) (hn : i < M.2.2.1) {ls2 : List (Option jm_V)} (h2 : jm_st ls i (jm_I x) = ls2)
    (k : jm_G E M d cu su (pc + 1) ls2 st sh h Q) : jm_G E M d cu su pc ls (jm_I x :: st) sh h Q := by
  intro p e s m args below meth c H locs as0 as A lsM cx hS hA hx hw hl hlo hso hln
  subst h2
  exact lv_istore_n cx.1 cx.2.1 hd hi hl hn rfl (fun ls' hl' => k p e s m args below meth c H locs as0 as A ls' cx hS hA hx hw (jm_st_has1 rfl hl') (jm_st_ok hlo (jm_sok_head hso)) (jm_sok_tail hso) (by rw [jm_st_len]; exact hln))
theorem jm_istore {E : jm_Env} {M : jm_M} {d cu su pc : Nat} {ls : List (Option jm_V)} {st : List jm_V} {sh : List jm_C} {h : jm_H} {Q : jm_Q} {i : Nat} {x : Int} (hd : decode M.2.1 pc = .ok (.istore i, 2)) (hn : i < M.2.2.1) {ls2 : List (Option jm_V)} (h2 : jm_st ls i (jm_I x) = ls2)
    (k : jm_G E M d cu su (pc + 2) ls2 st sh h Q) : jm_G E M d cu su pc ls (jm_I x :: st) sh h Q := by
  intro p e s m args below meth c H locs as0 as A lsM cx hS hA hx hw hl hlo hso hln
  subst h2
  exact lv_istore cx.1 cx.2.1 hd hl hn rfl (fun ls' hl' => k p e s m args below meth c H locs as0 as A ls' cx hS hA hx hw (jm_st_has1 rfl hl') (jm_st_ok hlo (jm_sok_head hso)) (jm_sok_tail hso) (by rw [jm_st_len]; exact hln))
theorem jm_lload_n {E : jm_Env} {M : jm_M} {d cu su pc : Nat} {ls : List (Option jm_V)} {st : List jm_V} {sh : List jm_C} {h : jm_H} {Q : jm_Q} {n : Fin 4} {i : Nat} {x : Int} (hd : decode M.2.1 pc = .ok (.lload_n n, 1)) (hi : (n : Nat) = i) (hv : ls[i]? = some (some (jm_L x)))
    (k : jm_G E M d cu su (pc + 1) ls (jm_L x :: st) sh h Q) : jm_G E M d cu su pc ls st sh h Q := by
  intro p e s m args below meth c H locs as0 as A lsM cx hS hA hx hw hl hlo hso hln
  exact lv_lload_n cx.1 cx.2.1 hd hi (jm_lv_at hl hv) (k p e s m args below meth c H locs as0 as A lsM cx hS hA hx hw hl hlo (jm_sok_cons (hlo _ _ hv) hso) hln)
theorem jm_lload {E : jm_Env} {M : jm_M} {d cu su pc : Nat} {ls : List (Option jm_V)} {st : List jm_V} {sh : List jm_C} {h : jm_H} {Q : jm_Q} {i : Nat} {x : Int} (hd : decode M.2.1 pc = .ok (.lload i, 2)) (hv : ls[i]? = some (some (jm_L x)))
    (k : jm_G E M d cu su (pc + 2) ls (jm_L x :: st) sh h Q) : jm_G E M d cu su pc ls st sh h Q := by
  intro p e s m args below meth c H locs as0 as A lsM cx hS hA hx hw hl hlo hso hln
  exact lv_lload cx.1 cx.2.1 hd (jm_lv_at hl hv) (k p e s m args below meth c H locs as0 as A lsM cx hS hA hx hw hl hlo (jm_sok_cons (hlo _ _ hv) hso) hln)
theorem jm_lstore_n {E : jm_Env} {M : jm_M} {d cu su pc : Nat} {ls : List (Option jm_V)} {st : List jm_V} {sh : List jm_C} {h : jm_H} {Q : jm_Q} {n : Fin 4} {i : Nat} {x : Int} (hd : decode M.2.1 pc = .ok (.lstore_n n, 1)) (hi : (n : Nat) = i) (hn : i + 1 < M.2.2.1) {ls2 : List (Option jm_V)} (h2 : jm_st ls i (jm_L x) = ls2)
    (k : jm_G E M d cu su (pc + 1) ls2 st sh h Q) : jm_G E M d cu su pc ls (jm_L x :: st) sh h Q := by
  intro p e s m args below meth c H locs as0 as A lsM cx hS hA hx hw hl hlo hso hln
  subst h2
  exact lv_lstore_n cx.1 cx.2.1 hd hi hl hn rfl (fun ls' hl' => k p e s m args below meth c H locs as0 as A ls' cx hS hA hx hw (jm_st_has2 rfl hl') (jm_st_ok hlo (jm_sok_head hso)) (jm_sok_tail hso) (by rw [jm_st_len]; exact hln))
theorem jm_lstore {E : jm_Env} {M : jm_M} {d cu su pc : Nat} {ls : List (Option jm_V)} {st : List jm_V} {sh : List jm_C} {h : jm_H} {Q : jm_Q} {i : Nat} {x : Int} (hd : decode M.2.1 pc = .ok (.lstore i, 2)) (hn : i + 1 < M.2.2.1) {ls2 : List (Option jm_V)} (h2 : jm_st ls i (jm_L x) = ls2)
    (k : jm_G E M d cu su (pc + 2) ls2 st sh h Q) : jm_G E M d cu su pc ls (jm_L x :: st) sh h Q := by
  intro p e s m args below meth c H locs as0 as A lsM cx hS hA hx hw hl hlo hso hln
  subst h2
  exact lv_lstore cx.1 cx.2.1 hd hl hn rfl (fun ls' hl' => k p e s m args below meth c H locs as0 as A ls' cx hS hA hx hw (jm_st_has2 rfl hl') (jm_st_ok hlo (jm_sok_head hso)) (jm_sok_tail hso) (by rw [jm_st_len]; exact hln))
theorem jm_aload_n {E : jm_Env} {M : jm_M} {d cu su pc : Nat} {ls : List (Option jm_V)} {st : List jm_V} {sh : List jm_C} {h : jm_H} {Q : jm_Q} {n : Fin 4} {i : Nat} {x : Nat} (hd : decode M.2.1 pc = .ok (.aload_n n, 1)) (hi : (n : Nat) = i) (hv : ls[i]? = some (some (jm_R x)))
    (k : jm_G E M d cu su (pc + 1) ls (jm_R x :: st) sh h Q) : jm_G E M d cu su pc ls st sh h Q := by
  intro p e s m args below meth c H locs as0 as A lsM cx hS hA hx hw hl hlo hso hln
  exact lv_aload_n cx.1 cx.2.1 hd hi (jm_lv_at hl hv) (k p e s m args below meth c H locs as0 as A lsM cx hS hA hx hw hl hlo (jm_sok_cons (hlo _ _ hv) hso) hln)
theorem jm_aload {E : jm_Env} {M : jm_M} {d cu su pc : Nat} {ls : List (Option jm_V)} {st : List jm_V} {sh : List jm_C} {h : jm_H} {Q : jm_Q} {i : Nat} {x : Nat} (hd : decode M.2.1 pc = .ok (.aload i, 2)) (hv : ls[i]? = some (some (jm_R x)))
    (k : jm_G E M d cu su (pc + 2) ls (jm_R x :: st) sh h Q) : jm_G E M d cu su pc ls st sh h Q := by
  intro p e s m args below meth c H locs as0 as A lsM cx hS hA hx hw hl hlo hso hln
  exact lv_aload cx.1 cx.2.1 hd (jm_lv_at hl hv) (k p e s m args below meth c H locs as0 as A lsM cx hS hA hx hw hl hlo (jm_sok_cons (hlo _ _ hv) hso) hln)
theorem jm_astore_n {E : jm_Env} {M : jm_M} {d cu su pc : Nat} {ls : List (Option jm_V)} {st : List jm_V} {sh : List jm_C} {h : jm_H} {Q : jm_Q} {n : Fin 4} {i : Nat} {x : Nat} (hd : decode M.2.1 pc = .ok (.astore_n n, 1)) (hi : (n : Nat) = i) (hn : i < M.2.2.1) {ls2 : List (Option jm_V)} (h2 : jm_st ls i (jm_R x) = ls2)
    (k : jm_G E M d cu su (pc + 1) ls2 st sh h Q) : jm_G E M d cu su pc ls (jm_R x :: st) sh h Q := by
  intro p e s m args below meth c H locs as0 as A lsM cx hS hA hx hw hl hlo hso hln
  subst h2
  exact lv_astore_n cx.1 cx.2.1 hd hi hl hn rfl (fun ls' hl' => k p e s m args below meth c H locs as0 as A ls' cx hS hA hx hw (jm_st_has1 rfl hl') (jm_st_ok hlo (jm_sok_head hso)) (jm_sok_tail hso) (by rw [jm_st_len]; exact hln))
theorem jm_astore {E : jm_Env} {M : jm_M} {d cu su pc : Nat} {ls : List (Option jm_V)} {st : List jm_V} {sh : List jm_C} {h : jm_H} {Q : jm_Q} {i : Nat} {x : Nat} (hd : decode M.2.1 pc = .ok (.astore i, 2)) (hn : i < M.2.2.1) {ls2 : List (Option jm_V)} (h2 : jm_st ls i (jm_R x) = ls2)
    (k : jm_G E M d cu su (pc + 2) ls2 st sh h Q) : jm_G E M d cu su pc ls (jm_R x :: st) sh h Q := by
  intro p e s m args below meth c H locs as0 as A lsM cx hS hA hx hw hl hlo hso hln
  subst h2
  exact lv_astore cx.1 cx.2.1 hd hl hn rfl (fun ls' hl' => k p e s m args below meth c H locs as0 as A ls' cx hS hA hx hw (jm_st_has1 rfl hl') (jm_st_ok hlo (jm_sok_head hso)) (jm_sok_tail hso) (by rw [jm_st_len]; exact hln))
theorem jm_iinc {E : jm_Env} {M : jm_M} {d cu su pc : Nat} {ls : List (Option jm_V)} {st : List jm_V} {sh : List jm_C} {h : jm_H} {Q : jm_Q} {i : Nat} {n x : Int} (hd : decode M.2.1 pc = .ok (.iinc i n, 3)) (hv : ls[i]? = some (some (jm_I x))) (hn : i < M.2.2.1) {ls2 : List (Option jm_V)} (h2 : jm_st ls i (jm_I (jm_w32 (x + n))) = ls2)
    (k : jm_G E M d cu su (pc + 3) ls2 st sh h Q) : jm_G E M d cu su pc ls st sh h Q := by
  intro p e s m args below meth c H locs as0 as A lsM cx hS hA hx hw hl hlo hso hln
  subst h2
  obtain ⟨j, hj⟩ := List.getElem?_of_mem (jm_lv_in (as := as) hv)
  exact lv_iinc cx.1 cx.2.1 hd hl hj (jm_add32 x n) hn rfl (fun ls' hl' => k p e s m args below meth c H locs as0 as A ls' cx hS hA hx hw (jm_st_has1 rfl hl') (jm_st_ok hlo (jm_w32_o _)) hso (by rw [jm_st_len]; exact hln))
theorem jm_iadd {E : jm_Env} {M : jm_M} {d cu su pc : Nat} {ls : List (Option jm_V)} {st : List jm_V} {sh : List jm_C} {h : jm_H} {Q : jm_Q} {x y : Int} (hd : decode M.2.1 pc = .ok (.iadd, 1))
    (k : jm_G E M d cu su (pc + 1) ls (jm_I (jm_w32 (x + y)) :: st) sh h Q) : jm_G E M d cu su pc ls (jm_I y :: jm_I x :: st) sh h Q := by
  intro p e s m args below meth c H locs as0 as A lsM cx hS hA hx hw hl hlo hso hln
  refine lv_iadd cx.1 cx.2.1 hd ?_
  rw [jm_add32 x y]
  exact k p e s m args below meth c H locs as0 as A lsM cx hS hA hx hw hl hlo (jm_sok_cons (jm_w32_o _) (jm_sok_tail (jm_sok_tail hso))) hln
theorem jm_isub {E : jm_Env} {M : jm_M} {d cu su pc : Nat} {ls : List (Option jm_V)} {st : List jm_V} {sh : List jm_C} {h : jm_H} {Q : jm_Q} {x y : Int} (hd : decode M.2.1 pc = .ok (.isub, 1))
    (k : jm_G E M d cu su (pc + 1) ls (jm_I (jm_w32 (x - y)) :: st) sh h Q) : jm_G E M d cu su pc ls (jm_I y :: jm_I x :: st) sh h Q := by
  intro p e s m args below meth c H locs as0 as A lsM cx hS hA hx hw hl hlo hso hln
  refine lv_isub cx.1 cx.2.1 hd ?_
  rw [jm_sub32 x y]
  exact k p e s m args below meth c H locs as0 as A lsM cx hS hA hx hw hl hlo (jm_sok_cons (jm_w32_o _) (jm_sok_tail (jm_sok_tail hso))) hln
theorem jm_imul {E : jm_Env} {M : jm_M} {d cu su pc : Nat} {ls : List (Option jm_V)} {st : List jm_V} {sh : List jm_C} {h : jm_H} {Q : jm_Q} {x y : Int} (hd : decode M.2.1 pc = .ok (.imul, 1))
    (k : jm_G E M d cu su (pc + 1) ls (jm_I (jm_w32 (x * y)) :: st) sh h Q) : jm_G E M d cu su pc ls (jm_I y :: jm_I x :: st) sh h Q := by
  intro p e s m args below meth c H locs as0 as A lsM cx hS hA hx hw hl hlo hso hln
  refine lv_imul cx.1 cx.2.1 hd ?_
  rw [jm_mul32 x y]
  exact k p e s m args below meth c H locs as0 as A lsM cx hS hA hx hw hl hlo (jm_sok_cons (jm_w32_o _) (jm_sok_tail (jm_sok_tail hso))) hln
theorem jm_ladd {E : jm_Env} {M : jm_M} {d cu su pc : Nat} {ls : List (Option jm_V)} {st : List jm_V} {sh : List jm_C} {h : jm_H} {Q : jm_Q} {x y : Int} (hd : decode M.2.1 pc = .ok (.ladd, 1))
    (k : jm_G E M d cu su (pc + 1) ls (jm_L (jm_w64 (x + y)) :: st) sh h Q) : jm_G E M d cu su pc ls (jm_L y :: jm_L x :: st) sh h Q := by
  intro p e s m args below meth c H locs as0 as A lsM cx hS hA hx hw hl hlo hso hln
  refine lv_ladd cx.1 cx.2.1 hd ?_
  rw [jm_add64 x y]
  exact k p e s m args below meth c H locs as0 as A lsM cx hS hA hx hw hl hlo (jm_sok_cons (jm_w64_o _) (jm_sok_tail (jm_sok_tail hso))) hln
theorem jm_lsub {E : jm_Env} {M : jm_M} {d cu su pc : Nat} {ls : List (Option jm_V)} {st : List jm_V} {sh : List jm_C} {h : jm_H} {Q : jm_Q} {x y : Int} (hd : decode M.2.1 pc = .ok (.lsub, 1))
    (k : jm_G E M d cu su (pc + 1) ls (jm_L (jm_w64 (x - y)) :: st) sh h Q) : jm_G E M d cu su pc ls (jm_L y :: jm_L x :: st) sh h Q := by
  intro p e s m args below meth c H locs as0 as A lsM cx hS hA hx hw hl hlo hso hln
  refine lv_lsub cx.1 cx.2.1 hd ?_
  rw [jm_sub64 x y]
  exact k p e s m args below meth c H locs as0 as A lsM cx hS hA hx hw hl hlo (jm_sok_cons (jm_w64_o _) (jm_sok_tail (jm_sok_tail hso))) hln
theorem jm_lmul {E : jm_Env} {M : jm_M} {d cu su pc : Nat} {ls : List (Option jm_V)} {st : List jm_V} {sh : List jm_C} {h : jm_H} {Q : jm_Q} {x y : Int} (hd : decode M.2.1 pc = .ok (.lmul, 1))
    (k : jm_G E M d cu su (pc + 1) ls (jm_L (jm_w64 (x * y)) :: st) sh h Q) : jm_G E M d cu su pc ls (jm_L y :: jm_L x :: st) sh h Q := by
  intro p e s m args below meth c H locs as0 as A lsM cx hS hA hx hw hl hlo hso hln
  refine lv_lmul cx.1 cx.2.1 hd ?_
  rw [jm_mul64 x y]
  exact k p e s m args below meth c H locs as0 as A lsM cx hS hA hx hw hl hlo (jm_sok_cons (jm_w64_o _) (jm_sok_tail (jm_sok_tail hso))) hln
theorem jm_iand {E : jm_Env} {M : jm_M} {d cu su pc : Nat} {ls : List (Option jm_V)} {st : List jm_V} {sh : List jm_C} {h : jm_H} {Q : jm_Q} {x y : Int} (hd : decode M.2.1 pc = .ok (.iand, 1))
    (k : jm_G E M d cu su (pc + 1) ls (jm_I (jv_and x y) :: st) sh h Q) : jm_G E M d cu su pc ls (jm_I y :: jm_I x :: st) sh h Q := by
  intro p e s m args below meth c H locs as0 as A lsM cx hS hA hx hw hl hlo hso hln
  refine lv_iand cx.1 cx.2.1 hd ?_
  rw [jm_e32 (x := jv_and x y) rfl]
  exact k p e s m args below meth c H locs as0 as A lsM cx hS hA hx hw hl hlo (jm_sok_cons (jm_to32 _) (jm_sok_tail (jm_sok_tail hso))) hln
theorem jm_ior {E : jm_Env} {M : jm_M} {d cu su pc : Nat} {ls : List (Option jm_V)} {st : List jm_V} {sh : List jm_C} {h : jm_H} {Q : jm_Q} {x y : Int} (hd : decode M.2.1 pc = .ok (.ior, 1))
    (k : jm_G E M d cu su (pc + 1) ls (jm_I (jv_or x y) :: st) sh h Q) : jm_G E M d cu su pc ls (jm_I y :: jm_I x :: st) sh h Q := by
  intro p e s m args below meth c H locs as0 as A lsM cx hS hA hx hw hl hlo hso hln
  refine lv_ior cx.1 cx.2.1 hd ?_
  rw [jm_e32 (x := jv_or x y) rfl]
  exact k p e s m args below meth c H locs as0 as A lsM cx hS hA hx hw hl hlo (jm_sok_cons (jm_to32 _) (jm_sok_tail (jm_sok_tail hso))) hln
theorem jm_ixor {E : jm_Env} {M : jm_M} {d cu su pc : Nat} {ls : List (Option jm_V)} {st : List jm_V} {sh : List jm_C} {h : jm_H} {Q : jm_Q} {x y : Int} (hd : decode M.2.1 pc = .ok (.ixor, 1))
    (k : jm_G E M d cu su (pc + 1) ls (jm_I (jv_xor x y) :: st) sh h Q) : jm_G E M d cu su pc ls (jm_I y :: jm_I x :: st) sh h Q := by
  intro p e s m args below meth c H locs as0 as A lsM cx hS hA hx hw hl hlo hso hln
  refine lv_ixor cx.1 cx.2.1 hd ?_
  rw [jm_e32 (x := jv_xor x y) rfl]
  exact k p e s m args below meth c H locs as0 as A lsM cx hS hA hx hw hl hlo (jm_sok_cons (jm_to32 _) (jm_sok_tail (jm_sok_tail hso))) hln
theorem jm_land {E : jm_Env} {M : jm_M} {d cu su pc : Nat} {ls : List (Option jm_V)} {st : List jm_V} {sh : List jm_C} {h : jm_H} {Q : jm_Q} {x y : Int} (hd : decode M.2.1 pc = .ok (.land, 1))
    (k : jm_G E M d cu su (pc + 1) ls (jm_L (jv_land x y) :: st) sh h Q) : jm_G E M d cu su pc ls (jm_L y :: jm_L x :: st) sh h Q := by
  intro p e s m args below meth c H locs as0 as A lsM cx hS hA hx hw hl hlo hso hln
  refine lv_land cx.1 cx.2.1 hd ?_
  rw [jm_e64 (x := jv_land x y) rfl]
  exact k p e s m args below meth c H locs as0 as A lsM cx hS hA hx hw hl hlo (jm_sok_cons (jm_to64 _) (jm_sok_tail (jm_sok_tail hso))) hln
theorem jm_lor {E : jm_Env} {M : jm_M} {d cu su pc : Nat} {ls : List (Option jm_V)} {st : List jm_V} {sh : List jm_C} {h : jm_H} {Q : jm_Q} {x y : Int} (hd : decode M.2.1 pc = .ok (.lor, 1))
    (k : jm_G E M d cu su (pc + 1) ls (jm_L (jv_lor x y) :: st) sh h Q) : jm_G E M d cu su pc ls (jm_L y :: jm_L x :: st) sh h Q := by
  intro p e s m args below meth c H locs as0 as A lsM cx hS hA hx hw hl hlo hso hln
  refine lv_lor cx.1 cx.2.1 hd ?_
  rw [jm_e64 (x := jv_lor x y) rfl]
  exact k p e s m args below meth c H locs as0 as A lsM cx hS hA hx hw hl hlo (jm_sok_cons (jm_to64 _) (jm_sok_tail (jm_sok_tail hso))) hln
theorem jm_lxor {E : jm_Env} {M : jm_M} {d cu su pc : Nat} {ls : List (Option jm_V)} {st : List jm_V} {sh : List jm_C} {h : jm_H} {Q : jm_Q} {x y : Int} (hd : decode M.2.1 pc = .ok (.lxor, 1))
    (k : jm_G E M d cu su (pc + 1) ls (jm_L (jv_lxor x y) :: st) sh h Q) : jm_G E M d cu su pc ls (jm_L y :: jm_L x :: st) sh h Q := by
  intro p e s m args below meth c H locs as0 as A lsM cx hS hA hx hw hl hlo hso hln
  refine lv_lxor cx.1 cx.2.1 hd ?_
  rw [jm_e64 (x := jv_lxor x y) rfl]
  exact k p e s m args below meth c H locs as0 as A lsM cx hS hA hx hw hl hlo (jm_sok_cons (jm_to64 _) (jm_sok_tail (jm_sok_tail hso))) hln
theorem jm_ishl {E : jm_Env} {M : jm_M} {d cu su pc : Nat} {ls : List (Option jm_V)} {st : List jm_V} {sh : List jm_C} {h : jm_H} {Q : jm_Q} {x y : Int} (hd : decode M.2.1 pc = .ok (.ishl, 1))
    (k : jm_G E M d cu su (pc + 1) ls (jm_I (jv_shl x y) :: st) sh h Q) : jm_G E M d cu su pc ls (jm_I y :: jm_I x :: st) sh h Q := by
  intro p e s m args below meth c H locs as0 as A lsM cx hS hA hx hw hl hlo hso hln
  refine lv_ishl cx.1 cx.2.1 hd ?_
  rw [jm_e32 (x := jv_shl x y) rfl]
  exact k p e s m args below meth c H locs as0 as A lsM cx hS hA hx hw hl hlo (jm_sok_cons (jm_to32 _) (jm_sok_tail (jm_sok_tail hso))) hln
theorem jm_ishr {E : jm_Env} {M : jm_M} {d cu su pc : Nat} {ls : List (Option jm_V)} {st : List jm_V} {sh : List jm_C} {h : jm_H} {Q : jm_Q} {x y : Int} (hd : decode M.2.1 pc = .ok (.ishr, 1))
    (k : jm_G E M d cu su (pc + 1) ls (jm_I (jv_shr x y) :: st) sh h Q) : jm_G E M d cu su pc ls (jm_I y :: jm_I x :: st) sh h Q := by
  intro p e s m args below meth c H locs as0 as A lsM cx hS hA hx hw hl hlo hso hln
  refine lv_ishr cx.1 cx.2.1 hd ?_
  rw [jm_e32 (x := jv_shr x y) rfl]
  exact k p e s m args below meth c H locs as0 as A lsM cx hS hA hx hw hl hlo (jm_sok_cons (jm_to32 _) (jm_sok_tail (jm_sok_tail hso))) hln
theorem jm_idiv {E : jm_Env} {M : jm_M} {d cu su pc : Nat} {ls : List (Option jm_V)} {st : List jm_V} {sh : List jm_C} {h : jm_H} {Q : jm_Q} {x y : Int} (hd : decode M.2.1 pc = .ok (.idiv, 1)) (hne : ¬ y = 0)
    (k : jm_G E M d cu su (pc + 1) ls (jm_I (jv_div x y) :: st) sh h Q) : jm_G E M d cu su pc ls (jm_I y :: jm_I x :: st) sh h Q := by
  intro p e s m args below meth c H locs as0 as A lsM cx hS hA hx hw hl hlo hso hln
  refine lv_idiv cx.1 cx.2.1 hd (fun q => hne ((jm_eq32 (jm_sok_head hso) jm_o0).mp (by rw [q, jm_z32]))) ?_
  rw [jm_e32 (x := jv_div x y) rfl]
  exact k p e s m args below meth c H locs as0 as A lsM cx hS hA hx hw hl hlo (jm_sok_cons (jm_to32 _) (jm_sok_tail (jm_sok_tail hso))) hln
theorem jm_irem {E : jm_Env} {M : jm_M} {d cu su pc : Nat} {ls : List (Option jm_V)} {st : List jm_V} {sh : List jm_C} {h : jm_H} {Q : jm_Q} {x y : Int} (hd : decode M.2.1 pc = .ok (.irem, 1)) (hne : ¬ y = 0)
    (k : jm_G E M d cu su (pc + 1) ls (jm_I (jv_rem x y) :: st) sh h Q) : jm_G E M d cu su pc ls (jm_I y :: jm_I x :: st) sh h Q := by
  intro p e s m args below meth c H locs as0 as A lsM cx hS hA hx hw hl hlo hso hln
  refine lv_irem cx.1 cx.2.1 hd (fun q => hne ((jm_eq32 (jm_sok_head hso) jm_o0).mp (by rw [q, jm_z32]))) ?_
  rw [jm_e32 (x := jv_rem x y) rfl]
  exact k p e s m args below meth c H locs as0 as A lsM cx hS hA hx hw hl hlo (jm_sok_cons (jm_to32 _) (jm_sok_tail (jm_sok_tail hso))) hln
theorem jm_iushr {E : jm_Env} {M : jm_M} {d cu su pc : Nat} {ls : List (Option jm_V)} {st : List jm_V} {sh : List jm_C} {h : jm_H} {Q : jm_Q} {x y : Int} (hd : decode M.2.1 pc = .ok (.iushr, 1))
    (k : jm_G E M d cu su (pc + 1) ls (jm_I (jv_ushr x y) :: st) sh h Q) : jm_G E M d cu su pc ls (jm_I y :: jm_I x :: st) sh h Q := by
  intro p e s m args below meth c H locs as0 as A lsM cx hS hA hx hw hl hlo hso hln
  exact lv_iushr cx.1 cx.2.1 hd (jm_e32 (x := jv_ushr x y) rfl) (k p e s m args below meth c H locs as0 as A lsM cx hS hA hx hw hl hlo (jm_sok_cons (jm_to32 _) (jm_sok_tail (jm_sok_tail hso))) hln)
theorem jm_lshl {E : jm_Env} {M : jm_M} {d cu su pc : Nat} {ls : List (Option jm_V)} {st : List jm_V} {sh : List jm_C} {h : jm_H} {Q : jm_Q} {x y : Int} (hd : decode M.2.1 pc = .ok (.lshl, 1))
    (k : jm_G E M d cu su (pc + 1) ls (jm_L (jv_lshl x y) :: st) sh h Q) : jm_G E M d cu su pc ls (jm_I y :: jm_L x :: st) sh h Q := by
  intro p e s m args below meth c H locs as0 as A lsM cx hS hA hx hw hl hlo hso hln
  exact lv_lshl cx.1 cx.2.1 hd (jm_e64 (x := jv_lshl x y) rfl) (k p e s m args below meth c H locs as0 as A lsM cx hS hA hx hw hl hlo (jm_sok_cons (jm_to64 _) (jm_sok_tail (jm_sok_tail hso))) hln)
theorem jm_lcmp {E : jm_Env} {M : jm_M} {d cu su pc : Nat} {ls : List (Option jm_V)} {st : List jm_V} {sh : List jm_C} {h : jm_H} {Q : jm_Q} {x y : Int} (hd : decode M.2.1 pc = .ok (.lcmp, 1))
    (k : jm_G E M d cu su (pc + 1) ls (jm_I (jv_lcmp x y) :: st) sh h Q) : jm_G E M d cu su pc ls (jm_L y :: jm_L x :: st) sh h Q := by
  intro p e s m args below meth c H locs as0 as A lsM cx hS hA hx hw hl hlo hso hln
  refine W.lcmp cx.1 cx.2.1 hd ?_
  rw [jm_lcmp_eq (jm_sok_head (jm_sok_tail hso)) (jm_sok_head hso)]
  exact k p e s m args below meth c H locs as0 as A lsM cx hS hA hx hw hl hlo (jm_sok_cons (jm_lcmp_o _ _) (jm_sok_tail (jm_sok_tail hso))) hln
theorem jm_i2l {E : jm_Env} {M : jm_M} {d cu su pc : Nat} {ls : List (Option jm_V)} {st : List jm_V} {sh : List jm_C} {h : jm_H} {Q : jm_Q} {x : Int} (hd : decode M.2.1 pc = .ok (.i2l, 1))
    (k : jm_G E M d cu su (pc + 1) ls (jm_L x :: st) sh h Q) : jm_G E M d cu su pc ls (jm_I x :: st) sh h Q := by
  intro p e s m args below meth c H locs as0 as A lsM cx hS hA hx hw hl hlo hso hln
  have hx0 : jm_o32 x := jm_sok_head hso
  have hx1 : jm_o64 x := ⟨by have := hx0.1; omega, by have := hx0.2; omega⟩
  exact lv_i2l cx.1 cx.2.1 hd (jm_e64 (by rw [Int32.toInt_toInt64, jm_i32o hx0])) (k p e s m args below meth c H locs as0 as A lsM cx hS hA hx hw hl hlo (jm_sok_cons hx1 (jm_sok_tail hso)) hln)
theorem jm_l2i {E : jm_Env} {M : jm_M} {d cu su pc : Nat} {ls : List (Option jm_V)} {st : List jm_V} {sh : List jm_C} {h : jm_H} {Q : jm_Q} {x : Int} (hd : decode M.2.1 pc = .ok (.l2i, 1))
    (k : jm_G E M d cu su (pc + 1) ls (jm_I (jm_w32 x) :: st) sh h Q) : jm_G E M d cu su pc ls (jm_L x :: st) sh h Q := by
  intro p e s m args below meth c H locs as0 as A lsM cx hS hA hx hw hl hlo hso hln
  have hx0 : jm_o64 x := jm_sok_head hso
  exact lv_l2i cx.1 cx.2.1 hd (jm_e32 (by rw [Int64.toInt_toInt32, jm_i64o hx0]; rfl)) (k p e s m args below meth c H locs as0 as A lsM cx hS hA hx hw hl hlo (jm_sok_cons (jm_w32_o _) (jm_sok_tail hso)) hln)
theorem jm_dup {E : jm_Env} {M : jm_M} {d cu su pc : Nat} {ls : List (Option jm_V)} {st : List jm_V} {sh : List jm_C} {h : jm_H} {Q : jm_Q} {v : jm_V} (hd : decode M.2.1 pc = .ok (.dup, 1)) (hc : jm_two (some v) = false)
    (k : jm_G E M d cu su (pc + 1) ls (v :: v :: st) sh h Q) : jm_G E M d cu su pc ls (v :: st) sh h Q := by
  intro p e s m args below meth c H locs as0 as A lsM cx hS hA hx hw hl hlo hso hln
  exact lv_dup cx.1 cx.2.1 hd (by rw [jm_two_cat, hc]; rfl) (k p e s m args below meth c H locs as0 as A lsM cx hS hA hx hw hl hlo (jm_sok_cons (jm_sok_head hso) hso) hln)
theorem jm_pop {E : jm_Env} {M : jm_M} {d cu su pc : Nat} {ls : List (Option jm_V)} {st : List jm_V} {sh : List jm_C} {h : jm_H} {Q : jm_Q} {v : jm_V} (hd : decode M.2.1 pc = .ok (.pop, 1)) (hc : jm_two (some v) = false)
    (k : jm_G E M d cu su (pc + 1) ls st sh h Q) : jm_G E M d cu su pc ls (v :: st) sh h Q := by
  intro p e s m args below meth c H locs as0 as A lsM cx hS hA hx hw hl hlo hso hln
  exact lv_pop cx.1 cx.2.1 hd (by rw [jm_two_cat, hc]; rfl) (k p e s m args below meth c H locs as0 as A lsM cx hS hA hx hw hl hlo (jm_sok_tail hso) hln)
theorem jm_dup2 {E : jm_Env} {M : jm_M} {d cu su pc : Nat} {ls : List (Option jm_V)} {st : List jm_V} {sh : List jm_C} {h : jm_H} {Q : jm_Q} {v w : jm_V} (hd : decode M.2.1 pc = .ok (.dup2, 1)) (hc : jm_two (some v) = false) (hc2 : jm_two (some w) = false)
    (k : jm_G E M d cu su (pc + 1) ls (v :: w :: v :: w :: st) sh h Q) : jm_G E M d cu su pc ls (v :: w :: st) sh h Q := by
  intro p e s m args below meth c H locs as0 as A lsM cx hS hA hx hw hl hlo hso hln
  exact lv_dup2_11 cx.1 cx.2.1 hd (by rw [jm_two_cat, hc]; rfl) (by rw [jm_two_cat, hc2]; rfl) (k p e s m args below meth c H locs as0 as A lsM cx hS hA hx hw hl hlo (jm_sok_cons (jm_sok_head hso) (jm_sok_cons (jm_sok_head (jm_sok_tail hso)) hso)) hln)
theorem jm_goto {E : jm_Env} {M : jm_M} {d cu su pc : Nat} {ls : List (Option jm_V)} {st : List jm_V} {sh : List jm_C} {h : jm_H} {Q : jm_Q} {off : Int} {tgt : Nat} (hd : decode M.2.1 pc = .ok (.goto off, 3)) (ht : (pc : Int) + off = (tgt : Int))
    (k : jm_G E M d cu su tgt ls st sh h Q) : jm_G E M d cu su pc ls st sh h Q := by
  intro p e s m args below meth c H locs as0 as A lsM cx hS hA hx hw hl hlo hso hln
  exact lv_goto cx.1 cx.2.1 hd ht (k p e s m args below meth c H locs as0 as A lsM cx hS hA hx hw hl hlo hso hln)
theorem jm_icmp_eq {E : jm_Env} {M : jm_M} {d cu su pc : Nat} {ls : List (Option jm_V)} {st : List jm_V} {sh : List jm_C} {h : jm_H} {Q : jm_Q} {x y off : Int} {tgt : Nat} (hd : decode M.2.1 pc = .ok (.if_icmp .eq off, 3)) (ht : (pc : Int) + off = (tgt : Int))
    (kt : x = y → jm_G E M d cu su tgt ls st sh h Q) (kf : ¬ x = y → jm_G E M d cu su (pc + 3) ls st sh h Q) : jm_G E M d cu su pc ls (jm_I y :: jm_I x :: st) sh h Q := by
  intro p e s m args below meth c H locs as0 as A lsM cx hS hA hx hw hl hlo hso hln
  have hii := jm_eq32 (jm_sok_head (jm_sok_tail hso)) (jm_sok_head hso)
  exact lv_icmp_eq cx.1 cx.2.1 hd ht (fun q => kt (hii.mp q) p e s m args below meth c H locs as0 as A lsM cx hS hA hx hw hl hlo (jm_sok_tail (jm_sok_tail hso)) hln) (fun q => kf (fun z => q (hii.mpr z)) p e s m args below meth c H locs as0 as A lsM cx hS hA hx hw hl hlo (jm_sok_tail (jm_sok_tail hso)) hln)
theorem jm_if_eq {E : jm_Env} {M : jm_M} {d cu su pc : Nat} {ls : List (Option jm_V)} {st : List jm_V} {sh : List jm_C} {h : jm_H} {Q : jm_Q} {x off : Int} {tgt : Nat} (hd : decode M.2.1 pc = .ok (.ifCond .eq off, 3)) (ht : (pc : Int) + off = (tgt : Int))
    (kt : x = 0 → jm_G E M d cu su tgt ls st sh h Q) (kf : ¬ x = 0 → jm_G E M d cu su (pc + 3) ls st sh h Q) : jm_G E M d cu su pc ls (jm_I x :: st) sh h Q := by
  intro p e s m args below meth c H locs as0 as A lsM cx hS hA hx hw hl hlo hso hln
  have hii := jm_eq32 (jm_sok_head hso) jm_o0
  rw [← jm_z32] at hii
  exact lv_if_eq cx.1 cx.2.1 hd ht (fun q => kt (hii.mp q) p e s m args below meth c H locs as0 as A lsM cx hS hA hx hw hl hlo (jm_sok_tail hso) hln) (fun q => kf (fun z => q (hii.mpr z)) p e s m args below meth c H locs as0 as A lsM cx hS hA hx hw hl hlo (jm_sok_tail hso) hln)
theorem jm_icmp_ne {E : jm_Env} {M : jm_M} {d cu su pc : Nat} {ls : List (Option jm_V)} {st : List jm_V} {sh : List jm_C} {h : jm_H} {Q : jm_Q} {x y off : Int} {tgt : Nat} (hd : decode M.2.1 pc = .ok (.if_icmp .ne off, 3)) (ht : (pc : Int) + off = (tgt : Int))
    (kt : ¬ x = y → jm_G E M d cu su tgt ls st sh h Q) (kf : x = y → jm_G E M d cu su (pc + 3) ls st sh h Q) : jm_G E M d cu su pc ls (jm_I y :: jm_I x :: st) sh h Q := by
  intro p e s m args below meth c H locs as0 as A lsM cx hS hA hx hw hl hlo hso hln
  have hii := jm_eq32 (jm_sok_head (jm_sok_tail hso)) (jm_sok_head hso)
  exact lv_icmp_ne cx.1 cx.2.1 hd ht (fun q => kt (fun z => q (hii.mpr z)) p e s m args below meth c H locs as0 as A lsM cx hS hA hx hw hl hlo (jm_sok_tail (jm_sok_tail hso)) hln) (fun q => kf (hii.mp q) p e s m args below meth c H locs as0 as A lsM cx hS hA hx hw hl hlo (jm_sok_tail (jm_sok_tail hso)) hln)
theorem jm_if_ne {E : jm_Env} {M : jm_M} {d cu su pc : Nat} {ls : List (Option jm_V)} {st : List jm_V} {sh : List jm_C} {h : jm_H} {Q : jm_Q} {x off : Int} {tgt : Nat} (hd : decode M.2.1 pc = .ok (.ifCond .ne off, 3)) (ht : (pc : Int) + off = (tgt : Int))
    (kt : ¬ x = 0 → jm_G E M d cu su tgt ls st sh h Q) (kf : x = 0 → jm_G E M d cu su (pc + 3) ls st sh h Q) : jm_G E M d cu su pc ls (jm_I x :: st) sh h Q := by
  intro p e s m args below meth c H locs as0 as A lsM cx hS hA hx hw hl hlo hso hln
  have hii := jm_eq32 (jm_sok_head hso) jm_o0
  rw [← jm_z32] at hii
  exact lv_if_ne cx.1 cx.2.1 hd ht (fun q => kt (fun z => q (hii.mpr z)) p e s m args below meth c H locs as0 as A lsM cx hS hA hx hw hl hlo (jm_sok_tail hso) hln) (fun q => kf (hii.mp q) p e s m args below meth c H locs as0 as A lsM cx hS hA hx hw hl hlo (jm_sok_tail hso) hln)
theorem jm_icmp_lt {E : jm_Env} {M : jm_M} {d cu su pc : Nat} {ls : List (Option jm_V)} {st : List jm_V} {sh : List jm_C} {h : jm_H} {Q : jm_Q} {x y off : Int} {tgt : Nat} (hd : decode M.2.1 pc = .ok (.if_icmp .lt off, 3)) (ht : (pc : Int) + off = (tgt : Int))
    (kt : x < y → jm_G E M d cu su tgt ls st sh h Q) (kf : ¬ x < y → jm_G E M d cu su (pc + 3) ls st sh h Q) : jm_G E M d cu su pc ls (jm_I y :: jm_I x :: st) sh h Q := by
  intro p e s m args below meth c H locs as0 as A lsM cx hS hA hx hw hl hlo hso hln
  have hii := jm_lt32 (jm_sok_head (jm_sok_tail hso)) (jm_sok_head hso)
  exact lv_icmp_lt cx.1 cx.2.1 hd ht (fun q => kt (hii.mp q) p e s m args below meth c H locs as0 as A lsM cx hS hA hx hw hl hlo (jm_sok_tail (jm_sok_tail hso)) hln) (fun q => kf (fun z => q (hii.mpr z)) p e s m args below meth c H locs as0 as A lsM cx hS hA hx hw hl hlo (jm_sok_tail (jm_sok_tail hso)) hln)
theorem jm_if_lt {E : jm_Env} {M : jm_M} {d cu su pc : Nat} {ls : List (Option jm_V)} {st : List jm_V} {sh : List jm_C} {h : jm_H} {Q : jm_Q} {x off : Int} {tgt : Nat} (hd : decode M.2.1 pc = .ok (.ifCond .lt off, 3)) (ht : (pc : Int) + off = (tgt : Int))
    (kt : x < 0 → jm_G E M d cu su tgt ls st sh h Q) (kf : ¬ x < 0 → jm_G E M d cu su (pc + 3) ls st sh h Q) : jm_G E M d cu su pc ls (jm_I x :: st) sh h Q := by
  intro p e s m args below meth c H locs as0 as A lsM cx hS hA hx hw hl hlo hso hln
  have hii := jm_lt32 (jm_sok_head hso) jm_o0
  rw [← jm_z32] at hii
  exact lv_if_lt cx.1 cx.2.1 hd ht (fun q => kt (hii.mp q) p e s m args below meth c H locs as0 as A lsM cx hS hA hx hw hl hlo (jm_sok_tail hso) hln) (fun q => kf (fun z => q (hii.mpr z)) p e s m args below meth c H locs as0 as A lsM cx hS hA hx hw hl hlo (jm_sok_tail hso) hln)
theorem jm_icmp_ge {E : jm_Env} {M : jm_M} {d cu su pc : Nat} {ls : List (Option jm_V)} {st : List jm_V} {sh : List jm_C} {h : jm_H} {Q : jm_Q} {x y off : Int} {tgt : Nat} (hd : decode M.2.1 pc = .ok (.if_icmp .ge off, 3)) (ht : (pc : Int) + off = (tgt : Int))
    (kt : y ≤ x → jm_G E M d cu su tgt ls st sh h Q) (kf : ¬ y ≤ x → jm_G E M d cu su (pc + 3) ls st sh h Q) : jm_G E M d cu su pc ls (jm_I y :: jm_I x :: st) sh h Q := by
  intro p e s m args below meth c H locs as0 as A lsM cx hS hA hx hw hl hlo hso hln
  have hii := jm_le32 (jm_sok_head hso) (jm_sok_head (jm_sok_tail hso))
  exact lv_icmp_ge cx.1 cx.2.1 hd ht (fun q => kt (hii.mp q) p e s m args below meth c H locs as0 as A lsM cx hS hA hx hw hl hlo (jm_sok_tail (jm_sok_tail hso)) hln) (fun q => kf (fun z => q (hii.mpr z)) p e s m args below meth c H locs as0 as A lsM cx hS hA hx hw hl hlo (jm_sok_tail (jm_sok_tail hso)) hln)
theorem jm_if_ge {E : jm_Env} {M : jm_M} {d cu su pc : Nat} {ls : List (Option jm_V)} {st : List jm_V} {sh : List jm_C} {h : jm_H} {Q : jm_Q} {x off : Int} {tgt : Nat} (hd : decode M.2.1 pc = .ok (.ifCond .ge off, 3)) (ht : (pc : Int) + off = (tgt : Int))
    (kt : 0 ≤ x → jm_G E M d cu su tgt ls st sh h Q) (kf : ¬ 0 ≤ x → jm_G E M d cu su (pc + 3) ls st sh h Q) : jm_G E M d cu su pc ls (jm_I x :: st) sh h Q := by
  intro p e s m args below meth c H locs as0 as A lsM cx hS hA hx hw hl hlo hso hln
  have hii := jm_le32 jm_o0 (jm_sok_head hso)
  rw [← jm_z32] at hii
  exact lv_if_ge cx.1 cx.2.1 hd ht (fun q => kt (hii.mp q) p e s m args below meth c H locs as0 as A lsM cx hS hA hx hw hl hlo (jm_sok_tail hso) hln) (fun q => kf (fun z => q (hii.mpr z)) p e s m args below meth c H locs as0 as A lsM cx hS hA hx hw hl hlo (jm_sok_tail hso) hln)
theorem jm_icmp_gt {E : jm_Env} {M : jm_M} {d cu su pc : Nat} {ls : List (Option jm_V)} {st : List jm_V} {sh : List jm_C} {h : jm_H} {Q : jm_Q} {x y off : Int} {tgt : Nat} (hd : decode M.2.1 pc = .ok (.if_icmp .gt off, 3)) (ht : (pc : Int) + off = (tgt : Int))
    (kt : y < x → jm_G E M d cu su tgt ls st sh h Q) (kf : ¬ y < x → jm_G E M d cu su (pc + 3) ls st sh h Q) : jm_G E M d cu su pc ls (jm_I y :: jm_I x :: st) sh h Q := by
  intro p e s m args below meth c H locs as0 as A lsM cx hS hA hx hw hl hlo hso hln
  have hii := jm_lt32 (jm_sok_head hso) (jm_sok_head (jm_sok_tail hso))
  exact lv_icmp_gt cx.1 cx.2.1 hd ht (fun q => kt (hii.mp q) p e s m args below meth c H locs as0 as A lsM cx hS hA hx hw hl hlo (jm_sok_tail (jm_sok_tail hso)) hln) (fun q => kf (fun z => q (hii.mpr z)) p e s m args below meth c H locs as0 as A lsM cx hS hA hx hw hl hlo (jm_sok_tail (jm_sok_tail hso)) hln)
theorem jm_if_gt {E : jm_Env} {M : jm_M} {d cu su pc : Nat} {ls : List (Option jm_V)} {st : List jm_V} {sh : List jm_C} {h : jm_H} {Q : jm_Q} {x off : Int} {tgt : Nat} (hd : decode M.2.1 pc = .ok (.ifCond .gt off, 3)) (ht : (pc : Int) + off = (tgt : Int))
    (kt : 0 < x → jm_G E M d cu su tgt ls st sh h Q) (kf : ¬ 0 < x → jm_G E M d cu su (pc + 3) ls st sh h Q) : jm_G E M d cu su pc ls (jm_I x :: st) sh h Q := by
  intro p e s m args below meth c H locs as0 as A lsM cx hS hA hx hw hl hlo hso hln
  have hii := jm_lt32 jm_o0 (jm_sok_head hso)
  rw [← jm_z32] at hii
  exact lv_if_gt cx.1 cx.2.1 hd ht (fun q => kt (hii.mp q) p e s m args below meth c H locs as0 as A lsM cx hS hA hx hw hl hlo (jm_sok_tail hso) hln) (fun q => kf (fun z => q (hii.mpr z)) p e s m args below meth c H locs as0 as A lsM cx hS hA hx hw hl hlo (jm_sok_tail hso) hln)
theorem jm_icmp_le {E : jm_Env} {M : jm_M} {d cu su pc : Nat} {ls : List (Option jm_V)} {st : List jm_V} {sh : List jm_C} {h : jm_H} {Q : jm_Q} {x y off : Int} {tgt : Nat} (hd : decode M.2.1 pc = .ok (.if_icmp .le off, 3)) (ht : (pc : Int) + off = (tgt : Int))
    (kt : x ≤ y → jm_G E M d cu su tgt ls st sh h Q) (kf : ¬ x ≤ y → jm_G E M d cu su (pc + 3) ls st sh h Q) : jm_G E M d cu su pc ls (jm_I y :: jm_I x :: st) sh h Q := by
  intro p e s m args below meth c H locs as0 as A lsM cx hS hA hx hw hl hlo hso hln
  have hii := jm_le32 (jm_sok_head (jm_sok_tail hso)) (jm_sok_head hso)
  exact lv_icmp_le cx.1 cx.2.1 hd ht (fun q => kt (hii.mp q) p e s m args below meth c H locs as0 as A lsM cx hS hA hx hw hl hlo (jm_sok_tail (jm_sok_tail hso)) hln) (fun q => kf (fun z => q (hii.mpr z)) p e s m args below meth c H locs as0 as A lsM cx hS hA hx hw hl hlo (jm_sok_tail (jm_sok_tail hso)) hln)
theorem jm_if_le {E : jm_Env} {M : jm_M} {d cu su pc : Nat} {ls : List (Option jm_V)} {st : List jm_V} {sh : List jm_C} {h : jm_H} {Q : jm_Q} {x off : Int} {tgt : Nat} (hd : decode M.2.1 pc = .ok (.ifCond .le off, 3)) (ht : (pc : Int) + off = (tgt : Int))
    (kt : x ≤ 0 → jm_G E M d cu su tgt ls st sh h Q) (kf : ¬ x ≤ 0 → jm_G E M d cu su (pc + 3) ls st sh h Q) : jm_G E M d cu su pc ls (jm_I x :: st) sh h Q := by
  intro p e s m args below meth c H locs as0 as A lsM cx hS hA hx hw hl hlo hso hln
  have hii := jm_le32 (jm_sok_head hso) jm_o0
  rw [← jm_z32] at hii
  exact lv_if_le cx.1 cx.2.1 hd ht (fun q => kt (hii.mp q) p e s m args below meth c H locs as0 as A lsM cx hS hA hx hw hl hlo (jm_sok_tail hso) hln) (fun q => kf (fun z => q (hii.mpr z)) p e s m args below meth c H locs as0 as A lsM cx hS hA hx hw hl hlo (jm_sok_tail hso) hln)
theorem jm_tableOut {E : jm_Env} {M : jm_M} {d cu su pc : Nat} {ls : List (Option jm_V)} {st : List jm_V} {sh : List jm_C} {h : jm_H} {Q : jm_Q} {x dflt lo hi : Int} {offs : Array Int} {len tgt : Nat} (hd : decode M.2.1 pc = .ok (.tableswitch dflt lo hi offs, len)) (hr : x < lo ∨ hi < x) (ht : (pc : Int) + dflt = (tgt : Int))
    (k : jm_G E M d cu su tgt ls st sh h Q) : jm_G E M d cu su pc ls (jm_I x :: st) sh h Q := by
  intro p e s m args below meth c H locs as0 as A lsM cx hS hA hx hw hl hlo hso hln
  have e0 := jm_i32o (show jm_o32 x from jm_sok_head hso)
  exact lv_tableOut cx.1 cx.2.1 hd (by rw [e0]; exact hr) ht (k p e s m args below meth c H locs as0 as A lsM cx hS hA hx hw hl hlo (jm_sok_tail hso) hln)
theorem jm_tableIn {E : jm_Env} {M : jm_M} {d cu su pc : Nat} {ls : List (Option jm_V)} {st : List jm_V} {sh : List jm_C} {h : jm_H} {Q : jm_Q} {x dflt lo hi off : Int} {offs : Array Int} {len tgt : Nat} (hd : decode M.2.1 pc = .ok (.tableswitch dflt lo hi offs, len)) (h1 : ¬ x < lo) (h2 : ¬ hi < x) (ho : offs[(x - lo).toNat]? = some off) (ht : (pc : Int) + off = (tgt : Int))
    (k : jm_G E M d cu su tgt ls st sh h Q) : jm_G E M d cu su pc ls (jm_I x :: st) sh h Q := by
  intro p e s m args below meth c H locs as0 as A lsM cx hS hA hx hw hl hlo hso hln
  have e0 := jm_i32o (show jm_o32 x from jm_sok_head hso)
  exact lv_tableIn cx.1 cx.2.1 hd (by rw [e0]; exact h1) (by rw [e0]; exact h2) (by rw [e0]; exact ho) ht (k p e s m args below meth c H locs as0 as A lsM cx hS hA hx hw hl hlo (jm_sok_tail hso) hln)
theorem jm_lookup {E : jm_Env} {M : jm_M} {d cu su pc : Nat} {ls : List (Option jm_V)} {st : List jm_V} {sh : List jm_C} {h : jm_H} {Q : jm_Q} {x dflt off : Int} {ps : Array (Int × Int)} {len tgt : Nat} (hd : decode M.2.1 pc = .ok (.lookupswitch dflt ps, len)) (hp : (ps.toList.zip (ps.toList.drop 1)).all (fun (a, next) => a.1 < next.1) = true) (ho : Op.lookupswitch.offset ps.toList dflt x = off) (ht : (pc : Int) + off = (tgt : Int))
    (k : jm_G E M d cu su tgt ls st sh h Q) : jm_G E M d cu su pc ls (jm_I x :: st) sh h Q := by
  intro p e s m args below meth c H locs as0 as A lsM cx hS hA hx hw hl hlo hso hln
  have e0 := jm_i32o (show jm_o32 x from jm_sok_head hso)
  exact lv_lookup cx.1 cx.2.1 hd hp (by rw [e0]; exact ho) ht (k p e s m args below meth c H locs as0 as A lsM cx hS hA hx hw hl hlo (jm_sok_tail hso) hln)
