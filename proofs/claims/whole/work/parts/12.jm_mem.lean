/-! fields, arrays -/
theorem jm_fs_len (as : List Nat) (ci : Nat) (rs : List (Option Nat)) (f : Nat → Int) : (jm_fs as ci rs f).length = (jm_ft ci).length := by simp [jm_fs]
theorem jm_F_int {as : List Nat} {t : Nat} {x : Int} {r : Option Nat} (h : t ≠ 1 ∧ t ≠ 2) : jm_F as t x r = .int (Int32.ofInt x) := by
  unfold jm_F
  rw [if_neg h.1, if_neg h.2]
theorem jm_F_long {as : List Nat} {t : Nat} {x : Int} {r : Option Nat} (h : t = 1) : jm_F as t x r = .long (Int64.ofInt x) := by
  unfold jm_F
  rw [if_pos h]
theorem jm_fs_at {as : List Nat} {ci j : Nat} {rs : List (Option Nat)} {f : Nat → Int} (hj : j < (jm_ft ci).length) : (jm_fs as ci rs f)[j]? = some (jm_F as ((jm_ft ci).getD j 0) (f j) (rs.getD j none)) := by
  simp [jm_fs, hj]
theorem jm_fs_set {as : List Nat} {ci j : Nat} {rs rs' : List (Option Nat)} {f f' : Nat → Int} {v : Value} (hj : j < (jm_ft ci).length) (hv : jm_F as ((jm_ft ci).getD j 0) (f' j) (rs'.getD j none) = v) (hf : ∀ i, i ≠ j → f' i = f i) (hr : ∀ i, i ≠ j → rs'.getD i none = rs.getD i none) : (jm_fs as ci rs f).set j v = jm_fs as ci rs' f' := by
  apply List.ext_getElem?
  intro k
  by_cases hk : k < (jm_ft ci).length
  · by_cases e : k = j
    · subst e
      rw [List.getElem?_set_self (by rw [jm_fs_len]; exact hk), jm_fs_at hk, hv]
    · rw [List.getElem?_set_ne (Ne.symm e), jm_fs_at hk, jm_fs_at hk, hf k e, hr k e]
  · rw [List.getElem?_eq_none (by rw [List.length_set, jm_fs_len]; omega), List.getElem?_eq_none (by rw [jm_fs_len]; omega)]
theorem jm_clamp {x : Int} (h : jm_o32 x) : (Int32.ofInt x).toNatClampNeg = x.toNat := by
  show (Int32.ofInt x).toInt.toNat = x.toNat
  rw [jm_i32o h]
theorem jm_in {x : Int} {n : Nat} (h : jm_o32 x) (h0 : 0 ≤ x) (h1 : x < n) : vp_in (Int32.ofInt x) n := vp_in_iff.mpr (by rw [jm_i32o h]; exact ⟨h0, h1⟩)
theorem jm_upd {f : Nat → Int} {k : Nat} {x : Int} : upd (fun j => Int32.ofInt (f j)) k (Int32.ofInt x) = fun j => Int32.ofInt (if j = k then x else f j) := by
  funext j
  unfold upd
  by_cases e : j = k <;> simp [e]
theorem jm_updL {f : Nat → Int} {k : Nat} {x : Int} : vp_updL (fun j => Int64.ofInt (f j)) k (Int64.ofInt x) = fun j => Int64.ofInt (if j = k then x else f j) := by
  funext j
  unfold vp_updL
  by_cases e : j = k <;> simp [e]
section JMM
variable {E : jm_Env} {M : jm_M} {d cu su pc : Nat} {ls : List (Option jm_V)} {st : List jm_V} {sh : List jm_C} {h : jm_H} {Q : jm_Q}
/-- the world behind a write of a number -/
theorem jm_Wd.num {as : List Nat} {A : Nat → Prop} {H H1 : Heap} {r j : Nat} {x : Int} {cl : jm_C} {el : va_E} (hw : jm_Wd E as sh h A H) (hs : sh[r]? = some cl) (hel : jm_cell E.2.2 as cl (fun b => if b = j then x else h r b) = el) (hok : jm_cok sh.length cl (fun b => if b = j then x else h r b)) (hP : va_P E.2.1 jm_cl ((jm_ws E.2.2 as sh h).set r (as.getD r 0, el)) H1) (hD : va_D A ((jm_ws E.2.2 as sh h).set r (as.getD r 0, el))) : jm_Wd E as sh (jm_up h r j x) A H1 := by
  subst hel
  rw [jm_ws_set _ hs, jm_set_same hs, ← jm_up_row] at hP hD
  refine ⟨hw.1, fun i c hi => ?_, hP, hD⟩
  by_cases e : i = r
  · subst e
    cases hi.symm.trans hs
    have : jm_up h i j x i = fun b => if b = j then x else h i b := by
      funext b
      simp [jm_up]
    rw [this]
    exact hok
  · have : jm_up h r j x i = h i := by
      funext b
      simp [jm_up, e]
    rw [this]
    exact hw.2.1 i c hi
theorem jm_cok_num {n j : Nat} {x : Int} {f : Nat → Int} {ci : Nat} {rs : List (Option Nat)} (hc : jm_cok n (.inl (ci, rs)) f) (hx : if (jm_ft ci).getD j 0 = 1 then jm_o64 x else jm_o32 x) : jm_cok n (.inl (ci, rs)) (fun b => if b = j then x else f b) := by
  refine ⟨fun b => ?_, hc.2⟩
  by_cases e : b = j
  · subst e
    simp only [if_true]
    exact hx
  · have := hc.1 b
    simp only [e, if_false]
    exact this
theorem jm_cok_arr {n j kd k : Nat} {x : Int} {f : Nat → Int} {rs : List (Option Nat)} (hc : jm_cok n (.inr (kd, k, rs)) f) (hx : if kd = 1 then jm_o64 x else jm_o32 x) : jm_cok n (.inr (kd, k, rs)) (fun b => if b = j then x else f b) := by
  refine ⟨fun b => ?_, hc.2⟩
  by_cases e : b = j
  · subst e
    simp only [if_true]
    exact hx
  · have := hc.1 b
    simp only [e, if_false]
    exact this
theorem jm_getI {i j r ci N : Nat} {C : String} {T : u_T} {rs : List (Option Nat)} (hd : decode M.2.1 pc = .ok (.getfield i, 3)) (hc : jm_cl[ci]? = some (C, T, N)) (hj : j < N) (hlk : Cond.fieldLink M.1.cls i (T j).1 (T j).2.1 (T j).2.2.1 ∈ jm_wG) (hs : sh[r]? = some (.inl (ci, rs))) (ht : (jm_ft ci).getD j 0 ≠ 1 ∧ (jm_ft ci).getD j 0 ≠ 2)
    (k : jm_G E M d cu su (pc + 3) ls (jm_I (h r j) :: st) sh h Q) : jm_G E M d cu su pc ls (jm_R r :: st) sh h Q := by
  intro p e s m args below meth c H locs as0 as A lsM cx hS hA hx hw hl hlo hso hln
  have ho : jm_o32 (h r j) := by
    have := (hw.2.1 r _ hs).1 j
    rw [if_neg ht.1] at this
    exact this
  refine va_get (v := .int (Int32.ofInt (h r j))) cx.1 cx.2.1 cx.2.2.2.2.1 (fun w hw => List.mem_cons_of_mem _ ((jm_clok hc).1 w hw)) cx.2.2.2.1 cx.2.2.2.2.2.1 hw.2.2.1 r (jm_ws_at hs) hc j hj (cx.2.2.2.2.1 _ (List.mem_cons_of_mem _ hlk)) (fun _ z => z) ?_ hd (k p e s m args below meth c H locs as0 as A lsM cx hS hA hx hw hl hlo (jm_sok_cons ho (jm_sok_tail hso)) hln)
  rw [jm_fs_at (by rw [← (jm_clok hc).2.1]; exact hj)]
  rw [jm_F_int ht]
theorem jm_getL {i j r ci N : Nat} {C : String} {T : u_T} {rs : List (Option Nat)} (hd : decode M.2.1 pc = .ok (.getfield i, 3)) (hc : jm_cl[ci]? = some (C, T, N)) (hj : j < N) (hlk : Cond.fieldLink M.1.cls i (T j).1 (T j).2.1 (T j).2.2.1 ∈ jm_wG) (hs : sh[r]? = some (.inl (ci, rs))) (ht : (jm_ft ci).getD j 0 = 1)
    (k : jm_G E M d cu su (pc + 3) ls (jm_L (h r j) :: st) sh h Q) : jm_G E M d cu su pc ls (jm_R r :: st) sh h Q := by
  intro p e s m args below meth c H locs as0 as A lsM cx hS hA hx hw hl hlo hso hln
  have ho : jm_o64 (h r j) := by
    have := (hw.2.1 r _ hs).1 j
    rw [if_pos ht] at this
    exact this
  refine va_get (v := .long (Int64.ofInt (h r j))) cx.1 cx.2.1 cx.2.2.2.2.1 (fun w hw => List.mem_cons_of_mem _ ((jm_clok hc).1 w hw)) cx.2.2.2.1 cx.2.2.2.2.2.1 hw.2.2.1 r (jm_ws_at hs) hc j hj (cx.2.2.2.2.1 _ (List.mem_cons_of_mem _ hlk)) (fun _ z => z) ?_ hd (k p e s m args below meth c H locs as0 as A lsM cx hS hA hx hw hl hlo (jm_sok_cons ho (jm_sok_tail hso)) hln)
  rw [jm_fs_at (by rw [← (jm_clok hc).2.1]; exact hj)]
  rw [jm_F_long ht]
theorem jm_getR {i j r q ci N : Nat} {C : String} {T : u_T} {rs : List (Option Nat)} (hd : decode M.2.1 pc = .ok (.getfield i, 3)) (hc : jm_cl[ci]? = some (C, T, N)) (hj : j < N) (hlk : Cond.fieldLink M.1.cls i (T j).1 (T j).2.1 (T j).2.2.1 ∈ jm_wG) (hs : sh[r]? = some (.inl (ci, rs))) (ht : (jm_ft ci).getD j 0 = 2) (hq : rs.getD j none = some q)
    (k : jm_G E M d cu su (pc + 3) ls (jm_R q :: st) sh h Q) : jm_G E M d cu su pc ls (jm_R r :: st) sh h Q := by
  intro p e s m args below meth c H locs as0 as A lsM cx hS hA hx hw hl hlo hso hln
  have ho : jm_ok sh.length (jm_R q) := (hw.2.1 r _ hs).2 j q hq
  refine va_get (v := .ref (as.getD q 0)) cx.1 cx.2.1 cx.2.2.2.2.1 (fun w hw => List.mem_cons_of_mem _ ((jm_clok hc).1 w hw)) cx.2.2.2.1 cx.2.2.2.2.2.1 hw.2.2.1 r (jm_ws_at hs) hc j hj (cx.2.2.2.2.1 _ (List.mem_cons_of_mem _ hlk)) (fun _ z => z) ?_ hd (k p e s m args below meth c H locs as0 as A lsM cx hS hA hx hw hl hlo (jm_sok_cons ho (jm_sok_tail hso)) hln)
  rw [jm_fs_at (by rw [← (jm_clok hc).2.1]; exact hj), ht, hq]
  rfl
theorem jm_nb {x : Int} (h : x = 0 ∨ x = 1) : narrow .boolean (.int (Int32.ofInt x)) = .int (Int32.ofInt x) ∧ fits .boolean (.int (Int32.ofInt x)) = true := by
  rcases h with rfl | rfl <;> exact ⟨by decide, by decide⟩
/-- what may be written into a field of a type: its code, and the number -/
def jm_pok (t : Nat) (x : Int) : Prop := t = 0 ∨ (t = 3 ∧ (x = 0 ∨ x = 1))
theorem jm_pok_ty {ty : FieldType} {x : Int} (h : jm_pok (jm_tc ty) x) : narrow ty (.int (Int32.ofInt x)) = .int (Int32.ofInt x) ∧ fits ty (.int (Int32.ofInt x)) = true := by
  rcases h with h | ⟨h, hx⟩ <;> cases ty <;> simp [jm_tc] at h
  · exact ⟨rfl, rfl⟩
  · exact jm_nb hx
theorem jm_pok_2 {t : Nat} {x : Int} (h : jm_pok t x) : t ≠ 1 ∧ t ≠ 2 := by
  rcases h with h | h <;> omega
theorem jm_putI {i j r ci N : Nat} {x : Int} {C : String} {T : u_T} {rs : List (Option Nat)} (hd : decode M.2.1 pc = .ok (.putfield i, 3)) (hc : jm_cl[ci]? = some (C, T, N)) (hj : j < N) (hlk : Cond.fieldLink M.1.cls i (T j).1 (T j).2.1 (T j).2.2.1 ∈ jm_wG) (hnf : (T j).2.2.2 = false) (hs : sh[r]? = some (.inl (ci, rs))) (ht : jm_pok ((jm_ft ci).getD j 0) x)
    (k : jm_G E M d cu su (pc + 3) ls st sh (jm_up h r j x) Q) : jm_G E M d cu su pc ls (jm_I x :: jm_R r :: st) sh h Q := by
  intro p e s m args below meth c H locs as0 as A lsM cx hS hA hx hw hl hlo hso hln
  obtain ⟨c1, c2, c3, c4, c5⟩ := jm_clok hc
  have hjl : j < (jm_ft ci).length := by rw [← c2]; exact hj
  have hpt := jm_pok_ty (ty := jm_ty ci j) (x := x) (by rw [c5 j hj]; exact ht)
  have h2 := jm_pok_2 ht
  refine va_put (v := .int (Int32.ofInt x)) (ty := jm_ty ci j) cx.1 cx.2.1 cx.2.2.2.2.1 (fun w hw => List.mem_cons_of_mem _ (c1 w hw)) (jm_ty ci) c3 c4 cx.2.2.2.1 cx.2.2.2.2.2.1 hw.2.2.1 hw.2.2.2 hS r (jm_ws_at hs) hc j hj (cx.2.2.2.2.1 _ (List.mem_cons_of_mem _ hlk)) (fun _ z => z) hnf (c3 j hj) hpt.1 hpt.2 (by rw [jm_fs_len]; exact hjl) hd (fun H1 locs1 hP hD hS1 => ?_)
  refine k p e s m args below meth c H1 locs1 as0 as A lsM cx hS1 hA hx (hw.num hs ?_ (jm_cok_num (hw.2.1 r _ hs) (by rw [if_neg h2.1]; exact jm_sok_head hso)) hP hD) hl hlo (jm_sok_tail (jm_sok_tail hso)) hln
  show Sum.inr (ci, jm_fs as ci rs _) = _
  rw [jm_fs_set (rs' := rs) (f' := fun b => if b = j then x else h r b) hjl (by rw [jm_F_int h2]; simp) (fun i hi => by simp [hi]) (fun _ _ => rfl)]
theorem jm_putIF {i j r ci N : Nat} {x : Int} {C : String} {T : u_T} {rs : List (Option Nat)} (hd : decode M.2.1 pc = .ok (.putfield i, 3)) (hc : jm_cl[ci]? = some (C, T, N)) (hj : j < N) (hlk : Cond.fieldLink M.1.cls i (T j).1 (T j).2.1 (T j).2.2.1 ∈ jm_wG) (hnf : (T j).2.2.2 = true ∧ M.1.name = "<init>" ∧ (T j).1 = M.1.cls) (hs : sh[r]? = some (.inl (ci, rs))) (ht : jm_pok ((jm_ft ci).getD j 0) x)
    (k : jm_G E M d cu su (pc + 3) ls st sh (jm_up h r j x) Q) : jm_G E M d cu su pc ls (jm_I x :: jm_R r :: st) sh h Q := by
  intro p e s m args below meth c H locs as0 as A lsM cx hS hA hx hw hl hlo hso hln
  obtain ⟨c1, c2, c3, c4, c5⟩ := jm_clok hc
  have hjl : j < (jm_ft ci).length := by rw [← c2]; exact hj
  have hpt := jm_pok_ty (ty := jm_ty ci j) (x := x) (by rw [c5 j hj]; exact ht)
  have h2 := jm_pok_2 ht
  refine va_putF (v := .int (Int32.ofInt x)) (ty := jm_ty ci j) cx.1 cx.2.1 cx.2.2.2.2.1 (fun w hw => List.mem_cons_of_mem _ (c1 w hw)) (jm_ty ci) c3 c4 cx.2.2.2.1 cx.2.2.2.2.2.1 hw.2.2.1 hw.2.2.2 hS r (jm_ws_at hs) hc j hj (cx.2.2.2.2.1 _ (List.mem_cons_of_mem _ hlk)) (fun _ z => z) hnf.1 (cx.2.2.2.2.2.2.2.2.1.trans hnf.2.1) hnf.2.2 (c3 j hj) hpt.1 hpt.2 (by rw [jm_fs_len]; exact hjl) hd (fun H1 locs1 hP hD hS1 => ?_)
  refine k p e s m args below meth c H1 locs1 as0 as A lsM cx hS1 hA hx (hw.num hs ?_ (jm_cok_num (hw.2.1 r _ hs) (by rw [if_neg h2.1]; exact jm_sok_head hso)) hP hD) hl hlo (jm_sok_tail (jm_sok_tail hso)) hln
  show Sum.inr (ci, jm_fs as ci rs _) = _
  rw [jm_fs_set (rs' := rs) (f' := fun b => if b = j then x else h r b) hjl (by rw [jm_F_int h2]; simp) (fun i hi => by simp [hi]) (fun _ _ => rfl)]
/-- the world behind a write of a reference -/
theorem jm_Wd.ref {as : List Nat} {A : Nat → Prop} {H H1 : Heap} {r j q ci : Nat} {rs : List (Option Nat)} (hw : jm_Wd E as sh h A H) (hs : sh[r]? = some (.inl (ci, rs))) (hj : j < (jm_ft ci).length) (hjr : j < rs.length) (ht : (jm_ft ci).getD j 0 = 2) (hq : q < sh.length) (hP : va_P E.2.1 jm_cl ((jm_ws E.2.2 as sh h).set r (as.getD r 0, .inr (ci, (jm_fs as ci rs (h r)).set j (.ref (as.getD q 0))))) H1) (hD : va_D A ((jm_ws E.2.2 as sh h).set r (as.getD r 0, .inr (ci, (jm_fs as ci rs (h r)).set j (.ref (as.getD q 0)))))) : jm_Wd E as (sh.set r (.inl (ci, rs.set j (some q)))) h A H1 := by
  have hg : (rs.set j (some q)).getD j none = some q := by simp [List.getD, hjr]
  have hgn : ∀ i, i ≠ j → (rs.set j (some q)).getD i none = rs.getD i none := fun i hi => by simp [List.getD, List.getElem?_set_ne (Ne.symm hi)]
  have e1 : (jm_fs as ci rs (h r)).set j (.ref (as.getD q 0)) = jm_fs as ci (rs.set j (some q)) (h r) := jm_fs_set hj (by rw [ht, hg]; rfl) (fun _ _ => rfl) hgn
  have e2 : jm_row h r (h r) = h := by
    funext a b
    unfold jm_row
    by_cases e : a = r <;> simp [e]
  rw [e1] at hP hD
  have e3 := jm_ws_set (kc := E.2.2) (as := as) (h := h) (c' := .inl (ci, rs.set j (some q))) (h r) hs
  rw [e2] at e3
  have e4 : (jm_ws E.2.2 as sh h).set r (as.getD r 0, .inr (ci, jm_fs as ci (rs.set j (some q)) (h r))) = jm_ws E.2.2 as (sh.set r (.inl (ci, rs.set j (some q)))) h := e3
  rw [e4] at hP hD
  refine ⟨by rw [List.length_set]; exact hw.1, fun i c hi => ?_, hP, hD⟩
  rw [List.length_set]
  by_cases e : i = r
  · subst e
    rw [List.getElem?_set_self ((List.getElem?_eq_some_iff.mp hs).1)] at hi
    cases hi
    have hc0 := hw.2.1 i _ hs
    refine ⟨hc0.1, fun b z hz => ?_⟩
    by_cases eb : b = j
    · subst eb
      rw [hg] at hz
      cases hz
      exact hq
    · rw [hgn b eb] at hz
      exact hc0.2 b z hz
  · rw [List.getElem?_set_ne (Ne.symm e)] at hi
    exact hw.2.1 i c hi
theorem jm_ref_ty {ty : FieldType} (h : jm_tc ty = 2) (a : Nat) : narrow ty (.ref a) = .ref a ∧ fits ty (.ref a) = true := by
  cases ty <;> simp [jm_tc] at h <;> exact ⟨rfl, rfl⟩
theorem jm_putRF {i j r q ci N : Nat} {C : String} {T : u_T} {rs : List (Option Nat)} (hd : decode M.2.1 pc = .ok (.putfield i, 3)) (hc : jm_cl[ci]? = some (C, T, N)) (hj : j < N) (hlk : Cond.fieldLink M.1.cls i (T j).1 (T j).2.1 (T j).2.2.1 ∈ jm_wG) (hnf : (T j).2.2.2 = true ∧ M.1.name = "<init>" ∧ (T j).1 = M.1.cls) (hs : sh[r]? = some (.inl (ci, rs))) (ht : (jm_ft ci).getD j 0 = 2) (hjr : j < rs.length)
    (k : jm_G E M d cu su (pc + 3) ls st (sh.set r (.inl (ci, rs.set j (some q)))) h Q) : jm_G E M d cu su pc ls (jm_R q :: jm_R r :: st) sh h Q := by
  intro p e s m args below meth c H locs as0 as A lsM cx hS hA hx hw hl hlo hso hln
  obtain ⟨c1, c2, c3, c4, c5⟩ := jm_clok hc
  have hjl : j < (jm_ft ci).length := by rw [← c2]; exact hj
  have hpt := jm_ref_ty (ty := jm_ty ci j) (by rw [c5 j hj]; exact ht) (as.getD q 0)
  refine va_putF (v := .ref (as.getD q 0)) (ty := jm_ty ci j) cx.1 cx.2.1 cx.2.2.2.2.1 (fun w hw => List.mem_cons_of_mem _ (c1 w hw)) (jm_ty ci) c3 c4 cx.2.2.2.1 cx.2.2.2.2.2.1 hw.2.2.1 hw.2.2.2 hS r (jm_ws_at hs) hc j hj (cx.2.2.2.2.1 _ (List.mem_cons_of_mem _ hlk)) (fun _ z => z) hnf.1 (cx.2.2.2.2.2.2.2.2.1.trans hnf.2.1) hnf.2.2 (c3 j hj) hpt.1 hpt.2 (by rw [jm_fs_len]; exact hjl) hd (fun H1 locs1 hP hD hS1 => ?_)
  refine k p e s m args below meth c H1 locs1 as0 as A lsM cx hS1 hA hx (hw.ref hs hjl hjr ht (jm_sok_head hso) hP hD) hl (by rw [List.length_set]; exact hlo) (by rw [List.length_set]; exact jm_sok_tail (jm_sok_tail hso)) hln
theorem jm_iaload {r n : Nat} {x : Int} {rs : List (Option Nat)} (hd : decode M.2.1 pc = .ok (.iaload, 1)) (hs : sh[r]? = some (.inr (0, n, rs))) (hb : 0 ≤ x ∧ x < n)
    (k : jm_G E M d cu su (pc + 1) ls (jm_I (h r x.toNat) :: st) sh h Q) : jm_G E M d cu su pc ls (jm_I x :: jm_R r :: st) sh h Q := by
  intro p e s m args below meth c H locs as0 as A lsM cx hS hA hx hw hl hlo hso hln
  have hx0 : jm_o32 x := jm_sok_head hso
  refine va_iald (f := fun j => Int32.ofInt (h r j)) cx.1 cx.2.1 cx.2.2.2.2.2.1 hw.2.2.1 r 0 (jm_ws_at hs) rfl (jm_in hx0 hb.1 hb.2) hd ?_
  rw [jm_clamp hx0]
  exact k p e s m args below meth c H locs as0 as A lsM cx hS hA hx hw hl hlo (jm_sok_cons ((hw.2.1 r _ hs).1 _) (jm_sok_tail (jm_sok_tail hso))) hln
theorem jm_baload {r n : Nat} {x : Int} {rs : List (Option Nat)} (hd : decode M.2.1 pc = .ok (.baload, 1)) (hs : sh[r]? = some (.inr (2, n, rs))) (hb : 0 ≤ x ∧ x < n)
    (k : jm_G E M d cu su (pc + 1) ls (jm_I (h r x.toNat) :: st) sh h Q) : jm_G E M d cu su pc ls (jm_I x :: jm_R r :: st) sh h Q := by
  intro p e s m args below meth c H locs as0 as A lsM cx hS hA hx hw hl hlo hso hln
  have hx0 : jm_o32 x := jm_sok_head hso
  refine va_zald (f := fun j => Int32.ofInt (h r j)) cx.1 cx.2.1 cx.2.2.2.2.2.1 hw.2.2.1 r 2 (jm_ws_at hs) rfl (jm_in hx0 hb.1 hb.2) hd ?_
  rw [jm_clamp hx0]
  exact k p e s m args below meth c H locs as0 as A lsM cx hS hA hx hw hl hlo (jm_sok_cons ((hw.2.1 r _ hs).1 _) (jm_sok_tail (jm_sok_tail hso))) hln
theorem jm_laload {r n : Nat} {x : Int} {rs : List (Option Nat)} (hd : decode M.2.1 pc = .ok (.laload, 1)) (hs : sh[r]? = some (.inr (1, n, rs))) (hb : 0 ≤ x ∧ x < n)
    (k : jm_G E M d cu su (pc + 1) ls (jm_L (h r x.toNat) :: st) sh h Q) : jm_G E M d cu su pc ls (jm_I x :: jm_R r :: st) sh h Q := by
  intro p e s m args below meth c H locs as0 as A lsM cx hS hA hx hw hl hlo hso hln
  have hx0 : jm_o32 x := jm_sok_head hso
  refine va_lald (f := fun j => Int64.ofInt (h r j)) cx.1 cx.2.1 cx.2.2.2.2.2.1 hw.2.2.1 r 1 (jm_ws_at hs) rfl (jm_in hx0 hb.1 hb.2) hd ?_
  rw [jm_clamp hx0]
  exact k p e s m args below meth c H locs as0 as A lsM cx hS hA hx hw hl hlo (jm_sok_cons ((hw.2.1 r _ hs).1 _) (jm_sok_tail (jm_sok_tail hso))) hln
theorem jm_aaload {r q n kd : Nat} {x : Int} {rs : List (Option Nat)} (hd : decode M.2.1 pc = .ok (.aaload, 1)) (hs : sh[r]? = some (.inr (kd, n, rs))) (hkd : kd = 3 ∨ kd = 4) (hb : 0 ≤ x ∧ x < n) (hq : rs.getD x.toNat none = some q)
    (k : jm_G E M d cu su (pc + 1) ls (jm_R q :: st) sh h Q) : jm_G E M d cu su pc ls (jm_I x :: jm_R r :: st) sh h Q := by
  intro p e s m args below meth c H locs as0 as A lsM cx hS hA hx hw hl hlo hso hln
  have hx0 : jm_o32 x := jm_sok_head hso
  have hin := jm_in hx0 hb.1 hb.2
  have hlt : (Int32.ofInt x).toNatClampNeg < n := Nat.not_le.mp fun z => hin (Or.inr z)
  have ho : jm_ok sh.length (jm_R q) := (hw.2.1 r _ hs).2 _ q hq
  have hcell := hw.2.2.1 r _ (jm_ws_at hs)
  have key : ∀ (ty : FieldType) (t0 : Nat), (jm_tys E.2.2)[t0]? = some (E.2.2 kd, ty) → ty.isReference = true → (jm_arr as kd rs (h r) = .inr (.inr (.inr (.inr fun j => (rs.getD j none).map fun i => as.getD i 0)))) → W p E.1 e (jm_rm M d) s m args below meth c H locs cu su (MQ below (jm_Qc E as0 A Q) args s M.2.2.2.2.1 M.2.2.2.2.2 A) (F0 m pc lsM ((jm_I x :: jm_R r :: st).map (jm_E as))) := by
    intro ty t0 ht href harr
    have hcell2 : H[as.getD r 0]? = some (vp_cell (E.2.2 kd) (n, jm_arr as kd rs (h r))) := hcell
    rw [harr, vp_cell_q] at hcell2
    refine W.aald (v := va_rf ((rs.getD x.toNat none).map fun i => as.getD i 0)) (ty := ty) cx.1 cx.2.1 hcell2 ((cx.2.2.2.2.2.1.2 t0 _ ht).1 n _) href (fun z => by cases z) (by rw [arrV_size]; exact hin) (by rw [arrV_read _ _ hlt, jm_clamp hx0]) rfl rfl hd ?_
    rw [hq]
    exact k p e s m args below meth c H locs as0 as A lsM cx hS hA hx hw hl hlo (jm_sok_cons ho (jm_sok_tail (jm_sok_tail hso))) hln
  rcases hkd with rfl | rfl
  · exact key _ 3 rfl rfl rfl
  · exact key _ 4 rfl rfl rfl
theorem jm_iastore {r n : Nat} {x v : Int} {rs : List (Option Nat)} (hd : decode M.2.1 pc = .ok (.iastore, 1)) (hs : sh[r]? = some (.inr (0, n, rs))) (hb : 0 ≤ x ∧ x < n)
    (k : jm_G E M d cu su (pc + 1) ls st sh (jm_up h r x.toNat v) Q) : jm_G E M d cu su pc ls (jm_I v :: jm_I x :: jm_R r :: st) sh h Q := by
  intro p e s m args below meth c H locs as0 as A lsM cx hS hA hx hw hl hlo hso hln
  have hx0 : jm_o32 x := jm_sok_head (jm_sok_tail hso)
  refine va_iast (f := fun j => Int32.ofInt (h r j)) cx.1 cx.2.1 cx.2.2.2.2.2.1 hw.2.2.1 hw.2.2.2 hS r 0 (jm_ws_at hs) rfl (jm_in hx0 hb.1 hb.2) hd (fun H1 locs1 hP hD hS1 => ?_)
  refine k p e s m args below meth c H1 locs1 as0 as A lsM cx hS1 hA hx (hw.num hs ?_ (jm_cok_arr (hw.2.1 r _ hs) (jm_sok_head hso)) hP hD) hl hlo (jm_sok_tail (jm_sok_tail (jm_sok_tail hso))) hln
  rw [jm_clamp hx0, jm_upd]
  rfl
theorem jm_bastore {r n : Nat} {x v : Int} {rs : List (Option Nat)} (hd : decode M.2.1 pc = .ok (.bastore, 1)) (hs : sh[r]? = some (.inr (2, n, rs))) (hb : 0 ≤ x ∧ x < n) (hv : v = 0 ∨ v = 1)
    (k : jm_G E M d cu su (pc + 1) ls st sh (jm_up h r x.toNat v) Q) : jm_G E M d cu su pc ls (jm_I v :: jm_I x :: jm_R r :: st) sh h Q := by
  intro p e s m args below meth c H locs as0 as A lsM cx hS hA hx hw hl hlo hso hln
  have hx0 : jm_o32 x := jm_sok_head (jm_sok_tail hso)
  refine va_zast (f := fun j => Int32.ofInt (h r j)) cx.1 cx.2.1 cx.2.2.2.2.2.1 hw.2.2.1 hw.2.2.2 hS r 2 (jm_ws_at hs) rfl (jm_in hx0 hb.1 hb.2) hd (fun H1 locs1 hP hD hS1 => ?_)
  refine k p e s m args below meth c H1 locs1 as0 as A lsM cx hS1 hA hx (hw.num hs ?_ (jm_cok_arr (hw.2.1 r _ hs) (jm_sok_head hso)) hP hD) hl hlo (jm_sok_tail (jm_sok_tail (jm_sok_tail hso))) hln
  have hn : vp_nar .boolean (Int32.ofInt v) = Int32.ofInt v := by
    unfold vp_nar
    rw [(jm_nb hv).1]
  rw [jm_clamp hx0, hn, jm_upd]
  rfl
theorem jm_lastore {r n : Nat} {x v : Int} {rs : List (Option Nat)} (hd : decode M.2.1 pc = .ok (.lastore, 1)) (hs : sh[r]? = some (.inr (1, n, rs))) (hb : 0 ≤ x ∧ x < n)
    (k : jm_G E M d cu su (pc + 1) ls st sh (jm_up h r x.toNat v) Q) : jm_G E M d cu su pc ls (jm_L v :: jm_I x :: jm_R r :: st) sh h Q := by
  intro p e s m args below meth c H locs as0 as A lsM cx hS hA hx hw hl hlo hso hln
  have hx0 : jm_o32 x := jm_sok_head (jm_sok_tail hso)
  refine va_last (f := fun j => Int64.ofInt (h r j)) cx.1 cx.2.1 cx.2.2.2.2.2.1 hw.2.2.1 hw.2.2.2 hS r 1 (jm_ws_at hs) rfl (jm_in hx0 hb.1 hb.2) hd (fun H1 locs1 hP hD hS1 => ?_)
  refine k p e s m args below meth c H1 locs1 as0 as A lsM cx hS1 hA hx (hw.num hs ?_ (jm_cok_arr (hw.2.1 r _ hs) (jm_sok_head hso)) hP hD) hl hlo (jm_sok_tail (jm_sok_tail (jm_sok_tail hso))) hln
  rw [jm_clamp hx0, jm_updL]
  rfl
theorem jm_alen {r n kd : Nat} {rs : List (Option Nat)} (hd : decode M.2.1 pc = .ok (.arraylength, 1)) (hs : sh[r]? = some (.inr (kd, n, rs))) (hkd : kd < 5) (hn : n < 2147483648)
    (k : jm_G E M d cu su (pc + 1) ls (jm_I n :: st) sh h Q) : jm_G E M d cu su pc ls (jm_R r :: st) sh h Q := by
  intro p e s m args below meth c H locs as0 as A lsM cx hS hA hx hw hl hlo hso hln
  have ho : jm_o32 (n : Int) := ⟨by omega, by omega⟩
  have ht : ∃ ty, (jm_tys E.2.2)[kd]? = some (E.2.2 kd, ty) := by
    rcases (show kd = 0 ∨ kd = 1 ∨ kd = 2 ∨ kd = 3 ∨ kd = 4 by omega) with rfl | rfl | rfl | rfl | rfl <;> exact ⟨_, rfl⟩
  obtain ⟨ty, ht⟩ := ht
  exact va_alen cx.1 cx.2.1 cx.2.2.2.2.2.1 hw.2.2.1 r kd (jm_ws_at hs) ht (show Int32.ofNat n = Int32.ofInt (n : Int) from rfl) hd (k p e s m args below meth c H locs as0 as A lsM cx hS hA hx hw hl hlo (jm_sok_cons ho (jm_sok_tail hso)) hln)
/-! ends -/
theorem jm_ret_end {as0 as : List Nat} {A : Nat → Prop} {H : Heap} {s t : State} {locs : List Loc} {args : Array Value} {r : Option jm_V} (hS : va_S A s.heap H locs) (hx : ∃ x, as = as0 ++ x) (hw : jm_Wd E as sh h A H) (hq : Q r sh h) (hr : ∀ v, r = some v → jm_ok sh.length v) (ht : t.heap = H) : jm_Qc E as0 A Q args s (.returned (r.map (jm_E as))) t := by
  obtain ⟨x, rfl⟩ := hx
  exact ⟨⟨r, sh, h, x, rfl, hq, hr, by rw [ht]; exact hw⟩, hS.F ht⟩
theorem jm_ireturn {x : Int} (hd : decode M.2.1 pc = .ok (.ireturn, 1)) (hr : M.2.2.2.1 = some .int) (hc : cu ≤ M.2.2.2.2.1 ∧ su ≤ M.2.2.2.2.2) (hq : Q (some (jm_I x)) sh h) : jm_G E M d cu su pc ls [jm_I x] sh h Q := by
  intro p e s m args below meth c H locs as0 as A lsM cx hS hA hx hw hl hlo hso hln
  have hlocks : meth.locks = false := cx.2.2.2.2.2.2.2.1
  refine W.widen hc.1 hc.2 ?_
  exact W.iret cx.1 cx.2.1 (cx.2.2.2.2.2.2.1.trans hr) (fun t ht hW => jm_ret_end (r := some (jm_I x)) hS hx hw hq (fun v hv => by cases hv; exact jm_sok_head hso) ht) hS.2.2 hd
theorem jm_zreturn {x : Int} (hd : decode M.2.1 pc = .ok (.ireturn, 1)) (hr : M.2.2.2.1 = some .boolean) (hb : x = 0 ∨ x = 1) (hc : cu ≤ M.2.2.2.2.1 ∧ su ≤ M.2.2.2.2.2) (hq : Q (some (jm_I x)) sh h) : jm_G E M d cu su pc ls [jm_I x] sh h Q := by
  intro p e s m args below meth c H locs as0 as A lsM cx hS hA hx hw hl hlo hso hln
  have hlocks : meth.locks = false := cx.2.2.2.2.2.2.2.1
  refine W.widen hc.1 hc.2 ?_
  exact W.zret cx.1 cx.2.1 (cx.2.2.2.2.2.2.1.trans hr) (jm_nb hb).1 (fun t ht hW => jm_ret_end (r := some (jm_I x)) hS hx hw hq (fun v hv => by cases hv; exact jm_sok_head hso) ht) hS.2.2 hd
theorem jm_lreturn {x : Int} (hd : decode M.2.1 pc = .ok (.lreturn, 1)) (hr : M.2.2.2.1 = some .long) (hc : cu ≤ M.2.2.2.2.1 ∧ su ≤ M.2.2.2.2.2) (hq : Q (some (jm_L x)) sh h) : jm_G E M d cu su pc ls [jm_L x] sh h Q := by
  intro p e s m args below meth c H locs as0 as A lsM cx hS hA hx hw hl hlo hso hln
  have hlocks : meth.locks = false := cx.2.2.2.2.2.2.2.1
  refine W.widen hc.1 hc.2 ?_
  exact W.lret cx.1 cx.2.1 (cx.2.2.2.2.2.2.1.trans hr) (fun t ht hW => jm_ret_end (r := some (jm_L x)) hS hx hw hq (fun v hv => by cases hv; exact jm_sok_head hso) ht) hS.2.2 hd
theorem jm_vreturn (hd : decode M.2.1 pc = .ok (.return_, 1)) (hr : M.2.2.2.1 = none) (hc : cu ≤ M.2.2.2.2.1 ∧ su ≤ M.2.2.2.2.2) (hq : Q none sh h) : jm_G E M d cu su pc ls [] sh h Q := by
  intro p e s m args below meth c H locs as0 as A lsM cx hS hA hx hw hl hlo hso hln
  have hlocks : meth.locks = false := cx.2.2.2.2.2.2.2.1
  refine W.widen hc.1 hc.2 ?_
  exact W.vret cx.1 cx.2.1 (cx.2.2.2.2.2.2.1.trans hr) (fun t ht hW => jm_ret_end (r := none) hS hx hw hq (fun v hv => by cases hv) ht) hS.2.2 hd
end JMM
