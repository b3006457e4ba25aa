/-! the library's members, calls among methods that make nothing -/
section JML
variable {E : jm_Env} {M M' : jm_M} {d d' cu su pc : Nat} {ls : List (Option jm_V)} {st : List jm_V} {sh : List jm_C} {h : jm_H} {Q Q' : jm_Q}
theorem jm_Call.mono {av : List jm_V} (hq : ∀ r sh' h', Q r sh' h' → Q' r sh' h') (k : jm_Call E M d av sh h Q) : jm_Call E M d av sh h Q' := by
  intro as sz p e h1 h2 h3 s m args below h4 h5 h6 h7
  obtain ⟨n, o, a1, a2, a3, a4, a5⟩ := k as sz p e h1 h2 h3 s m args below h4 h5 h6 h7
  exact ⟨n, o, a1, a2, a3, ⟨a4.1.mono hq, a4.2⟩, a5⟩
theorem jm_cat {as : List Nat} {st : List jm_V} : ((st.map (jm_E as)).map fun v => v.category).sum = (st.map fun v => if jm_two (some v) then 2 else 1).sum := by
  rw [List.map_map]
  congr 1
  apply List.map_congr_left
  intro v _
  exact jm_two_cat
theorem jm_max {i : Nat} {x y : Int} (hd : decode M.2.1 pc = .ok (.invokestatic i, 3)) (hlk : Cond.methodLink M.1.cls i Lib.Math.max.name ∈ jm_wG) (h1 : Cond.static Lib.Math.max.name ∈ jm_wG) (h2 : Cond.initialized "java/lang/Math" ∈ jm_wG) (h3 : Cond.code Lib.Math.max.name Lib.Math.max.code 2 (some .int) ∈ jm_wG) (hdd : 1 ≤ d) (hmc : cu ≤ M.2.2.2.2.1 ∧ su ≤ M.2.2.2.2.2) (hst : (st.map fun v => if jm_two (some v) then 2 else 1).sum ≤ 8)
    (k : jm_G E M d cu su (pc + 3) ls (jm_I (max x y) :: st) sh h Q) : jm_G E M d cu su pc ls (jm_I y :: jm_I x :: st) sh h Q := by
  intro p e s m args below meth c H locs as0 as A lsM cx hS hA hx hw hl hlo hso hln
  have ht := cx.2.2.2.2.1
  have hy0 : jm_o32 y := jm_sok_head hso
  have hx0 : jm_o32 x := jm_sok_head (jm_sok_tail hso)
  refine va_mmax cx.1 cx.2.1 (by rw [cx.2.2.1]; exact hl.1.symm) cx.2.2.2.1 (ht _ (List.mem_cons_of_mem _ hlk)) (ht _ (List.mem_cons_of_mem _ h1)) (ht _ (List.mem_cons_of_mem _ h2)) (ht _ (List.mem_cons_of_mem _ h3)) hdd ?_ hmc.1 hmc.2 hd ?_
  · rw [jm_cat]
    show _ ≤ 40 * d
    omega
  · have e1 : (if Int32.ofInt x < Int32.ofInt y then Int32.ofInt y else Int32.ofInt x) = Int32.ofInt (max x y) := by
      simp only [jm_lt32 hx0 hy0]
      split
      · rw [Int.max_eq_right (by omega)]
      · rw [Int.max_eq_left (by omega)]
    rw [e1]
    refine k p e s m args below meth c H locs as0 as A lsM cx hS hA hx hw hl hlo (jm_sok_cons ?_ (jm_sok_tail (jm_sok_tail hso))) hln
    show jm_o32 (max x y)
    rcases Int.le_total x y with q | q
    · rw [Int.max_eq_right q]; exact hy0
    · rw [Int.max_eq_left q]; exact hx0
theorem jm_min {i : Nat} {x y : Int} (hd : decode M.2.1 pc = .ok (.invokestatic i, 3)) (hlk : Cond.methodLink M.1.cls i Lib.Math.min.name ∈ jm_wG) (h1 : Cond.static Lib.Math.min.name ∈ jm_wG) (h2 : Cond.initialized "java/lang/Math" ∈ jm_wG) (h3 : Cond.code Lib.Math.min.name Lib.Math.min.code 2 (some .int) ∈ jm_wG) (hdd : 1 ≤ d) (hmc : cu ≤ M.2.2.2.2.1 ∧ su ≤ M.2.2.2.2.2) (hst : (st.map fun v => if jm_two (some v) then 2 else 1).sum ≤ 8)
    (k : jm_G E M d cu su (pc + 3) ls (jm_I (min x y) :: st) sh h Q) : jm_G E M d cu su pc ls (jm_I y :: jm_I x :: st) sh h Q := by
  intro p e s m args below meth c H locs as0 as A lsM cx hS hA hx hw hl hlo hso hln
  have ht := cx.2.2.2.2.1
  have hy0 : jm_o32 y := jm_sok_head hso
  have hx0 : jm_o32 x := jm_sok_head (jm_sok_tail hso)
  refine va_mmin cx.1 cx.2.1 (by rw [cx.2.2.1]; exact hl.1.symm) cx.2.2.2.1 (ht _ (List.mem_cons_of_mem _ hlk)) (ht _ (List.mem_cons_of_mem _ h1)) (ht _ (List.mem_cons_of_mem _ h2)) (ht _ (List.mem_cons_of_mem _ h3)) hdd ?_ hmc.1 hmc.2 hd ?_
  · rw [jm_cat]
    show _ ≤ 40 * d
    omega
  · have e1 : (if Int32.ofInt y < Int32.ofInt x then Int32.ofInt y else Int32.ofInt x) = Int32.ofInt (min x y) := by
      simp only [jm_lt32 hy0 hx0]
      split
      · rw [Int.min_eq_right (by omega)]
      · rw [Int.min_eq_left (by omega)]
    rw [e1]
    refine k p e s m args below meth c H locs as0 as A lsM cx hS hA hx hw hl hlo (jm_sok_cons ?_ (jm_sok_tail (jm_sok_tail hso))) hln
    show jm_o32 (min x y)
    rcases Int.le_total x y with q | q
    · rw [Int.min_eq_left q]; exact hx0
    · rw [Int.min_eq_right q]; exact hy0
/-- a row's first n places are another's -/
def jm_cpy (h : jm_H) (r q : Nat) (n : Nat) : jm_H := fun a b => if a = q then (if b < n then h r b else h a b) else h a b
theorem jm_copy {i r q n0 n1 kd : Nat} {n : Int} {rs rs1 : List (Option Nat)} (hd : decode M.2.1 pc = .ok (.invokestatic i, 3)) (hlk : Cond.methodLink M.1.cls i arraycopyName ∈ jm_wG) (h1 : Cond.native arraycopyName ∈ jm_wG) (h2 : Cond.static arraycopyName ∈ jm_wG) (h3 : Cond.initialized "java/lang/System" ∈ jm_wG) (hr : sh[r]? = some (.inr (kd, n0, rs))) (hq : sh[q]? = some (.inr (kd, n1, rs1))) (hkd : kd = 0 ∨ kd = 1) (hn : 0 ≤ n ∧ n ≤ n0 ∧ n ≤ n1) (hdd : 1 ≤ d) (hst : (st.map fun v => if jm_two (some v) then 2 else 1).sum ≤ 8)
    (k : jm_G E M d cu su (pc + 3) ls st sh (jm_cpy h r q n.toNat) Q) : jm_G E M d cu su pc ls (jm_I n :: jm_I 0 :: jm_R q :: jm_I 0 :: jm_R r :: st) sh h Q := by
  intro p e s m args below meth c H locs as0 as A lsM cx hS hA hx hw hl hlo hso hln
  have ht := cx.2.2.2.2.1
  have hn0 : jm_o32 n := jm_sok_head hso
  have hc0 := jm_clamp jm_o0
  have hcn := jm_clamp hn0
  have hlt0 : ¬ Int32.ofInt 0 < 0 := by decide
  have hltn : ¬ Int32.ofInt n < 0 := fun z => by
    rw [jm_z32, jm_lt32 hn0 jm_o0] at z
    omega
  have hloc : ((st.map (jm_E as)).map fun v => v.category).sum + (nativeFrameWords "java/lang/System" "arraycopy" 5 + 11) ≤ 40 * d := by
    rw [jm_cat]
    have : nativeFrameWords "java/lang/System" "arraycopy" 5 ≤ 20 := by decide +kernel
    omega
  have ec : jm_row h q (fun b => if b < n.toNat then h r b else h q b) = jm_cpy h r q n.toNat := by
    funext a b
    unfold jm_row jm_cpy
    by_cases ea : a = q
    · subst ea; simp
    · simp [ea]
  have hcok : jm_cok sh.length (.inr (kd, n1, rs1)) (fun b => if b < n.toNat then h r b else h q b) := by
    refine ⟨fun b => ?_, (hw.2.1 q _ hq).2⟩
    have a1 := (hw.2.1 q _ hq).1 b
    have a2 := (hw.2.1 r _ hr).1 b
    by_cases eb : b < n.toNat
    · simp only [eb, if_true]; exact a2
    · simp only [eb, if_false]; exact a1
  have fin : ∀ (H1 : Heap) (locs1 : List Loc) (el : va_E), el = jm_cell E.2.2 as (.inr (kd, n1, rs1)) (fun b => if b < n.toNat then h r b else h q b) → va_P E.2.1 jm_cl ((jm_ws E.2.2 as sh h).set q (as.getD q 0, el)) H1 → va_D A ((jm_ws E.2.2 as sh h).set q (as.getD q 0, el)) → va_S A s.heap H1 locs1 → W p E.1 e (jm_rm M d) s m args below meth c H1 locs1 cu su (MQ below (jm_Qc E as0 A Q) args s M.2.2.2.2.1 M.2.2.2.2.2 A) (F0 m (pc + 3) lsM (st.map (jm_E as))) := by
    intro H1 locs1 el hel hP hD hS1
    subst hel
    rw [jm_ws_set _ hq, jm_set_same hq, ec] at hP hD
    refine k p e s m args below meth c H1 locs1 as0 as A lsM cx hS1 hA hx ⟨hw.1, fun a c' hi => ?_, hP, hD⟩ hl hlo (fun v hv => hso v (List.mem_cons_of_mem _ (List.mem_cons_of_mem _ (List.mem_cons_of_mem _ (List.mem_cons_of_mem _ (List.mem_cons_of_mem _ hv)))))) hln
    by_cases ea : a = q
    · subst ea
      cases hi.symm.trans hq
      have : jm_cpy h r a n.toNat a = fun b => if b < n.toNat then h r b else h a b := by
        funext b
        simp [jm_cpy]
      rw [this]
      exact hcok
    · have : jm_cpy h r q n.toNat a = h a := by
        funext b
        simp [jm_cpy, ea]
      rw [this]
      exact hw.2.1 a c' hi
  rcases hkd with rfl | rfl
  · refine va_copyi (ty := .int) (f := fun j => Int32.ofInt (h r j)) (g := fun j => Int32.ofInt (h q j)) cx.1 cx.2.1 (by rw [cx.2.2.1]; exact hl.1.symm) cx.2.2.2.1 (ht _ (List.mem_cons_of_mem _ hlk)) (ht _ (List.mem_cons_of_mem _ h1)) (ht _ (List.mem_cons_of_mem _ h2)) (ht _ (List.mem_cons_of_mem _ h3)) cx.2.2.2.2.2.1 hw.2.2.1 hw.2.2.2 hS r q 0 0 (jm_ws_at hr) (jm_ws_at hq) rfl rfl rfl hlt0 hlt0 hltn (by rw [hc0, hcn]; show 0 + n.toNat ≤ n0; omega) (by rw [hc0, hcn]; show 0 + n.toNat ≤ n1; omega) (fun _ _ => rfl) hdd hloc hd (fun H1 locs1 hP hD hS1 => fin H1 locs1 _ ?_ hP hD hS1)
    show Sum.inl (E.2.2 0, n1, _) = Sum.inl (E.2.2 0, n1, _)
    congr 3
    show Sum.inl _ = Sum.inl _
    congr 1
    funext b
    rw [hc0, hcn]
    unfold va_cpy
    by_cases eb : b < n.toNat
    · simp [eb]
    · simp [eb]
  · refine va_copyl (ty := .long) (f := fun j => Int64.ofInt (h r j)) (g := fun j => Int64.ofInt (h q j)) cx.1 cx.2.1 (by rw [cx.2.2.1]; exact hl.1.symm) cx.2.2.2.1 (ht _ (List.mem_cons_of_mem _ hlk)) (ht _ (List.mem_cons_of_mem _ h1)) (ht _ (List.mem_cons_of_mem _ h2)) (ht _ (List.mem_cons_of_mem _ h3)) cx.2.2.2.2.2.1 hw.2.2.1 hw.2.2.2 hS r q 1 1 (jm_ws_at hr) (jm_ws_at hq) rfl rfl rfl hlt0 hlt0 hltn (by rw [hc0, hcn]; show 0 + n.toNat ≤ n0; omega) (by rw [hc0, hcn]; show 0 + n.toNat ≤ n1; omega) (fun _ _ => rfl) hdd hloc hd (fun H1 locs1 hP hD hS1 => fin H1 locs1 _ ?_ hP hD hS1)
    show Sum.inl (E.2.2 1, n1, _) = Sum.inl (E.2.2 1, n1, _)
    congr 3
    show Sum.inr (Sum.inl _) = Sum.inr (Sum.inl _)
    congr 2
    funext b
    rw [hc0, hcn]
    unfold va_cpy
    by_cases eb : b < n.toNat
    · simp [eb]
    · simp [eb]
end JML
