/-! THE LAW'S OWN FRAME: its script stands in local 0, the rest is numbers and cells as everywhere -/
def lj_A (s : State) : Nat → Prop := fun q => s.heap.size ≤ q
def lj_C (E : jm_Env) (p : Program) (s : State) (m : MethodId) (meth : Method) (c : Code) (b L : Nat) (xs : Nat → Int32) : Prop := lw_At p s m meth c b L xs ∧ va_K E.2.1 jm_cl (jm_tys E.2.2) s ∧ jm_K2 s
def lj_G (E : jm_Env) (p : Program) (e : Env) (s : State) (m : MethodId) (below : List Frame) (meth : Method) (c : Code) (b cu su pc : Nat) (ls : List (Option jm_V)) (st : List jm_V) (sh : List jm_C) (h : jm_H) : Prop :=
  ∀ (H : Heap) (locs : List Loc) (as : List Nat) (lsM : Array Slot), va_S (lj_A s) s.heap H locs → jm_Wd E as sh h (lj_A s) H → lv_has lsM 4 ((0, Value.ref b) :: jm_lv as ls) → jm_lok sh.length ls → jm_sok sh.length st →
    W p E.1 e room_1 s m #[Value.ref b] below meth c H locs cu su (lw_Z below #[Value.ref b] s) (F0 m pc lsM (st.map (jm_E as)))
theorem lj_tl {lsM : Array Slot} {n : Nat} {a : Nat × Value} {l : List (Nat × Value)} (h : lv_has lsM n (a :: l)) : lv_has lsM n l := ⟨h.1, h.2.1, fun q hq => h.2.2 q (List.mem_cons_of_mem _ hq)⟩
theorem lj_cons {lsM : Array Slot} {n : Nat} {a : Nat × Value} {l : List (Nat × Value)} (h0 : lsM[a.1]? = some (.val a.2)) (h : lv_has lsM n l) : lv_has lsM n (a :: l) := ⟨h.1, h.2.1, fun q hq => by
  rcases List.mem_cons.mp hq with rfl | hq
  · exact h0
  · exact h.2.2 q hq⟩
theorem lj_good {M' : jm_M} (hc : Cond.code M'.1 M'.2.1 M'.2.2.1 M'.2.2.2.1 ∈ jm_wG) : GoodIn lw_tbl (jm_wsM M') := by
  intro w hw
  have h : w ∈ jm_wG := by
    rcases List.mem_cons.mp hw with rfl | q
    · exact hc
    · exact q
  exact ⟨(List.mem_filter.mp h).1, jm_wG_good h⟩
section LJ
variable {E : jm_Env} {p : Program} {e : Env} {s : State} {m : MethodId} {below : List Frame} {meth : Method} {c : Code} {b L : Nat} {xs : Nat → Int32} {cu su pc : Nat} {ls : List (Option jm_V)} {st : List jm_V} {sh : List jm_C} {h : jm_H} {M' : jm_M} {d' : Nat}
theorem lj_w (C0 : lj_C E p s m meth c b L xs) {w : Cond} (h : w ∈ jm_wG) : w.before #[Value.ref b] s = true := C0.1.2.2.2.2.2.1 w (List.mem_filter.mp h).1
theorem lj_own (C0 : lj_C E p s m meth c b L xs) : s.vm.findClass "CodeCoverLaw" = some m.cls := C0.1.2.2.2.2.1
theorem lj_wide {cu2 su2 : Nat} (h1 : cu ≤ cu2) (h2 : su ≤ su2) (k : lj_G E p e s m below meth c b cu2 su2 pc ls st sh h) : lj_G E p e s m below meth c b cu su pc ls st sh h := by
  intro H locs as lsM hS hw hl hlo hso
  exact W.widen h1 h2 (k H locs as lsM hS hw hl hlo hso)
theorem lj_aload {n : Fin 4} {i r : Nat} (C0 : lj_C E p s m meth c b L xs) (hd : decode code pc = .ok (.aload_n n, 1)) (hi : (n : Nat) = i) (hv : ls[i]? = some (some (jm_R r))) (k : lj_G E p e s m below meth c b cu su (pc + 1) ls (jm_R r :: st) sh h) : lj_G E p e s m below meth c b cu su pc ls st sh h := by
  intro H locs as lsM hS hw hl hlo hso
  exact lv_aload_n C0.1.1 C0.1.2.1 hd hi (jm_lv_at (lj_tl hl) hv) (k H locs as lsM hS hw hl hlo (jm_sok_cons (hlo _ _ hv) hso))
theorem lj_dup {v : jm_V} (C0 : lj_C E p s m meth c b L xs) (hd : decode code pc = .ok (.dup, 1)) (hc : jm_two (some v) = false) (k : lj_G E p e s m below meth c b cu su (pc + 1) ls (v :: v :: st) sh h) : lj_G E p e s m below meth c b cu su pc ls (v :: st) sh h := by
  intro H locs as lsM hS hw hl hlo hso
  exact lv_dup C0.1.1 C0.1.2.1 hd (by rw [jm_two_cat, hc]; rfl) (k H locs as lsM hS hw hl hlo (jm_sok_cons (jm_sok_head hso) hso))
theorem lj_iconst {n : Int} (C0 : lj_C E p s m meth c b L xs) (hd : decode code pc = .ok (.iconst n, 1)) (hn : jm_o32 n) (k : lj_G E p e s m below meth c b cu su (pc + 1) ls (jm_I n :: st) sh h) : lj_G E p e s m below meth c b cu su pc ls st sh h := by
  intro H locs as lsM hS hw hl hlo hso
  exact lv_iconst C0.1.1 C0.1.2.1 hd rfl (k H locs as lsM hS hw hl hlo (jm_sok_cons hn hso))
theorem lj_st {as : List Nat} {lsM : Array Slot} {i : Nat} {v : jm_V} (hi : i ≠ 0) (hc : jm_two (some v) = false) (h : lv_has lsM 4 ((i, jm_E as v) :: ((0, Value.ref b) :: jm_lv as ls).filter (fun q => !(q.1 == i) && !(q.1 + 1 == i && q.2.category == 2)))) : lv_has lsM 4 ((0, Value.ref b) :: jm_lv as (jm_st ls i v)) := by
  refine lj_cons (h.2.2 (0, Value.ref b) (List.mem_cons_of_mem _ (List.mem_filter.mpr ⟨List.mem_cons_self, ?_⟩))) (jm_st_has1 hc ⟨h.1, h.2.1, fun q hq => h.2.2 q ?_⟩)
  · have h0 : (0 == i) = false := by
      cases i with
      | zero => exact absurd rfl hi
      | succ i => rfl
    show (!(0 == i) && !((0 + 1 == i) && (Value.ref b).category == 2)) = true
    rw [h0]
    cases (0 + 1 == i) <;> rfl
  · rcases List.mem_cons.mp hq with rfl | hq
    · exact List.mem_cons_self
    · obtain ⟨z1, z2⟩ := List.mem_filter.mp hq
      exact List.mem_cons_of_mem _ (List.mem_filter.mpr ⟨List.mem_cons_of_mem _ z1, z2⟩)
theorem lj_astore {n : Fin 4} {i r : Nat} (C0 : lj_C E p s m meth c b L xs) (hd : decode code pc = .ok (.astore_n n, 1)) (hi : (n : Nat) = i) (hn : i < 4 ∧ i ≠ 0) {ls2 : List (Option jm_V)} (h2 : jm_st ls i (jm_R r) = ls2) (k : lj_G E p e s m below meth c b cu su (pc + 1) ls2 st sh h) : lj_G E p e s m below meth c b cu su pc ls (jm_R r :: st) sh h := by
  intro H locs as lsM hS hw hl hlo hso
  subst h2
  exact lv_astore_n C0.1.1 C0.1.2.1 hd hi hl hn.1 rfl (fun ls' hl' => k H locs as ls' hS hw (lj_st hn.2 rfl hl') (jm_st_ok hlo (jm_sok_head hso)) (jm_sok_tail hso))
theorem lj_istore {n : Fin 4} {i : Nat} {v : Int} (C0 : lj_C E p s m meth c b L xs) (hd : decode code pc = .ok (.istore_n n, 1)) (hi : (n : Nat) = i) (hn : i < 4 ∧ i ≠ 0) {ls2 : List (Option jm_V)} (h2 : jm_st ls i (jm_I v) = ls2) (k : lj_G E p e s m below meth c b cu su (pc + 1) ls2 st sh h) : lj_G E p e s m below meth c b cu su pc ls (jm_I v :: st) sh h := by
  intro H locs as lsM hS hw hl hlo hso
  subst h2
  exact lv_istore_n C0.1.1 C0.1.2.1 hd hi hl hn.1 rfl (fun ls' hl' => k H locs as ls' hS hw (lj_st hn.2 rfl hl') (jm_st_ok hlo (jm_sok_head hso)) (jm_sok_tail hso))
theorem lj_iinc {i : Nat} {n v : Int} (C0 : lj_C E p s m meth c b L xs) (hd : decode code pc = .ok (.iinc i n, 3)) (hv : ls[i]? = some (some (jm_I v))) (hn : i < 4 ∧ i ≠ 0) {ls2 : List (Option jm_V)} (h2 : jm_st ls i (jm_I (jm_w32 (v + n))) = ls2) (k : lj_G E p e s m below meth c b cu su (pc + 3) ls2 st sh h) : lj_G E p e s m below meth c b cu su pc ls st sh h := by
  intro H locs as lsM hS hw hl hlo hso
  subst h2
  obtain ⟨j, hj⟩ := List.getElem?_of_mem (List.mem_cons_of_mem (0, Value.ref b) (jm_lv_in (as := as) hv))
  exact lv_iinc C0.1.1 C0.1.2.1 hd hl hj (jm_add32 v n) hn.1 rfl (fun ls' hl' => k H locs as ls' hS hw (lj_st hn.2 rfl hl') (jm_st_ok hlo (jm_w32_o _)) hso)
theorem lj_goto {off : Int} {tgt : Nat} (C0 : lj_C E p s m meth c b L xs) (hd : decode code pc = .ok (.goto off, 3)) (ht : (pc : Int) + off = (tgt : Int)) (k : lj_G E p e s m below meth c b cu su tgt ls st sh h) : lj_G E p e s m below meth c b cu su pc ls st sh h := by
  intro H locs as lsM hS hw hl hlo hso
  exact lv_goto C0.1.1 C0.1.2.1 hd ht (k H locs as lsM hS hw hl hlo hso)
/-- both answers are one: on it goes -/
theorem lj_same {off v : Int} {tgt : Nat} (C0 : lj_C E p s m meth c b L xs) (hd : decode code pc = .ok (.if_icmp .eq off, 3)) (ht : (pc : Int) + off = (tgt : Int)) (k : lj_G E p e s m below meth c b cu su tgt ls st sh h) : lj_G E p e s m below meth c b cu su pc ls (jm_I v :: jm_I v :: st) sh h := by
  intro H locs as lsM hS hw hl hlo hso
  exact lv_icmp_eq C0.1.1 C0.1.2.1 hd ht (fun _ => k H locs as lsM hS hw hl hlo (jm_sok_tail (jm_sok_tail hso))) (fun q => absurd rfl q)
/-- a word of the script -/
theorem lj_arg {i k : Int} (C0 : lj_C E p s m meth c b L xs) (hL : L ≤ 3072) (d0 : decode code pc = .ok (.aload_n 0, 1)) (d1 : decode code (pc + 1) = .ok (.iload_n 3, 1)) (d2 : decode code (pc + 2) = .ok (.iconst k, 1)) (d3 : decode code (pc + 3) = .ok (.iadd, 1)) (d4 : decode code (pc + 4) = .ok (.iaload, 1)) (hv : ls[3]? = some (some (jm_I i))) (hi : 0 ≤ i ∧ i + 5 < L) (hk : 0 ≤ k ∧ k ≤ 5) (kk : lj_G E p e s m below meth c b cu su (pc + 5) ls (jm_I (xs (i + k).toNat).toInt :: st) sh h) : lj_G E p e s m below meth c b cu su pc ls st sh h := by
  intro H locs as lsM hS hw hl hlo hso
  obtain ⟨hx, hb, -, -, -, -, hX, hbl, -, -⟩ := C0.1
  have hbA : ¬ lj_A s b := Nat.not_le.mpr hbl
  refine lv_aload_n hx hb d0 rfl (hl.2.2 (0, Value.ref b) List.mem_cons_self) ?_
  refine lv_iload_n hx hb d1 rfl (jm_lv_at (lj_tl hl) hv) ?_
  refine lv_iconst hx hb d2 rfl ?_
  refine lv_iadd hx hb d3 ?_
  have o : jm_o32 (i + k) := ⟨by omega, by omega⟩
  rw [jm_add32 i k, jm_w32_id o]
  refine va_sld hx hb hX hbl hbA hS (jm_in o (by omega) (by omega)) d4 ?_
  rw [jm_clamp o]
  have K := kk H locs as lsM hS hw hl hlo (jm_sok_cons (jm_to32 _) hso)
  have e1 : (jm_I (xs (i + k).toNat).toInt :: st).map (jm_E as) = .int (xs (i + k).toNat) :: st.map (jm_E as) := by
    show Value.int (Int32.ofInt (xs (i + k).toNat).toInt) :: _ = _
    rw [Int32.ofInt_toInt]
  rw [e1] at K
  exact K
/-- behind a call -/
theorem lj_behind {H : Heap} {locs : List Loc} {as : List Nat} {lsM : Array Slot} {a : Array Value} {st0 : List Value}
    (hS : va_S (lj_A s) s.heap H locs) (hw : jm_Wd E as sh h (lj_A s) H) (hl : lv_has lsM 4 ((0, Value.ref b) :: jm_lv as ls)) (hlo : jm_lok sh.length ls) (hso : jm_sok sh.length st)
    (hr : va_Run p E.1 e room_1 s m #[Value.ref b] below meth c H locs cu su M'.2.2.2.2.1 M'.2.2.2.2.2 (F0 m pc lsM st0) (st.map (jm_E as)) (jm_Qc E as (va_A (jm_ws E.2.2 as sh h) H.size) (fun r sh' h' => lj_G E p e s m below meth c b (cu + M'.2.2.2.2.1) (su + M'.2.2.2.2.2) (pc + 3) ls (r.toList ++ st) sh' h') a) (va_A (jm_ws E.2.2 as sh h) H.size)) :
    W p E.1 e room_1 s m #[Value.ref b] below meth c H locs cu su (lw_Z below #[Value.ref b] s) (F0 m pc lsM st0) := by
  have hsub : ∀ q, va_A (jm_ws E.2.2 as sh h) H.size q → lj_A s q := by
    intro q hq
    rcases hq with ⟨k, el, hk⟩ | hk
    · exact hw.2.2.2.2 k _ hk
    · exact Nat.le_trans hS.1 hk
  intro T hT X
  obtain ⟨v, st₀, t, T', L, h0, X', hL, e1, e2, ⟨⟨r, sh', h', x', hv, hQ, hro, hWd⟩, hz, hk⟩, stp⟩ := hr T hT X
  cases hv
  rw [h0] at hz hk
  have hlen : sh.length ≤ sh'.length := by
    have h1 := hWd.1
    rw [List.length_append, hw.1] at h1
    omega
  have hS1 : va_S (lj_A s) s.heap T'.heap (locs ++ L) := ⟨Nat.le_trans hS.1 (by rw [e1]; exact hz), fun q h1 h2 => by rw [e1, hk q (Nat.lt_of_lt_of_le h1 hS.1) (fun z => h2 (hsub q z))]; exact hS.2.1 q h1 h2, fun q hq => by
    rcases List.mem_append.mp hq with z | z
    · exact hS.2.2 q z
    · exact hsub _ (hL q z)⟩
  have hW1 : jm_Wd E (as ++ x') sh' h' (lj_A s) T'.heap := by
    rw [e1]
    exact ⟨hWd.1, hWd.2.1, hWd.2.2.1, hWd.2.2.2.weaken (fun k q hq hz => hsub _ hz)⟩
  have hlo1 : jm_lok as.length ls := by rw [hw.1]; exact hlo
  have hso1 : jm_sok as.length st := by rw [hw.1]; exact hso
  have hso2 : jm_sok sh'.length (r.toList ++ st) := by
    intro w hw2
    rcases List.mem_append.mp hw2 with z | z
    · exact hro w (by simpa using z)
    · exact jm_ok_mono (hso w z) hlen
  have K := hQ T'.heap (locs ++ L) (as ++ x') lsM hS1 hW1 (lj_cons (hl.2.2 (0, Value.ref b) List.mem_cons_self) (jm_lv_app (lj_tl hl) hlo1)) (fun i w hi => jm_ok_mono (hlo i w hi) hlen) hso2 T' rfl X'
  obtain ⟨t2, a1, b1⟩ := K
  refine ⟨t2, stp t2 ?_, b1⟩
  have e3 : (r.toList ++ st).map (jm_E (as ++ x')) = (r.map (jm_E (as ++ x'))).toList ++ st.map (jm_E as) := by
    rw [List.map_append, jm_map_app hso1]
    cases r <;> rfl
  rw [e3] at a1
  exact a1
theorem lj_cat {as : List Nat} : (st.map (jm_E as)).map (fun v => v.category) = st.map fun v => if jm_two (some v) then 2 else 1 := by
  rw [List.map_map]
  apply List.map_congr_left
  intro v _
  exact jm_two_cat
theorem lj_invV {i n r ci : Nat} {rs : List (Option Nat)} {C : String} {T : u_T} {N : Nat} {av : List jm_V} (C0 : lj_C E p s m meth c b L xs) (hd : decode code pc = .ok (.invokevirtual i, 3)) (hk : jm_kV M' n) (hlk : Cond.methodLink "CodeCoverLaw" i M'.1 ∈ jm_wG) (hn : av.length = n) (hdd : d' ≤ 2000) (hmc : cu + M'.2.2.2.2.1 ≤ 600000 ∧ su + M'.2.2.2.2.2 ≤ 7302250) (hst : (st.map fun v => if jm_two (some v) then 2 else 1).sum ≤ 8) (hs : sh[r]? = some (.inl (ci, rs))) (hc : jm_cl[ci]? = some (C, T, N)) (hC : C = M'.1.cls)
    (k : jm_Call E M' d' (jm_R r :: av) sh h (fun rr sh' h' => lj_G E p e s m below meth c b (cu + M'.2.2.2.2.1) (su + M'.2.2.2.2.2) (pc + 3) ls (rr.toList ++ st) sh' h')) : lj_G E p e s m below meth c b cu su pc ls (av.reverse ++ jm_R r :: st) sh h := by
  intro H locs as lsM hS hw hl hlo hso
  obtain ⟨k1, k1b, k2, k3, k4, k5⟩ := hk
  have ht := C0.1.2.2.2.2.2.1
  have hav : ∀ v ∈ jm_R r :: av, jm_ok sh.length v := fun v hv => by
    rcases List.mem_cons.mp hv with rfl | hv
    · exact hso _ (List.mem_append.mpr (Or.inr List.mem_cons_self))
    · exact hso v (List.mem_append.mpr (Or.inl (List.mem_reverse.mpr hv)))
  refine lj_behind (M' := M') (a := ((jm_R r :: av).map (jm_E as)).toArray) hS hw hl hlo (fun v hv => hso v (List.mem_append.mpr (Or.inr (List.mem_cons_of_mem _ hv)))) ?_
  refine va_runV (C := C) (As := av.map (jm_E as)) (n := n) ⟨C0.1.1, C0.1.2.1, C0.1.2.2.2.1, lj_own C0, ht⟩ (k as H.size) ⟨callB_of n ht (lj_good k3) rfl rfl rfl (lj_w C0 k2) (lj_w C0 hlk) k4 ⟨?_, ?_⟩, lj_w C0 k1, by subst hC; exact lj_w C0 k1b⟩ ⟨jm_blind, va_recv C0.2.1 hw.2.2.1 hc (jm_ws_at hs), fun U hU hW => jm_pre C0.2.1 C0.2.2 hw hav hU hW⟩ rfl (by rw [List.length_map]; exact hn) hl.1 (by show List.map _ _ = _; rw [List.map_append, List.map_reverse]; rfl) ?_ hd hmc
  · show d' + 1 ≤ 2048
    omega
  · show 8 + (M'.2.2.1 + 11) + 40 * d' ≤ 84000
    omega
  · refine lv_room ?_
    rw [lj_cat]
    exact hst
theorem lj_invI {i n r : Nat} {av : List jm_V} (C0 : lj_C E p s m meth c b L xs) (hd : decode code pc = .ok (.invokespecial i, 3)) (hk : jm_kI M' n) (hlk : Cond.methodLink "CodeCoverLaw" i M'.1 ∈ jm_wG) (hn : av.length = n) (hdd : d' ≤ 2000) (hmc : cu + M'.2.2.2.2.1 ≤ 600000 ∧ su + M'.2.2.2.2.2 ≤ 7302250) (hst : (st.map fun v => if jm_two (some v) then 2 else 1).sum ≤ 8)
    (k : jm_Call E M' d' (jm_R r :: av) sh h (fun rr sh' h' => lj_G E p e s m below meth c b (cu + M'.2.2.2.2.1) (su + M'.2.2.2.2.2) (pc + 3) ls (rr.toList ++ st) sh' h')) : lj_G E p e s m below meth c b cu su pc ls (av.reverse ++ jm_R r :: st) sh h := by
  intro H locs as lsM hS hw hl hlo hso
  obtain ⟨k1, k1b, k2, k3, k3b, k4, k5⟩ := hk
  have ht := C0.1.2.2.2.2.2.1
  have hav : ∀ v ∈ jm_R r :: av, jm_ok sh.length v := fun v hv => by
    rcases List.mem_cons.mp hv with rfl | hv
    · exact hso _ (List.mem_append.mpr (Or.inr List.mem_cons_self))
    · exact hso v (List.mem_append.mpr (Or.inl (List.mem_reverse.mpr hv)))
  have hM := k as H.size
  refine lj_behind (M' := M') (a := ((jm_R r :: av).map (jm_E as)).toArray) hS hw hl hlo (fun v hv => hso v (List.mem_append.mpr (Or.inr (List.mem_cons_of_mem _ hv)))) ?_
  refine va_runI (As := av.map (jm_E as)) (n := n) ⟨C0.1.1, C0.1.2.1, C0.1.2.2.2.1, lj_own C0, ht⟩ hM ⟨callB_of n ht (lj_good (by rw [k3b]; exact k3)) (by unfold jm_wsM; rw [k3b]) rfl rfl (lj_w C0 k2) (lj_w C0 hlk) k4 ⟨?_, ?_⟩, k1b, lj_w C0 k1⟩ ⟨jm_blind, fun U hU hW => jm_pre C0.2.1 C0.2.2 hw hav hU hW⟩ rfl (by rw [List.length_map]; exact hn) hl.1 (by show List.map _ _ = _; rw [List.map_append, List.map_reverse]; rfl) ?_ hd hmc
  · show d' + 1 ≤ 2048
    omega
  · show 8 + (M'.2.2.1 + 11) + 40 * d' ≤ 84000
    omega
  · refine lv_room ?_
    rw [lj_cat]
    exact hst
theorem lj_new {i ci N r : Nat} {C : String} {T : u_T} {sh2 : List jm_C} (hr : sh.length = r) (C0 : lj_C E p s m meth c b L xs) (hd : decode code pc = .ok (.new i, 3)) (hc : jm_cl[ci]? = some (C, T, N)) (hcl : Cond.classLink "CodeCoverLaw" i C ∈ jm_wG) (hin : Cond.instantiable C N ∈ jm_wG) (hini : Cond.initialized C ∈ jm_wG) (hft : ∀ j, j < N → (jm_ft ci).getD j 0 ≠ 9) (hmc : cu + 1 ≤ 600000 ∧ su + N ≤ 7302250) (hs2 : sh ++ [.inl (ci, List.replicate N none)] = sh2)
    (k : lj_G E p e s m below meth c b (cu + 1) (su + N) (pc + 3) ls (jm_R r :: st) sh2 (jm_row h r (fun _ => 0))) : lj_G E p e s m below meth c b cu su pc ls st sh h := by
  subst hr
  subst hs2
  intro H locs as lsM hS hw hl hlo hso
  obtain ⟨c1, c2, c3, c4, c5⟩ := jm_clok hc
  have ht := C0.1.2.2.2.2.2.1
  have hrn : ∀ j, (List.replicate N (none : Option Nat)).getD j none = none := fun j => by
    simp only [List.getD, List.getElem?_replicate]
    split <;> rfl
  have hfs : ∀ j, j < N → defaultValue (jm_ty ci j) = vp_V (jm_fs as ci (List.replicate N none) (fun _ => 0)) j := by
    intro j hj
    have h9 := hft j hj
    unfold vp_V
    rw [List.getD, jm_fs_at (by rw [← c2]; exact hj), Option.getD_some, hrn]
    rw [← c5 j hj] at h9 ⊢
    generalize jm_ty ci j = ty at h9
    cases ty <;> first | rfl | exact absurd rfl h9
  refine va_new (fs := jm_fs as ci (List.replicate N none) (fun _ => 0)) C0.1.1 C0.1.2.1 ht (fun w hw => (List.mem_filter.mp (c1 w hw)).1) (jm_ty ci) c3 (lj_own C0) (lj_w C0 hcl) (lj_w C0 hin) (lj_w C0 hini) C0.2.1 hw.2.2.1 hw.2.2.2 hS (fun _ z => z) hc hfs hmc.1 hmc.2 hd (fun q H1 hP hD hS1 => ?_)
  have hw1 := hw.one (c := .inl (ci, List.replicate N none)) ⟨fun j => jm_o0z _, fun j r hr => by rw [hrn] at hr; cases hr⟩ (by
    show Sum.inr (ci, _) = Sum.inr (ci, _)
    rw [jm_fs_app (fun j r hr => by rw [hrn] at hr; cases hr)]) hP hD
  have hlen : as.length = sh.length := hw.1
  have K := k H1 locs (as ++ [q]) lsM hS1 hw1 (lj_cons (hl.2.2 (0, Value.ref b) List.mem_cons_self) (jm_lv_app (lj_tl hl) (by rw [hlen]; exact hlo))) (fun j v hj => jm_ok_mono (hlo j v hj) (by simp)) (jm_sok_cons (by show sh.length < _; simp) (fun v hv => jm_ok_mono (hso v hv) (by simp)))
  have e1 : (jm_R sh.length :: st).map (jm_E (as ++ [q])) = .ref q :: st.map (jm_E as) := by
    have e0 : jm_E (as ++ [q]) (jm_R sh.length) = Value.ref q := by
      show Value.ref ((as ++ [q]).getD sh.length 0) = _
      simp [List.getD, ← hlen]
    rw [List.map_cons, jm_map_app (by rw [hlen]; exact hso), e0]
  rw [e1] at K
  exact K
end LJ
