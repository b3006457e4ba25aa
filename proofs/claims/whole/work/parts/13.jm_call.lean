/-! calls -/
theorem jm_E_app {as x : List Nat} {v : jm_V} (h : jm_ok as.length v) : jm_E (as ++ x) v = jm_E as v := by
  rcases v with z | z | r
  · rfl
  · rfl
  · show Value.ref ((as ++ x).getD r 0) = Value.ref (as.getD r 0)
    have hr : r < as.length := h
    simp [List.getD, List.getElem?_append_left hr]
theorem jm_ok_mono {n n' : Nat} {v : jm_V} (h : jm_ok n v) (hn : n ≤ n') : jm_ok n' v := by
  rcases v with z | z | r
  · exact h
  · exact h
  · exact Nat.lt_of_lt_of_le h hn
theorem jm_lv_app {as x : List Nat} {ls : List (Option jm_V)} {lsM : Array Slot} {n : Nat} (hl : lv_has lsM n (jm_lv as ls)) (hlo : jm_lok as.length ls) : lv_has lsM n (jm_lv (as ++ x) ls) := by
  refine ⟨hl.1, hl.2.1, fun q hq => ?_⟩
  obtain ⟨v, h1, h2⟩ := jm_lv_mem hq
  rw [h2, jm_E_app (hlo _ _ h1)]
  exact jm_lv_at hl h1
theorem jm_map_app {as x : List Nat} {st : List jm_V} (h : jm_sok as.length st) : st.map (jm_E (as ++ x)) = st.map (jm_E as) := List.map_congr_left fun v hv => jm_E_app (h v hv)
theorem jm_wG_good {w : Cond} (h : w ∈ jm_wG) : (w.onTables && w.keeps) = true ∨ ∃ ty, w = .arrayClass ty := good_of_word (List.mem_filter.mp h).2
theorem jm_good {M M' : jm_M} (hc : Cond.code M'.1 M'.2.1 M'.2.2.1 M'.2.2.2.1 ∈ jm_wG) : GoodIn (jm_wsM M) (jm_wsM M') := by
  intro w hw
  have h : w ∈ jm_wG := by
    rcases List.mem_cons.mp hw with rfl | q
    · exact hc
    · exact q
  exact ⟨List.mem_cons_of_mem _ h, jm_wG_good h⟩
/-- what the tables say of a method that is called: an instance's, a class's, a constructor -/
def jm_kV (M : jm_M) (n : Nat) : Prop := Cond.instanceMethod M.1 ∈ jm_wG ∧ Cond.selects M.1.cls M.1 M.1 ∈ jm_wG ∧ Cond.initialized M.1.cls ∈ jm_wG ∧ Cond.code M.1 M.2.1 M.2.2.1 M.2.2.2.1 ∈ jm_wG ∧ (M.1.cls ≠ "java/lang/invoke/MethodHandle" ∧ M.1.cls ≠ "java/lang/invoke/VarHandle" ∧ (parseMethodDescriptor M.1.desc).map (fun d => d.parameters.length) = some n) ∧ M.2.2.1 ≤ 21
def jm_kS (M : jm_M) (n : Nat) : Prop := Cond.static M.1 ∈ jm_wG ∧ Cond.initialized M.1.cls ∈ jm_wG ∧ Cond.code M.1 M.2.1 M.2.2.1 M.2.2.2.1 ∈ jm_wG ∧ (M.1.cls ≠ "java/lang/invoke/MethodHandle" ∧ M.1.cls ≠ "java/lang/invoke/VarHandle" ∧ (parseMethodDescriptor M.1.desc).map (fun d => d.parameters.length) = some n) ∧ M.2.2.1 ≤ 21
def jm_kI (M : jm_M) (n : Nat) : Prop := Cond.instanceMethod M.1 ∈ jm_wG ∧ M.1.name = "<init>" ∧ Cond.initialized M.1.cls ∈ jm_wG ∧ Cond.code M.1 M.2.1 M.2.2.1 none ∈ jm_wG ∧ M.2.2.2.1 = none ∧ (M.1.cls ≠ "java/lang/invoke/MethodHandle" ∧ M.1.cls ≠ "java/lang/invoke/VarHandle" ∧ (parseMethodDescriptor M.1.desc).map (fun d => d.parameters.length) = some n) ∧ M.2.2.1 ≤ 21
section JMC
variable {E : jm_Env} {M M' : jm_M} {d d' cu su pc : Nat} {ls : List (Option jm_V)} {st : List jm_V} {sh : List jm_C} {h : jm_H} {Q : jm_Q}
/-- behind a call -/
theorem jm_behind {p : Program} {e : Env} {s : State} {m : MethodId} {args : Array Value} {below : List Frame} {meth : Method} {c : Code} {H : Heap} {locs : List Loc} {as0 as : List Nat} {A : Nat → Prop} {lsM : Array Slot} {a : Array Value} {st0 : List Value}
    (cx : jm_Cx E M p s m args meth c) (hS : va_S A s.heap H locs) (hA : ∀ q, s.heap.size ≤ q → A q) (hx : ∃ x, as = as0 ++ x) (hw : jm_Wd E as sh h A H) (hl : lv_has lsM M.2.2.1 (jm_lv as ls)) (hlo : jm_lok sh.length ls) (hso : jm_sok sh.length st) (hln : ls.length = M.2.2.1)
    (hr : va_Run p E.1 e (jm_rm M d) s m args below meth c H locs cu su M'.2.2.2.2.1 M'.2.2.2.2.2 (F0 m pc lsM st0) (st.map (jm_E as)) (jm_Qc E as (va_A (jm_ws E.2.2 as sh h) H.size) (fun r sh' h' => jm_G E M d (cu + M'.2.2.2.2.1) (su + M'.2.2.2.2.2) (pc + 3) ls (r.toList ++ st) sh' h' Q) a) (va_A (jm_ws E.2.2 as sh h) H.size)) :
    W p E.1 e (jm_rm M d) s m args below meth c H locs cu su (MQ below (jm_Qc E as0 A Q) args s M.2.2.2.2.1 M.2.2.2.2.2 A) (F0 m pc lsM st0) := by
  have hsub : ∀ q, va_A (jm_ws E.2.2 as sh h) H.size q → A q := by
    intro q hq
    rcases hq with ⟨k, el, hk⟩ | hk
    · exact hw.2.2.2.2 k _ hk
    · exact hA q (Nat.le_trans hS.1 hk)
  intro T hT X
  obtain ⟨v, st₀, t, T', L, h0, X', hL, e1, e2, ⟨⟨r, sh', h', x', hv, hQ, hro, hWd⟩, hz, hk⟩, stp⟩ := hr T hT X
  cases hv
  rw [h0] at hz hk
  have hlen : sh.length ≤ sh'.length := by
    have h1 := hWd.1
    rw [List.length_append, hw.1] at h1
    omega
  have hS1 : va_S A s.heap T'.heap (locs ++ L) := ⟨Nat.le_trans hS.1 (by rw [e1]; exact hz), fun q h1 h2 => by rw [e1, hk q (Nat.lt_of_lt_of_le h1 hS.1) (fun z => h2 (hsub q z))]; exact hS.2.1 q h1 h2, fun q hq => by
    rcases List.mem_append.mp hq with z | z
    · exact hS.2.2 q z
    · exact hsub _ (hL q z)⟩
  have hW1 : jm_Wd E (as ++ x') sh' h' A T'.heap := by
    rw [e1]
    exact ⟨hWd.1, hWd.2.1, hWd.2.2.1, hWd.2.2.2.weaken (fun k q hq hz => hsub _ hz)⟩
  have hlo1 : jm_lok as.length ls := by rw [hw.1]; exact hlo
  have hso1 : jm_sok as.length st := by rw [hw.1]; exact hso
  have hso2 : jm_sok sh'.length (r.toList ++ st) := by
    intro w hw2
    rcases List.mem_append.mp hw2 with z | z
    · exact hro w (by simpa using z)
    · exact jm_ok_mono (hso w z) hlen
  have K := hQ p e s m args below meth c T'.heap (locs ++ L) as0 (as ++ x') A lsM cx hS1 hA (by obtain ⟨x, rfl⟩ := hx; exact ⟨x ++ x', List.append_assoc _ _ _⟩) hW1 (jm_lv_app hl hlo1) (fun i w hi => jm_ok_mono (hlo i w hi) hlen) hso2 hln T' rfl X'
  obtain ⟨t2, a1, b1⟩ := K
  refine ⟨t2, stp t2 ?_, b1⟩
  have e3 : (r.toList ++ st).map (jm_E (as ++ x')) = (r.map (jm_E (as ++ x'))).toList ++ st.map (jm_E as) := by
    rw [List.map_append, jm_map_app hso1]
    cases r <;> rfl
  rw [e3] at a1
  exact a1
theorem jm_pre {as : List Nat} {A : Nat → Prop} {H : Heap} {s U : State} {av : List jm_V} (hK : va_K E.2.1 jm_cl (jm_tys E.2.2) s) (hK2 : jm_K2 s) (hw : jm_Wd E as sh h A H) (hav : ∀ v ∈ av, jm_ok sh.length v) (hU : U.heap = H) (hW : s.WarmedH U.vm) : va_Pc (av.map (jm_E as)) (fun U => U.heap.size = H.size ∧ jm_Wd E as sh h (fun _ => True) U.heap ∧ (∀ v ∈ av, jm_ok sh.length v) ∧ va_K E.2.1 jm_cl (jm_tys E.2.2) U ∧ jm_K2 U) (av.map (jm_E as)).toArray U :=
  ⟨rfl, by rw [hU], by rw [hU]; exact ⟨hw.1, hw.2.1, hw.2.2.1, hw.2.2.2.weaken (fun _ _ _ _ => trivial)⟩, hav, va_K.moved hW.alike hK, hK2.warm hW⟩
theorem jm_blind {as : List Nat} {sz : Nat} {av : List jm_V} : FrameBlind (va_Pc (av.map (jm_E as)) (fun U => U.heap.size = sz ∧ jm_Wd E as sh h (fun _ => True) U.heap ∧ (∀ v ∈ av, jm_ok sh.length v) ∧ va_K E.2.1 jm_cl (jm_tys E.2.2) U ∧ jm_K2 U)) :=
  fun a U g mk q => ⟨q.1, q.2.1, q.2.2.1, q.2.2.2.1, va_K.moved (u := U) (U := U.calling g mk a) (Vm.Alike.refl U.vm) q.2.2.2.2.1, jm_K2.same (u := U) (U := U.calling g mk a) rfl q.2.2.2.2.2⟩
theorem jm_invS {i n : Nat} {av : List jm_V} (hd : decode M.2.1 pc = .ok (.invokestatic i, 3)) (hk : jm_kS M' n) (hlk : Cond.methodLink M.1.cls i M'.1 ∈ jm_wG) (hn : av.length = n) (hdd : d' + 1 ≤ d) (hmc : cu + M'.2.2.2.2.1 ≤ M.2.2.2.2.1 ∧ su + M'.2.2.2.2.2 ≤ M.2.2.2.2.2) (hst : (st.map fun v => if jm_two (some v) then 2 else 1).sum ≤ 8)
    (k : jm_Call E M' d' av sh h (fun r sh' h' => jm_G E M d (cu + M'.2.2.2.2.1) (su + M'.2.2.2.2.2) (pc + 3) ls (r.toList ++ st) sh' h' Q)) : jm_G E M d cu su pc ls (av.reverse ++ st) sh h Q := by
  intro p e s m args below meth c H locs as0 as A lsM cx hS hA hx hw hl hlo hso hln
  obtain ⟨k1, k2, k3, k4, k5⟩ := hk
  have ht := cx.2.2.2.2.1
  have hav : ∀ v ∈ av, jm_ok sh.length v := fun v hv => hso v (List.mem_append.mpr (Or.inl (List.mem_reverse.mpr hv)))
  refine jm_behind (M' := M') (a := (av.map (jm_E as)).toArray) cx hS hA hx hw hl hlo (fun v hv => hso v (List.mem_append.mpr (Or.inr hv))) hln ?_
  refine va_runS (As := av.map (jm_E as)) (n := n) ⟨cx.1, cx.2.1, cx.2.2.1, cx.2.2.2.1, ht⟩ (k as H.size) ⟨callB_of n ht (jm_good k3) rfl rfl rfl (ht _ (List.mem_cons_of_mem _ k2)) (ht _ (List.mem_cons_of_mem _ hlk)) k4 ⟨hdd, ?_⟩, ht _ (List.mem_cons_of_mem _ k1)⟩ ⟨jm_blind, fun U hU hW => jm_pre cx.2.2.2.2.2.1 cx.2.2.2.2.2.2.2.2.2 hw hav hU hW⟩ rfl (by rw [List.length_map]; exact hn) hl.1 (by show List.map _ _ = _; rw [List.map_append, List.map_reverse]) ?_ hd hmc
  · show 8 + (M'.2.2.1 + 11) + 40 * d' ≤ 40 * d
    omega
  · refine lv_room ?_
    rw [List.map_map]
    have : (fun v : Value => v.category) ∘ jm_E as = fun v => if jm_two (some v) then 2 else 1 := by
      funext v
      exact jm_two_cat
    rw [this]
    exact hst
theorem jm_invV {i n b ci : Nat} {rs : List (Option Nat)} {C : String} {T : u_T} {N : Nat} {av : List jm_V} (hd : decode M.2.1 pc = .ok (.invokevirtual i, 3)) (hk : jm_kV M' n) (hlk : Cond.methodLink M.1.cls i M'.1 ∈ jm_wG) (hn : av.length = n) (hdd : d' + 1 ≤ d) (hmc : cu + M'.2.2.2.2.1 ≤ M.2.2.2.2.1 ∧ su + M'.2.2.2.2.2 ≤ M.2.2.2.2.2) (hst : (st.map fun v => if jm_two (some v) then 2 else 1).sum ≤ 8) (hs : sh[b]? = some (.inl (ci, rs))) (hc : jm_cl[ci]? = some (C, T, N)) (hC : C = M'.1.cls)
    (k : jm_Call E M' d' (jm_R b :: av) sh h (fun r sh' h' => jm_G E M d (cu + M'.2.2.2.2.1) (su + M'.2.2.2.2.2) (pc + 3) ls (r.toList ++ st) sh' h' Q)) : jm_G E M d cu su pc ls (av.reverse ++ jm_R b :: st) sh h Q := by
  intro p e s m args below meth c H locs as0 as A lsM cx hS hA hx hw hl hlo hso hln
  obtain ⟨k1, k1b, k2, k3, k4, k5⟩ := hk
  have ht := cx.2.2.2.2.1
  have hav : ∀ v ∈ jm_R b :: av, jm_ok sh.length v := fun v hv => by
    rcases List.mem_cons.mp hv with rfl | hv
    · exact hso _ (List.mem_append.mpr (Or.inr List.mem_cons_self))
    · exact hso v (List.mem_append.mpr (Or.inl (List.mem_reverse.mpr hv)))
  refine jm_behind (M' := M') (a := ((jm_R b :: av).map (jm_E as)).toArray) cx hS hA hx hw hl hlo (fun v hv => hso v (List.mem_append.mpr (Or.inr (List.mem_cons_of_mem _ hv)))) hln ?_
  refine va_runV (C := C) (As := av.map (jm_E as)) (n := n) ⟨cx.1, cx.2.1, cx.2.2.1, cx.2.2.2.1, ht⟩ (k as H.size) ⟨callB_of n ht (jm_good k3) rfl rfl rfl (ht _ (List.mem_cons_of_mem _ k2)) (ht _ (List.mem_cons_of_mem _ hlk)) k4 ⟨hdd, ?_⟩, ht _ (List.mem_cons_of_mem _ k1), by subst hC; exact ht _ (List.mem_cons_of_mem _ k1b)⟩ ⟨jm_blind, va_recv cx.2.2.2.2.2.1 hw.2.2.1 hc (jm_ws_at hs), fun U hU hW => jm_pre cx.2.2.2.2.2.1 cx.2.2.2.2.2.2.2.2.2 hw hav hU hW⟩ rfl (by rw [List.length_map]; exact hn) hl.1 (by show List.map _ _ = _; rw [List.map_append, List.map_reverse]; rfl) ?_ hd hmc
  · show 8 + (M'.2.2.1 + 11) + 40 * d' ≤ 40 * d
    omega
  · refine lv_room ?_
    rw [List.map_map]
    have : (fun v : Value => v.category) ∘ jm_E as = fun v => if jm_two (some v) then 2 else 1 := by
      funext v
      exact jm_two_cat
    rw [this]
    exact hst
theorem jm_invI {i n b : Nat} {av : List jm_V} (hd : decode M.2.1 pc = .ok (.invokespecial i, 3)) (hk : jm_kI M' n) (hlk : Cond.methodLink M.1.cls i M'.1 ∈ jm_wG) (hn : av.length = n) (hdd : d' + 1 ≤ d) (hmc : cu + M'.2.2.2.2.1 ≤ M.2.2.2.2.1 ∧ su + M'.2.2.2.2.2 ≤ M.2.2.2.2.2) (hst : (st.map fun v => if jm_two (some v) then 2 else 1).sum ≤ 8)
    (k : jm_Call E M' d' (jm_R b :: av) sh h (fun r sh' h' => jm_G E M d (cu + M'.2.2.2.2.1) (su + M'.2.2.2.2.2) (pc + 3) ls (r.toList ++ st) sh' h' Q)) : jm_G E M d cu su pc ls (av.reverse ++ jm_R b :: st) sh h Q := by
  intro p e s m args below meth c H locs as0 as A lsM cx hS hA hx hw hl hlo hso hln
  obtain ⟨k1, k1b, k2, k3, k3b, k4, k5⟩ := hk
  have ht := cx.2.2.2.2.1
  have hav : ∀ v ∈ jm_R b :: av, jm_ok sh.length v := fun v hv => by
    rcases List.mem_cons.mp hv with rfl | hv
    · exact hso _ (List.mem_append.mpr (Or.inr List.mem_cons_self))
    · exact hso v (List.mem_append.mpr (Or.inl (List.mem_reverse.mpr hv)))
  have hM := k as H.size
  refine jm_behind (M' := M') (a := ((jm_R b :: av).map (jm_E as)).toArray) cx hS hA hx hw hl hlo (fun v hv => hso v (List.mem_append.mpr (Or.inr (List.mem_cons_of_mem _ hv)))) hln ?_
  refine va_runI (As := av.map (jm_E as)) (n := n) ⟨cx.1, cx.2.1, cx.2.2.1, cx.2.2.2.1, ht⟩ hM ⟨callB_of n ht (jm_good (by rw [k3b]; exact k3)) (by unfold jm_wsM; rw [k3b]) rfl rfl (ht _ (List.mem_cons_of_mem _ k2)) (ht _ (List.mem_cons_of_mem _ hlk)) k4 ⟨hdd, ?_⟩, k1b, ht _ (List.mem_cons_of_mem _ k1)⟩ ⟨jm_blind, fun U hU hW => jm_pre cx.2.2.2.2.2.1 cx.2.2.2.2.2.2.2.2.2 hw hav hU hW⟩ rfl (by rw [List.length_map]; exact hn) hl.1 (by show List.map _ _ = _; rw [List.map_append, List.map_reverse]; rfl) ?_ hd hmc
  · show 8 + (M'.2.2.1 + 11) + 40 * d' ≤ 40 * d
    omega
  · refine lv_room ?_
    rw [List.map_map]
    have : (fun v : Value => v.category) ∘ jm_E as = fun v => if jm_two (some v) then 2 else 1 := by
      funext v
      exact jm_two_cat
    rw [this]
    exact hst
/-- a method's locals at its entry -/
def jm_ent : List jm_V → Nat → List (Option jm_V)
  | [], n => List.replicate n none
  | v :: vs, n => if jm_two (some v) then some v :: none :: jm_ent vs (n - 2) else some v :: jm_ent vs (n - 1)
theorem jm_ent_in {as : List Nat} : ∀ (av : List jm_V) (n k i : Nat) (v : jm_V), (jm_ent av n)[i]? = some (some v) → (k + i, jm_E as v) ∈ lv_args k (av.map (jm_E as))
  | [], n, k, i, v, h => by
    simp [jm_ent, List.getElem?_replicate] at h
  | w :: vs, n, k, i, v, h => by
    unfold jm_ent at h
    show _ ∈ (k, jm_E as w) :: lv_args (if (jm_E as w).category = 2 then k + 2 else k + 1) (vs.map (jm_E as))
    rw [jm_two_cat]
    by_cases t : jm_two (some w) = true
    · rw [if_pos t] at h ⊢
      rw [if_pos rfl]
      match i, h with
      | 0, h =>
        simp at h
        rw [← h]
        exact List.mem_cons_self
      | 1, h => simp at h
      | i + 2, h =>
        have h2 : (jm_ent vs (n - 2))[i]? = some (some v) := by simpa using h
        have := jm_ent_in (as := as) vs (n - 2) (k + 2) i v h2
        rw [show k + (i + 2) = k + 2 + i by omega]
        exact List.mem_cons_of_mem _ this
    · rw [if_neg t] at h ⊢
      rw [if_neg (by decide)]
      match i, h with
      | 0, h =>
        simp at h
        rw [← h]
        exact List.mem_cons_self
      | i + 1, h =>
        have h2 : (jm_ent vs (n - 1))[i]? = some (some v) := by simpa using h
        have := jm_ent_in (as := as) vs (n - 1) (k + 1) i v h2
        rw [show k + (i + 1) = k + 1 + i by omega]
        exact List.mem_cons_of_mem _ this
theorem jm_ent_ok {m : Nat} : ∀ (av : List jm_V) (n i : Nat) (v : jm_V), (∀ v ∈ av, jm_ok m v) → (jm_ent av n)[i]? = some (some v) → jm_ok m v
  | [], n, i, v, hv, h => by simp [jm_ent, List.getElem?_replicate] at h
  | w :: vs, n, i, v, hv, h => by
    unfold jm_ent at h
    by_cases t : jm_two (some w) = true
    · rw [if_pos t] at h
      match i, h with
      | 0, h =>
        simp at h
        rw [← h]
        exact hv w List.mem_cons_self
      | 1, h => simp at h
      | i + 2, h => exact jm_ent_ok vs (n - 2) i v (fun z hz => hv z (List.mem_cons_of_mem _ hz)) (by simpa using h)
    · rw [if_neg t] at h
      match i, h with
      | 0, h =>
        simp at h
        rw [← h]
        exact hv w List.mem_cons_self
      | i + 1, h => exact jm_ent_ok vs (n - 1) i v (fun z hz => hv z (List.mem_cons_of_mem _ hz)) (by simpa using h)
/-- a contract out of the walk of the body -/
theorem jm_body {av : List jm_V} {ls0 : List (Option jm_V)} (hy : plainFor M.1 = true) (h0 : jm_ent av M.2.2.1 = ls0) (hlen : (jm_ent av M.2.2.1).length = M.2.2.1) (hsl : (av.map fun v => if jm_two (some v) then 2 else 1).sum ≤ M.2.2.1)
    (k : jm_G E M d 0 0 0 ls0 [] sh h Q) : jm_Call E M d av sh h Q := by
  subst h0
  intro as sz
  refine va_MetF (cc := M.2.1) (maxL := M.2.2.1) (ret := M.2.2.2.1) hy rfl ?_
  intro p e s m args below meth c s₁ B hml hv
  obtain ⟨rfl, hsz, hw, hok, hK, hK2⟩ := hv
  subst hsz
  have hname := (name_of_methodNamed B.named B.method).1
  have cx : jm_Cx E M p s m (av.map (jm_E as)).toArray meth c := ⟨B.exec, B.bytes, hml, findClass_of_methodNamed B.named, atoms_spec (ws := jm_wsM M) B.pre, hK, B.returns, B.notSynchronized, hname, hK2⟩
  have hlen2 : (lg_sl (av.map (jm_E as))).length ≤ M.2.2.1 := by
    refine Nat.le_trans (Nat.le_of_eq ?_) hsl
    unfold lg_sl
    rw [List.length_flatMap, List.map_map]
    congr 1
    apply List.map_congr_left
    intro v _
    show (if (jm_E as v).category = 2 then _ else _ : List Slot).length = _
    rw [jm_two_cat]
    cases jm_two (some v) <;> rfl
  have hl := lv_entry (av.map (jm_E as)) (n := M.2.2.1) hlen2
  rw [lg_entry_eq]
  generalize (lg_sl (av.map (jm_E as)) ++ List.replicate (M.2.2.1 - (lg_sl (av.map (jm_E as))).length) Slot.unset).toArray = lsM at hl ⊢
  have hl2 : lv_has lsM M.2.2.1 (jm_lv as (jm_ent av M.2.2.1)) := ⟨hl.1, hl.2.1, fun q hq => by
    obtain ⟨v, h1, h2⟩ := jm_lv_mem hq
    refine hl.2.2 q ?_
    have := jm_ent_in (as := as) av M.2.2.1 0 q.1 v h1
    rw [Nat.zero_add, ← h2] at this
    exact this⟩
  exact k p e s m _ below meth c s.heap [] as as (va_A (jm_ws E.2.2 as sh h) s.heap.size) lsM cx va_S.rf (fun q hq => Or.inr hq) ⟨[], (List.append_nil _).symm⟩ ⟨hw.1, hw.2.1, hw.2.2.1, hw.2.2.2.self⟩ hl2 (fun i v hi => jm_ent_ok av M.2.2.1 i v hok hi) (fun v hv => by cases hv) hlen
end JMC
