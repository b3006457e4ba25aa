/-! what is made: objects, rows, rows of rows -/
theorem jm_fs_app {as x : List Nat} {ci : Nat} {rs : List (Option Nat)} {f : Nat → Int} (h : ∀ j r, rs.getD j none = some r → r < as.length) : jm_fs (as ++ x) ci rs f = jm_fs as ci rs f := by
  unfold jm_fs
  apply List.map_congr_left
  intro j _
  unfold jm_F
  split
  · rfl
  · split
    · congr 1
      cases hr : rs.getD j none with
      | none => rfl
      | some r =>
        have := h j r hr
        simp [List.getD, List.getElem?_append_left this]
    · rfl
theorem jm_arr_app {as x : List Nat} {kd : Nat} {rs : List (Option Nat)} {f : Nat → Int} (h : ∀ j r, rs.getD j none = some r → r < as.length) : jm_arr (as ++ x) kd rs f = jm_arr as kd rs f := by
  unfold jm_arr
  split
  · rfl
  · split
    · rfl
    · congr 4
      funext j
      cases hr : rs.getD j none with
      | none => rfl
      | some r =>
        have := h j r hr
        simp [List.getD, List.getElem?_append_left this]
theorem jm_cell_app {kc : Nat → ClassId} {as x : List Nat} {c : jm_C} {f : Nat → Int} (h : jm_cok as.length c f) : jm_cell kc (as ++ x) c f = jm_cell kc as c f := by
  rcases c with ⟨ci, rs⟩ | ⟨kd, n, rs⟩
  · show Sum.inr (ci, _) = Sum.inr (ci, _)
    rw [jm_fs_app h.2]
  · show Sum.inl (kc kd, n, _) = Sum.inl (kc kd, n, _)
    rw [jm_arr_app h.2]
theorem jm_cok_mono {n n' : Nat} {c : jm_C} {f : Nat → Int} (h : jm_cok n c f) (hn : n ≤ n') : jm_cok n' c f := by
  rcases c with ⟨ci, rs⟩ | ⟨kd, k, rs⟩
  · exact ⟨h.1, fun j r hr => Nat.lt_of_lt_of_le (h.2 j r hr) hn⟩
  · exact ⟨h.1, fun j r hr => Nat.lt_of_lt_of_le (h.2 j r hr) hn⟩
/-- cells come behind the others -/
theorem jm_ws_push {kc : Nat → ClassId} {as : List Nat} {sh : List jm_C} {h h2 : jm_H} (xs : List Nat) (cs : List jm_C) (es : List (Nat × va_E)) (hl : as.length = sh.length) (hok : ∀ i c, sh[i]? = some c → jm_cok sh.length c (h i)) (hx : xs.length = cs.length) (hold : ∀ i, i < sh.length → h2 i = h i)
    (hes : ∀ (k q : Nat) (c : jm_C), xs[k]? = some q → cs[k]? = some c → es[k]? = some (q, jm_cell kc (as ++ xs) c (h2 (sh.length + k)))) (hel : es.length = cs.length) : jm_ws kc as sh h ++ es = jm_ws kc (as ++ xs) (sh ++ cs) h2 := by
  apply List.ext_getElem?
  intro k
  by_cases hk : k < sh.length
  · rw [List.getElem?_append_left (by rw [jm_ws_len]; exact hk)]
    have h1 : sh[k]? = some sh[k] := List.getElem?_eq_getElem hk
    have h3 : (sh ++ cs)[k]? = some sh[k] := by rw [List.getElem?_append_left hk]; exact h1
    rw [jm_ws_at h1, jm_ws_at h3, hold k hk, jm_cell_app (by rw [hl]; exact hok k _ h1)]
    simp [List.getD, List.getElem?_append_left (show k < as.length by omega)]
  · rw [List.getElem?_append_right (by rw [jm_ws_len]; omega), jm_ws_len]
    by_cases hk2 : k - sh.length < cs.length
    · have hq : xs[k - sh.length]? = some (xs[k - sh.length]'(by omega)) := List.getElem?_eq_getElem (by omega)
      have hc : cs[k - sh.length]? = some (cs[k - sh.length]) := List.getElem?_eq_getElem hk2
      have h3 : (sh ++ cs)[k]? = some cs[k - sh.length] := by rw [List.getElem?_append_right (by omega)]; exact hc
      rw [hes _ _ _ hq hc, jm_ws_at h3]
      have e1 : sh.length + (k - sh.length) = k := by omega
      have e2 : (as ++ xs).getD k 0 = xs[k - sh.length]'(by omega) := by
        simp only [List.getD]
        rw [List.getElem?_append_right (by omega), hl, hq, Option.getD_some]
      rw [e1, e2]
    · rw [List.getElem?_eq_none (by omega), List.getElem?_eq_none (by rw [jm_ws_len, List.length_append]; omega)]
section JMN
variable {E : jm_Env} {M : jm_M} {d cu su pc : Nat} {ls : List (Option jm_V)} {st : List jm_V} {sh : List jm_C} {h : jm_H} {Q : jm_Q}
/-- the world with one cell more -/
theorem jm_Wd.one {as : List Nat} {A : Nat → Prop} {H H1 : Heap} {q : Nat} {c : jm_C} {el : va_E} (hw : jm_Wd E as sh h A H) (hc : jm_cok (sh.length + 1) c (fun _ => 0)) (hel : el = jm_cell E.2.2 (as ++ [q]) c (fun _ => 0)) (hP : va_P E.2.1 jm_cl (jm_ws E.2.2 as sh h ++ [(q, el)]) H1) (hD : va_D A (jm_ws E.2.2 as sh h ++ [(q, el)])) : jm_Wd E (as ++ [q]) (sh ++ [c]) (jm_row h sh.length (fun _ => 0)) A H1 := by
  have hr0 : jm_row h sh.length (fun _ => 0) sh.length = fun _ => 0 := by
    funext b
    simp [jm_row]
  have hr1 : ∀ i, i < sh.length → jm_row h sh.length (fun _ => 0) i = h i := fun i hi => by
    funext b
    simp [jm_row, Nat.ne_of_lt hi]
  have e := jm_ws_push (kc := E.2.2) (h2 := jm_row h sh.length (fun _ => 0)) [q] [c] [(q, el)] hw.1 hw.2.1 rfl hr1 (fun k q' c' h1 h2 => by
    match k, h1, h2 with
    | 0, h1, h2 =>
      simp only [List.getElem?_cons_zero, Option.some.injEq] at h1 h2
      subst h1; subst h2
      rw [Nat.add_zero, hr0, hel]
      rfl
    | k + 1, h1, _ => simp at h1) rfl
  rw [e] at hP hD
  refine ⟨by simp [hw.1], fun i c' hi => ?_, hP, hD⟩
  rw [List.length_append]
  by_cases hk : i < sh.length
  · rw [List.getElem?_append_left hk] at hi
    rw [hr1 i hk]
    exact jm_cok_mono (hw.2.1 i c' hi) (by simp)
  · rw [List.getElem?_append_right (by omega)] at hi
    have hz : i - sh.length < 1 := (List.getElem?_eq_some_iff.mp hi).1
    rw [show i - sh.length = 0 by omega] at hi
    cases hi
    rw [show i = sh.length by omega, hr0]
    exact hc
theorem jm_o0z (b : Prop) [Decidable b] : if b then jm_o64 0 else jm_o32 0 := by
  split
  · exact ⟨by omega, by omega⟩
  · exact jm_o0
theorem jm_new {i ci N : Nat} {C : String} {T : u_T} (hd : decode M.2.1 pc = .ok (.new i, 3)) (hc : jm_cl[ci]? = some (C, T, N)) (hcl : Cond.classLink M.1.cls i C ∈ jm_wG) (hin : Cond.instantiable C N ∈ jm_wG) (hini : Cond.initialized C ∈ jm_wG) (hft : ∀ j, j < N → (jm_ft ci).getD j 0 ≠ 9) (hmc : cu + 1 ≤ M.2.2.2.2.1 ∧ su + N ≤ M.2.2.2.2.2)
    (k : jm_G E M d (cu + 1) (su + N) (pc + 3) ls (jm_R sh.length :: st) (sh ++ [.inl (ci, List.replicate N none)]) (jm_row h sh.length (fun _ => 0)) Q) : jm_G E M d cu su pc ls st sh h Q := by
  intro p e s m args below meth c H locs as0 as A lsM cx hS hA hx hw hl hlo hso hln
  obtain ⟨c1, c2, c3, c4, c5⟩ := jm_clok hc
  have ht := cx.2.2.2.2.1
  have hrn : ∀ j, (List.replicate N (none : Option Nat)).getD j none = none := fun j => by
    simp only [List.getD, List.getElem?_replicate]
    split <;> rfl
  have hfs : ∀ j, j < N → defaultValue (jm_ty ci j) = vp_V (jm_fs as ci (List.replicate N none) (fun _ => 0)) j := by
    intro j hj
    have h9 := hft j hj
    unfold vp_V
    rw [List.getD, jm_fs_at (by rw [← c2]; exact hj), Option.getD_some, hrn]
    rw [← c5 j hj] at h9 ⊢
    generalize jm_ty ci j = ty at h9
    cases ty <;> first | rfl | exact absurd rfl h9
  refine va_new (fs := jm_fs as ci (List.replicate N none) (fun _ => 0)) cx.1 cx.2.1 ht (fun w hw => List.mem_cons_of_mem _ (c1 w hw)) (jm_ty ci) c3 cx.2.2.2.1 (ht _ (List.mem_cons_of_mem _ hcl)) (ht _ (List.mem_cons_of_mem _ hin)) (ht _ (List.mem_cons_of_mem _ hini)) cx.2.2.2.2.2.1 hw.2.2.1 hw.2.2.2 hS hA hc hfs hmc.1 hmc.2 hd (fun q H1 hP hD hS1 => ?_)
  have hw1 := hw.one (c := .inl (ci, List.replicate N none)) ⟨fun j => jm_o0z _, fun j r hr => by rw [hrn] at hr; cases hr⟩ (by
    show Sum.inr (ci, _) = Sum.inr (ci, _)
    rw [jm_fs_app (fun j r hr => by rw [hrn] at hr; cases hr)]) hP hD
  have hlen : as.length = sh.length := hw.1
  have K := k p e s m args below meth c H1 locs as0 (as ++ [q]) A lsM cx hS1 hA (by obtain ⟨x, rfl⟩ := hx; exact ⟨x ++ [q], List.append_assoc _ _ _⟩) hw1 (jm_lv_app hl (by rw [hlen]; exact hlo)) (fun j v hj => jm_ok_mono (hlo j v hj) (by simp)) (jm_sok_cons (by show sh.length < _; simp) (fun v hv => jm_ok_mono (hso v hv) (by simp))) hln
  have e1 : (jm_R sh.length :: st).map (jm_E (as ++ [q])) = .ref q :: st.map (jm_E as) := by
    rw [List.map_cons, jm_map_app (by rw [hlen]; exact hso)]
    congr 1
    show Value.ref ((as ++ [q]).getD sh.length 0) = _
    simp [List.getD, ← hlen]
  rw [e1] at K
  exact K
/-- a new row of numbers: its kind, its type -/
def jm_kt (kd : Nat) (t : ArrayType) (ty : FieldType) : Prop := newarray.typeOf t = ty ∧ ((kd = 0 ∧ ty = .int) ∨ (kd = 1 ∧ ty = .long) ∨ (kd = 2 ∧ ty = .boolean))
theorem jm_newarray {kd : Nat} {t : ArrayType} {ty : FieldType} {n : Int} (hd : decode M.2.1 pc = .ok (.newarray t, 2)) (hk : jm_kt kd t ty) (harr : Cond.arrayClass ty ∈ jm_wG) (hn : 0 ≤ n ∧ n < 1000) (hmc : cu + 1 ≤ M.2.2.2.2.1 ∧ su + n.toNat ≤ M.2.2.2.2.2)
    (k : jm_G E M d (cu + 1) (su + n.toNat) (pc + 2) ls (jm_R sh.length :: st) (sh ++ [.inr (kd, n.toNat, [])]) (jm_row h sh.length (fun _ => 0)) Q) : jm_G E M d cu su pc ls (jm_I n :: st) sh h Q := by
  intro p e s m args below meth c H locs as0 as A lsM cx hS hA hx hw hl hlo hso hln
  have ht := cx.2.2.2.2.1
  have hn0 : jm_o32 n := jm_sok_head hso
  obtain ⟨hty, hkd⟩ := hk
  have hcell : ∀ (cA : ClassId) (as : List Nat), vp_cell cA (n.toNat, jm_arr as kd [] (fun _ => 0)) = arrV cA n.toNat (fun _ => defaultValue ty) := by
    intro cA as
    rcases hkd with ⟨rfl, rfl⟩ | ⟨rfl, rfl⟩ | ⟨rfl, rfl⟩ <;> rfl
  have hb : n.toNat * componentBytes ty ≤ 536870912 := by
    have h8 : componentBytes ty ≤ 8 := by rcases hkd with ⟨rfl, rfl⟩ | ⟨rfl, rfl⟩ | ⟨rfl, rfl⟩ <;> decide
    have : n.toNat * componentBytes ty ≤ 1000 * 8 := Nat.mul_le_mul (by omega) h8
    omega
  refine va_newa (a0 := (n.toNat, jm_arr as kd [] (fun _ => 0))) cx.1 cx.2.1 (by rw [hty]; exact ht _ (List.mem_cons_of_mem _ harr)) hty cx.2.2.2.2.2.1 hw.2.2.1 hw.2.2.2 hS hA (fun cA => hcell cA as) (fun z => by
    rw [jm_z32, jm_lt32 hn0 jm_o0] at z
    omega) (jm_clamp hn0) hb hmc.1 hmc.2 hd (fun q cA H1 hK1 hP hD hS1 => ?_)
  have hcA : cA = E.2.2 kd := by
    have h1 := (hK1.2 5 (cA, ty) rfl).2
    rcases hkd with ⟨rfl, rfl⟩ | ⟨rfl, rfl⟩ | ⟨rfl, rfl⟩
    · exact Option.some.inj (h1.symm.trans (cx.2.2.2.2.2.1.2 0 _ rfl).2)
    · exact Option.some.inj (h1.symm.trans (cx.2.2.2.2.2.1.2 1 _ rfl).2)
    · exact Option.some.inj (h1.symm.trans (cx.2.2.2.2.2.1.2 2 _ rfl).2)
  subst hcA
  have hw1 := hw.one (c := .inr (kd, n.toNat, [])) ⟨fun j => jm_o0z _, fun j r hr => by simp [List.getD] at hr⟩ (by
    show Sum.inl (E.2.2 kd, n.toNat, _) = Sum.inl (E.2.2 kd, n.toNat, _)
    rw [jm_arr_app (fun j r hr => by simp [List.getD] at hr)]) hP hD
  have hlen : as.length = sh.length := hw.1
  have hso2 := jm_sok_tail hso
  have K := k p e s m args below meth c H1 locs as0 (as ++ [q]) A lsM cx hS1 hA (by obtain ⟨x, rfl⟩ := hx; exact ⟨x ++ [q], List.append_assoc _ _ _⟩) hw1 (jm_lv_app hl (by rw [hlen]; exact hlo)) (fun j v hj => jm_ok_mono (hlo j v hj) (by simp)) (jm_sok_cons (by show sh.length < _; simp) (fun v hv => jm_ok_mono (hso2 v hv) (by simp))) hln
  have e1 : (jm_R sh.length :: st).map (jm_E (as ++ [q])) = .ref q :: st.map (jm_E as) := by
    rw [List.map_cons, jm_map_app (by rw [hlen]; exact hso2)]
    congr 1
    show Value.ref ((as ++ [q]).getD sh.length 0) = _
    simp [List.getD, ← hlen]
  rw [e1] at K
  exact K
/-- Object's constructor -/
theorem jm_objInit {i b : Nat} (hd : decode M.2.1 pc = .ok (.invokespecial i, 3)) (hlk : Cond.methodLink M.1.cls i Lib.objectInit ∈ jm_wG) (h2 : Cond.instanceMethod Lib.objectInit ∈ jm_wG) (h3 : Cond.code Lib.objectInit ⟨#[0xb1]⟩ 1 none ∈ jm_wG) (hdd : 1 ≤ d) (hst : (st.map fun v => if jm_two (some v) then 2 else 1).sum ≤ 8)
    (k : jm_G E M d cu su (pc + 3) ls st sh h Q) : jm_G E M d cu su pc ls (jm_R b :: st) sh h Q := by
  intro p e s m args below meth c H locs as0 as A lsM cx hS hA hx hw hl hlo hso hln
  have ht := cx.2.2.2.2.1
  refine W.objInit (a := as.getD b 0) (rest := st.map (jm_E as)) cx.1 cx.2.1 cx.2.2.2.1 (ht _ (List.mem_cons_of_mem _ hlk)) (ht _ (List.mem_cons_of_mem _ h2)) (ht _ (List.mem_cons_of_mem _ h3)) rfl (by rw [cx.2.2.1]; exact hl.1) rfl hd hdd ?_ ?_
  · have h8 := lv_room (m := m) (pc := pc) (ls := lsM) (rest := (jm_R b :: st).map (jm_E as)) (st := st.map (jm_E as)) (by
      rw [List.map_map]
      have : (fun v : Value => v.category) ∘ jm_E as = fun v => if jm_two (some v) then 2 else 1 := by
        funext v
        exact jm_two_cat
      rw [this]
      exact hst)
    show _ + 12 ≤ 40 * d
    omega
  · exact k p e s m args below meth c H locs as0 as A lsM cx hS hA hx hw hl hlo (jm_sok_tail hso) hln
end JMN
