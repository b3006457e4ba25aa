/-! a row of rows -/
/-- all is 0 from cell r on -/
def jm_zero (h : jm_H) (r : Nat) : jm_H := fun a b => if r ≤ a then 0 else h a b
theorem jm_outer (c : ClassId) (N h0 : Nat) : ∀ i : Nat, Jvm.Free.Multi.outerC c N h0 i = arrV c N (fun j => va_rf (if j < i then some (h0 + 1 + j) else none))
  | 0 => by
    show ({ cls := c, slots := Array.replicate N .null, vm := .none } : Cell) = _
    rw [arrV_new]
    refine congrArg (arrV c N) (funext fun j => ?_)
    simp [va_rf]
  | i + 1 => by
    show (Jvm.Free.Multi.outerC c N h0 i).setSlot i (.ref (h0 + 1 + i)) = _
    rw [jm_outer c N h0 i, arrV_store]
    refine congrArg (arrV c N) (funext fun j => ?_)
    by_cases e : j = i
    · subst e
      simp [updV, va_rf]
    · by_cases h : j < i
      · simp [updV, e, h, Nat.lt_succ_of_lt h]
      · simp [updV, e, h, show ¬ j < i + 1 by omega]
theorem jm_arrV_ext {c : ClassId} {n : Nat} {f g : Nat → Value} (h : ∀ j, j < n → f j = g j) : arrV c n f = arrV c n g := by
  have h1 : (arrV c n f).slots = (arrV c n g).slots := by
    apply Array.ext
    · rw [arrV_size, arrV_size]
    · intro i h1 h2
      rw [arrV_size] at h1
      have a := arrV_read c f h1
      have b := arrV_read c g h1
      rw [h i h1, ← b] at a
      have := Array.getElem?_eq_getElem h2
      rw [Array.getElem?_eq_getElem (by rw [arrV_size]; exact h1), this] at a
      exact Option.some.inj a
  unfold arrV at h1 ⊢
  simp only at h1
  rw [h1]
section JMU
variable {E : jm_Env} {M : jm_M} {d cu su pc : Nat} {ls : List (Option jm_V)} {st : List jm_V} {sh : List jm_C} {h : jm_H} {Q : jm_Q}
set_option maxHeartbeats 1000000 in
theorem jm_multi {i kd ki : Nat} {ty : FieldType} {n k : Int} (hd : decode M.2.1 pc = .ok (.multianewarray i 2, 4)) (hkk : (ki = 0 ∧ kd = 3 ∧ ty = .int) ∨ (ki = 1 ∧ kd = 4 ∧ ty = .long)) (hcl : Cond.classLink M.1.cls i ("[" ++ (FieldType.array ty).toString) ∈ jm_wG) (harr : Cond.arrayClass ty ∈ jm_wG) (hn : 0 ≤ n ∧ n < 1000) (hk : 0 ≤ k ∧ k < 1000) (hmc : cu + (1 + n.toNat) ≤ M.2.2.2.2.1 ∧ su + (n.toNat + n.toNat * k.toNat) ≤ M.2.2.2.2.2)
    (kk : jm_G E M d (cu + 1 + n.toNat) (su + n.toNat + n.toNat * k.toNat) (pc + 4) ls (jm_R sh.length :: st) (sh ++ (.inr (kd, n.toNat, (List.range n.toNat).map fun j => some (sh.length + 1 + j)) :: List.replicate n.toNat (.inr (ki, k.toNat, [])))) (jm_zero h sh.length) Q) : jm_G E M d cu su pc ls (jm_I k :: jm_I n :: st) sh h Q := by
  intro p e s m args below meth c H locs as0 as A lsM cx hS hA hx hw hl hlo hso hln T hT X
  have ht := cx.2.2.2.2.1
  have hk0 : jm_o32 k := jm_sok_head hso
  have hn0 : jm_o32 n := jm_sok_head (jm_sok_tail hso)
  have hlen : as.length = sh.length := hw.1
  have hns : ¬ Int32.ofInt n < 0 := fun z => by
    rw [jm_z32, jm_lt32 hn0 jm_o0] at z
    omega
  have hks : ¬ Int32.ofInt k < 0 := fun z => by
    rw [jm_z32, jm_lt32 hk0 jm_o0] at z
    omega
  have hcn := jm_clamp hn0
  have hck := jm_clamp hk0
  have h8 : componentBytes ty ≤ 8 := by rcases hkk with ⟨-, -, rfl⟩ | ⟨-, -, rfl⟩ <;> decide
  have hover : (Cond.arrayOver (.array ty)).before args s = true := jm_AO_vm rfl (cx.2.2.2.2.2.2.2.2.2.2 ty (by rcases hkk with ⟨-, -, rfl⟩ | ⟨-, -, rfl⟩ <;> simp))
  obtain ⟨vm₁, cA, comp, -, fA, fC, -, -, X', step⟩ := X.multianewarray2F cx.1 cx.2.2.2.1 (ht _ (List.mem_cons_of_mem _ hcl)) hover (ht _ (List.mem_cons_of_mem _ harr)) (g := F0 m pc lsM (.int (Int32.ofInt k) :: .int (Int32.ofInt n) :: st.map (jm_E as))) rfl (by rw [cx.2.1]; exact hd) rfl hns hks (by rw [hcn]; omega) (by
      rw [hck]
      have : k.toNat * componentBytes ty ≤ 1000 * 8 := Nat.mul_le_mul (by omega) h8
      omega) (by rw [hck]; omega) (by rcases hkk with ⟨-, -, rfl⟩ | ⟨-, -, rfl⟩ <;> rfl) (by rcases hkk with ⟨-, -, rfl⟩ | ⟨-, -, rfl⟩ <;> rfl) (by rw [hcn]; exact hmc.1) (by rw [hcn, hck]; exact hmc.2)
  rw [hcn, hck] at X' step
  have hcA : cA = E.2.2 kd := by
    rcases hkk with ⟨-, rfl, rfl⟩ | ⟨-, rfl, rfl⟩
    · exact Option.some.inj (fA.symm.trans (cx.2.2.2.2.2.1.2 3 _ rfl).2)
    · exact Option.some.inj (fA.symm.trans (cx.2.2.2.2.2.1.2 4 _ rfl).2)
  have hco : comp = E.2.2 ki := by
    rcases hkk with ⟨rfl, -, rfl⟩ | ⟨rfl, -, rfl⟩
    · exact Option.some.inj (fC.symm.trans (cx.2.2.2.2.2.1.2 0 _ rfl).2)
    · exact Option.some.inj (fC.symm.trans (cx.2.2.2.2.2.1.2 1 _ rfl).2)
  subst hcA
  subst hco
  generalize hF : Jvm.Free.Multi.fill (T.setVm vm₁) (E.2.2 kd) (E.2.2 ki) n.toNat k.toNat (defaultValue ty) n.toNat = F at X' step
  have hTh : (T.setVm vm₁).heap = H := hT
  obtain ⟨f1, f2, -, -⟩ := Jvm.Free.Multi.fill_facts (T.setVm vm₁) (E.2.2 kd) (E.2.2 ki) n.toNat k.toNat (defaultValue ty) n.toNat
  rw [hF, hTh] at f1 f2
  have hold : ∀ x : Nat, x < H.size → F.heap[x]? = H[x]? := fun x hx => by
    have := Jvm.Free.Multi.fill_old (T.setVm vm₁) (E.2.2 kd) (E.2.2 ki) n.toNat k.toNat (defaultValue ty) (a := x) (by rw [hTh]; exact hx) n.toNat
    rw [hF, hTh] at this
    exact this
  have hrow : ∀ j : Nat, j < n.toNat → F.heap[H.size + 1 + j]? = some (Jvm.Free.Multi.innerC (E.2.2 ki) k.toNat (defaultValue ty)) := fun j hj => by
    have := Jvm.Free.Multi.fill_inner (T.setVm vm₁) (E.2.2 kd) (E.2.2 ki) n.toNat k.toNat (defaultValue ty) n.toNat j hj
    rw [hF, hTh] at this
    exact this
  let xs : List Nat := H.size :: (List.range n.toNat).map fun j => H.size + 1 + j
  let rs : List (Option Nat) := (List.range n.toNat).map fun j => some (sh.length + 1 + j)
  let cs : List jm_C := .inr (kd, n.toNat, rs) :: List.replicate n.toNat (.inr (ki, k.toNat, []))
  let es : List (Nat × va_E) := (H.size, jm_cell E.2.2 (as ++ xs) (.inr (kd, n.toNat, rs)) (fun _ => 0)) :: (List.range n.toNat).map fun j => (H.size + 1 + j, jm_cell E.2.2 (as ++ xs) (.inr (ki, k.toNat, [])) (fun _ => 0))
  have hz : ∀ a, sh.length ≤ a → jm_zero h sh.length a = fun _ => 0 := fun a ha => by
    funext b
    simp [jm_zero, ha]
  have hzo : ∀ a, a < sh.length → jm_zero h sh.length a = h a := fun a ha => by
    funext b
    simp [jm_zero, Nat.not_le.mpr ha]
  have hrsn : ∀ j r, rs.getD j none = some r → r < sh.length + (n.toNat + 1) := by
    intro j r hr
    simp only [rs, List.getD, List.getElem?_map] at hr
    by_cases hj : j < n.toNat
    · rw [List.getElem?_range hj] at hr
      simp at hr
      omega
    · rw [List.getElem?_eq_none (by simpa using hj)] at hr
      simp at hr
  have ew := jm_ws_push (kc := E.2.2) (h2 := jm_zero h sh.length) xs cs es hw.1 hw.2.1 (by simp [xs, cs]) hzo (fun j q cq h1 h2 => by
    match j, h1, h2 with
    | 0, h1, h2 =>
      simp only [xs, cs, List.getElem?_cons_zero, Option.some.injEq] at h1 h2
      subst h1; subst h2
      rw [Nat.add_zero, hz _ (Nat.le_refl _)]
      rfl
    | j + 1, h1, h2 =>
      simp only [xs, cs, List.getElem?_cons_succ, List.getElem?_map] at h1 h2
      have hj : j < n.toNat := by
        have := (List.getElem?_eq_some_iff.mp h2).1
        simpa using this
      rw [List.getElem?_range hj] at h1
      rw [List.getElem?_replicate, if_pos hj] at h2
      cases h1; cases h2
      rw [hz _ (by omega)]
      simp only [es, List.getElem?_cons_succ, List.getElem?_map, List.getElem?_range hj, Option.map_some]) (by simp [es, cs])
  have hout : F.heap[H.size]? = some (vp_cell (E.2.2 kd) (n.toNat, jm_arr (as ++ xs) kd rs (fun _ => 0))) := by
    rw [f2, jm_outer]
    have harr3 : jm_arr (as ++ xs) kd rs (fun _ => 0) = .inr (.inr (.inr (.inr fun j => (rs.getD j none).map fun i => (as ++ xs).getD i 0))) := by rcases hkk with ⟨-, rfl, -⟩ | ⟨-, rfl, -⟩ <;> rfl
    rw [harr3, vp_cell_q]
    congr 1
    apply jm_arrV_ext
    intro j hj
    rw [if_pos hj]
    congr 1
    simp only [rs, List.getD, List.getElem?_map, List.getElem?_range hj, Option.map_some, Option.getD_some]
    rw [List.getElem?_append_right (by omega)]
    simp only [xs]
    rw [show sh.length + 1 + j - as.length = j + 1 by omega, List.getElem?_cons_succ, List.getElem?_map, List.getElem?_range hj]
    rfl
  have hinn : ∀ j, j < n.toNat → F.heap[H.size + 1 + j]? = some (vp_cell (E.2.2 ki) (k.toNat, jm_arr (as ++ xs) ki [] (fun _ => 0))) := by
    intro j hj
    rw [hrow j hj]
    rcases hkk with ⟨rfl, -, rfl⟩ | ⟨rfl, -, rfl⟩
    · show some ({ cls := _, slots := Array.replicate _ _, vm := .none } : Cell) = _
      rw [arrV_new]
      rfl
    · show some ({ cls := _, slots := Array.replicate _ _, vm := .none } : Cell) = _
      rw [arrV_new]
      rfl
  have hesA : ∀ (j : Nat) (q : Nat × va_E), es[j]? = some q → q.1 = H.size + j ∧ va_at E.2.1 jm_cl q F.heap := by
    intro j q hq
    match j, hq with
    | 0, hq =>
      simp only [es, List.getElem?_cons_zero, Option.some.injEq] at hq
      subst hq
      exact ⟨rfl, hout⟩
    | j + 1, hq =>
      simp only [es, List.getElem?_cons_succ, List.getElem?_map] at hq
      by_cases hj : j < n.toNat
      · rw [List.getElem?_range hj] at hq
        cases hq
        exact ⟨by show H.size + 1 + j = H.size + (j + 1); omega, hinn j hj⟩
      · rw [List.getElem?_eq_none (by simpa using hj)] at hq
        simp at hq
  have hP1 : va_P E.2.1 jm_cl (jm_ws E.2.2 as sh h ++ es) F.heap := (hw.2.2.1.kept (fun j q hq => hold _ ((hw.2.2.1 j q hq).lt))).app (fun j q hq => (hesA j q hq).2)
  have hD1 : va_D A (jm_ws E.2.2 as sh h ++ es) := hw.2.2.2.app ⟨fun a b x y hx hy hxy => by
      have h1 := (hesA a x hx).1
      have h2 := (hesA b y hy).1
      omega, fun a x hx => hA _ (by
        have h1 := (hesA a x hx).1
        have h2 := hS.1
        omega)⟩ (fun a b x y hx hy hxy => by
      have h1 := (hw.2.2.1 a x hx).lt
      have h2 := (hesA b y hy).1
      omega)
  rw [ew] at hP1 hD1
  have hcl2 : (sh ++ cs).length = sh.length + (n.toNat + 1) := by simp [cs]
  have hw1 : jm_Wd E (as ++ xs) (sh ++ cs) (jm_zero h sh.length) A F.heap := by
    refine ⟨by simp [xs, cs, hlen], fun a c' hi => ?_, hP1, hD1⟩
    rw [hcl2]
    by_cases hk : a < sh.length
    · rw [List.getElem?_append_left hk] at hi
      rw [hzo a hk]
      exact jm_cok_mono (hw.2.1 a c' hi) (by omega)
    · rw [List.getElem?_append_right (by omega)] at hi
      rw [hz a (by omega)]
      rcases hj : a - sh.length with _ | j
      · rw [hj] at hi
        cases hi
        exact ⟨fun b => jm_o0z _, hrsn⟩
      · rw [hj] at hi
        simp only [cs, List.getElem?_cons_succ, List.getElem?_replicate] at hi
        split at hi
        · cases hi
          exact ⟨fun b => jm_o0z _, fun b r hr => by simp [List.getD] at hr⟩
        · cases hi
  have hS1 : va_S A s.heap F.heap locs := ⟨Nat.le_trans hS.1 (by omega), fun q h1 h2 => (hold q (Nat.lt_of_lt_of_le h1 hS.1)).trans (hS.2.1 q h1 h2), hS.2.2⟩
  have hso2 := jm_sok_tail (jm_sok_tail hso)
  have kk2 : jm_G E M d (cu + 1 + n.toNat) (su + n.toNat + n.toNat * k.toNat) (pc + 4) ls (jm_R sh.length :: st) (sh ++ cs) (jm_zero h sh.length) Q := kk
  have K := kk2 p e s m args below meth c F.heap locs as0 (as ++ xs) A lsM cx hS1 hA (by obtain ⟨x, rfl⟩ := hx; exact ⟨x ++ xs, List.append_assoc _ _ _⟩) hw1 (jm_lv_app hl (by rw [hlen]; exact hlo)) (fun j v hj => jm_ok_mono (hlo j v hj) (by omega)) (jm_sok_cons (by show sh.length < _; omega) (fun v hv => jm_ok_mono (hso2 v hv) (by omega))) hln
  have e1 : (jm_R sh.length :: st).map (jm_E (as ++ xs)) = .ref T.heap.size :: st.map (jm_E as) := by
    rw [List.map_cons, jm_map_app (by rw [hlen]; exact hso2), hT]
    congr 1
    show Value.ref ((as ++ xs).getD sh.length 0) = _
    simp only [List.getD]
    rw [List.getElem?_append_right (by omega), hlen, Nat.sub_self]
    rfl
  rw [e1] at K
  obtain ⟨t, a1, b1⟩ := K F rfl X'
  exact ⟨t, step t a1, b1⟩
/-- the nest's private constructor -/
theorem jm_invIN {M' : jm_M} {d' i n b : Nat} {host : String} {av : List jm_V} (hd : decode M.2.1 pc = .ok (.invokespecial i, 3)) (hk : jm_kI M' n) (hlk : Cond.methodLinkNest M.1.cls i M'.1 host ∈ jm_wN) (hn : av.length = n) (hdd : d' + 1 ≤ d) (hmc : cu + M'.2.2.2.2.1 ≤ M.2.2.2.2.1 ∧ su + M'.2.2.2.2.2 ≤ M.2.2.2.2.2) (hst : (st.map fun v => if jm_two (some v) then 2 else 1).sum ≤ 8)
    (k : jm_Call E M' d' (jm_R b :: av) sh h (fun r sh' h' => jm_G E M d (cu + M'.2.2.2.2.1) (su + M'.2.2.2.2.2) (pc + 3) ls (r.toList ++ st) sh' h' Q)) : jm_G E M d cu su pc ls (av.reverse ++ jm_R b :: st) sh h Q := by
  intro p e s m args below meth c H locs as0 as A lsM cx hS hA hx hw hl hlo hso hln
  obtain ⟨k1, k1b, k2, k3, k3b, k4, k5⟩ := hk
  have ht := cx.2.2.2.2.1
  have hav : ∀ v ∈ jm_R b :: av, jm_ok sh.length v := fun v hv => by
    rcases List.mem_cons.mp hv with rfl | hv
    · exact hso _ (List.mem_append.mpr (Or.inr List.mem_cons_self))
    · exact hso v (List.mem_append.mpr (Or.inl (List.mem_reverse.mpr hv)))
  have hM := k as H.size
  refine jm_behind (M' := M') (a := ((jm_R b :: av).map (jm_E as)).toArray) cx hS hA hx hw hl hlo (fun v hv => hso v (List.mem_append.mpr (Or.inr (List.mem_cons_of_mem _ hv)))) hln ?_
  refine va_runIN (As := av.map (jm_E as)) (n := n) (host := host) ⟨cx.1, cx.2.1, cx.2.2.1, cx.2.2.2.1, ht⟩ hM ⟨va_cnB n ht (jm_good (by rw [k3b]; exact k3)) (by unfold jm_wsM; rw [k3b]) rfl rfl (cx.2.2.2.2.2.2.2.2.2.1 _ hlk) (ht _ (List.mem_cons_of_mem _ k2)) k4 ⟨hdd, ?_⟩, k1b, ht _ (List.mem_cons_of_mem _ k1)⟩ ⟨jm_blind, fun U hU hW => jm_pre cx.2.2.2.2.2.1 cx.2.2.2.2.2.2.2.2.2 hw hav hU hW⟩ rfl (by rw [List.length_map]; exact hn) hl.1 (by show List.map _ _ = _; rw [List.map_append, List.map_reverse]; rfl) ?_ hd hmc
  · show 8 + (M'.2.2.1 + 11) + 40 * d' ≤ 40 * d
    omega
  · refine lv_room ?_
    rw [List.map_map]
    have : (fun v : Value => v.category) ∘ jm_E as = fun v => if jm_two (some v) then 2 else 1 := by
      funext v
      exact jm_two_cat
    rw [this]
    exact hst
end JMU
