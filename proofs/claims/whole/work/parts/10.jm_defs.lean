/-! A MACHINE OF NUMBERS over the kit's worlds: values are integers (int, long) or the number of a cell (a reference); the cells stand in a list of shapes, what they hold in a function of cell and place. 'jm_G': the frame stands there and comes to its end with Q. 'jm_Call': a method's contract. -/
abbrev jm_V : Type := Int ⊕ (Int ⊕ Nat)
abbrev jm_I (x : Int) : jm_V := Sum.inl x
abbrev jm_L (x : Int) : jm_V := Sum.inr (Sum.inl x)
abbrev jm_R (r : Nat) : jm_V := Sum.inr (Sum.inr r)
/-- a cell's shape: an object (its class's number, the references in its places), an array (its kind, its length, the references in its places); kinds: 0 int, 1 long, 2 boolean, 3 int[], 4 long[] -/
abbrev jm_C : Type := (Nat × List (Option Nat)) ⊕ (Nat × Nat × List (Option Nat))
abbrev jm_H : Type := Nat → Nat → Int
abbrev jm_Env : Type := Launch × va_G × (Nat → ClassId)
/-- a method: its name, code, locals, answer, and how many cells and slots it makes -/
abbrev jm_M : Type := MethodName × ByteArray × Nat × Option FieldType × Nat × Nat
abbrev jm_Q : Type := Option jm_V → List jm_C → jm_H → Prop
def jm_w32 (x : Int) : Int := x.bmod 4294967296
def jm_w64 (x : Int) : Int := x.bmod 18446744073709551616
def jm_o32 (x : Int) : Prop := -2147483648 ≤ x ∧ x < 2147483648
def jm_o64 (x : Int) : Prop := -9223372036854775808 ≤ x ∧ x < 9223372036854775808
theorem jm_w32_o (x : Int) : jm_o32 (jm_w32 x) := by
  unfold jm_o32 jm_w32
  rw [Int.bmod_def]
  split <;> omega
theorem jm_w64_o (x : Int) : jm_o64 (jm_w64 x) := by
  unfold jm_o64 jm_w64
  rw [Int.bmod_def]
  split <;> omega
theorem jm_w32_id {x : Int} (h : jm_o32 x) : jm_w32 x = x := by
  unfold jm_o32 at h
  unfold jm_w32
  rw [Int.bmod_def]
  split <;> omega
theorem jm_w64_id {x : Int} (h : jm_o64 x) : jm_w64 x = x := by
  unfold jm_o64 at h
  unfold jm_w64
  rw [Int.bmod_def]
  split <;> omega
theorem jm_i32 (x : Int) : (Int32.ofInt x).toInt = jm_w32 x := Int32.toInt_ofInt
theorem jm_i64 (x : Int) : (Int64.ofInt x).toInt = jm_w64 x := Int64.toInt_ofInt
theorem jm_i32o {x : Int} (h : jm_o32 x) : (Int32.ofInt x).toInt = x := by rw [jm_i32, jm_w32_id h]
theorem jm_i64o {x : Int} (h : jm_o64 x) : (Int64.ofInt x).toInt = x := by rw [jm_i64, jm_w64_id h]
theorem jm_to32 (v : Int32) : jm_o32 v.toInt := ⟨by have := Int32.le_toInt v; omega, by have := Int32.toInt_lt v; omega⟩
theorem jm_to64 (v : Int64) : jm_o64 v.toInt := ⟨by have := Int64.le_toInt v; omega, by have := Int64.toInt_lt v; omega⟩
theorem jm_e32 {v : Int32} {x : Int} (h : v.toInt = x) : v = Int32.ofInt x := by rw [← h, Int32.ofInt_toInt]
theorem jm_e64 {v : Int64} {x : Int} (h : v.toInt = x) : v = Int64.ofInt x := by rw [← h, Int64.ofInt_toInt]
def jm_E (as : List Nat) (v : jm_V) : Value := match v with
  | .inl x => .int (Int32.ofInt x)
  | .inr (.inl x) => .long (Int64.ofInt x)
  | .inr (.inr r) => .ref (as.getD r 0)
def jm_ok (n : Nat) (v : jm_V) : Prop := match v with
  | .inl x => jm_o32 x
  | .inr (.inl x) => jm_o64 x
  | .inr (.inr r) => r < n
def jm_F (as : List Nat) (t : Nat) (x : Int) (r : Option Nat) : Value := if t = 1 then .long (Int64.ofInt x) else if t = 2 then va_rf (r.map fun i => as.getD i 0) else .int (Int32.ofInt x)
def jm_fs (as : List Nat) (ci : Nat) (rs : List (Option Nat)) (f : Nat → Int) : List Value := (List.range (jm_ft ci).length).map fun j => jm_F as ((jm_ft ci).getD j 0) (f j) (rs.getD j none)
def jm_arr (as : List Nat) (kd : Nat) (rs : List (Option Nat)) (f : Nat → Int) : (Nat → Int32) ⊕ (Nat → Int64) ⊕ (Nat → UInt32) ⊕ (Nat → UInt64) ⊕ (Nat → Option Nat) :=
  if kd = 1 then .inr (.inl fun j => Int64.ofInt (f j)) else if kd < 3 then .inl (fun j => Int32.ofInt (f j)) else .inr (.inr (.inr (.inr fun j => (rs.getD j none).map fun i => as.getD i 0)))
def jm_cell (kc : Nat → ClassId) (as : List Nat) (c : jm_C) (f : Nat → Int) : va_E := match c with
  | .inl (ci, rs) => .inr (ci, jm_fs as ci rs f)
  | .inr (kd, n, rs) => .inl (kc kd, n, jm_arr as kd rs f)
def jm_ws (kc : Nat → ClassId) (as : List Nat) (sh : List jm_C) (h : jm_H) : va_W := (List.range sh.length).map fun i => (as.getD i 0, jm_cell kc as (sh.getD i (.inl (0, []))) (h i))
def jm_cok (n : Nat) (c : jm_C) (f : Nat → Int) : Prop := match c with
  | .inl (ci, rs) => (∀ j, if (jm_ft ci).getD j 0 = 1 then jm_o64 (f j) else jm_o32 (f j)) ∧ ∀ j r, rs.getD j none = some r → r < n
  | .inr (kd, _, rs) => (∀ j, if kd = 1 then jm_o64 (f j) else jm_o32 (f j)) ∧ ∀ j r, rs.getD j none = some r → r < n
def jm_tys (kc : Nat → ClassId) : List (ClassId × FieldType) := [(kc 0, .int), (kc 1, .long), (kc 2, .boolean), (kc 3, .array .int), (kc 4, .array .long)]
/-- the world: the cells stand at 'as', they are in range, the heap holds them, they are apart -/
def jm_Wd (E : jm_Env) (as : List Nat) (sh : List jm_C) (h : jm_H) (A : Nat → Prop) (H : Heap) : Prop :=
  as.length = sh.length ∧ (∀ i c, sh[i]? = some c → jm_cok sh.length c (h i)) ∧ va_P E.2.1 jm_cl (jm_ws E.2.2 as sh h) H ∧ va_D A (jm_ws E.2.2 as sh h)
theorem jm_ws_len (kc : Nat → ClassId) (as : List Nat) (sh : List jm_C) (h : jm_H) : (jm_ws kc as sh h).length = sh.length := by simp [jm_ws]
theorem jm_ws_at {kc : Nat → ClassId} {as : List Nat} {sh : List jm_C} {h : jm_H} {i : Nat} {c : jm_C} (hi : sh[i]? = some c) : (jm_ws kc as sh h)[i]? = some (as.getD i 0, jm_cell kc as c (h i)) := by
  have hl : i < sh.length := (List.getElem?_eq_some_iff.mp hi).1
  have e1 : sh.getD i (.inl (0, [])) = c := by simp [List.getD, hi]
  unfold jm_ws
  rw [List.getElem?_map, List.getElem?_range hl, Option.map_some, e1]
/-- one place of one cell -/
def jm_up (h : jm_H) (r j : Nat) (x : Int) : jm_H := fun a b => if a = r then (if b = j then x else h a b) else h a b
/-- the row of one cell -/
def jm_row (h : jm_H) (r : Nat) (f : Nat → Int) : jm_H := fun a b => if a = r then f b else h a b
theorem jm_up_row (h : jm_H) (r j : Nat) (x : Int) : jm_up h r j x = jm_row h r (fun b => if b = j then x else h r b) := by
  funext a b
  unfold jm_up jm_row
  by_cases e : a = r
  · subst e; simp
  · simp [e]
/-- a cell set anew: its shape and its row -/
theorem jm_ws_set {kc : Nat → ClassId} {as : List Nat} {sh : List jm_C} {h : jm_H} {i : Nat} {c c' : jm_C} (f : Nat → Int) (hi : sh[i]? = some c) : (jm_ws kc as sh h).set i (as.getD i 0, jm_cell kc as c' f) = jm_ws kc as (sh.set i c') (jm_row h i f) := by
  have hl : i < sh.length := (List.getElem?_eq_some_iff.mp hi).1
  apply List.ext_getElem?
  intro k
  by_cases e : k = i
  · subst e
    have h2 : (sh.set k c')[k]? = some c' := List.getElem?_set_self hl
    rw [jm_ws_at h2, List.getElem?_set_self (by rw [jm_ws_len]; exact hl)]
    have e2 : jm_row h k f k = f := by
      funext b
      simp [jm_row]
    rw [e2]
  · rw [List.getElem?_set_ne (Ne.symm e)]
    cases hk : sh[k]? with
    | none =>
      have h1 : sh.length ≤ k := by simpa using hk
      rw [List.getElem?_eq_none (by rw [jm_ws_len]; exact h1), List.getElem?_eq_none (by rw [jm_ws_len, List.length_set]; exact h1)]
    | some d =>
      have h2 : (sh.set i c')[k]? = some d := by rw [List.getElem?_set_ne (Ne.symm e)]; exact hk
      rw [jm_ws_at h2, jm_ws_at hk]
      have e2 : jm_row h i f k = h k := by
        funext b
        simp [jm_row, e]
      rw [e2]
theorem jm_set_same {sh : List jm_C} {i : Nat} {c : jm_C} (hi : sh[i]? = some c) : sh.set i c = sh := by
  apply List.ext_getElem?
  intro k
  by_cases e : k = i
  · subst e
    rw [List.getElem?_set_self ((List.getElem?_eq_some_iff.mp hi).1), hi]
  · rw [List.getElem?_set_ne (Ne.symm e)]
/-- the locals: by their places -/
def jm_lv (as : List Nat) (ls : List (Option jm_V)) : List (Nat × Value) := (List.range ls.length).filterMap fun i => (ls.getD i none).map fun v => (i, jm_E as v)
def jm_two (v : Option jm_V) : Bool := match v with
  | some (.inr (.inl _)) => true
  | _ => false
/-- a local is set: a long in front of it goes, the second half of a long that is set too -/
def jm_st (ls : List (Option jm_V)) (i : Nat) (v : jm_V) : List (Option jm_V) :=
  let l1 := ls.set i (some v)
  let l2 := if jm_two (some v) then l1.set (i + 1) none else l1
  match i with
  | 0 => l2
  | k + 1 => if jm_two (ls.getD k none) then l2.set k none else l2
def jm_lok (n : Nat) (ls : List (Option jm_V)) : Prop := ∀ (i : Nat) (v : jm_V), ls[i]? = some (some v) → jm_ok n v
def jm_sok (n : Nat) (st : List jm_V) : Prop := ∀ v ∈ st, jm_ok n v
def jm_rm (M : jm_M) (d : Nat) : Room := { frames := d, cells := M.2.2.2.2.1, slots := M.2.2.2.2.2, locals := 40 * d }
def jm_wsM (M : jm_M) : List Cond := Cond.code M.1 M.2.1 M.2.2.1 M.2.2.2.1 :: jm_wG
/-- what else the tables say, that a call may move: the nest's words, the classes of the rows of rows -/
def jm_wN : List Cond := [Cond.methodLinkNest "CodeCover" 9 ⟨"CodeCover$Pad", "<init>", "()V"⟩ "CodeCover", Cond.methodLinkNest "CodeCover" 18 ⟨"CodeCover$Tree", "<init>", "()V"⟩ "CodeCover", Cond.methodLinkNest "CodeCover" 25 ⟨"CodeCover$Patterns", "<init>", "()V"⟩ "CodeCover", Cond.methodLinkNest "CodeCover" 41 ⟨"CodeCover$Row", "<init>", "()V"⟩ "CodeCover"]
def jm_K2 (U : State) : Prop := (∀ w ∈ jm_wN, va_Nw w U) ∧ ∀ ty, ty = FieldType.int ∨ ty = FieldType.long → (Cond.arrayOver (.array ty)).before #[] U = true
theorem jm_AO_vm {ty : FieldType} {a a' : Array Value} {u U : State} (e : u.vm = U.vm) (h : (Cond.arrayOver ty).before a u = true) : (Cond.arrayOver ty).before a' U = true := by
  simp only [Cond.before, Cond.holds, Cond.value] at h ⊢
  rw [← e]
  exact h
theorem jm_K2.warm {s U : State} (hW : s.WarmedH U.vm) (h : jm_K2 s) : jm_K2 U := by
  refine ⟨fun w hw => ?_, fun ty ht => ?_⟩
  · have hz := h.1 w hw
    simp only [jm_wN, List.mem_cons, List.not_mem_nil, or_false] at hw
    rcases hw with rfl | rfl | rfl | rfl <;> exact va_Nw.warmM hW hz
  · have h1 := h.2 ty ht
    rw [← Cond.arrayOver_setVmC hW.alike] at h1
    exact jm_AO_vm (rfl : (s.setVm U.vm).vm = U.vm) h1
theorem jm_K2.same {u U : State} (e : u.vm = U.vm) (h : jm_K2 u) : jm_K2 U := by
  refine ⟨fun w hw => ?_, fun ty ht => jm_AO_vm e (h.2 ty ht)⟩
  have hz := h.1 w hw
  simp only [jm_wN, List.mem_cons, List.not_mem_nil, or_false] at hw
  rcases hw with rfl | rfl | rfl | rfl <;> exact va_Nw.same rfl e hz
def jm_Cx (E : jm_Env) (M : jm_M) (p : Program) (s : State) (m : MethodId) (args : Array Value) (meth : Method) (c : Code) : Prop :=
  p.tables.exec = Jvm.exec ∧ c.code = M.2.1 ∧ c.maxLocals = M.2.2.1 ∧ s.vm.findClass M.1.cls = some m.cls ∧ (∀ w ∈ jm_wsM M, w.before args s = true) ∧ va_K E.2.1 jm_cl (jm_tys E.2.2) s ∧ meth.sig.returnType = M.2.2.2.1 ∧ meth.locks = false ∧ meth.name = M.1.name ∧ jm_K2 s
/-- where a method may come to an end: its answer, shapes, contents -/
def jm_end (E : jm_Env) (as0 : List Nat) (A : Nat → Prop) (Q : jm_Q) (oc : Outcome) (H : Heap) : Prop :=
  ∃ (r : Option jm_V) (sh : List jm_C) (h : jm_H) (x : List Nat), oc = .returned (r.map (jm_E (as0 ++ x))) ∧ Q r sh h ∧ (∀ v, r = some v → jm_ok sh.length v) ∧ jm_Wd E (as0 ++ x) sh h A H
def jm_Qc (E : jm_Env) (as0 : List Nat) (A : Nat → Prop) (Q : jm_Q) : Array Value → State → Outcome → State → Prop := fun _ st oc t => jm_end E as0 A Q oc t.heap ∧ va_F A st t
/-- the frame of method M, with room for d calls one in another, cu cells and su slots made so far, stands at pc; it comes to an end with Q -/
def jm_G (E : jm_Env) (M : jm_M) (d cu su pc : Nat) (ls : List (Option jm_V)) (st : List jm_V) (sh : List jm_C) (h : jm_H) (Q : jm_Q) : Prop :=
  ∀ (p : Program) (e : Env) (s : State) (m : MethodId) (args : Array Value) (below : List Frame) (meth : Method) (c : Code) (H : Heap) (locs : List Loc) (as0 as : List Nat) (A : Nat → Prop) (lsM : Array Slot),
    jm_Cx E M p s m args meth c → va_S A s.heap H locs → (∀ q, s.heap.size ≤ q → A q) → (∃ x, as = as0 ++ x) → jm_Wd E as sh h A H → lv_has lsM M.2.2.1 (jm_lv as ls) → jm_lok sh.length ls → jm_sok sh.length st → ls.length = M.2.2.1 →
    W p E.1 e (jm_rm M d) s m args below meth c H locs cu su (MQ below (jm_Qc E as0 A Q) args s M.2.2.2.2.1 M.2.2.2.2.2 A) (F0 m pc lsM (st.map (jm_E as)))
/-- the contract of method M -/
def jm_Call (E : jm_Env) (M : jm_M) (d : Nat) (av : List jm_V) (sh : List jm_C) (h : jm_H) (Q : jm_Q) : Prop :=
  ∀ (as : List Nat) (sz : Nat), Met E.1 M.1 (jm_wsM M) (jm_rm M d) (va_Pc (av.map (jm_E as)) (fun U => U.heap.size = sz ∧ jm_Wd E as sh h (fun _ => True) U.heap ∧ (∀ v ∈ av, jm_ok sh.length v) ∧ va_K E.2.1 jm_cl (jm_tys E.2.2) U ∧ jm_K2 U)) (jm_Qc E as (va_A (jm_ws E.2.2 as sh h) sz) Q) M.2.2.2.2.1 M.2.2.2.2.2 (va_A (jm_ws E.2.2 as sh h) sz)
theorem jm_end.mono {E : jm_Env} {as0 : List Nat} {A : Nat → Prop} {Q Q' : jm_Q} {oc : Outcome} {H : Heap} (hq : ∀ r sh h, Q r sh h → Q' r sh h) (k : jm_end E as0 A Q oc H) : jm_end E as0 A Q' oc H := by
  obtain ⟨r, sh, h, x, h1, h2, h3⟩ := k
  exact ⟨r, sh, h, x, h1, hq _ _ _ h2, h3⟩
theorem jm_G.mono {E : jm_Env} {M : jm_M} {d cu su pc : Nat} {ls : List (Option jm_V)} {st : List jm_V} {sh : List jm_C} {h : jm_H} {Q Q' : jm_Q} (hq : ∀ r sh h, Q r sh h → Q' r sh h) (k : jm_G E M d cu su pc ls st sh h Q) : jm_G E M d cu su pc ls st sh h Q' := by
  intro p e s m args below meth c H locs as0 as A lsM cx hS hA hx hw hl hlo hso hln T hT X
  obtain ⟨t, a, o, b1, b2, b3, b4⟩ := k p e s m args below meth c H locs as0 as A lsM cx hS hA hx hw hl hlo hso hln T hT X
  exact ⟨t, a, o, b1, b2, ⟨b3.1.mono hq, b3.2⟩, b4⟩
/-- a local's value, as the machine has it -/
theorem jm_lv_at {as : List Nat} {ls : List (Option jm_V)} {lsM : Array Slot} {n i : Nat} {v : jm_V} (h : lv_has lsM n (jm_lv as ls)) (hv : ls[i]? = some (some v)) : lsM[i]? = some (.val (jm_E as v)) := by
  have hl : i < ls.length := (List.getElem?_eq_some_iff.mp hv).1
  refine h.2.2 (i, jm_E as v) (List.mem_filterMap.mpr ⟨i, List.mem_range.mpr hl, ?_⟩)
  simp [List.getD, hv]
theorem jm_lv_mem {as : List Nat} {ls : List (Option jm_V)} {q : Nat × Value} (h : q ∈ jm_lv as ls) : ∃ v, ls[q.1]? = some (some v) ∧ q.2 = jm_E as v := by
  obtain ⟨i, hi, hq⟩ := List.mem_filterMap.mp h
  have hl := List.mem_range.mp hi
  cases hv : ls[i]? with
  | none => simp [List.getD, hv] at hq
  | some o =>
    cases o with
    | none => simp [List.getD, hv] at hq
    | some v =>
      simp [List.getD, hv] at hq
      subst hq
      exact ⟨v, hv, rfl⟩
theorem jm_lv_in {as : List Nat} {ls : List (Option jm_V)} {i : Nat} {v : jm_V} (hv : ls[i]? = some (some v)) : (i, jm_E as v) ∈ jm_lv as ls := by
  have hl : i < ls.length := (List.getElem?_eq_some_iff.mp hv).1
  refine List.mem_filterMap.mpr ⟨i, List.mem_range.mpr hl, ?_⟩
  simp [List.getD, hv]
theorem jm_set_get {l : List (Option jm_V)} {i j : Nat} {x : Option jm_V} {w : jm_V} (h : (l.set i x)[j]? = some (some w)) : (j = i ∧ x = some w) ∨ (j ≠ i ∧ l[j]? = some (some w)) := by
  rw [List.getElem?_set] at h
  by_cases e : i = j
  · subst e
    left
    rw [if_pos rfl] at h
    split at h
    · exact ⟨rfl, Option.some.inj h⟩
    · cases h
  · rw [if_neg e] at h
    exact Or.inr ⟨Ne.symm e, h⟩
theorem jm_st_get {ls : List (Option jm_V)} {i j : Nat} {v w : jm_V} (h : (jm_st ls i v)[j]? = some (some w)) : (j = i ∧ w = v) ∨ (j ≠ i ∧ ls[j]? = some (some w) ∧ ¬ (j + 1 = i ∧ jm_two (some w) = true) ∧ ¬ (jm_two (some v) = true ∧ j = i + 1)) := by
  have key : ∀ {j : Nat} {w : jm_V}, (if jm_two (some v) then (ls.set i (some v)).set (i + 1) none else ls.set i (some v))[j]? = some (some w) → (j = i ∧ w = v) ∨ (j ≠ i ∧ ls[j]? = some (some w) ∧ ¬ (jm_two (some v) = true ∧ j = i + 1)) := by
    intro j w h
    by_cases t : jm_two (some v) = true
    · rw [if_pos t] at h
      rcases jm_set_get h with ⟨-, b⟩ | ⟨a, b⟩
      · cases b
      · rcases jm_set_get b with ⟨a2, b2⟩ | ⟨a2, b2⟩
        · exact Or.inl ⟨a2, (Option.some.inj b2).symm⟩
        · exact Or.inr ⟨a2, b2, fun q => a q.2⟩
    · rw [if_neg t] at h
      rcases jm_set_get h with ⟨a2, b2⟩ | ⟨a2, b2⟩
      · exact Or.inl ⟨a2, (Option.some.inj b2).symm⟩
      · exact Or.inr ⟨a2, b2, fun q => t q.1⟩
  unfold jm_st at h
  cases i with
  | zero =>
    rcases key h with q | ⟨a, b, c⟩
    · exact Or.inl q
    · exact Or.inr ⟨a, b, fun q => by omega, c⟩
  | succ k =>
    simp only at h
    by_cases t : jm_two (ls.getD k none) = true
    · rw [if_pos t] at h
      rcases jm_set_get h with ⟨-, b⟩ | ⟨a0, b0⟩
      · cases b
      · rcases key b0 with q | ⟨a, b, c⟩
        · exact Or.inl q
        · exact Or.inr ⟨a, b, fun q => by omega, c⟩
    · rw [if_neg t] at h
      rcases key h with q | ⟨a, b, c⟩
      · exact Or.inl q
      · refine Or.inr ⟨a, b, fun q => ?_, c⟩
        have e : j = k := by omega
        subst e
        apply t
        simp only [List.getD, b, Option.getD_some]
        exact q.2
theorem jm_two_cat {as : List Nat} {v : jm_V} : (jm_E as v).category = (if jm_two (some v) then 2 else 1) := by
  rcases v with x | x | r <;> rfl
theorem jm_st_has1 {as : List Nat} {ls : List (Option jm_V)} {lsM : Array Slot} {n i : Nat} {v : jm_V} (hc : jm_two (some v) = false) (h : lv_has lsM n ((i, jm_E as v) :: (jm_lv as ls).filter (fun q => !(q.1 == i) && !(q.1 + 1 == i && q.2.category == 2)))) : lv_has lsM n (jm_lv as (jm_st ls i v)) := by
  refine ⟨h.1, h.2.1, fun q hq => ?_⟩
  obtain ⟨w, h1, h2⟩ := jm_lv_mem hq
  rcases jm_st_get h1 with ⟨e1, e2⟩ | ⟨e1, e2, e3, -⟩
  · refine h.2.2 q ?_
    rw [show q = (i, jm_E as v) from Prod.ext e1 (by rw [h2, e2])]
    exact List.mem_cons_self
  · refine h.2.2 q (List.mem_cons_of_mem _ (List.mem_filter.mpr ⟨?_, ?_⟩))
    · rw [show q = (q.1, jm_E as w) from Prod.ext rfl h2]
      exact jm_lv_in e2
    · rw [h2, jm_two_cat]
      by_cases t : jm_two (some w) = true
      · have : ¬ q.1 + 1 = i := fun z => e3 ⟨z, t⟩
        simp [e1, this]
      · simp [e1, t]
theorem jm_st_has2 {as : List Nat} {ls : List (Option jm_V)} {lsM : Array Slot} {n i : Nat} {v : jm_V} (hc : jm_two (some v) = true) (h : lv_has lsM n ((i, jm_E as v) :: (jm_lv as ls).filter (fun q => !(q.1 == i) && (!(q.1 == i + 1) && !(q.1 + 1 == i && q.2.category == 2))))) : lv_has lsM n (jm_lv as (jm_st ls i v)) := by
  refine ⟨h.1, h.2.1, fun q hq => ?_⟩
  obtain ⟨w, h1, h2⟩ := jm_lv_mem hq
  rcases jm_st_get h1 with ⟨e1, e2⟩ | ⟨e1, e2, e3, e4⟩
  · refine h.2.2 q ?_
    rw [show q = (i, jm_E as v) from Prod.ext e1 (by rw [h2, e2])]
    exact List.mem_cons_self
  · refine h.2.2 q (List.mem_cons_of_mem _ (List.mem_filter.mpr ⟨?_, ?_⟩))
    · rw [show q = (q.1, jm_E as w) from Prod.ext rfl h2]
      exact jm_lv_in e2
    · have e5 : ¬ q.1 = i + 1 := fun z => e4 ⟨hc, z⟩
      rw [h2, jm_two_cat]
      by_cases t : jm_two (some w) = true
      · have : ¬ q.1 + 1 = i := fun z => e3 ⟨z, t⟩
        simp [e1, e5, this]
      · simp [e1, e5, t]
theorem jm_st_len (ls : List (Option jm_V)) (i : Nat) (v : jm_V) : (jm_st ls i v).length = ls.length := by
  unfold jm_st
  cases i <;> simp only <;> split <;> (try split) <;> simp
theorem jm_st_ok {ls : List (Option jm_V)} {n i : Nat} {v : jm_V} (h : jm_lok n ls) (hv : jm_ok n v) : jm_lok n (jm_st ls i v) := by
  intro j w hw
  rcases jm_st_get hw with ⟨-, e⟩ | ⟨-, e, -⟩
  · rw [e]; exact hv
  · exact h j w e
