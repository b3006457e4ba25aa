/-! contracts of methods that make nothing, by their answers; fields by their links -/
theorem jm_o32c {n : Int} (h : decide (-2147483648 ≤ n ∧ n < 2147483648) = true) : jm_o32 n := by
  have q := of_decide_eq_true h
  exact q
theorem jm_o64c {n : Int} (h : decide (-9223372036854775808 ≤ n ∧ n < 9223372036854775808) = true) : jm_o64 n := by
  have q := of_decide_eq_true h
  exact q
def jm_qI (S : List jm_C) (K : Int → jm_H → Prop) : jm_Q := fun r sh h => sh = S ∧ ∃ x, r = some (jm_I x) ∧ K x h
def jm_qL (S : List jm_C) (K : Int → jm_H → Prop) : jm_Q := fun r sh h => sh = S ∧ ∃ x, r = some (jm_L x) ∧ K x h
def jm_qV (S : List jm_C) (K : jm_H → Prop) : jm_Q := fun r sh h => sh = S ∧ r = none ∧ K h
abbrev jm_CI (E : jm_Env) (S : List jm_C) (M : jm_M) (d : Nat) (av : List jm_V) (h : jm_H) (K : Int → jm_H → Prop) : Prop := jm_Call E M d av S h (jm_qI S K)
abbrev jm_CL (E : jm_Env) (S : List jm_C) (M : jm_M) (d : Nat) (av : List jm_V) (h : jm_H) (K : Int → jm_H → Prop) : Prop := jm_Call E M d av S h (jm_qL S K)
abbrev jm_CV (E : jm_Env) (S : List jm_C) (M : jm_M) (d : Nat) (av : List jm_V) (h : jm_H) (K : jm_H → Prop) : Prop := jm_Call E M d av S h (jm_qV S K)
abbrev jm_BI (E : jm_Env) (S : List jm_C) (M : jm_M) (d pc : Nat) (ls : List (Option jm_V)) (st : List jm_V) (h : jm_H) (K : Int → jm_H → Prop) : Prop := jm_G E M d 0 0 pc ls st S h (jm_qI S K)
abbrev jm_BL (E : jm_Env) (S : List jm_C) (M : jm_M) (d pc : Nat) (ls : List (Option jm_V)) (st : List jm_V) (h : jm_H) (K : Int → jm_H → Prop) : Prop := jm_G E M d 0 0 pc ls st S h (jm_qL S K)
abbrev jm_BV (E : jm_Env) (S : List jm_C) (M : jm_M) (d pc : Nat) (ls : List (Option jm_V)) (st : List jm_V) (h : jm_H) (K : jm_H → Prop) : Prop := jm_G E M d 0 0 pc ls st S h (jm_qV S K)
def jm_fI (own : String) (i ci j : Nat) : Prop := ∃ C T N, jm_cl[ci]? = some (C, T, N) ∧ j < N ∧ Cond.fieldLink own i (T j).1 (T j).2.1 (T j).2.2.1 ∈ jm_wG ∧ ((jm_ft ci).getD j 0 ≠ 1 ∧ (jm_ft ci).getD j 0 ≠ 2)
def jm_fR (own : String) (i ci j : Nat) : Prop := ∃ C T N, jm_cl[ci]? = some (C, T, N) ∧ j < N ∧ Cond.fieldLink own i (T j).1 (T j).2.1 (T j).2.2.1 ∈ jm_wG ∧ (jm_ft ci).getD j 0 = 2
def jm_pI (own : String) (i ci j : Nat) : Prop := ∃ C T N, jm_cl[ci]? = some (C, T, N) ∧ j < N ∧ Cond.fieldLink own i (T j).1 (T j).2.1 (T j).2.2.1 ∈ jm_wG ∧ (T j).2.2.2 = false ∧ (jm_ft ci).getD j 0 = 0
def jm_pZ (own : String) (i ci j : Nat) : Prop := ∃ C T N, jm_cl[ci]? = some (C, T, N) ∧ j < N ∧ Cond.fieldLink own i (T j).1 (T j).2.1 (T j).2.2.1 ∈ jm_wG ∧ (T j).2.2.2 = false ∧ (jm_ft ci).getD j 0 = 3
section JMW
variable {E : jm_Env} {M M' : jm_M} {d d' cu su pc : Nat} {ls : List (Option jm_V)} {st : List jm_V} {sh : List jm_C} {h : jm_H} {Q : jm_Q}
theorem jm_gI {i j r ci : Nat} {rs : List (Option Nat)} (hd : decode M.2.1 pc = .ok (.getfield i, 3)) (hf : jm_fI M.1.cls i ci j) (hs : sh[r]? = some (.inl (ci, rs))) (k : jm_G E M d cu su (pc + 3) ls (jm_I (h r j) :: st) sh h Q) : jm_G E M d cu su pc ls (jm_R r :: st) sh h Q := by
  obtain ⟨C, T, N, h1, h2, h3, h4⟩ := hf
  exact jm_getI hd h1 h2 h3 hs h4 k
theorem jm_gR {i j r q ci : Nat} {rs : List (Option Nat)} (hd : decode M.2.1 pc = .ok (.getfield i, 3)) (hf : jm_fR M.1.cls i ci j) (hs : sh[r]? = some (.inl (ci, rs))) (hq : rs.getD j none = some q) (k : jm_G E M d cu su (pc + 3) ls (jm_R q :: st) sh h Q) : jm_G E M d cu su pc ls (jm_R r :: st) sh h Q := by
  obtain ⟨C, T, N, h1, h2, h3, h4⟩ := hf
  exact jm_getR hd h1 h2 h3 hs h4 hq k
theorem jm_sI {i j r ci : Nat} {x : Int} {rs : List (Option Nat)} (hd : decode M.2.1 pc = .ok (.putfield i, 3)) (hf : jm_pI M.1.cls i ci j) (hs : sh[r]? = some (.inl (ci, rs))) (k : jm_G E M d cu su (pc + 3) ls st sh (jm_up h r j x) Q) : jm_G E M d cu su pc ls (jm_I x :: jm_R r :: st) sh h Q := by
  obtain ⟨C, T, N, h1, h2, h3, h4, h5⟩ := hf
  exact jm_putI hd h1 h2 h3 h4 hs (Or.inl h5) k
theorem jm_sZ {i j r ci : Nat} {x : Int} {rs : List (Option Nat)} (hd : decode M.2.1 pc = .ok (.putfield i, 3)) (hf : jm_pZ M.1.cls i ci j) (hb : x = 0 ∨ x = 1) (hs : sh[r]? = some (.inl (ci, rs))) (k : jm_G E M d cu su (pc + 3) ls st sh (jm_up h r j x) Q) : jm_G E M d cu su pc ls (jm_I x :: jm_R r :: st) sh h Q := by
  obtain ⟨C, T, N, h1, h2, h3, h4, h5⟩ := hf
  exact jm_putI hd h1 h2 h3 h4 hs (Or.inr ⟨h5, hb⟩) k
/-- calls -/
theorem jm_cS {i n : Nat} {av : List jm_V} (hd : decode M.2.1 pc = .ok (.invokestatic i, 3)) (hk : jm_kS M' n) (hlk : Cond.methodLink M.1.cls i M'.1 ∈ jm_wG) (hn : av.length = n) (hdd : d' + 1 ≤ d) (h0 : M'.2.2.2.2.1 = 0 ∧ M'.2.2.2.2.2 = 0) (hmc : cu ≤ M.2.2.2.2.1 ∧ su ≤ M.2.2.2.2.2) (hst : (st.map fun v => if jm_two (some v) then 2 else 1).sum ≤ 8)
    {QC : jm_Q} (hq : ∀ r sh' h', QC r sh' h' → sh' = sh ∧ jm_G E M d cu su (pc + 3) ls (r.toList ++ st) sh h' Q) (k : jm_Call E M' d' av sh h QC) : jm_G E M d cu su pc ls (av.reverse ++ st) sh h Q := by
  refine jm_invS hd hk hlk hn hdd (by rw [h0.1, h0.2]; exact hmc) hst (k.mono fun r sh' h' q => ?_)
  obtain ⟨rfl, z⟩ := hq r sh' h' q
  rw [h0.1, h0.2]
  exact z
theorem jm_cV {i n b ci : Nat} {rs : List (Option Nat)} {C : String} {T : u_T} {N : Nat} {av : List jm_V} (hd : decode M.2.1 pc = .ok (.invokevirtual i, 3)) (hk : jm_kV M' n) (hlk : Cond.methodLink M.1.cls i M'.1 ∈ jm_wG) (hn : av.length = n) (hdd : d' + 1 ≤ d) (h0 : M'.2.2.2.2.1 = 0 ∧ M'.2.2.2.2.2 = 0) (hmc : cu ≤ M.2.2.2.2.1 ∧ su ≤ M.2.2.2.2.2) (hst : (st.map fun v => if jm_two (some v) then 2 else 1).sum ≤ 8) (hs : sh[b]? = some (.inl (ci, rs))) (hc : jm_cl[ci]? = some (C, T, N)) (hC : C = M'.1.cls)
    {QC : jm_Q} (hq : ∀ r sh' h', QC r sh' h' → sh' = sh ∧ jm_G E M d cu su (pc + 3) ls (r.toList ++ st) sh h' Q) (k : jm_Call E M' d' (jm_R b :: av) sh h QC) : jm_G E M d cu su pc ls (av.reverse ++ jm_R b :: st) sh h Q := by
  refine jm_invV hd hk hlk hn hdd (by rw [h0.1, h0.2]; exact hmc) hst hs hc hC (k.mono fun r sh' h' q => ?_)
  obtain ⟨rfl, z⟩ := hq r sh' h' q
  rw [h0.1, h0.2]
  exact z
theorem jm_hqI {K : Int → jm_H → Prop} (hk : ∀ x h', K x h' → jm_G E M d cu su (pc + 3) ls (jm_I x :: st) sh h' Q) : ∀ r sh' h', jm_qI sh K r sh' h' → sh' = sh ∧ jm_G E M d cu su (pc + 3) ls (r.toList ++ st) sh h' Q := by
  rintro r sh' h' ⟨e, x, rfl, q⟩
  exact ⟨e, hk x h' q⟩
theorem jm_hqL {K : Int → jm_H → Prop} (hk : ∀ x h', K x h' → jm_G E M d cu su (pc + 3) ls (jm_L x :: st) sh h' Q) : ∀ r sh' h', jm_qL sh K r sh' h' → sh' = sh ∧ jm_G E M d cu su (pc + 3) ls (r.toList ++ st) sh h' Q := by
  rintro r sh' h' ⟨e, x, rfl, q⟩
  exact ⟨e, hk x h' q⟩
theorem jm_hqV {K : jm_H → Prop} (hk : ∀ h', K h' → jm_G E M d cu su (pc + 3) ls st sh h' Q) : ∀ r sh' h', jm_qV sh K r sh' h' → sh' = sh ∧ jm_G E M d cu su (pc + 3) ls (r.toList ++ st) sh h' Q := by
  rintro r sh' h' ⟨e, rfl, q⟩
  exact ⟨e, hk h' q⟩
theorem jm_CI.mono {S : List jm_C} {av : List jm_V} {K K' : Int → jm_H → Prop} (hk : ∀ x h', K x h' → K' x h') (c : jm_CI E S M d av h K) : jm_CI E S M d av h K' := jm_Call.mono (fun r sh' h' ⟨e, x, e2, q⟩ => ⟨e, x, e2, hk x h' q⟩) c
theorem jm_CL.mono {S : List jm_C} {av : List jm_V} {K K' : Int → jm_H → Prop} (hk : ∀ x h', K x h' → K' x h') (c : jm_CL E S M d av h K) : jm_CL E S M d av h K' := jm_Call.mono (fun r sh' h' ⟨e, x, e2, q⟩ => ⟨e, x, e2, hk x h' q⟩) c
theorem jm_CV.mono {S : List jm_C} {av : List jm_V} {K K' : jm_H → Prop} (hk : ∀ h', K h' → K' h') (c : jm_CV E S M d av h K) : jm_CV E S M d av h K' := jm_Call.mono (fun r sh' h' ⟨e, e2, q⟩ => ⟨e, e2, hk h' q⟩) c
theorem jm_BI.mono {S : List jm_C} {K K' : Int → jm_H → Prop} (hk : ∀ x h', K x h' → K' x h') (c : jm_BI E S M d pc ls st h K) : jm_BI E S M d pc ls st h K' := jm_G.mono (fun r sh' h' ⟨e, x, e2, q⟩ => ⟨e, x, e2, hk x h' q⟩) c
theorem jm_BV.mono {S : List jm_C} {K K' : jm_H → Prop} (hk : ∀ h', K h' → K' h') (c : jm_BV E S M d pc ls st h K) : jm_BV E S M d pc ls st h K' := jm_G.mono (fun r sh' h' ⟨e, e2, q⟩ => ⟨e, e2, hk h' q⟩) c
end JMW
