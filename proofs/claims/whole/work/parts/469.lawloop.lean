/-! THE LAW'S LOOP, ITS START -/
section LL
variable {E : jm_Env} {p : Program} {e : Env} {s : State} {m : MethodId} {below : List Frame} {meth : Method} {c : Code} {b L : Nat} {xs : Nat → Int32}
theorem I_.up {n : Nat} {h : jm_H} (hI : I_ n h) : I_ (n + 1) h := by
  obtain ⟨np, fp, nt, ft, m, g, L, k, r, kp, a, b, o⟩ := hI
  exact ⟨np, fp, nt, ft, m, g, L, k, r, kp, a.le (by omega), b, o⟩
/-- the end of the loop's body -/
theorem lj_tail {i : Int} {h : jm_H} (C0 : lj_C E p s m meth c b L xs) (hi : 0 ≤ i ∧ i ≤ 4000) (k : lj_G E p e s m below meth c b 115 3612 18 (lj_ls (i + 6)) [] jm_SH h) : lj_G E p e s m below meth c b 115 3612 884 (lj_ls i) [] jm_SH h := by
  have o : jm_w32 (i + 6) = i + 6 := jm_w32_id ⟨by omega, by omega⟩
  refine lj_iinc (v := i) C0 ld_884 rfl (by decide) (ls2 := lj_ls (i + 6)) (by rw [o]; rfl) ?_
  exact lj_goto C0 ld_887 (by decide) k
theorem lj_loop (C0 : lj_C E p s m meth c b L xs) (hL : L ≤ 3072) : ∀ (k n : Nat) (h : jm_H), n ≤ 600 → L + 6 ≤ 6 * (n + k) → I_ n h → lj_G E p e s m below meth c b 115 3612 18 (lj_ls ((6 * n : Nat) : Int)) [] jm_SH h := by
  obtain ⟨hx, hb, hr, -, -, -, hX, hbl, hlocks, -⟩ := id C0.1
  have hbA : ¬ lj_A s b := Nat.not_le.mpr hbl
  intro k
  induction k with
  | zero =>
    intro n h hn hk hI H locs as lsM hS hw hl hlo hso
    have oi : jm_o32 ((6 * n : Nat) : Int) := ⟨by omega, by omega⟩
    have oL : jm_o32 ((L : Int) - 6) := ⟨by omega, by omega⟩
    have hv : (lj_ls ((6 * n : Nat) : Int))[3]? = some (some (jm_I ((6 * n : Nat) : Int))) := rfl
    refine lv_iload_n hx hb ld_18 rfl (jm_lv_at (lj_tl hl) hv) ?_
    refine lv_aload_n hx hb ld_19 rfl (hl.2.2 (0, Value.ref b) List.mem_cons_self) ?_
    refine va_slen hx hb hX hbl hbA hS ld_20 ?_
    refine lv_bipush (v := Int32.ofInt 6) hx hb ld_21 (by decide) ?_
    refine lv_isub hx hb ld_23 ?_
    have e1 : Int32.ofNat L - Int32.ofInt 6 = Int32.ofInt ((L : Int) - 6) := by
      rw [show Int32.ofNat L = Int32.ofInt (L : Int) from rfl, jm_sub32, jm_w32_id oL]
    rw [e1]
    refine lv_icmp_gt (tgt := 890) hx hb ld_24 (by decide) (fun q => ?_) (fun q => absurd ((jm_lt32 oL oi).mpr (by omega)) q)
    refine lv_iconst (v := 1) hx hb ld_890 (by decide) ?_
    refine va_forget (fun q hq => hS.2.2 q hq) ?_
    refine W.widen (k := 600000) (n := 7302250) (by omega) (by omega) ?_
    exact lw_ret hx hb hr hlocks ld_891
  | succ k ih =>
    intro n h hn hk hI H locs as lsM hS hw hl hlo hso
    have oi : jm_o32 ((6 * n : Nat) : Int) := ⟨by omega, by omega⟩
    have oL : jm_o32 ((L : Int) - 6) := ⟨by omega, by omega⟩
    have hv : (lj_ls ((6 * n : Nat) : Int))[3]? = some (some (jm_I ((6 * n : Nat) : Int))) := rfl
    refine lv_iload_n hx hb ld_18 rfl (jm_lv_at (lj_tl hl) hv) ?_
    refine lv_aload_n hx hb ld_19 rfl (hl.2.2 (0, Value.ref b) List.mem_cons_self) ?_
    refine va_slen hx hb hX hbl hbA hS ld_20 ?_
    refine lv_bipush (v := Int32.ofInt 6) hx hb ld_21 (by decide) ?_
    refine lv_isub hx hb ld_23 ?_
    have e1 : Int32.ofNat L - Int32.ofInt 6 = Int32.ofInt ((L : Int) - 6) := by
      rw [show Int32.ofNat L = Int32.ofInt (L : Int) from rfl, jm_sub32, jm_w32_id oL]
    rw [e1]
    refine lv_icmp_gt (tgt := 890) hx hb ld_24 (by decide) (fun q => ?_) (fun q => ?_)
    · refine lv_iconst (v := 1) hx hb ld_890 (by decide) ?_
      refine va_forget (fun q hq => hS.2.2 q hq) ?_
      refine W.widen (k := 600000) (n := 7302250) (by omega) (by omega) ?_
      exact lw_ret hx hb hr hlocks ld_891
    · have hlt : ((6 * n : Nat) : Int) + 5 < L := by
        have : ¬ (L : Int) - 6 < ((6 * n : Nat) : Int) := fun z => q ((jm_lt32 oL oi).mpr z)
        omega
      have K : ∀ h2, I_ (n + 1) h2 → lj_G E p e s m below meth c b 115 3612 884 (lj_ls ((6 * n : Nat) : Int)) [] jm_SH h2 := fun h2 hI2 => by
        refine lj_tail C0 ⟨by omega, by omega⟩ ?_
        have := ih (n + 1) h2 (by omega) (by omega) hI2
        rw [show ((6 * (n + 1) : Nat) : Int) = ((6 * n : Nat) : Int) + 6 by omega] at this
        exact this
      refine lv_aload_n hx hb ld_27 rfl (hl.2.2 (0, Value.ref b) List.mem_cons_self) ?_
      refine lv_iload_n hx hb ld_28 rfl (jm_lv_at (lj_tl hl) hv) ?_
      refine va_sld hx hb hX hbl hbA hS (jm_in oi (by omega) (by omega)) ld_29 ?_
      refine lv_bipush (v := Int32.ofInt 31) hx hb ld_30 (by decide) ?_
      refine lv_iand hx hb ld_32 ?_
      generalize xs (Int32.ofInt ((6 * n : Nat) : Int)).toNatClampNeg &&& Int32.ofInt 31 = v
      by_cases hz : v.toInt < 0 ∨ 27 < v.toInt
      · exact lv_tableOut (tgt := 884) hx hb ld_33 hz (by decide) (K h hI.up H locs as lsM hS hw hl hlo hso)
      · obtain ⟨t, ht⟩ : ∃ t : Nat, v.toInt = (t : Int) := ⟨v.toInt.toNat, by omega⟩
        have h28 : t < 28 := by omega
        refine lv_tableIn (tgt := lj_tg.getD t 0) (off := ((lj_tg.getD t 0 : Nat) : Int) - 33) hx hb ld_33 (by omega) (by omega) ?_ (by omega) ?_
        · rw [show (v.toInt - 0).toNat = t by omega]
          exact lj_tab ⟨t, h28⟩
        · exact lj_cases C0 hL (by omega) ⟨by omega, hlt⟩ hI K t h28 H locs as lsM hS hw hl hlo hso
end LL
theorem lj_inst : ∀ (k : Nat) (q : vw_C), jm_cl[k]? = some q → Cond.instantiable q.1 q.2.2 ∈ jm_wG
  | 0, _, h => by cases h; exact jw_17
  | 1, _, h => by cases h; exact jw_25
  | 2, _, h => by cases h; exact jw_47
  | 3, _, h => by cases h; exact jw_77
  | 4, _, h => by cases h; exact jw_108
  | 5, _, h => by cases h; exact jw_151
  | 6, _, h => by cases h; exact jw_184
  | 7, _, h => by cases h; exact jw_229
  | 8, _, h => by cases h; exact jw_257
  | 9, _, h => by cases h; exact jw_273
  | 10, _, h => by cases h; exact jw_279
  | 11, _, h => by cases h; exact jw_831
  | _ + 12, _, h => by simp [jm_cl] at h
theorem lj_arr {s : State} {a : Array Value} {ty : FieldType} (hty : ty = .int ∨ ty = .long ∨ ty = .boolean) (h : (Cond.arrayClass ty).before a s = true) : ∃ cA, ArrOfT s cA ty ∧ va_RA s cA ty := by
  obtain ⟨cA, kA, comp, h1, h2, h3⟩ := Cond.arrayClass_spec h
  refine ⟨cA, fun n z => ⟨(fun k h => by cases h), kA, h2, comp, h3⟩, ?_⟩
  rcases hty with rfl | rfl | rfl <;> exact h1
theorem lj_arr2 {s : State} {a : Array Value} {ty : FieldType} (h : (Cond.arrayOver (.array ty)).before a s = true) : ∃ cA, ArrOfT s cA (.array ty) ∧ va_RA s cA (.array ty) := by
  obtain ⟨comp, cA, kA, h0, h1, h2, h3⟩ := Cond.arrayOver_specA h
  exact ⟨cA, fun n z => ⟨(fun k h => by cases h), kA, h1, comp, h2⟩, h3⟩
theorem lj_t1 {w : Cond} (h : w ∈ tables_1_1) : w ∈ lw_tbl := List.mem_append_right _ (show w ∈ tables_1 from List.mem_append_left _ h)
theorem lj_t2 {w : Cond} (h : w ∈ tables_1_2) : w ∈ lw_tbl := List.mem_append_right _ (show w ∈ tables_1 from List.mem_append_right _ (List.mem_append_left _ h))
theorem lj_oI : Cond.arrayOver (.array .int) ∈ lw_tbl := lj_t1 (List.mem_of_getElem? (i := 83) rfl)
theorem lj_oL : Cond.arrayOver (.array .long) ∈ lw_tbl := lj_t2 (List.mem_of_getElem? (i := 83) rfl)
theorem lj_env (l : Launch) {p : Program} {s : State} {m : MethodId} {meth : Method} {c : Code} {b L : Nat} {xs : Nat → Int32} (C0 : lw_At p s m meth c b L xs) : ∃ E : jm_Env, E.1 = l ∧ lj_C E p s m meth c b L xs := by
  have hts := C0.2.2.2.2.2.1
  have hg : ∀ {w}, w ∈ jm_wG → w.before #[Value.ref b] s = true := fun h => hts _ (List.mem_filter.mp h).1
  have hk : ∀ k : Nat, ∃ (cC : ClassId) (iS : Nat → Nat), ∀ q : vw_C, jm_cl[k]? = some q → u_Kn s q.1 q.2.1 q.2.2 cC iS := by
    intro k
    cases hq : jm_cl[k]? with
    | none => exact ⟨m.cls, fun _ => 0, fun q h => by cases h⟩
    | some q =>
      obtain ⟨C, T, N⟩ := q
      obtain ⟨cC, iS, h1⟩ := u_known (C := C) (T := T) (N := N) hts (fun w hw => (List.mem_filter.mp ((jm_clok hq).1 w hw)).1) (hg (lj_inst k _ hq))
      exact ⟨cC, iS, fun q h => by cases h; exact h1⟩
  obtain ⟨a0, g0, r0⟩ := lj_arr (Or.inl rfl) (hg jw_45)
  obtain ⟨a1, g1, r1⟩ := lj_arr (Or.inr (Or.inl rfl)) (hg jw_271)
  obtain ⟨a2, g2, r2⟩ := lj_arr (Or.inr (Or.inr rfl)) (hg jw_321)
  obtain ⟨a3, g3, r3⟩ := lj_arr2 (hts _ lj_oI)
  obtain ⟨a4, g4, r4⟩ := lj_arr2 (hts _ lj_oL)
  refine ⟨(l, (fun k => (hk k).choose, fun k => (hk k).choose_spec.choose), fun k => if k = 0 then a0 else if k = 1 then a1 else if k = 2 then a2 else if k = 3 then a3 else a4), rfl, C0, ⟨fun k q h => (hk k).choose_spec.choose_spec q h, fun k q h => ?_⟩, fun w hw => ?_, fun ty ht => ?_⟩
  · match k, h with
    | 0, h => cases h; exact ⟨g0, r0⟩
    | 1, h => cases h; exact ⟨g1, r1⟩
    | 2, h => cases h; exact ⟨g2, r2⟩
    | 3, h => cases h; exact ⟨g3, r3⟩
    | 4, h => cases h; exact ⟨g4, r4⟩
    | k + 5, h => simp [jm_tys] at h
  · simp only [jm_wN, List.mem_cons, List.not_mem_nil, or_false] at hw
    rcases hw with rfl | rfl | rfl | rfl
    · exact hts _ (lj_t1 (List.mem_of_getElem? (i := 26) rfl))
    · exact hts _ (lj_t1 (List.mem_of_getElem? (i := 48) rfl))
    · exact hts _ (lj_t1 (List.mem_of_getElem? (i := 78) rfl))
    · exact hts _ (lj_t1 (List.mem_of_getElem? (i := 152) rfl))
  · rcases ht with rfl | rfl
    · exact hts _ lj_oI
    · exact hts _ lj_oL
def lj_P : List jm_C := jm_SH.take 78
set_option maxRecDepth 20000 in
set_option maxHeartbeats 4000000 in
theorem lj_start {E : jm_Env} {p : Program} {e : Env} {s : State} {m : MethodId} {below : List Frame} {meth : Method} {c : Code} {b L : Nat} {xs : Nat → Int32} (C0 : lj_C E p s m meth c b L xs) (hL : L ≤ 3072) : lj_G E p e s m below meth c b 0 0 0 [none, none, none, none] [] [] (fun _ _ => 0) := by
  refine lj_new (ci := 0) (N := 9) (r := 0) (sh2 := [.inl (0, [none, none, none, none, none, none, none, none, none])]) rfl C0 ld_0 rfl jw_16 jw_17 jw_1 (by decide) (by decide) rfl ?_
  refine lj_dup C0 ld_3 rfl ?_
  refine lj_invI (M' := jm_m_Top_init) (d' := 4) (r := 0) (st := [jm_R 0]) (av := []) C0 ld_4 jk_Top_init jw_18 rfl (by decide) (by decide) (Nat.le_of_ble_eq_true rfl) ?_
  refine jm_Call.mono (fun r sh1 h1 q => ?_) (jz_Top (P := []) (K := T0_) rfl (fun h1 z1 h2 z2 h3 z3 h4 z4 h5 z5 h6 z6 h7 z7 h8 z8 h9 z9 => T0_mk z1 z2 z3 z4 z5 z6 z7 z8 z9))
  obtain ⟨rfl, es, t⟩ := q
  have es : sh1 = lj_P := es
  subst es
  refine lj_astore (r := 0) (st := []) C0 ld_7 rfl (by decide) (ls2 := [none, some (jm_R 0), none, none]) rfl ?_
  refine lj_new (ci := 11) (N := 45) (r := 78) (sh2 := lj_P ++ [.inl (11, [none, none, none, none, none, none, none, none, none, none, none, none, none, none, none, none, none, none, none, none, none, none, none, none, none, none, none, none, none, none, none, none, none, none, none, none, none, none, none, none, none, none, none, none, none])]) rfl C0 ld_8 rfl jw_830 jw_831 jw_12 (by decide) (by decide) rfl ?_
  refine lj_dup C0 ld_11 rfl ?_
  refine lj_invI (M' := jm_m_Mod_init) (d' := 1) (r := 78) (st := [jm_R 78]) (av := []) C0 ld_12 jk_Mod_init jw_832 rfl (by decide) (by decide) (Nat.le_of_ble_eq_true rfl) ?_
  refine jm_Call.mono (fun r sh2 h2 q => ?_) (jz_both (P := lj_P) rfl t)
  obtain ⟨rfl, es, hI⟩ := q
  have es : sh2 = jm_SH := es
  subst es
  refine lj_astore (r := 78) (st := []) C0 ld_15 rfl (by decide) (ls2 := [none, some (jm_R 0), some (jm_R 78), none]) rfl ?_
  refine lj_iconst C0 ld_16 (jm_o32c rfl) ?_
  refine lj_istore (st := []) C0 ld_17 rfl (by decide) (ls2 := lj_ls ((6 * 0 : Nat) : Int)) rfl ?_
  refine lj_wide (cu2 := 115) (su2 := 3612) (by decide) (by decide) ?_
  exact lj_loop C0 hL 520 0 h2 (by omega) (by omega) hI
/-- from the entry, for every script of at most 3072 ints, the law comes to its end with true -/
theorem whole_start {p : Program} {e : Env} {s : State} {m : MethodId} {below : List Frame} {meth : Method} {c : Code} (l : Launch) {b L : Nat} {xs : Nat → Int32} (hL : L ≤ 3072) (C0 : lw_At p s m meth c b L xs) : W p l e room_1 s m #[Value.ref b] below meth c s.heap [] 0 0 (lw_Z below #[Value.ref b] s) (entryFrame m ([Value.ref b] : List Value).toArray 4) := by
  obtain ⟨E, rfl, C1⟩ := lj_env l C0
  have hl := lv_entry ([.ref b]) (n := 4) (Nat.le_of_ble_eq_true rfl)
  rw [lg_entry_eq]
  generalize (lg_sl ([.ref b]) ++ List.replicate (4 - (lg_sl ([.ref b])).length) Slot.unset).toArray = ls at hl ⊢
  exact lj_start C1 hL s.heap [] [] ls va_S.rf ⟨rfl, fun i c h => by simp at h, fun k q h => by simp [jm_ws] at h, fun i j p q h => by simp [jm_ws] at h, fun k q h => by simp [jm_ws] at h⟩ hl (fun i v h => by
    match i, h with
    | 0, h => cases h
    | 1, h => cases h
    | 2, h => cases h
    | 3, h => cases h
    | i + 4, h => simp at h) (fun v h => by cases h)
