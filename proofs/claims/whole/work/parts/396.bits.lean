/-! bits of small numbers -/
theorem jv_ofn (a : Nat) : Int32.ofInt (a : Int) = nI a := rfl
theorem jv_toI {a : Nat} (h : a < 2147483648) : (nI a).toInt = (a : Int) := nI_toInt (by omega)
theorem jv_and_1 (x : Int) : jv_and x 1 = 0 ∨ jv_and x 1 = 1 := by
  unfold jv_and
  have h := pk_and (Int32.ofInt x) (m := Int32.ofInt 1) 1 (by decide)
  rw [h, jv_toI (by omega)]
  omega
theorem jv_orI (a b : Nat) : nI a ||| nI b = nI (a ||| b) := by
  apply Int32.toBitVec_inj.mp
  show BitVec.ofNat 32 a ||| BitVec.ofNat 32 b = BitVec.ofNat 32 (a ||| b)
  apply BitVec.eq_of_toNat_eq
  simp only [BitVec.toNat_or, BitVec.toNat_ofNat]
  exact Nat.or_mod_two_pow.symm
theorem jv_or_nat {a b : Nat} (h : a ||| b < 2147483648) : jv_or (a : Int) (b : Int) = ((a ||| b : Nat) : Int) := by
  unfold jv_or
  rw [jv_ofn, jv_ofn, jv_orI, jv_toI h]
theorem jv_shl_1 : ∀ i : Nat, i < 31 → jv_shl 1 (i : Int) = ((2 ^ i : Nat) : Int) := by
  intro i hi
  have h : ∀ j : Fin 31, jv_shl 1 ((j : Nat) : Int) = ((2 ^ (j : Nat) : Nat) : Int) := by decide +kernel
  exact h ⟨i, hi⟩
theorem jv_smod : ∀ i : Nat, i < 32 → ((Int32.ofInt (i : Int) &&& 31).toBitVec.smod 32).toNat = i := by
  intro i hi
  have h : ∀ j : Fin 32, ((Int32.ofInt ((j : Nat) : Int) &&& 31).toBitVec.smod 32).toNat = (j : Nat) := by decide +kernel
  exact h ⟨i, hi⟩
theorem jv_shr_nat {a i : Nat} (h : a < 2147483648) (hi : i < 32) : jv_shr (a : Int) (i : Int) = ((a / 2 ^ i : Nat) : Int) := by
  unfold jv_shr
  rw [jv_ofn, pk_shrN (by omega) _ i (jv_smod i hi), jv_toI (Nat.lt_of_le_of_lt (Nat.div_le_self _ _) h)]
theorem jv_and1_nat {a : Nat} : jv_and (a : Int) 1 = ((a % 2 : Nat) : Int) := by
  unfold jv_and
  have h := pk_and (Int32.ofInt (a : Int)) (m := Int32.ofInt 1) 1 (by decide)
  rw [h, jv_toI (by omega)]
  have : (Int32.ofInt (a : Int)).toBitVec.toNat = a % 2 ^ 32 := by
    show (BitVec.ofInt 32 (a : Int)).toNat = _
    rw [BitVec.ofInt_natCast, BitVec.toNat_ofNat]
  rw [this]
  omega
/-- bit i of a -/
theorem jv_bit {a i : Nat} (h : a < 2147483648) (hi : i < 32) : jv_and (jv_shr (a : Int) (i : Int)) 1 = ((a / 2 ^ i % 2 : Nat) : Int) := by
  rw [jv_shr_nat h hi, jv_and1_nat]
/-- how many of the first k bits -/
def lf_cnt (v : Int) : Nat → Int
  | 0 => 0
  | k + 1 => lf_cnt v k + jv_and (jv_shr v k) 1
theorem lf_cnt_b (v : Int) : ∀ k, 0 ≤ lf_cnt v k ∧ lf_cnt v k ≤ k
  | 0 => by simp [lf_cnt]
  | k + 1 => by
    have := lf_cnt_b v k
    have h2 := jv_and_1 (jv_shr v k)
    show 0 ≤ lf_cnt v k + _ ∧ lf_cnt v k + _ ≤ ((k + 1 : Nat) : Int)
    omega
def lf_bc (x : Int) : Int :=
  let a := jm_w32 (x - jv_and (jv_ushr x 1) 1431655765)
  let b := jm_w32 (jv_and a 858993459 + jv_and (jv_ushr a 2) 858993459)
  let c := jv_and (jm_w32 (b + jv_ushr b 4)) 252645135
  let e := jm_w32 (c + jv_ushr c 8)
  let f := jm_w32 (e + jv_ushr e 16)
  jv_and f 63
set_option maxRecDepth 100000 in
theorem lf_bc_1 : ∀ i : Fin 4096, lf_bc ((i : Nat) : Int) = lf_cnt ((i : Nat) : Int) 12 := by decide +kernel
theorem lf_bc_eq {v : Nat} (h : v < 4096) : lf_bc (v : Int) = lf_cnt (v : Int) 12 := lf_bc_1 ⟨v, h⟩
theorem rc_bitCount {E : jm_Env} {h : jm_H} {v : Nat} {K : Int → jm_H → Prop} (hv : v < 4096) (hk : K (lf_cnt v 12) h) : jm_CI E jm_SH jm_m_Integer_bitCount 0 [jm_I v] h K := by
  refine jb_Integer_bitCount ?_
  have e := lf_bc_eq hv
  unfold lf_bc at e
  rw [e]
  exact hk
