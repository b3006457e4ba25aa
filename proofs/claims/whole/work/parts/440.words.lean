/-! WORDS of four bits, sixteen side by side -/
def wd_RE : BitVec 64 := BitVec.ofNat 64 8608480567731124087
def wd_TO : BitVec 64 := BitVec.ofNat 64 9838263505978427528
def wd_AO : BitVec 64 := BitVec.ofNat 64 18446744073709551615
/-- what an op makes of two words -/
def wo_ (op : Int) (a b : Nat) : Nat := if op = 0 then (a + b) % 16 else if op = 1 then (a + 16 - b) % 16 else if op = 2 then a &&& b else if op = 3 then a ||| b else if op = 4 then a ^^^ b else if op = 5 then (2 * a) % 16 else 15 - a
def rs_ (op : Int) (X Y : BitVec 64) : BitVec 64 := if op = 0 then ((X &&& wd_RE) + (Y &&& wd_RE)) ^^^ ((X ^^^ Y) &&& wd_TO) else if op = 1 then ((X ||| wd_TO) - (Y &&& wd_RE)) ^^^ ((X ^^^ (Y ^^^ wd_AO)) &&& wd_TO) else if op = 2 then X &&& Y else if op = 3 then X ||| Y else if op = 4 then X ^^^ Y else if op = 5 then (X &&& wd_RE) + (X &&& wd_RE) else X ^^^ wd_AO
def nn_ (x j : Nat) : Nat := x / 2 ^ (4 * j) % 2 ^ 4
theorem nn_lt (x j : Nat) : nn_ x j < 16 := Nat.mod_lt _ (by omega)
theorem nn_s (x j : Nat) : nn_ x (j + 1) = nn_ (x / 16) j := by
  unfold nn_
  rw [Nat.div_div_eq_div_mul, show 4 * (j + 1) = 4 + 4 * j by omega, Nat.pow_add]
theorem nn_0 (x : Nat) : nn_ x 0 = x % 16 := by
  unfold nn_
  simp
theorem nn_and (x y j : Nat) : nn_ (x &&& y) j = nn_ x j &&& nn_ y j := by
  unfold nn_
  rw [Nat.and_div_two_pow, Nat.and_mod_two_pow]
theorem nn_or (x y j : Nat) : nn_ (x ||| y) j = nn_ x j ||| nn_ y j := by
  unfold nn_
  rw [Nat.or_div_two_pow, Nat.or_mod_two_pow]
theorem nn_xor (x y j : Nat) : nn_ (x ^^^ y) j = nn_ x j ^^^ nn_ y j := by
  unfold nn_
  rw [Nat.xor_div_two_pow, Nat.xor_mod_two_pow]
theorem nn_add : ∀ (j x y : Nat), (∀ i, nn_ x i + nn_ y i < 16) → nn_ (x + y) j = nn_ x j + nn_ y j
  | 0, x, y, h => by
    have := h 0
    rw [nn_0, nn_0] at this
    rw [nn_0, nn_0, nn_0]
    omega
  | j + 1, x, y, h => by
    have h0 := h 0
    rw [nn_0, nn_0] at h0
    rw [nn_s, nn_s, nn_s, show (x + y) / 16 = x / 16 + y / 16 by omega]
    exact nn_add j _ _ (fun i => by
      have := h (i + 1)
      rw [nn_s, nn_s] at this
      exact this)
theorem nn_sub : ∀ (j x y : Nat), y ≤ x → (∀ i, nn_ y i ≤ nn_ x i) → nn_ (x - y) j = nn_ x j - nn_ y j
  | 0, x, y, hxy, h => by
    have := h 0
    rw [nn_0, nn_0] at this
    rw [nn_0, nn_0, nn_0]
    omega
  | j + 1, x, y, hxy, h => by
    have h0 := h 0
    rw [nn_0, nn_0] at h0
    rw [nn_s, nn_s, nn_s, show (x - y) / 16 = x / 16 - y / 16 by omega]
    exact nn_sub j _ _ (by omega) (fun i => by
      have := h (i + 1)
      rw [nn_s, nn_s] at this
      exact this)
theorem nn_z {x j : Nat} (hx : x < 18446744073709551616) (hj : 16 ≤ j) : nn_ x j = 0 := by
  unfold nn_
  have h1 : (2 : Nat) ^ 64 ≤ 2 ^ (4 * j) := Nat.pow_le_pow_right (by omega) (by omega)
  rw [Nat.div_eq_of_lt (Nat.lt_of_lt_of_le (by omega) h1)]
theorem nn_eq : ∀ (j x y : Nat), x < 16 ^ j → y < 16 ^ j → (∀ i, i < j → nn_ x i = nn_ y i) → x = y
  | 0, x, y, hx, hy, _ => by
    simp at hx hy
    omega
  | j + 1, x, y, hx, hy, h => by
    have h0 := h 0 (by omega)
    rw [nn_0, nn_0] at h0
    rw [Nat.pow_succ] at hx hy
    have := nn_eq j (x / 16) (y / 16) (by omega) (by omega) (fun i hi => by
      have := h (i + 1) (by omega)
      rw [nn_s, nn_s] at this
      exact this)
    omega
theorem nn_RE : ∀ j, j < 16 → nn_ wd_RE.toNat j = 7 := by
  intro j hj
  have : ∀ i : Fin 16, nn_ wd_RE.toNat (i : Nat) = 7 := by decide +kernel
  exact this ⟨j, hj⟩
theorem nn_TO : ∀ j, j < 16 → nn_ wd_TO.toNat j = 8 := by
  intro j hj
  have : ∀ i : Fin 16, nn_ wd_TO.toNat (i : Nat) = 8 := by decide +kernel
  exact this ⟨j, hj⟩
theorem nn_AO : ∀ j, j < 16 → nn_ wd_AO.toNat j = 15 := by
  intro j hj
  have : ∀ i : Fin 16, nn_ wd_AO.toNat (i : Nat) = 15 := by decide +kernel
  exact this ⟨j, hj⟩
theorem wd_1 : ∀ a b : Fin 16, (((a : Nat) &&& 7) + ((b : Nat) &&& 7)) ^^^ (((a : Nat) ^^^ (b : Nat)) &&& 8) = ((a : Nat) + (b : Nat)) % 16 := by decide +kernel
theorem wd_2 : ∀ a b : Fin 16, (((a : Nat) ||| 8) - ((b : Nat) &&& 7)) ^^^ (((a : Nat) ^^^ ((b : Nat) ^^^ 15)) &&& 8) = ((a : Nat) + 16 - (b : Nat)) % 16 := by decide +kernel
theorem wd_3 : ∀ a : Fin 16, ((a : Nat) &&& 7) + ((a : Nat) &&& 7) = (2 * (a : Nat)) % 16 := by decide +kernel
theorem wd_4 : ∀ a : Fin 16, (a : Nat) ^^^ 15 = 15 - (a : Nat) := by decide +kernel
theorem wd_5 : ∀ a : Fin 16, (a : Nat) &&& 7 ≤ 7 ∧ 8 ≤ (a : Nat) ||| 8 := by decide +kernel
theorem nn_7 {x j : Nat} (hx : x < 18446744073709551616) : nn_ (x &&& wd_RE.toNat) j ≤ 7 := by
  rw [nn_and]
  by_cases h : j < 16
  · rw [nn_RE j h]
    exact (wd_5 ⟨nn_ x j, nn_lt x j⟩).1
  · rw [nn_z hx (by omega)]
    simp
theorem nn_rs (op : Int) (X Y : BitVec 64) {j : Nat} (hj : j < 16) : nn_ (rs_ op X Y).toNat j = wo_ op (nn_ X.toNat j) (nn_ Y.toNat j) := by
  have hX := X.isLt
  have hY := Y.isLt
  have h64 : (2 : Nat) ^ 64 = 18446744073709551616 := rfl
  have hRE : wd_RE.toNat = 8608480567731124087 := rfl
  have hTO : wd_TO.toNat = 9838263505978427528 := rfl
  have a7 : ∀ x : Nat, x &&& wd_RE.toNat ≤ 8608480567731124087 := fun x => by rw [hRE]; exact Nat.and_le_right
  have key7 : ∀ Z W : BitVec 64, nn_ ((Z &&& wd_RE) + (W &&& wd_RE)).toNat j = (nn_ Z.toNat j &&& 7) + (nn_ W.toNat j &&& 7) := fun Z W => by
    have hZ := Z.isLt
    have hW := W.isLt
    have b1 := a7 Z.toNat
    have b2 := a7 W.toNat
    rw [BitVec.toNat_add, BitVec.toNat_and, BitVec.toNat_and, Nat.mod_eq_of_lt (by omega), nn_add j _ _ (fun i => by
      have c1 := nn_7 (x := Z.toNat) (j := i) (by omega)
      have c2 := nn_7 (x := W.toNat) (j := i) (by omega)
      omega), nn_and, nn_and, nn_RE j hj]
  unfold rs_ wo_
  by_cases h0 : op = 0
  · rw [if_pos h0, if_pos h0, BitVec.toNat_xor, nn_xor, key7, BitVec.toNat_and, nn_and, BitVec.toNat_xor, nn_xor, nn_TO j hj]
    exact wd_1 ⟨_, nn_lt _ _⟩ ⟨_, nn_lt _ _⟩
  rw [if_neg h0, if_neg h0]
  by_cases h1 : op = 1
  · have b2 := a7 Y.toNat
    have b3 : wd_TO.toNat ≤ X.toNat ||| wd_TO.toNat := Nat.right_le_or
    have b4 : X.toNat ||| wd_TO.toNat < 2 ^ 64 := Nat.or_lt_two_pow hX wd_TO.isLt
    have hle : (Y &&& wd_RE).toNat ≤ (X ||| wd_TO).toNat := by
      rw [BitVec.toNat_and, BitVec.toNat_or]
      omega
    rw [if_pos h1, if_pos h1, BitVec.toNat_xor, nn_xor, BitVec.toNat_sub_of_le hle, BitVec.toNat_and, BitVec.toNat_or]
    rw [BitVec.toNat_and, BitVec.toNat_or] at hle
    rw [nn_sub j _ _ hle (fun i => by
      by_cases hi : i < 16
      · rw [nn_and, nn_or, nn_RE i hi, nn_TO i hi]
        have c1 := (wd_5 ⟨nn_ Y.toNat i, nn_lt _ _⟩).1
        have c2 := (wd_5 ⟨nn_ X.toNat i, nn_lt _ _⟩).2
        simp only at c1 c2
        omega
      · rw [nn_z (j := i) (by omega) (by omega)]
        exact Nat.zero_le _), nn_or, nn_and, BitVec.toNat_and, nn_and, BitVec.toNat_xor, nn_xor, BitVec.toNat_xor, nn_xor, nn_RE j hj, nn_TO j hj, nn_AO j hj]
    exact wd_2 ⟨_, nn_lt _ _⟩ ⟨_, nn_lt _ _⟩
  rw [if_neg h1, if_neg h1]
  by_cases h2 : op = 2
  · rw [if_pos h2, if_pos h2, BitVec.toNat_and, nn_and]
  rw [if_neg h2, if_neg h2]
  by_cases h3 : op = 3
  · rw [if_pos h3, if_pos h3, BitVec.toNat_or, nn_or]
  rw [if_neg h3, if_neg h3]
  by_cases h4 : op = 4
  · rw [if_pos h4, if_pos h4, BitVec.toNat_xor, nn_xor]
  rw [if_neg h4, if_neg h4]
  by_cases h5 : op = 5
  · rw [if_pos h5, if_pos h5, key7]
    exact wd_3 ⟨_, nn_lt _ _⟩
  rw [if_neg h5, if_neg h5, BitVec.toNat_xor, nn_xor, nn_AO j hj]
  exact wd_4 ⟨_, nn_lt _ _⟩
theorem wo_lt (op : Int) {a b : Nat} (ha : a < 16) (hb : b < 16) : wo_ op a b < 16 := by
  unfold wo_
  split
  · omega
  split
  · omega
  split
  · exact Nat.lt_of_le_of_lt Nat.and_le_left ha
  split
  · exact Nat.or_lt_two_pow (n := 4) ha hb
  split
  · exact Nat.xor_lt_two_pow (n := 4) ha hb
  split <;> omega
theorem jl_and (X Y : BitVec 64) : jv_land X.toInt Y.toInt = (X &&& Y).toInt := by
  unfold jv_land
  show (BitVec.ofInt 64 X.toInt &&& BitVec.ofInt 64 Y.toInt).toInt = _
  rw [BitVec.ofInt_toInt, BitVec.ofInt_toInt]
theorem jl_or (X Y : BitVec 64) : jv_lor X.toInt Y.toInt = (X ||| Y).toInt := by
  unfold jv_lor
  show (BitVec.ofInt 64 X.toInt ||| BitVec.ofInt 64 Y.toInt).toInt = _
  rw [BitVec.ofInt_toInt, BitVec.ofInt_toInt]
theorem jl_xor (X Y : BitVec 64) : jv_lxor X.toInt Y.toInt = (X ^^^ Y).toInt := by
  unfold jv_lxor
  show (BitVec.ofInt 64 X.toInt ^^^ BitVec.ofInt 64 Y.toInt).toInt = _
  rw [BitVec.ofInt_toInt, BitVec.ofInt_toInt]
theorem jl_add (X Y : BitVec 64) : jm_w64 (X.toInt + Y.toInt) = (X + Y).toInt := by
  rw [BitVec.toInt_add]
  rfl
theorem jl_sub (X Y : BitVec 64) : jm_w64 (X.toInt - Y.toInt) = (X - Y).toInt := by
  rw [BitVec.toInt_sub]
  rfl
theorem jl_shl (X : BitVec 64) : jv_lshl X.toInt 1 = (X + X).toInt := by
  unfold jv_lshl
  have e : (Int32.ofInt 1).toInt64 &&& 63 = 1 := by decide
  rw [e]
  show (BitVec.ofInt 64 X.toInt <<< ((1 : Int64).toBitVec.smod 64)).toInt = _
  have e2 : (1 : Int64).toBitVec.smod 64 = 1#64 := by decide
  rw [BitVec.ofInt_toInt, e2]
  congr 1
  apply BitVec.eq_of_toNat_eq
  rw [BitVec.toNat_add]
  show (X <<< (1#64).toNat).toNat = _
  rw [BitVec.toNat_shiftLeft]
  show (X.toNat <<< 1) % 2 ^ 64 = _
  rw [Nat.shiftLeft_eq]
  congr 1
  omega
theorem wd_REi : (8608480567731124087 : Int) = wd_RE.toInt := by decide
theorem wd_TOi : (-8608480567731124088 : Int) = wd_TO.toInt := by decide
theorem wd_AOi : (-1 : Int) = wd_AO.toInt := by decide
section WD
variable {E : jm_Env} {h : jm_H}
theorem rc_result {op : Int} {X Y : BitVec 64} {K : Int → jm_H → Prop} (hk : K (rs_ op X Y).toInt h) : jm_CL E jm_SH jm_m_Machine_result 0 [jm_I op, jm_L X.toInt, jm_L Y.toInt] h K := by
  refine jb_Machine_result ?_
  rw [wd_REi, wd_TOi, wd_AOi, jl_and, jl_and, jl_add, jl_xor, jl_and, jl_xor, jl_or, jl_sub, jl_xor, jl_xor, jl_and, jl_xor, jl_or, jl_shl, jl_xor]
  unfold rs_ at hk
  refine ⟨fun q => ?_, fun q => ?_, fun q => ?_, fun q => ?_, fun q => ?_, fun q => ?_, fun q => ?_⟩
  · rw [if_pos q] at hk; exact hk
  · rw [if_neg (by omega), if_pos q] at hk; exact hk
  · rw [if_neg (by omega), if_neg (by omega), if_pos q] at hk; rw [jl_and]; exact hk
  · rw [if_neg (by omega), if_neg (by omega), if_neg (by omega), if_pos q] at hk; exact hk
  · rw [if_neg (by omega), if_neg (by omega), if_neg (by omega), if_neg (by omega), if_pos q] at hk; exact hk
  · rw [if_neg (by omega), if_neg (by omega), if_neg (by omega), if_neg (by omega), if_neg (by omega), if_pos q] at hk; exact hk
  · obtain ⟨q0, q1, q2, q3, q4, q5⟩ := q
    rw [if_neg q0, if_neg q1, if_neg q2, if_neg q3, if_neg q4, if_neg q5] at hk; exact hk
end WD
