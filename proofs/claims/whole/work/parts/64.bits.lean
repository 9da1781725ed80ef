/-! ===== bits ===== -/
theorem s_l : ∀ n, n < 32 → ((nI n &&& 31).toBitVec.smod 32).toNat = n := by decide
theorem sh_bit {x i : Nat} (hx : x < 2147483648) (hi : i < 31) : (nI x >>> (nI i &&& 31)) &&& 1 = nI (x / 2 ^ i % 2) := by
  rw [pk_shrN hx _ i (s_l i (by omega)), pk_andN (Nat.lt_of_le_of_lt (Nat.div_le_self _ _) (by omega)) (m := 1) 1 (by decide)]
theorem bit_n (x i : Nat) : x / 2 ^ i % 2 = if x.testBit i = true then 1 else 0 := by
  rw [← Nat.toNat_testBit]
  cases x.testBit i <;> rfl
theorem sh_bit0 {x i : Nat} (hx : x < 2147483648) (hi : i < 31) : ((nI x >>> (nI i &&& 31)) &&& 1 = 0) = (x.testBit i = false) := by
  rw [sh_bit hx hi, bit_n]
  cases x.testBit i
  · simp; rfl
  · simp; decide
theorem sh_one {i : Nat} (hi : i < 31) : (1 : Int32) <<< (nI i &&& 31) = nI (2 ^ i) := by
  have h : 2 ^ i < 2 ^ 32 := Nat.pow_lt_pow_right (by omega) (by omega)
  have := pk_shlN (n := 1) (nI i &&& 31) i (s_l i (by omega)) (by omega)
  rw [Nat.one_mul] at this
  exact this
theorem or_n (a b : Nat) : nI a ||| nI b = nI (a ||| b) := by
  apply Int32.toBitVec_inj.1
  show BitVec.ofNat 32 a ||| BitVec.ofNat 32 b = BitVec.ofNat 32 (a ||| b)
  apply BitVec.eq_of_getLsbD_eq
  intro i hi
  simp [hi]
theorem tb_put (x i j : Nat) : (x ||| 2 ^ i).testBit j = (x.testBit j || decide (i = j)) := by
  rw [Nat.testBit_or, Nat.testBit_two_pow]
theorem or_put {x i : Nat} (h : x.testBit i = false) : x ||| 2 ^ i = x + 2 ^ i := by
  have h0 : x / 2 ^ i % 2 = 0 := by rw [bit_n, h]; rfl
  have hr := Nat.mod_lt x (Nat.two_pow_pos i)
  have e1 := Nat.div_add_mod x (2 ^ i)
  have e2 := Nat.div_add_mod (x / 2 ^ i) 2
  rw [h0, Nat.add_zero] at e2
  have e3 : 2 ^ (i + 1) * (x / 2 ^ i / 2) + x % 2 ^ i = x := by
    rw [Nat.pow_succ, Nat.mul_assoc, e2]
    exact e1
  generalize x / 2 ^ i / 2 = q at e3
  generalize x % 2 ^ i = r at e3 hr
  have hr2 : r < 2 ^ (i + 1) := by rw [Nat.pow_succ]; omega
  have hr3 : 2 ^ i + r < 2 ^ (i + 1) := by rw [Nat.pow_succ]; omega
  have e4 : r ||| 2 ^ i = 2 ^ i + r := by
    have := Nat.two_pow_add_eq_or_of_lt hr 1
    rw [Nat.mul_one] at this
    rw [this, Nat.or_comm]
  rw [← e3, Nat.two_pow_add_eq_or_of_lt hr2, Nat.or_assoc, e4, ← Nat.two_pow_add_eq_or_of_lt hr3, ← Nat.two_pow_add_eq_or_of_lt hr2]
  omega
theorem or_lt {x i n : Nat} (hx : x < 2 ^ n) (hi : i < n) : x ||| 2 ^ i < 2 ^ n := Nat.or_lt_two_pow hx (Nat.pow_lt_pow_right (by omega) hi)
theorem pow10 : (2 : Nat) ^ 10 = 1024 := by decide
theorem pow_le10 {n : Nat} (h : n ≤ 10) : 2 ^ n ≤ 1024 := by
  have := Nat.pow_le_pow_right (n := 2) (by omega) h
  omega
