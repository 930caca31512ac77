/-! ===== arithmetic of the evaluator: what it does to packed numbers is what the machine does to ints and longs ===== -/
theorem ble_iff {a b : Nat} : Nat.ble a b = true ↔ a ≤ b := Iff.of_eq Nat.ble_eq
theorem ble_no {a b : Nat} (h : ¬ a ≤ b) : Nat.ble a b = false := by
  cases hb : Nat.ble a b
  · rfl
  · exact absurd (ble_iff.mp hb) h
theorem beq_iff {a b : Nat} : Nat.beq a b = true ↔ a = b := ⟨Nat.eq_of_beq_eq_true, fun h => by rw [h]; exact Nat.beq_refl b⟩
theorem beq_no {a b : Nat} (h : ¬ a = b) : Nat.beq a b = false := by
  cases hb : Nat.beq a b
  · rfl
  · exact absurd (beq_iff.mp hb) h
theorem bv32 (n : Nat) : (a_i32 n).toBitVec = BitVec.ofNat 32 n := rfl
theorem bv64 (n : Nat) : (a_i64 n).toBitVec = BitVec.ofNat 64 n := rfl
theorem i32_eq {n : Nat} {x : Int32} (h : x.toBitVec.toNat = n % 4294967296) : x = a_i32 n := by
  apply Int32.toBitVec.inj
  apply BitVec.eq_of_toNat_eq
  rw [h, bv32]
  simp
theorem i64_eq {n : Nat} {x : Int64} (h : x.toBitVec.toNat = n % 18446744073709551616) : x = a_i64 n := by
  apply Int64.toBitVec.inj
  apply BitVec.eq_of_toNat_eq
  rw [h, bv64]
  simp
theorem n32 {n : Nat} (h : n < 4294967296) : (a_i32 n).toBitVec.toNat = n := by
  rw [bv32]
  simp
  omega
theorem n64 {n : Nat} (h : n < 18446744073709551616) : (a_i64 n).toBitVec.toNat = n := by
  rw [bv64]
  simp
  omega
theorem t32 {n : Nat} (h : n < 4294967296) : (a_i32 n).toInt = if n < 2147483648 then (n : Int) else (n : Int) - 4294967296 := by
  show (a_i32 n).toBitVec.toInt = _
  rw [BitVec.toInt_eq_toNat_cond, n32 h]
  split <;> split <;> omega
theorem t64 {n : Nat} (h : n < 18446744073709551616) : (a_i64 n).toInt = if n < 9223372036854775808 then (n : Int) else (n : Int) - 18446744073709551616 := by
  show (a_i64 n).toBitVec.toInt = _
  rw [BitVec.toInt_eq_toNat_cond, n64 h]
  split <;> split <;> omega
theorem i32_add {x y : Nat} (hx : x < 4294967296) (hy : y < 4294967296) : a_i32 x + a_i32 y = a_i32 (f_add x y) ∧ f_add x y < 4294967296 := by
  refine ⟨i32_eq ?_, Nat.mod_lt _ (by decide)⟩
  show ((a_i32 x).toBitVec + (a_i32 y).toBitVec).toNat = _
  rw [BitVec.toNat_add, n32 hx, n32 hy]
  show _ = ((y + x) % 4294967296) % 4294967296
  rw [Nat.mod_mod, Nat.add_comm y x]
theorem i32_sub {x y : Nat} (hx : x < 4294967296) (hy : y < 4294967296) : a_i32 x - a_i32 y = a_i32 (f_sub x y) ∧ f_sub x y < 4294967296 := by
  refine ⟨i32_eq ?_, Nat.mod_lt _ (by decide)⟩
  show ((a_i32 x).toBitVec - (a_i32 y).toBitVec).toNat = _
  rw [BitVec.toNat_sub, n32 hx, n32 hy]
  show _ = (((4294967296 - y) + x) % 4294967296) % 4294967296
  rw [Nat.mod_mod]
theorem i32_mul {x y : Nat} (hx : x < 4294967296) (hy : y < 4294967296) : a_i32 x * a_i32 y = a_i32 (f_mul x y) ∧ f_mul x y < 4294967296 := by
  refine ⟨i32_eq ?_, Nat.mod_lt _ (by decide)⟩
  show ((a_i32 x).toBitVec * (a_i32 y).toBitVec).toNat = _
  rw [BitVec.toNat_mul, n32 hx, n32 hy]
  show _ = ((x * y) % 4294967296) % 4294967296
  rw [Nat.mod_mod]
theorem i32_and {x y : Nat} (hx : x < 4294967296) (hy : y < 4294967296) : a_i32 x &&& a_i32 y = a_i32 (Nat.land x y) ∧ Nat.land x y < 4294967296 := by
  have h : x &&& y < 2 ^ 32 := Nat.and_lt_two_pow _ hy
  refine ⟨i32_eq ?_, h⟩
  show ((a_i32 x).toBitVec &&& (a_i32 y).toBitVec).toNat = (x &&& y) % 4294967296
  rw [BitVec.toNat_and, n32 hx, n32 hy, Nat.mod_eq_of_lt h]
theorem i32_or {x y : Nat} (hx : x < 4294967296) (hy : y < 4294967296) : a_i32 x ||| a_i32 y = a_i32 (Nat.lor x y) ∧ Nat.lor x y < 4294967296 := by
  have h : x ||| y < 2 ^ 32 := Nat.or_lt_two_pow hx hy
  refine ⟨i32_eq ?_, h⟩
  show ((a_i32 x).toBitVec ||| (a_i32 y).toBitVec).toNat = (x ||| y) % 4294967296
  rw [BitVec.toNat_or, n32 hx, n32 hy, Nat.mod_eq_of_lt h]
theorem i32_xor {x y : Nat} (hx : x < 4294967296) (hy : y < 4294967296) : a_i32 x ^^^ a_i32 y = a_i32 (Nat.xor x y) ∧ Nat.xor x y < 4294967296 := by
  have h : x ^^^ y < 2 ^ 32 := Nat.xor_lt_two_pow hx hy
  refine ⟨i32_eq ?_, h⟩
  show ((a_i32 x).toBitVec ^^^ (a_i32 y).toBitVec).toNat = (x ^^^ y) % 4294967296
  rw [BitVec.toNat_xor, n32 hx, n32 hy, Nat.mod_eq_of_lt h]
theorem sm32 : ∀ k : Fin 32, ((BitVec.ofNat 32 k.val).smod 32).toNat = k.val := by decide +kernel
theorem sm64 : ∀ k : Fin 64, ((BitVec.ofNat 64 k.val).smod 64).toNat = k.val := by decide +kernel
theorem sh32 {y : Nat} (hy : y < 4294967296) : ((a_i32 y &&& 31).toBitVec.smod 32).toNat = y % 32 := by
  have e : (a_i32 y &&& 31).toBitVec = BitVec.ofNat 32 (y % 32) := by
    apply BitVec.eq_of_toNat_eq
    show ((a_i32 y).toBitVec &&& (a_i32 31).toBitVec).toNat = _
    rw [BitVec.toNat_and, n32 hy, n32 (by decide)]
    rw [show (31 : Nat) = 2 ^ 5 - 1 from rfl, Nat.and_two_pow_sub_one_eq_mod]
    simp
    omega
  rw [e]
  exact sm32 ⟨y % 32, Nat.mod_lt _ (by decide)⟩
theorem i32_shl {x y : Nat} (hx : x < 4294967296) (hy : y < 4294967296) : a_i32 x <<< (a_i32 y &&& 31) = a_i32 (f_shl x y) ∧ f_shl x y < 4294967296 := by
  refine ⟨i32_eq ?_, Nat.mod_lt _ (by decide)⟩
  show ((a_i32 x).toBitVec <<< ((a_i32 y &&& 31).toBitVec.smod 32).toNat).toNat = _
  rw [sh32 hy, BitVec.toNat_shiftLeft, n32 hx]
  show _ = ((x <<< (y % 32)) % 4294967296) % 4294967296
  simp
theorem i32_shr {x y : Nat} (hx : x < 4294967296) (hy : y < 4294967296) : a_i32 x >>> (a_i32 y &&& 31) = a_i32 (a_shr x y) ∧ a_shr x y < 4294967296 := by
  have hd : ∀ z : Nat, z >>> (y % 32) ≤ z := fun z => by rw [Nat.shiftRight_eq_div_pow]; exact Nat.div_le_self _ _
  have hlt : a_shr x y < 4294967296 := by
    have h1 := hd x
    have h3 := hd (4294967295 - x)
    have h2 : a_shr x y = if x ≤ 2147483647 then x >>> (y % 32) else 4294967295 - (4294967295 - x) >>> (y % 32) := by
      unfold a_shr
      by_cases hc : x ≤ 2147483647
      · rw [if_pos hc, ble_iff.mpr hc]; rfl
      · rw [if_neg hc, ble_no hc]; rfl
    rw [h2]
    split
    · omega
    · exact Nat.lt_of_le_of_lt (Nat.sub_le _ _) (by decide)
  refine ⟨i32_eq ?_, hlt⟩
  rw [Nat.mod_eq_of_lt hlt]
  show ((a_i32 x).toBitVec.sshiftRight ((a_i32 y &&& 31).toBitVec.smod 32).toNat).toNat = _
  rw [sh32 hy]
  unfold a_shr
  by_cases hc : x ≤ 2147483647
  · rw [ble_iff.mpr hc]
    rw [BitVec.sshiftRight_eq_of_msb_false (by rw [BitVec.msb_eq_decide, n32 hx]; simp; omega)]
    rw [BitVec.toNat_ushiftRight, n32 hx]
    rfl
  · rw [ble_no hc]
    rw [BitVec.sshiftRight_eq_of_msb_true (by rw [BitVec.msb_eq_decide, n32 hx]; simp; omega)]
    rw [BitVec.toNat_not, BitVec.toNat_ushiftRight, BitVec.toNat_not, n32 hx]
    rfl
theorem i32_ushr {x y : Nat} (hx : x < 4294967296) (hy : y < 4294967296) : ((a_i32 x).toUInt32 >>> ((a_i32 y).toUInt32 &&& Int32.toUInt32 31)).toInt32 = a_i32 (f_ushr x y) ∧ f_ushr x y < 4294967296 := by
  have hlt : f_ushr x y < 4294967296 := by
    show x >>> (y % 32) < _
    rw [Nat.shiftRight_eq_div_pow]
    exact Nat.lt_of_le_of_lt (Nat.div_le_self _ _) hx
  refine ⟨i32_eq ?_, hlt⟩
  rw [Nat.mod_eq_of_lt hlt]
  show ((a_i32 x).toBitVec >>> (((a_i32 y).toBitVec &&& (a_i32 31).toBitVec) % 32#32).toNat).toNat = _
  rw [BitVec.toNat_ushiftRight, BitVec.toNat_umod, BitVec.toNat_and, n32 hx, n32 hy, n32 (by decide)]
  rw [show (31 : Nat) = 2 ^ 5 - 1 from rfl, Nat.and_two_pow_sub_one_eq_mod]
  show x >>> (y % 32 % 32) = x >>> (y % 32)
  rw [Nat.mod_mod]
theorem i32_neg {x : Nat} (hx : x < 4294967296) : - a_i32 x = a_i32 (a_neg x) ∧ a_neg x < 4294967296 := by
  refine ⟨i32_eq ?_, Nat.mod_lt _ (by decide)⟩
  show (- (a_i32 x).toBitVec).toNat = _
  rw [BitVec.toNat_neg, n32 hx]
  show _ = ((4294967296 - x) % 4294967296) % 4294967296
  rw [Nat.mod_mod]
/-! comparing -/
theorem a_bias_val {x : Nat} (hx : x < 4294967296) : (a_bias x : Int) = (a_i32 x).toInt + 2147483648 := by
  rw [t32 hx]
  show (((2147483648 + x) % 4294967296 : Nat) : Int) = _
  split <;> omega
theorem a_lbias_val {x : Nat} (hx : x < 18446744073709551616) : (a_lbias x : Int) = (a_i64 x).toInt + 9223372036854775808 := by
  rw [t64 hx]
  show (((9223372036854775808 + x) % 18446744073709551616 : Nat) : Int) = _
  split <;> omega
theorem i32_inj {x y : Nat} (hx : x < 4294967296) (hy : y < 4294967296) : a_i32 x = a_i32 y ↔ x = y := by
  constructor
  · intro h
    have := congrArg (fun z : Int32 => z.toBitVec.toNat) h
    simp only [n32 hx, n32 hy] at this
    exact this
  · intro h; rw [h]
theorem a_eqb_iff {x y : Nat} (hx : x < 4294967296) (hy : y < 4294967296) : a_eqb x y = true ↔ a_i32 x = a_i32 y := by
  rw [i32_inj hx hy]
  exact beq_iff
theorem a_lt_iff {x y : Nat} (hx : x < 4294967296) (hy : y < 4294967296) : a_lt x y = true ↔ a_i32 x < a_i32 y := by
  rw [Int32.lt_iff_toInt_lt]
  unfold a_lt
  rw [ble_iff]
  have h1 := a_bias_val hx
  have h2 := a_bias_val hy
  show a_bias x + 1 ≤ a_bias y ↔ _
  omega
theorem a_leb_iff {x y : Nat} (hx : x < 4294967296) (hy : y < 4294967296) : a_leb x y = true ↔ a_i32 x ≤ a_i32 y := by
  rw [Int32.le_iff_toInt_le]
  unfold a_leb
  rw [ble_iff]
  have h1 := a_bias_val hx
  have h2 := a_bias_val hy
  omega
/-! division -/
theorem a_abs_val {x : Nat} (hx : x < 4294967296) : a_abs x = (a_i32 x).toInt.natAbs := by
  rw [t32 hx]
  unfold a_abs
  by_cases hc : x ≤ 2147483647
  · rw [ble_iff.mpr hc, if_pos (by omega)]
    show x = _
    omega
  · rw [ble_no hc, if_neg (by omega)]
    show 4294967296 - x = _
    omega
theorem a_neg_val (q : Nat) (hq : q ≤ 4294967296) : ((a_i32 (a_neg q)).toInt : Int) = (-(q : Int)).bmod 4294967296 := by
  show (a_i32 (a_neg q)).toBitVec.toInt = _
  rw [bv32, BitVec.toInt_ofNat']
  show (((4294967296 - q) % 4294967296 : Nat) : Int).bmod 4294967296 = _
  rw [Int.natCast_emod, Int.emod_bmod, Int.ofNat_sub hq]
  have : ((4294967296 : Nat) : Int) - (q : Int) = -(q : Int) + ((4294967296 : Nat) : Int) := by omega
  rw [this]
  exact Int.add_bmod_right ..
theorem i32_div {x y : Nat} (hx : x < 4294967296) (hy : y < 4294967296) : a_i32 x / a_i32 y = a_i32 (a_div x y) ∧ a_div x y < 4294967296 := by
  have hax := a_abs_val hx
  have hay := a_abs_val hy
  have hxx := t32 hx
  have hyy := t32 hy
  have hlt : a_div x y < 4294967296 := by
    unfold a_div
    cases Nat.beq (Nat.div x 2147483648) (Nat.div y 2147483648)
    · exact Nat.mod_lt _ (by decide)
    · exact Nat.mod_lt _ (by decide)
  refine ⟨?_, hlt⟩
  apply Int32.toInt.inj
  rw [Int32.toInt_div]
  have hq : a_abs x / a_abs y ≤ 4294967296 := by
    refine Nat.le_trans (Nat.div_le_self _ _) ?_
    rw [hax, hxx]; split <;> omega
  have hpos : ∀ q : Nat, (a_i32 (q % 4294967296)).toInt = (q : Int).bmod 4294967296 := by
    intro q
    show (a_i32 (q % 4294967296)).toBitVec.toInt = _
    rw [bv32, BitVec.toInt_ofNat', Int.natCast_emod]
    exact Int.emod_bmod ..
  unfold a_div
  by_cases hs : x / 2147483648 = y / 2147483648
  · rw [show Nat.beq (Nat.div x 2147483648) (Nat.div y 2147483648) = true from beq_iff.mpr hs]
    show _ = (a_i32 ((a_abs x / a_abs y) % 4294967296)).toInt
    rw [hpos, hax, hay]
    congr 1
    have hsg : (0 ≤ (a_i32 x).toInt ∧ 0 ≤ (a_i32 y).toInt) ∨ ((a_i32 x).toInt < 0 ∧ (a_i32 y).toInt < 0) := by
      rw [hxx, hyy]
      split <;> split <;> omega
    rcases hsg with ⟨h1, h2⟩ | ⟨h1, h2⟩
    · obtain ⟨p, hp⟩ := Int.eq_ofNat_of_zero_le h1
      obtain ⟨q, hq⟩ := Int.eq_ofNat_of_zero_le h2
      rw [hp, hq]
      simp [Int.tdiv]
    · obtain ⟨p, hp⟩ := Int.eq_ofNat_of_zero_le (show 0 ≤ -(a_i32 x).toInt by omega)
      obtain ⟨q, hq⟩ := Int.eq_ofNat_of_zero_le (show 0 ≤ -(a_i32 y).toInt by omega)
      rw [show (a_i32 x).toInt = -(p : Int) by omega, show (a_i32 y).toInt = -(q : Int) by omega, Int.neg_tdiv, Int.tdiv_neg, Int.neg_neg]
      simp
  · rw [show Nat.beq (Nat.div x 2147483648) (Nat.div y 2147483648) = false from beq_no hs]
    show _ = (a_i32 (a_neg (a_abs x / a_abs y))).toInt
    rw [a_neg_val _ hq, hax, hay]
    congr 1
    have hsg : (0 ≤ (a_i32 x).toInt ∧ (a_i32 y).toInt < 0) ∨ ((a_i32 x).toInt < 0 ∧ 0 ≤ (a_i32 y).toInt) := by
      rw [hxx, hyy]
      split <;> split <;> omega
    rcases hsg with ⟨h1, h2⟩ | ⟨h1, h2⟩
    · obtain ⟨p, hp⟩ := Int.eq_ofNat_of_zero_le h1
      obtain ⟨q, hq⟩ := Int.eq_ofNat_of_zero_le (show 0 ≤ -(a_i32 y).toInt by omega)
      rw [hp, show (a_i32 y).toInt = -(q : Int) by omega, Int.tdiv_neg]
      simp
    · obtain ⟨p, hp⟩ := Int.eq_ofNat_of_zero_le (show 0 ≤ -(a_i32 x).toInt by omega)
      obtain ⟨q, hq⟩ := Int.eq_ofNat_of_zero_le h2
      rw [hq, show (a_i32 x).toInt = -(p : Int) by omega, Int.neg_tdiv]
      simp
