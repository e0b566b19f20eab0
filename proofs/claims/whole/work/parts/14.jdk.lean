/-! the JDK's own leaves -/
def pc64 (x : Int64) : Nat := fb_ct (fun i => (uN x).testBit i) 64
theorem uN_bv (x : Int64) : uN x = x.toBitVec.toNat := rfl
theorem uN_and (x y : Int64) : uN (x &&& y) = uN x &&& uN y := by rw [uN_bv, uN_bv, uN_bv, Int64.toBitVec_and, BitVec.toNat_and]
theorem uN_or' (x y : Int64) : uN (x ||| y) = uN x ||| uN y := by rw [uN_bv, uN_bv, uN_bv, Int64.toBitVec_or, BitVec.toNat_or]
theorem uN_xor' (x y : Int64) : uN (x ^^^ y) = uN x ^^^ uN y := by rw [uN_bv, uN_bv, uN_bv, Int64.toBitVec_xor, BitVec.toNat_xor]
theorem uN_sub (x y : Int64) (h : uN y ≤ uN x) : uN (x - y) = uN x - uN y := by
  have h1 := uN_lt x
  have h2 := uN_lt y
  rw [uN_bv, uN_bv] at h
  rw [uN_bv] at h1 h2
  rw [uN_bv, uN_bv, uN_bv, Int64.toBitVec_sub, BitVec.toNat_sub]
  omega
theorem uN_add' (x y : Int64) (h : uN x + uN y < 2 ^ 64) : uN (x + y) = uN x + uN y := by
  rw [uN_add]; omega
theorem uN_low (x : Int64) : x.toInt32.toBitVec.toNat = uN x % 2 ^ 32 := by
  rw [uN_bv, Int64.toBitVec_toInt32, BitVec.signExtend_eq_setWidth_of_le _ (by decide), BitVec.toNat_setWidth]
theorem bc_ush (x : Int64) (k : Int32) (d : Nat) (hd : (k.toInt64.toUInt64 &&& Int64.toUInt64 63).toNat % 64 = d) : uN (x.toUInt64 >>> (k.toInt64.toUInt64 &&& Int64.toUInt64 63)).toInt64 = uN x / 2 ^ d := by
  rw [uN_shr, hd]
theorem bc_64 {x x1 x2 x3 x4 x5 x6 : Int64}
    (e1 : x1 = x - ((x.toUInt64 >>> ((1 : Int32).toInt64.toUInt64 &&& Int64.toUInt64 63)).toInt64 &&& (6148914691236517205 : Int64)))
    (e2 : x2 = (x1 &&& (3689348814741910323 : Int64)) + ((x1.toUInt64 >>> ((2 : Int32).toInt64.toUInt64 &&& Int64.toUInt64 63)).toInt64 &&& (3689348814741910323 : Int64)))
    (e3 : x3 = (x2 + (x2.toUInt64 >>> ((4 : Int32).toInt64.toUInt64 &&& Int64.toUInt64 63)).toInt64) &&& (1085102592571150095 : Int64))
    (e4 : x4 = x3 + (x3.toUInt64 >>> ((8 : Int32).toInt64.toUInt64 &&& Int64.toUInt64 63)).toInt64)
    (e5 : x5 = x4 + (x4.toUInt64 >>> ((16 : Int32).toInt64.toUInt64 &&& Int64.toUInt64 63)).toInt64)
    (e6 : x6 = x5 + (x5.toUInt64 >>> ((32 : Int32).toInt64.toUInt64 &&& Int64.toUInt64 63)).toInt64) : x6.toInt32 &&& (127 : Int32) = nI (pc64 x) := by
  obtain ⟨n1, n2, n3, n4, n5, n6, q1, q2, q3, q4, q5, q6, l1, l2, l2', l3, l4, l5, l6, hq⟩ := pq_64 (n := uN x) (uN_lt x)
  have c5 : uN (6148914691236517205 : Int64) = 6148914691236517205 := by decide +kernel
  have c3 : uN (3689348814741910323 : Int64) = 3689348814741910323 := by decide +kernel
  have cF : uN (1085102592571150095 : Int64) = 1085102592571150095 := by decide +kernel
  have u1 : uN x1 = n1 := by
    rw [e1, uN_sub _ _ (by rw [uN_and, bc_ush x 1 1 (by decide), c5]; exact pq_and_le _ _), uN_and, bc_ush x 1 1 (by decide), c5]
    exact q1
  have u2 : uN x2 = n2 := by
    rw [e2, uN_add' _ _ (by rw [uN_and, uN_and, bc_ush x1 2 2 (by decide), c3, u1]; rw [show (2 : Nat) ^ 2 = 4 from rfl, q2]; exact l2), uN_and, uN_and, bc_ush x1 2 2 (by decide), c3, u1]
    exact q2
  have u3 : uN x3 = n3 := by
    rw [e3, uN_and, uN_add' _ _ (by rw [bc_ush x2 4 4 (by decide), u2]; exact l2'), bc_ush x2 4 4 (by decide), cF, u2]
    exact q3
  have u4 : uN x4 = n4 := by
    rw [e4, uN_add' _ _ (by rw [bc_ush x3 8 8 (by decide), u3]; rw [show (2 : Nat) ^ 8 = 256 from rfl, q4]; exact l4), bc_ush x3 8 8 (by decide), u3]
    exact q4
  have u5 : uN x5 = n5 := by
    rw [e5, uN_add' _ _ (by rw [bc_ush x4 16 16 (by decide), u4]; rw [show (2 : Nat) ^ 16 = 65536 from rfl, q5]; exact l5), bc_ush x4 16 16 (by decide), u4]
    exact q5
  have u6 : uN x6 = n6 := by
    rw [e6, uN_add' _ _ (by rw [bc_ush x5 32 32 (by decide), u5]; rw [show (2 : Nat) ^ 32 = 4294967296 from rfl, q6]; exact l6), bc_ush x5 32 32 (by decide), u5]
    exact q6
  rw [pk_and _ 7 (by decide), uN_low, u6]
  unfold pc64
  rw [← hq]
  congr 1
  omega

def u32 (x : Int32) : Nat := x.toBitVec.toNat
def pc32 (x : Int32) : Nat := fb_ct (fun i => (u32 x).testBit i) 32
theorem u32_lt (x : Int32) : u32 x < 2 ^ 32 := x.toBitVec.isLt
theorem u32_nI {n : Nat} (h : n < 2 ^ 32) : u32 (nI n) = n := pk_tn h
theorem u32_inj {x y : Int32} (h : u32 x = u32 y) : x = y := Int32.toBitVec_inj.mp (BitVec.eq_of_toNat_eq h)
theorem u32_and (x y : Int32) : u32 (x &&& y) = u32 x &&& u32 y := by unfold u32; rw [Int32.toBitVec_and, BitVec.toNat_and]
theorem u32_or (x y : Int32) : u32 (x ||| y) = u32 x ||| u32 y := by unfold u32; rw [Int32.toBitVec_or, BitVec.toNat_or]
theorem u32_sub (x y : Int32) (h : u32 y ≤ u32 x) : u32 (x - y) = u32 x - u32 y := by
  have h1 := u32_lt x
  have h2 := u32_lt y
  unfold u32 at *
  rw [Int32.toBitVec_sub, BitVec.toNat_sub]
  omega
theorem u32_add (x y : Int32) (h : u32 x + u32 y < 2 ^ 32) : u32 (x + y) = u32 x + u32 y := by
  unfold u32 at *
  rw [Int32.toBitVec_add, BitVec.toNat_add]
  omega
theorem u32_ush (x k : Int32) (d : Nat) (hd : ((k.toUInt32 &&& Int32.toUInt32 31).toBitVec % 32).toNat = d) : u32 (x.toUInt32 >>> (k.toUInt32 &&& Int32.toUInt32 31)).toInt32 = u32 x / 2 ^ d := pk_ushr x k d hd
theorem bc_32 {x x1 x2 x3 x4 x5 : Int32}
    (e1 : x1 = x - ((x.toUInt32 >>> ((1 : Int32).toUInt32 &&& Int32.toUInt32 31)).toInt32 &&& (1431655765 : Int32)))
    (e2 : x2 = (x1 &&& (858993459 : Int32)) + ((x1.toUInt32 >>> ((2 : Int32).toUInt32 &&& Int32.toUInt32 31)).toInt32 &&& (858993459 : Int32)))
    (e3 : x3 = (x2 + (x2.toUInt32 >>> ((4 : Int32).toUInt32 &&& Int32.toUInt32 31)).toInt32) &&& (252645135 : Int32))
    (e4 : x4 = x3 + (x3.toUInt32 >>> ((8 : Int32).toUInt32 &&& Int32.toUInt32 31)).toInt32)
    (e5 : x5 = x4 + (x4.toUInt32 >>> ((16 : Int32).toUInt32 &&& Int32.toUInt32 31)).toInt32) : x5 &&& (63 : Int32) = nI (pc32 x) := by
  obtain ⟨n1, n2, n3, n4, n5, q1, q2, q3, q4, q5, l1, l2, l2', l3, l4, l5, hq⟩ := pq_32 (n := u32 x) (u32_lt x)
  have c5 : u32 (1431655765 : Int32) = 1431655765 := by decide +kernel
  have c3 : u32 (858993459 : Int32) = 858993459 := by decide +kernel
  have cF : u32 (252645135 : Int32) = 252645135 := by decide +kernel
  have u1 : u32 x1 = n1 := by
    rw [e1, u32_sub _ _ (by rw [u32_and, u32_ush x 1 1 (by decide), c5]; exact pq_and_le _ _), u32_and, u32_ush x 1 1 (by decide), c5]
    exact q1
  have u2 : u32 x2 = n2 := by
    rw [e2, u32_add _ _ (by rw [u32_and, u32_and, u32_ush x1 2 2 (by decide), c3, u1]; rw [show (2 : Nat) ^ 2 = 4 from rfl, q2]; exact l2), u32_and, u32_and, u32_ush x1 2 2 (by decide), c3, u1]
    exact q2
  have u3 : u32 x3 = n3 := by
    rw [e3, u32_and, u32_add _ _ (by rw [u32_ush x2 4 4 (by decide), u2]; exact l2'), u32_ush x2 4 4 (by decide), cF, u2]
    exact q3
  have u4 : u32 x4 = n4 := by
    rw [e4, u32_add _ _ (by rw [u32_ush x3 8 8 (by decide), u3]; rw [show (2 : Nat) ^ 8 = 256 from rfl, q4]; exact l4), u32_ush x3 8 8 (by decide), u3]
    exact q4
  have u5 : u32 x5 = n5 := by
    rw [e5, u32_add _ _ (by rw [u32_ush x4 16 16 (by decide), u4]; rw [show (2 : Nat) ^ 16 = 65536 from rfl, q5]; exact l5), u32_ush x4 16 16 (by decide), u4]
    exact q5
  rw [pk_and _ 6 (by decide)]
  show nI (u32 x5 % 2 ^ 6) = _
  rw [u5]
  unfold pc32
  rw [← hq]
/-! trailing zeros: of a number whose lowest bit is k, all below it are 0 -/
theorem tz_bit {n k : Nat} (hk : n.testBit k = true) (hl : ∀ i, i < k → n.testBit i = false) : ∃ m, n = 2 ^ k * (2 * m + 1) := by
  have h1 : n % 2 ^ k = 0 := by
    apply Nat.eq_of_testBit_eq
    intro i
    rw [Nat.testBit_mod_two_pow, Nat.zero_testBit]
    by_cases hi : i < k
    · simp [hi, hl i hi]
    · simp [hi]
  have h2 : n / 2 ^ k % 2 = 1 := by
    have h := hk
    rw [Nat.testBit_eq_decide_div_mod_eq] at h
    exact of_decide_eq_true h
  refine ⟨n / 2 ^ k / 2, ?_⟩
  have h3 := Nat.div_add_mod n (2 ^ k)
  have h4 : n / 2 ^ k = 2 * (n / 2 ^ k / 2) + 1 := by omega
  rw [h1] at h3
  rw [← h4]
  omega
theorem tz_first {n : Nat} (w : Nat) (hn : n ≠ 0) (hw : n < 2 ^ w) : ∃ k, k < w ∧ n.testBit k = true ∧ ∀ i, i < k → n.testBit i = false := by
  have hex : ∃ i, i < w ∧ n.testBit i = true := by
    obtain ⟨i, hi⟩ := Nat.exists_testBit_of_ne_zero hn
    refine ⟨i, ?_, hi⟩
    rcases Nat.lt_or_ge i w with q | q
    · exact q
    · have := Nat.testBit_lt_two_pow (Nat.lt_of_lt_of_le hw (Nat.pow_le_pow_right (by decide) q))
      rw [this] at hi
      cases hi
  obtain ⟨k, h1, h2, h3⟩ := fb_first hex
  exact ⟨k, h1, h2, fun i hi => by
    cases hq : n.testBit i
    · rfl
    · exact absurd hq (h3 i hi)⟩
