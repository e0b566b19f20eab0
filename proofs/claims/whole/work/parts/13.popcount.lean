/-! counting bits, eight at a time -/
theorem pq_tb {a : Nat} (m : Nat) (ha : a < 256) (i : Nat) : (a + 256 * m).testBit i = if i < 8 then a.testBit i else m.testBit (i - 8) := by
  rw [Nat.add_comm, show (256 : Nat) = 2 ^ 8 from rfl, Nat.testBit_two_pow_mul_add m (show a < 2 ^ 8 from ha)]
theorem pq_and {a c : Nat} (m C : Nat) (ha : a < 256) (hc : c < 256) : (a + 256 * m) &&& (c + 256 * C) = (a &&& c) + 256 * (m &&& C) := by
  apply Nat.eq_of_testBit_eq
  intro i
  rw [Nat.testBit_and, pq_tb m ha, pq_tb C hc, pq_tb _ (Nat.lt_of_le_of_lt Nat.and_le_left ha)]
  split
  · rw [Nat.testBit_and]
  · rw [Nat.testBit_and]
theorem pq_d1 : ∀ a, a < 256 → ∀ t, t < 2 → (a / 2 + 128 * t) &&& 85 = (a / 2) &&& 85 := by decide +kernel
theorem pq_d2 : ∀ a, a < 256 → ∀ t, t < 4 → (a / 4 + 64 * t) &&& 51 = (a / 4) &&& 51 := by decide +kernel
def pq_1 (a : Nat) : Nat := a - ((a / 2) &&& 85)
def pq_2 (a : Nat) : Nat := (a &&& 51) + ((a / 4) &&& 51)
def pq_8 (a : Nat) : Nat := fb_ct (fun i => a.testBit i) 8
theorem pq_t : ∀ a, a < 256 → pq_1 a < 256 ∧ pq_2 (pq_1 a) % 16 ≤ 4 ∧ pq_2 (pq_1 a) / 16 ≤ 4 ∧ pq_2 (pq_1 a) % 16 + pq_2 (pq_1 a) / 16 = pq_8 a := by decide +kernel
theorem pq_s1 {a : Nat} (m C : Nat) (ha : a < 256) (hC : (m / 2) &&& C ≤ m) : (a + 256 * m) - (((a + 256 * m) / 2) &&& (85 + 256 * C)) = pq_1 a + 256 * (m - ((m / 2) &&& C)) := by
  have e : (a + 256 * m) / 2 = (a / 2 + 128 * (m % 2)) + 256 * (m / 2) := by omega
  rw [e, pq_and _ _ (by omega) (by omega), pq_d1 a ha _ (by omega)]
  have h1 : (a / 2) &&& 85 ≤ a / 2 := Nat.and_le_left
  unfold pq_1
  omega
theorem pq_s2 {a : Nat} (m C : Nat) (ha : a < 256) : ((a + 256 * m) &&& (51 + 256 * C)) + (((a + 256 * m) / 4) &&& (51 + 256 * C)) = pq_2 a + 256 * ((m &&& C) + ((m / 4) &&& C)) := by
  have e : (a + 256 * m) / 4 = (a / 4 + 64 * (m % 4)) + 256 * (m / 4) := by omega
  rw [e, pq_and _ _ ha (by omega), pq_and _ _ (by omega) (by omega), pq_d2 a ha _ (by omega)]
  unfold pq_2
  omega
theorem pq_s3 {a : Nat} (m C : Nat) (h1 : a % 16 ≤ 4) (h2 : a / 16 ≤ 4) (h3 : m % 16 ≤ 4) : ((a + 256 * m) + (a + 256 * m) / 16) &&& (15 + 256 * C) = (a % 16 + a / 16) + 256 * ((m + m / 16) &&& C) := by
  have e : (a + 256 * m) + (a + 256 * m) / 16 = (a + a / 16 + 16 * (m % 16)) + 256 * (m + m / 16) := by omega
  rw [e, pq_and _ _ (by omega) (by omega)]
  have e2 : (a + a / 16 + 16 * (m % 16)) &&& 15 = (a % 16 + a / 16) := by
    rw [show (15 : Nat) = 2 ^ 4 - 1 from rfl, Nat.and_two_pow_sub_one_eq_mod]
    omega
  rw [e2]
theorem pq_ct {a : Nat} (m k : Nat) (ha : a < 256) : fb_ct (fun i => (a + 256 * m).testBit i) (8 + k) = pq_8 a + fb_ct (fun i => m.testBit i) k := by
  rw [fb_ct_split]
  congr 1
  · apply fb_ct_cong
    intro i hi
    rw [pq_tb m ha, if_pos hi]
  · apply fb_ct_cong
    intro i hi
    rw [pq_tb m ha, if_neg (by omega), show 8 + i - 8 = i by omega]
theorem pq_and_le (m C : Nat) : (m / 2) &&& C ≤ m := Nat.le_trans Nat.and_le_left (Nat.div_le_self _ _)
/-- the eight bytes of a number -/
def by8 (a0 a1 a2 a3 a4 a5 a6 a7 : Nat) : Nat := a0 + 256 * (a1 + 256 * (a2 + 256 * (a3 + 256 * (a4 + 256 * (a5 + 256 * (a6 + 256 * (a7 + 256 * 0)))))))
theorem by8_of {n : Nat} (h : n < 2 ^ 64) : ∃ b0 b1 b2 b3 b4 b5 b6 b7, b0 < 256 ∧ b1 < 256 ∧ b2 < 256 ∧ b3 < 256 ∧ b4 < 256 ∧ b5 < 256 ∧ b6 < 256 ∧ b7 < 256 ∧ n = by8 b0 b1 b2 b3 b4 b5 b6 b7 := by
  refine ⟨n % 256, n / 256 % 256, n / 65536 % 256, n / 16777216 % 256, n / 4294967296 % 256, n / 1099511627776 % 256, n / 281474976710656 % 256, n / 72057594037927936 % 256, ?_⟩
  unfold by8
  omega
theorem by8_lt {a0 a1 a2 a3 a4 a5 a6 a7 : Nat} (h0 : a0 < 256) (h1 : a1 < 256) (h2 : a2 < 256) (h3 : a3 < 256) (h4 : a4 < 256) (h5 : a5 < 256) (h6 : a6 < 256) (h7 : a7 < 256) : by8 a0 a1 a2 a3 a4 a5 a6 a7 < 2 ^ 64 := by unfold by8; omega
theorem by8_lt' {a0 a1 a2 a3 a4 a5 a6 a7 : Nat} (h0 : a0 < 100) (h1 : a1 < 100) (h2 : a2 < 100) (h3 : a3 < 100) (h4 : a4 < 100) (h5 : a5 < 100) (h6 : a6 < 100) (h7 : a7 < 100) : by8 a0 a1 a2 a3 a4 a5 a6 a7 < 2 ^ 63 := by unfold by8; omega
theorem pq_100 {c : Nat} (h1 : c % 16 ≤ 4) (h2 : c / 16 ≤ 4) : c < 100 := by omega
theorem pq_63 {n : Nat} (h : n < 2 ^ 63) : n < 2 ^ 64 ∧ n + n / 16 < 2 ^ 64 := by omega
theorem by8_1 {b0 b1 b2 b3 b4 b5 b6 b7 : Nat} (h0 : b0 < 256) (h1 : b1 < 256) (h2 : b2 < 256) (h3 : b3 < 256) (h4 : b4 < 256) (h5 : b5 < 256) (h6 : b6 < 256) (h7 : b7 < 256) : by8 b0 b1 b2 b3 b4 b5 b6 b7 - ((by8 b0 b1 b2 b3 b4 b5 b6 b7 / 2) &&& 6148914691236517205) = by8 (pq_1 b0) (pq_1 b1) (pq_1 b2) (pq_1 b3) (pq_1 b4) (pq_1 b5) (pq_1 b6) (pq_1 b7) := by
  rw [show (6148914691236517205 : Nat) = 85 + 256 * (85 + 256 * (85 + 256 * (85 + 256 * (85 + 256 * (85 + 256 * (85 + 256 * (85 + 256 * 0))))))) from rfl]
  unfold by8
  rw [pq_s1 _ _ h0 (pq_and_le _ _), pq_s1 _ _ h1 (pq_and_le _ _), pq_s1 _ _ h2 (pq_and_le _ _), pq_s1 _ _ h3 (pq_and_le _ _), pq_s1 _ _ h4 (pq_and_le _ _), pq_s1 _ _ h5 (pq_and_le _ _), pq_s1 _ _ h6 (pq_and_le _ _), pq_s1 _ _ h7 (pq_and_le _ _), show (0 : Nat) - ((0 / 2) &&& 0) = 0 from rfl]
theorem by8_2 {b0 b1 b2 b3 b4 b5 b6 b7 : Nat} (h0 : b0 < 256) (h1 : b1 < 256) (h2 : b2 < 256) (h3 : b3 < 256) (h4 : b4 < 256) (h5 : b5 < 256) (h6 : b6 < 256) (h7 : b7 < 256) : (by8 b0 b1 b2 b3 b4 b5 b6 b7 &&& 3689348814741910323) + ((by8 b0 b1 b2 b3 b4 b5 b6 b7 / 4) &&& 3689348814741910323) = by8 (pq_2 b0) (pq_2 b1) (pq_2 b2) (pq_2 b3) (pq_2 b4) (pq_2 b5) (pq_2 b6) (pq_2 b7) := by
  rw [show (3689348814741910323 : Nat) = 51 + 256 * (51 + 256 * (51 + 256 * (51 + 256 * (51 + 256 * (51 + 256 * (51 + 256 * (51 + 256 * 0))))))) from rfl]
  unfold by8
  rw [pq_s2 _ _ h0, pq_s2 _ _ h1, pq_s2 _ _ h2, pq_s2 _ _ h3, pq_s2 _ _ h4, pq_s2 _ _ h5, pq_s2 _ _ h6, pq_s2 _ _ h7, show ((0 : Nat) &&& 0) + ((0 / 4) &&& 0) = 0 from rfl]
theorem pq_m16 {c m : Nat} (h : c % 16 ≤ 4) : (c + 256 * m) % 16 ≤ 4 := by omega
theorem by8_3 {c0 c1 c2 c3 c4 c5 c6 c7 : Nat} (q0 : c0 % 16 ≤ 4) (r0 : c0 / 16 ≤ 4) (q1 : c1 % 16 ≤ 4) (r1 : c1 / 16 ≤ 4) (q2 : c2 % 16 ≤ 4) (r2 : c2 / 16 ≤ 4) (q3 : c3 % 16 ≤ 4) (r3 : c3 / 16 ≤ 4) (q4 : c4 % 16 ≤ 4) (r4 : c4 / 16 ≤ 4) (q5 : c5 % 16 ≤ 4) (r5 : c5 / 16 ≤ 4) (q6 : c6 % 16 ≤ 4) (r6 : c6 / 16 ≤ 4) (q7 : c7 % 16 ≤ 4) (r7 : c7 / 16 ≤ 4) :
    ((by8 c0 c1 c2 c3 c4 c5 c6 c7 + by8 c0 c1 c2 c3 c4 c5 c6 c7 / 16) &&& 1085102592571150095) = by8 (c0 % 16 + c0 / 16) (c1 % 16 + c1 / 16) (c2 % 16 + c2 / 16) (c3 % 16 + c3 / 16) (c4 % 16 + c4 / 16) (c5 % 16 + c5 / 16) (c6 % 16 + c6 / 16) (c7 % 16 + c7 / 16) := by
  rw [show (1085102592571150095 : Nat) = 15 + 256 * (15 + 256 * (15 + 256 * (15 + 256 * (15 + 256 * (15 + 256 * (15 + 256 * (15 + 256 * 0))))))) from rfl]
  unfold by8
  rw [pq_s3 _ _ q0 r0 (pq_m16 q1), pq_s3 _ _ q1 r1 (pq_m16 q2), pq_s3 _ _ q2 r2 (pq_m16 q3), pq_s3 _ _ q3 r3 (pq_m16 q4), pq_s3 _ _ q4 r4 (pq_m16 q5), pq_s3 _ _ q5 r5 (pq_m16 q6), pq_s3 _ _ q6 r6 (pq_m16 q7), pq_s3 _ _ q7 r7 (Nat.zero_le _), show (((0 : Nat) + 0 / 16) &&& 0) = 0 from rfl]
theorem by8_4 {d0 d1 d2 d3 d4 d5 d6 d7 : Nat} (k0 : d0 ≤ 8) (k1 : d1 ≤ 8) (k2 : d2 ≤ 8) (k3 : d3 ≤ 8) (k4 : d4 ≤ 8) (k5 : d5 ≤ 8) (k6 : d6 ≤ 8) (k7 : d7 ≤ 8) :
    by8 d0 d1 d2 d3 d4 d5 d6 d7 + by8 d0 d1 d2 d3 d4 d5 d6 d7 / 256 = by8 (d0 + d1) (d1 + d2) (d2 + d3) (d3 + d4) (d4 + d5) (d5 + d6) (d6 + d7) d7 := by
  unfold by8; omega
theorem by8_5 {d0 d1 d2 d3 d4 d5 d6 d7 : Nat} (k0 : d0 ≤ 16) (k1 : d1 ≤ 16) (k2 : d2 ≤ 16) (k3 : d3 ≤ 16) (k4 : d4 ≤ 16) (k5 : d5 ≤ 16) (k6 : d6 ≤ 16) (k7 : d7 ≤ 16) :
    by8 d0 d1 d2 d3 d4 d5 d6 d7 + by8 d0 d1 d2 d3 d4 d5 d6 d7 / 65536 = by8 (d0 + d2) (d1 + d3) (d2 + d4) (d3 + d5) (d4 + d6) (d5 + d7) d6 d7 := by
  unfold by8; omega
theorem by8_6 {d0 d1 d2 d3 d4 d5 d6 d7 : Nat} (k0 : d0 ≤ 32) (k1 : d1 ≤ 32) (k2 : d2 ≤ 32) (k3 : d3 ≤ 32) (k4 : d4 ≤ 32) (k5 : d5 ≤ 32) (k6 : d6 ≤ 32) (k7 : d7 ≤ 32) :
    by8 d0 d1 d2 d3 d4 d5 d6 d7 + by8 d0 d1 d2 d3 d4 d5 d6 d7 / 4294967296 = by8 (d0 + d4) (d1 + d5) (d2 + d6) (d3 + d7) d4 d5 d6 d7 := by
  unfold by8; omega
theorem by8_m {d0 d1 d2 d3 d4 d5 d6 d7 : Nat} (h : d0 < 128) : by8 d0 d1 d2 d3 d4 d5 d6 d7 % 128 = d0 := by unfold by8; omega
theorem by8_ct {b0 b1 b2 b3 b4 b5 b6 b7 : Nat} (h0 : b0 < 256) (h1 : b1 < 256) (h2 : b2 < 256) (h3 : b3 < 256) (h4 : b4 < 256) (h5 : b5 < 256) (h6 : b6 < 256) (h7 : b7 < 256) : fb_ct (fun i => (by8 b0 b1 b2 b3 b4 b5 b6 b7).testBit i) 64 = pq_8 b0 + pq_8 b1 + (pq_8 b2 + pq_8 b3) + (pq_8 b4 + pq_8 b5 + (pq_8 b6 + pq_8 b7)) := by
  unfold by8
  rw [show (64 : Nat) = 8 + (8 + (8 + (8 + (8 + (8 + (8 + (8 + 0))))))) from rfl, pq_ct _ _ h0, pq_ct _ _ h1, pq_ct _ _ h2, pq_ct _ _ h3, pq_ct _ _ h4, pq_ct _ _ h5, pq_ct _ _ h6, pq_ct _ _ h7]
  simp only [fb_ct, Nat.add_zero, Nat.add_assoc]
theorem pq_le8 {a : Nat} : pq_8 a ≤ 8 := fb_ct_le _ 8
theorem pq_64 {n : Nat} (h : n < 2 ^ 64) : ∃ n1 n2 n3 n4 n5 n6 : Nat, n - ((n / 2) &&& 6148914691236517205) = n1 ∧ (n1 &&& 3689348814741910323) + ((n1 / 4) &&& 3689348814741910323) = n2 ∧ ((n2 + n2 / 16) &&& 1085102592571150095) = n3 ∧ n3 + n3 / 256 = n4 ∧ n4 + n4 / 65536 = n5 ∧ n5 + n5 / 4294967296 = n6 ∧ n1 < 2 ^ 64 ∧ n2 < 2 ^ 64 ∧ n2 + n2 / 16 < 2 ^ 64 ∧ n3 < 2 ^ 64 ∧ n4 < 2 ^ 64 ∧ n5 < 2 ^ 64 ∧ n6 < 2 ^ 64 ∧ n6 % 128 = fb_ct (fun i => n.testBit i) 64 := by
  obtain ⟨b0, b1, b2, b3, b4, b5, b6, b7, h0, h1, h2, h3, h4, h5, h6, h7, rfl⟩ := by8_of h
  obtain ⟨p0, q0, r0, s0⟩ := pq_t b0 h0
  obtain ⟨p1, q1, r1, s1⟩ := pq_t b1 h1
  obtain ⟨p2, q2, r2, s2⟩ := pq_t b2 h2
  obtain ⟨p3, q3, r3, s3⟩ := pq_t b3 h3
  obtain ⟨p4, q4, r4, s4⟩ := pq_t b4 h4
  obtain ⟨p5, q5, r5, s5⟩ := pq_t b5 h5
  obtain ⟨p6, q6, r6, s6⟩ := pq_t b6 h6
  obtain ⟨p7, q7, r7, s7⟩ := pq_t b7 h7
  have e3 := by8_3 q0 r0 q1 r1 q2 r2 q3 r3 q4 r4 q5 r5 q6 r6 q7 r7
  rw [s0, s1, s2, s3, s4, s5, s6, s7] at e3
  have l0 := @pq_le8 b0
  have l1 := @pq_le8 b1
  have l2 := @pq_le8 b2
  have l3 := @pq_le8 b3
  have l4 := @pq_le8 b4
  have l5 := @pq_le8 b5
  have l6 := @pq_le8 b6
  have l7 := @pq_le8 b7
  have hb2 := pq_63 (by8_lt' (pq_100 q0 r0) (pq_100 q1 r1) (pq_100 q2 r2) (pq_100 q3 r3) (pq_100 q4 r4) (pq_100 q5 r5) (pq_100 q6 r6) (pq_100 q7 r7))
  have lt : ∀ {x y : Nat}, x ≤ y → y < 256 → x < 256 := fun h1 h2 => Nat.lt_of_le_of_lt h1 h2
  refine ⟨_, _, _, _, _, _, by8_1 h0 h1 h2 h3 h4 h5 h6 h7, by8_2 p0 p1 p2 p3 p4 p5 p6 p7, e3, by8_4 l0 l1 l2 l3 l4 l5 l6 l7, by8_5 (Nat.add_le_add l0 l1) (Nat.add_le_add l1 l2) (Nat.add_le_add l2 l3) (Nat.add_le_add l3 l4) (Nat.add_le_add l4 l5) (Nat.add_le_add l5 l6) (Nat.add_le_add l6 l7) (Nat.le_trans l7 (by decide)), by8_6 (Nat.add_le_add (Nat.add_le_add l0 l1) (Nat.add_le_add l2 l3)) (Nat.add_le_add (Nat.add_le_add l1 l2) (Nat.add_le_add l3 l4)) (Nat.add_le_add (Nat.add_le_add l2 l3) (Nat.add_le_add l4 l5)) (Nat.add_le_add (Nat.add_le_add l3 l4) (Nat.add_le_add l5 l6)) (Nat.add_le_add (Nat.add_le_add l4 l5) (Nat.add_le_add l6 l7)) (Nat.le_trans (Nat.add_le_add (Nat.add_le_add l5 l6) l7) (by decide)) (Nat.le_trans (Nat.add_le_add l6 l7) (by decide)) (Nat.le_trans l7 (by decide)), by8_lt p0 p1 p2 p3 p4 p5 p6 p7, hb2.1, hb2.2, ?_, ?_, ?_, ?_, ?_⟩
  · exact by8_lt (lt l0 (by decide)) (lt l1 (by decide)) (lt l2 (by decide)) (lt l3 (by decide)) (lt l4 (by decide)) (lt l5 (by decide)) (lt l6 (by decide)) (lt l7 (by decide))
  · refine by8_lt ?_ ?_ ?_ ?_ ?_ ?_ ?_ ?_ <;> omega
  · refine by8_lt ?_ ?_ ?_ ?_ ?_ ?_ ?_ ?_ <;> omega
  · refine by8_lt ?_ ?_ ?_ ?_ ?_ ?_ ?_ ?_ <;> omega
  · rw [by8_m (by omega), by8_ct h0 h1 h2 h3 h4 h5 h6 h7]

/-! the same over four bytes -/
def by4 (a0 a1 a2 a3 : Nat) : Nat := a0 + 256 * (a1 + 256 * (a2 + 256 * (a3 + 256 * 0)))
theorem by4_of {n : Nat} (h : n < 2 ^ 32) : ∃ b0 b1 b2 b3, b0 < 256 ∧ b1 < 256 ∧ b2 < 256 ∧ b3 < 256 ∧ n = by4 b0 b1 b2 b3 := by
  refine ⟨n % 256, n / 256 % 256, n / 65536 % 256, n / 16777216 % 256, ?_⟩
  unfold by4
  omega
theorem by4_lt {a0 a1 a2 a3 : Nat} (h0 : a0 < 256) (h1 : a1 < 256) (h2 : a2 < 256) (h3 : a3 < 256) : by4 a0 a1 a2 a3 < 2 ^ 32 := by unfold by4; omega
theorem by4_lt' {a0 a1 a2 a3 : Nat} (h0 : a0 < 100) (h1 : a1 < 100) (h2 : a2 < 100) (h3 : a3 < 100) : by4 a0 a1 a2 a3 < 2 ^ 31 := by unfold by4; omega
theorem pq_31 {n : Nat} (h : n < 2 ^ 31) : n < 2 ^ 32 ∧ n + n / 16 < 2 ^ 32 := by omega
theorem by4_1 {b0 b1 b2 b3 : Nat} (h0 : b0 < 256) (h1 : b1 < 256) (h2 : b2 < 256) (h3 : b3 < 256) : by4 b0 b1 b2 b3 - ((by4 b0 b1 b2 b3 / 2) &&& 1431655765) = by4 (pq_1 b0) (pq_1 b1) (pq_1 b2) (pq_1 b3) := by
  rw [show (1431655765 : Nat) = 85 + 256 * (85 + 256 * (85 + 256 * (85 + 256 * 0))) from rfl]
  unfold by4
  rw [pq_s1 _ _ h0 (pq_and_le _ _), pq_s1 _ _ h1 (pq_and_le _ _), pq_s1 _ _ h2 (pq_and_le _ _), pq_s1 _ _ h3 (pq_and_le _ _), show (0 : Nat) - ((0 / 2) &&& 0) = 0 from rfl]
theorem by4_2 {b0 b1 b2 b3 : Nat} (h0 : b0 < 256) (h1 : b1 < 256) (h2 : b2 < 256) (h3 : b3 < 256) : (by4 b0 b1 b2 b3 &&& 858993459) + ((by4 b0 b1 b2 b3 / 4) &&& 858993459) = by4 (pq_2 b0) (pq_2 b1) (pq_2 b2) (pq_2 b3) := by
  rw [show (858993459 : Nat) = 51 + 256 * (51 + 256 * (51 + 256 * (51 + 256 * 0))) from rfl]
  unfold by4
  rw [pq_s2 _ _ h0, pq_s2 _ _ h1, pq_s2 _ _ h2, pq_s2 _ _ h3, show ((0 : Nat) &&& 0) + ((0 / 4) &&& 0) = 0 from rfl]
theorem by4_3 {c0 c1 c2 c3 : Nat} (q0 : c0 % 16 ≤ 4) (r0 : c0 / 16 ≤ 4) (q1 : c1 % 16 ≤ 4) (r1 : c1 / 16 ≤ 4) (q2 : c2 % 16 ≤ 4) (r2 : c2 / 16 ≤ 4) (q3 : c3 % 16 ≤ 4) (r3 : c3 / 16 ≤ 4) :
    ((by4 c0 c1 c2 c3 + by4 c0 c1 c2 c3 / 16) &&& 252645135) = by4 (c0 % 16 + c0 / 16) (c1 % 16 + c1 / 16) (c2 % 16 + c2 / 16) (c3 % 16 + c3 / 16) := by
  rw [show (252645135 : Nat) = 15 + 256 * (15 + 256 * (15 + 256 * (15 + 256 * 0))) from rfl]
  unfold by4
  rw [pq_s3 _ _ q0 r0 (pq_m16 q1), pq_s3 _ _ q1 r1 (pq_m16 q2), pq_s3 _ _ q2 r2 (pq_m16 q3), pq_s3 _ _ q3 r3 (Nat.zero_le _), show (((0 : Nat) + 0 / 16) &&& 0) = 0 from rfl]
theorem by4_4 {d0 d1 d2 d3 : Nat} (k0 : d0 ≤ 8) (k1 : d1 ≤ 8) (k2 : d2 ≤ 8) (k3 : d3 ≤ 8) : by4 d0 d1 d2 d3 + by4 d0 d1 d2 d3 / 256 = by4 (d0 + d1) (d1 + d2) (d2 + d3) d3 := by
  unfold by4; omega
theorem by4_5 {d0 d1 d2 d3 : Nat} (k0 : d0 ≤ 16) (k1 : d1 ≤ 16) (k2 : d2 ≤ 16) (k3 : d3 ≤ 16) : by4 d0 d1 d2 d3 + by4 d0 d1 d2 d3 / 65536 = by4 (d0 + d2) (d1 + d3) d2 d3 := by
  unfold by4; omega
theorem by4_m {d0 d1 d2 d3 : Nat} (h : d0 < 64) : by4 d0 d1 d2 d3 % 64 = d0 := by unfold by4; omega
theorem by4_ct {b0 b1 b2 b3 : Nat} (h0 : b0 < 256) (h1 : b1 < 256) (h2 : b2 < 256) (h3 : b3 < 256) : fb_ct (fun i => (by4 b0 b1 b2 b3).testBit i) 32 = pq_8 b0 + pq_8 b1 + (pq_8 b2 + pq_8 b3) := by
  unfold by4
  rw [show (32 : Nat) = 8 + (8 + (8 + (8 + 0))) from rfl, pq_ct _ _ h0, pq_ct _ _ h1, pq_ct _ _ h2, pq_ct _ _ h3]
  simp only [fb_ct, Nat.add_zero, Nat.add_assoc]
theorem pq_32 {n : Nat} (h : n < 2 ^ 32) : ∃ n1 n2 n3 n4 n5 : Nat, n - ((n / 2) &&& 1431655765) = n1 ∧ (n1 &&& 858993459) + ((n1 / 4) &&& 858993459) = n2 ∧ ((n2 + n2 / 16) &&& 252645135) = n3 ∧ n3 + n3 / 256 = n4 ∧ n4 + n4 / 65536 = n5 ∧ n1 < 2 ^ 32 ∧ n2 < 2 ^ 32 ∧ n2 + n2 / 16 < 2 ^ 32 ∧ n3 < 2 ^ 32 ∧ n4 < 2 ^ 32 ∧ n5 < 2 ^ 32 ∧ n5 % 64 = fb_ct (fun i => n.testBit i) 32 := by
  obtain ⟨b0, b1, b2, b3, h0, h1, h2, h3, rfl⟩ := by4_of h
  obtain ⟨p0, q0, r0, s0⟩ := pq_t b0 h0
  obtain ⟨p1, q1, r1, s1⟩ := pq_t b1 h1
  obtain ⟨p2, q2, r2, s2⟩ := pq_t b2 h2
  obtain ⟨p3, q3, r3, s3⟩ := pq_t b3 h3
  have e3 := by4_3 q0 r0 q1 r1 q2 r2 q3 r3
  rw [s0, s1, s2, s3] at e3
  have l0 := @pq_le8 b0
  have l1 := @pq_le8 b1
  have l2 := @pq_le8 b2
  have l3 := @pq_le8 b3
  have hb2 := pq_31 (by4_lt' (pq_100 q0 r0) (pq_100 q1 r1) (pq_100 q2 r2) (pq_100 q3 r3))
  refine ⟨_, _, _, _, _, by4_1 h0 h1 h2 h3, by4_2 p0 p1 p2 p3, e3, by4_4 l0 l1 l2 l3, by4_5 (Nat.add_le_add l0 l1) (Nat.add_le_add l1 l2) (Nat.add_le_add l2 l3) (Nat.le_trans l3 (by decide)), by4_lt p0 p1 p2 p3, hb2.1, hb2.2, ?_, ?_, ?_, ?_⟩
  · refine by4_lt ?_ ?_ ?_ ?_ <;> omega
  · refine by4_lt ?_ ?_ ?_ ?_ <;> omega
  · refine by4_lt ?_ ?_ ?_ ?_ <;> omega
  · rw [by4_m (by omega), by4_ct h0 h1 h2 h3]
