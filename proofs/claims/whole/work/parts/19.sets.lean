/-! sets of lines: the bits of the words -/
def lb (f : Nat → Int64) (n : Nat) : Bool := (uN (f (n / 64))).testBit (n % 64)
theorem lb_at (f : Nat → Int64) (k : Nat) {j : Nat} (hj : j < 64) : lb f (64 * k + j) = (uN (f k)).testBit j := by
  unfold lb
  rw [show (64 * k + j) / 64 = k by omega, show (64 * k + j) % 64 = j by omega]
theorem lb_sm (f : Nat → Int64) : ∀ k, fb_sm (fun q => pc64 (f q)) k = fb_ct (lb f) (64 * k)
  | 0 => rfl
  | k + 1 => by
    rw [fb_sm_succ, lb_sm f k, show 64 * (k + 1) = 64 * k + 64 by omega, fb_ct_split]
    congr 1
    exact fb_ct_cong (fun j hj => (lb_at f k hj).symm)
theorem lb_part (f : Nat → Int64) (k : Nat) {b : Nat} (hb : b ≤ 64) : fb_ct (lb f) (64 * k + b) = fb_ct (lb f) (64 * k) + fb_ct (fun j => (uN (f k)).testBit j) b := by
  rw [fb_ct_split]
  congr 1
  exact fb_ct_cong (fun j hj => lb_at f k (by omega))
theorem ct_out {p : Nat → Bool} {b : Nat} : ∀ {n : Nat}, b ≤ n → (∀ i, b ≤ i → p i = false) → fb_ct p n = fb_ct p b
  | 0, h, _ => by rw [show b = 0 by omega]
  | n + 1, h, hp => by
    rcases Nat.lt_or_ge n b with q | q
    · rw [show n + 1 = b by omega]
    · rw [fb_ct_succ, ct_out q hp, hp n q]; rfl
theorem pc_low (x : Nat) {b : Nat} (hb : b ≤ 64) : fb_ct (fun i => (x % 2 ^ b).testBit i) 64 = fb_ct (fun i => x.testBit i) b := by
  rw [ct_out (b := b) hb (fun i hi => by rw [Nat.testBit_mod_two_pow]; simp; intro h; omega)]
  exact fb_ct_cong (fun i hi => by rw [Nat.testBit_mod_two_pow]; simp [hi])
theorem ls_mask {b : Nat} (hb : b < 64) : uN (((1 : Int64) <<< ((nI b).toInt64 &&& (63 : Int64))) - (1 : Int64)) = 2 ^ b - 1 := by
  have h : ∀ b : Nat, b < 64 → uN (((1 : Int64) <<< ((nI b).toInt64 &&& (63 : Int64))) - (1 : Int64)) = 2 ^ b - 1 := by decide +kernel
  exact h b hb
theorem ls_one {b : Nat} (hb : b < 64) : uN ((1 : Int64) <<< ((nI b).toInt64 &&& (63 : Int64))) = 2 ^ b := by
  have h : ∀ b : Nat, b < 64 → uN ((1 : Int64) <<< ((nI b).toInt64 &&& (63 : Int64))) = 2 ^ b := by decide +kernel
  exact h b hb
theorem pc_mask (x : Int64) {b : Nat} (hb : b < 64) : pc64 (x &&& (((1 : Int64) <<< ((nI b).toInt64 &&& (63 : Int64))) - (1 : Int64))) = fb_ct (fun i => (uN x).testBit i) b := by
  unfold pc64
  rw [uN_and, ls_mask hb, Nat.and_two_pow_sub_one_eq_mod, pc_low _ (by omega)]
/-! the first of a kind -/
theorem first_is {p : Nat → Bool} {n k : Nat} (hk : k < n) (hp : p k = true) (hl : ∀ i, i < k → p i = false) : fa_first p n = k := by
  rcases Nat.lt_trichotomy (fa_first p n) k with q | q | q
  · have h1 := fa_first_yes p n (by omega)
    rw [hl _ q] at h1
    cases h1
  · exact q
  · have h1 := fa_first_no p n k q
    rw [hp] at h1
    cases h1
theorem first_none {p : Nat → Bool} {n : Nat} (hl : ∀ i, i < n → p i = false) : fa_first p n = n := by
  rcases Nat.lt_or_ge (fa_first p n) n with q | q
  · have h1 := fa_first_yes p n q
    rw [hl _ q] at h1
    cases h1
  · exact Nat.le_antisymm (fa_first_le p n) q
theorem first_cong {p q : Nat → Bool} {n : Nat} (h : ∀ i, i < n → p i = q i) : fa_first p n = fa_first q n := by
  rcases Nat.lt_or_ge (fa_first q n) n with k | k
  · exact first_is k (by rw [h _ k]; exact fa_first_yes q n k) (fun i hi => by rw [h i (by omega)]; exact fa_first_no q n i hi)
  · have e : fa_first q n = n := Nat.le_antisymm (fa_first_le q n) k
    rw [e]
    exact first_none (fun i hi => by rw [h i hi]; exact fa_first_no q n i (by omega))
def s_unl (S T : Nat → Bool) : Int32 := if fa_first (fun n => S n != T n) 16384 < 16384 then nI (fa_first (fun n => S n != T n) 16384) else -1
def s_nth (S : Nat → Bool) (k : Nat) : Nat := fa_first (fun n => S n && fb_ct S n == k) 16384
def s_line (S : Nat → Bool) (i : Int32) : Int32 := if i < 0 then -1 else if s_nth S i.toNatClampNeg < 16384 then nI (s_nth S i.toNatClampNeg) else -1
theorem nth_is {S : Nat → Bool} {n : Nat} (hn : n < 16384) (hs : S n = true) : s_nth S (fb_ct S n) = n := by
  refine first_is hn (by simp [hs]) (fun i hi => ?_)
  cases hS : S i
  · simp
  · have h1 : fb_ct S (i + 1) ≤ fb_ct S n := fb_ct_mono S hi
    rw [fb_ct_succ, hS] at h1
    simp
    simp at h1
    omega
theorem nth_none {S : Nat → Bool} {k : Nat} (h : fb_ct S 16384 ≤ k) : s_nth S k = 16384 := by
  refine first_none (fun i hi => ?_)
  cases hS : S i
  · simp
  · have h1 : fb_ct S (i + 1) ≤ fb_ct S 16384 := fb_ct_mono S hi
    rw [fb_ct_succ, hS] at h1
    simp
    simp at h1
    omega
/-! the lines' matches together, and in common -/
def s_or (S : Nat → Bool) : Nat → Nat
  | 0 => 0
  | n + 1 => if S n then s_or S n ||| n else s_or S n
def s_an (S : Nat → Bool) : Nat → Nat
  | 0 => 16383
  | n + 1 => if S n then s_an S n &&& n else s_an S n
theorem s_or_bit (S : Nat → Bool) (m : Nat) : ∀ n, (s_or S n).testBit m = true ↔ ∃ k, k < n ∧ S k = true ∧ k.testBit m = true
  | 0 => by simp [s_or]
  | n + 1 => by
    have ih := s_or_bit S m n
    unfold s_or
    cases hS : S n
    · simp only [Bool.false_eq_true, if_false]
      rw [ih]
      constructor
      · rintro ⟨k, h1, h2, h3⟩
        exact ⟨k, by omega, h2, h3⟩
      · rintro ⟨k, h1, h2, h3⟩
        refine ⟨k, ?_, h2, h3⟩
        rcases Nat.lt_or_ge k n with q | q
        · exact q
        · rw [show k = n by omega, hS] at h2; cases h2
    · simp only [if_true]
      rw [Nat.testBit_or, Bool.or_eq_true, ih]
      constructor
      · rintro (⟨k, h1, h2, h3⟩ | h)
        · exact ⟨k, by omega, h2, h3⟩
        · exact ⟨n, by omega, hS, h⟩
      · rintro ⟨k, h1, h2, h3⟩
        rcases Nat.lt_or_ge k n with q | q
        · exact Or.inl ⟨k, q, h2, h3⟩
        · rw [show k = n by omega] at h3; exact Or.inr h3
theorem s_an_bit (S : Nat → Bool) (m : Nat) : ∀ n, (s_an S n).testBit m = true ↔ m < 14 ∧ ∀ k, k < n → S k = true → k.testBit m = true
  | 0 => by
    unfold s_an
    rw [show (16383 : Nat) = 2 ^ 14 - 1 from rfl, Nat.testBit_two_pow_sub_one]
    simp
  | n + 1 => by
    have ih := s_an_bit S m n
    unfold s_an
    cases hS : S n
    · simp only [Bool.false_eq_true, if_false]
      rw [ih]
      constructor
      · rintro ⟨h0, h1⟩
        refine ⟨h0, fun k hk hs => ?_⟩
        rcases Nat.lt_or_ge k n with q | q
        · exact h1 k q hs
        · rw [show k = n by omega, hS] at hs; cases hs
      · rintro ⟨h0, h1⟩
        exact ⟨h0, fun k hk => h1 k (by omega)⟩
    · simp only [if_true]
      rw [Nat.testBit_and, Bool.and_eq_true, ih]
      constructor
      · rintro ⟨⟨h0, h1⟩, h2⟩
        refine ⟨h0, fun k hk hs => ?_⟩
        rcases Nat.lt_or_ge k n with q | q
        · exact h1 k q hs
        · rw [show k = n by omega]; exact h2
      · rintro ⟨h0, h1⟩
        exact ⟨⟨h0, fun k hk => h1 k (by omega)⟩, h1 n (by omega) hS⟩
theorem s_or_lt (S : Nat → Bool) {n : Nat} (hn : n ≤ 16384) : s_or S n < 16384 := by
  have h : ∀ i, 14 ≤ i → (s_or S n).testBit i = false := by
    intro i hi
    cases hq : (s_or S n).testBit i
    · rfl
    · obtain ⟨k, h1, -, h3⟩ := (s_or_bit S i n).mp hq
      have : k < 2 ^ i := Nat.lt_of_lt_of_le (show k < 2 ^ 14 by omega) (Nat.pow_le_pow_right (by decide) hi)
      rw [Nat.testBit_lt_two_pow this] at h3
      cases h3
  exact Nat.lt_pow_two_of_testBit _ h
theorem s_an_lt (S : Nat → Bool) (n : Nat) : s_an S n < 16384 := by
  refine Nat.lt_pow_two_of_testBit (n := 14) _ (fun i hi => ?_)
  cases hq : (s_an S n).testBit i
  · rfl
  · have := ((s_an_bit S i n).mp hq).1
    omega
/-- two numbers below 2^14 with the same bits -/
theorem eq14 {a b : Nat} (ha : a < 16384) (hb : b < 16384) (h : ∀ m, m < 14 → (a.testBit m = true ↔ b.testBit m = true)) : a = b := by
  apply Nat.eq_of_testBit_eq
  intro i
  by_cases hi : i < 14
  · have := h i hi
    cases h1 : a.testBit i <;> cases h2 : b.testBit i <;> simp_all
  · rw [Nat.testBit_lt_two_pow (Nat.lt_of_lt_of_le (show a < 2 ^ 14 from ha) (Nat.pow_le_pow_right (by decide) (by omega))), Nat.testBit_lt_two_pow (Nat.lt_of_lt_of_le (show b < 2 ^ 14 from hb) (Nat.pow_le_pow_right (by decide) (by omega)))]
theorem num_bit_lo {k j m : Nat} (hj : j < 64) (hm : m < 6) : (64 * k + j).testBit m = j.testBit m := by
  rw [show (64 : Nat) = 2 ^ 6 from rfl, Nat.testBit_two_pow_mul_add k (show j < 2 ^ 6 from hj), if_pos hm]
theorem num_bit_hi {k j m : Nat} (hj : j < 64) (hm : 6 ≤ m) : (64 * k + j).testBit m = k.testBit (m - 6) := by
  rw [show (64 : Nat) = 2 ^ 6 from rfl, Nat.testBit_two_pow_mul_add k (show j < 2 ^ 6 from hj), if_neg (by omega)]
