/-! pure: money -/
section PM
theorem i64_mul {a b : Int64} {x y : Int} (ha : a.toInt = x) (hb : b.toInt = y) (h : -9223372036854775808 ≤ x * y ∧ x * y < 9223372036854775808) : (a * b).toInt = x * y := by
  rw [Int64.toInt_mul, ha, hb, Int.bmod_def]; omega
theorem i64_add {a b : Int64} {x y : Int} (ha : a.toInt = x) (hb : b.toInt = y) (h : -9223372036854775808 ≤ x + y ∧ x + y < 9223372036854775808) : (a + b).toInt = x + y := by
  rw [Int64.toInt_add, ha, hb, Int.bmod_def]; omega
theorem i64_sub {a b : Int64} {x y : Int} (ha : a.toInt = x) (hb : b.toInt = y) (h : -9223372036854775808 ≤ x - y ∧ x - y < 9223372036854775808) : (a - b).toInt = x - y := by
  rw [Int64.toInt_sub, ha, hb, Int.bmod_def]; omega
theorem i64_div {a b : Int64} {x y : Nat} (ha : a.toInt = (x : Int)) (hb : b.toInt = (y : Int)) (hx : x < 9223372036854775808) : (a / b).toInt = ((x / y : Nat) : Int) := by
  rw [Int64.toInt_div, ha, hb, Int.bmod_def]
  have e : ((x : Int).tdiv (y : Int)) = ((x / y : Nat) : Int) := by rw [Int.ofNat_tdiv]
  have h9 : x / y ≤ x := Nat.div_le_self _ _
  rw [e]
  generalize x / y = z at h9 ⊢
  omega
theorem i32_mul {a b : Int32} {x y : Int} (ha : a.toInt = x) (hb : b.toInt = y) (h : -2147483648 ≤ x * y ∧ x * y < 2147483648) : (a * b).toInt = x * y := by
  rw [Int32.toInt_mul, ha, hb, Int.bmod_def]; omega
/-- what a stake is -/
theorem stk_eq {LN PR VD PA : Nat → Int32} {K : Nat → Int32 × Int32 × Int32 × Int32} {S : Nat → Bool} {q : Nat} (hK : K q = (nI (fb_ct S 16384), PR q, PA q, VD q)) (e : eqS (hs9 LN q) S) (hp : 1 ≤ (PR q).toInt ∧ (PR q).toInt ≤ 100) : stk K q = stm LN PR VD q ∧ 0 ≤ (stm LN PR VD q).toInt ∧ (stm LN PR VD q).toInt ≤ 1638400 := by
  have hc : fb_ct S 16384 ≤ 16384 := fb_ct_le _ _
  have e1 := ct_eq e (n := 16384) (by omega)
  have n1 : (nI (fb_ct S 16384)).toInt = (fb_ct S 16384 : Int) := nI_toInt (by omega)
  have hb : 0 ≤ (fb_ct S 16384 : Int) * (PR q).toInt ∧ (fb_ct S 16384 : Int) * (PR q).toInt ≤ 1638400 := by
    constructor
    · exact Int.mul_nonneg (by omega) (by omega)
    · calc (fb_ct S 16384 : Int) * (PR q).toInt ≤ 16384 * 100 := Int.mul_le_mul (by omega) hp.2 (by omega) (by omega)
        _ = 1638400 := by decide
  have m1 := i32_mul n1 (rfl : (PR q).toInt = (PR q).toInt) ⟨by omega, by omega⟩
  have m2 : ((nI (fb_ct S 16384)).toInt64 * (PR q).toInt64).toInt = (fb_ct S 16384 : Int) * (PR q).toInt := i64_mul (by rw [Int32.toInt_toInt64, n1]) (Int32.toInt_toInt64 _) ⟨by omega, by omega⟩
  unfold stk stm
  rw [hK, e1]
  by_cases c : VD q = 0
  · rw [if_neg (fun x => x c), if_pos c]
    refine ⟨?_, by rw [m2]; exact hb.1, by rw [m2]; exact hb.2⟩
    rw [fa_eq64, m2, Int32.toInt_toInt64]
    exact m1
  · rw [if_pos c, if_neg c]
    exact ⟨rfl, by decide, by decide⟩
theorem sumL_b {f : Nat → Int64} {B : Int} (hB : 0 ≤ B ∧ B ≤ 4000000000000) : ∀ {n : Nat}, n ≤ 20 → (∀ q, q < n → 0 ≤ (f q).toInt ∧ (f q).toInt ≤ B) → 0 ≤ (sumL f n).toInt ∧ (sumL f n).toInt ≤ n * B
  | 0, _, _ => ⟨show 0 ≤ (0 : Int64).toInt by decide, by rw [show (sumL f 0).toInt = 0 from rfl]; omega⟩
  | n + 1, hn, h => by
    have ih := sumL_b hB (n := n) (by omega) (fun q hq => h q (by omega))
    have h1 := h n (by omega)
    have e : ((n + 1 : Nat) : Int) * B = n * B + B := by rw [Int.natCast_add, Int.add_mul]; simp
    have : (n : Int) * B ≤ 20 * 4000000000000 := Int.mul_le_mul (by omega) hB.2 hB.1 (by decide)
    have s := i64_add (rfl : (sumL f n).toInt = _) (rfl : (f n).toInt = _) ⟨by omega, by omega⟩
    rw [show sumL f (n + 1) = sumL f n + f n from rfl, s, e]
    omega
/-- the pool: what the hall leaves of the stakes -/
theorem pool_b {ST : Int64} {ha : Int32} {x : Nat} (hx : ST.toInt = x) (hx2 : x ≤ 40000000) (hh : 0 ≤ ha.toInt ∧ ha.toInt ≤ 100) : ∃ y : Nat, (w_pool ST ha).toInt = y ∧ y ≤ x := by
  obtain ⟨k, hk⟩ := Int.eq_ofNat_of_zero_le hh.1
  have h1 : (ST * ha.toInt64).toInt = ((x * k : Nat) : Int) := by
    have hb : x * k ≤ 40000000 * 100 := Nat.mul_le_mul hx2 (by omega)
    have e : ((x * k : Nat) : Int) = (x : Int) * (k : Int) := Int.natCast_mul x k
    rw [e]
    exact i64_mul hx (by rw [Int32.toInt_toInt64]; exact hk) ⟨by omega, by omega⟩
  have h2 : (ST * ha.toInt64 / 100).toInt = ((x * k / 100 : Nat) : Int) := i64_div h1 (show (100 : Int64).toInt = ((100 : Nat) : Int) from rfl) (by have : x * k ≤ 40000000 * 100 := Nat.mul_le_mul hx2 (by omega); omega)
  have h3 : x * k / 100 ≤ x := by
    have : x * k ≤ x * 100 := Nat.mul_le_mul (Nat.le_refl _) (by omega)
    omega
  refine ⟨x - x * k / 100, ?_, by omega⟩
  unfold w_pool
  rw [i64_sub hx h2 ⟨by omega, by omega⟩]
  omega
theorem part_b {pool : Int64} {E : Nat → zD} {d x : Nat} (hx : pool.toInt = x) (hx2 : x ≤ 40000000) (hh : 0 ≤ (E d).2.1.toInt ∧ (E d).2.1.toInt ≤ 100) : ∃ y : Nat, (w_part pool E d).toInt = y ∧ y ≤ x := by
  obtain ⟨k, hk⟩ := Int.eq_ofNat_of_zero_le hh.1
  have h1 : (pool * (E d).2.1.toInt64).toInt = ((x * k : Nat) : Int) := by
    have hb : x * k ≤ 40000000 * 100 := Nat.mul_le_mul hx2 (by omega)
    have e : ((x * k : Nat) : Int) = (x : Int) * (k : Int) := Int.natCast_mul x k
    rw [e]
    exact i64_mul hx (by rw [Int32.toInt_toInt64]; exact hk) ⟨by omega, by omega⟩
  refine ⟨x * k / 100, i64_div h1 (show (100 : Int64).toInt = ((100 : Nat) : Int) from rfl) (by have : x * k ≤ 40000000 * 100 := Nat.mul_le_mul hx2 (by omega); omega), ?_⟩
  have : x * k ≤ x * 100 := Nat.mul_le_mul (Nat.le_refl _) (by omega)
  omega
/-- the coin: at most the ceiling, and the winners' coins together at most the money -/
theorem coin_b {k wi : Int64} {c u : Int32} {x w : Nat} (hx : k.toInt = x) (hx2 : x ≤ 100000000000) (hw : wi.toInt = w) (hw2 : w ≤ 40000000) (hc : 1 ≤ c.toInt ∧ c.toInt ≤ 1000000) (hu : 1 ≤ u.toInt ∧ u.toInt ≤ 1000) : ∃ y : Nat, (x_coin k wi c u).toInt = y ∧ y ≤ 1000000 ∧ y * w ≤ x := by
  unfold x_coin
  by_cases c1 : wi ≤ 0
  · rw [if_pos c1]; exact ⟨0, rfl, by omega, by omega⟩
  rw [if_neg c1, if_neg (by rw [fa_le]; show ¬ u.toInt ≤ 0; omega)]
  rw [fa_le64, hw] at c1
  have hw0 : 0 < w := by have : ¬ (w : Int) ≤ 0 := c1; omega
  obtain ⟨u9, hu9⟩ := Int.eq_ofNat_of_zero_le (show 0 ≤ u.toInt by omega)
  have d1 : (k / wi).toInt = ((x / w : Nat) : Int) := i64_div hx hw (by omega)
  have hq : x / w ≤ x := Nat.div_le_self _ _
  have d2 : (k / wi / u.toInt64).toInt = ((x / w / u9 : Nat) : Int) := i64_div d1 (by rw [Int32.toInt_toInt64]; exact hu9) (by omega)
  have hm : x / w / u9 * u9 ≤ x / w := Nat.div_mul_le_self _ _
  have d3 : (k / wi / u.toInt64 * u.toInt64).toInt = ((x / w / u9 * u9 : Nat) : Int) := by
    have e : ((x / w / u9 * u9 : Nat) : Int) = ((x / w / u9 : Nat) : Int) * (u9 : Int) := Int.natCast_mul _ _
    rw [e]
    exact i64_mul d2 (by rw [Int32.toInt_toInt64]; exact hu9) ⟨by omega, by omega⟩
  have d4 : (k / wi - k / wi / u.toInt64 * u.toInt64).toInt = ((x / w - x / w / u9 * u9 : Nat) : Int) := by
    rw [i64_sub d1 d3 ⟨by omega, by omega⟩]; omega
  have d5 : (k / wi - (k / wi - k / wi / u.toInt64 * u.toInt64)).toInt = ((x / w / u9 * u9 : Nat) : Int) := by
    rw [i64_sub d1 d4 ⟨by omega, by omega⟩]; omega
  have hxw : x / w * w ≤ x := Nat.div_mul_le_self _ _
  obtain ⟨c9, hc9⟩ := Int.eq_ofNat_of_zero_le (show 0 ≤ c.toInt by omega)
  by_cases c2 : c.toInt64 < k / wi - (k / wi - k / wi / u.toInt64 * u.toInt64)
  · rw [if_pos c2]
    rw [fa_lt64, d5, Int32.toInt_toInt64, hc9] at c2
    refine ⟨c9, by rw [Int32.toInt_toInt64]; exact hc9, by omega, ?_⟩
    exact Nat.le_trans (Nat.mul_le_mul_right w (show c9 ≤ x / w by omega)) hxw
  · rw [if_neg c2]
    rw [fa_lt64, d5, Int32.toInt_toInt64, hc9] at c2
    refine ⟨x / w / u9 * u9, d5, by omega, ?_⟩
    exact Nat.le_trans (Nat.mul_le_mul_right w hm) hxw
end PM
