/-! the subsets of a mask, one behind another -/
theorem tb2 {a : Nat} (m : Nat) (ha : a < 2) (i : Nat) : (a + 2 * m).testBit i = if i < 1 then a.testBit i else m.testBit (i - 1) := by
  rw [Nat.add_comm, show (2 : Nat) * m = 2 ^ 1 * m by omega, Nat.testBit_two_pow_mul_add m (show a < 2 ^ 1 by omega)]
theorem and2 {a c : Nat} (m C : Nat) (ha : a < 2) (hc : c < 2) : (a + 2 * m) &&& (c + 2 * C) = (a &&& c) + 2 * (m &&& C) := by
  apply Nat.eq_of_testBit_eq
  intro i
  rw [Nat.testBit_and, tb2 m ha, tb2 C hc, tb2 _ (Nat.lt_of_le_of_lt Nat.and_le_left ha)]
  split
  · rw [Nat.testBit_and]
  · rw [Nat.testBit_and]
def pd : Nat → Nat → Nat → Nat
  | 0, _, _ => 0
  | w + 1, m, i => if m % 2 = 1 then i % 2 + 2 * pd w (m / 2) (i / 2) else 2 * pd w (m / 2) i
def pp : Nat → Nat → Nat
  | 0, _ => 0
  | w + 1, m => m % 2 + pp w (m / 2)
theorem pd_0 : ∀ w m, pd w m 0 = 0
  | 0, _ => rfl
  | w + 1, m => by
    unfold pd
    rw [Nat.zero_div, pd_0 w]
    split <;> rfl
theorem pd_sub : ∀ w m i, m < 2 ^ w → pd w m i &&& m = pd w m i
  | 0, m, i, _ => by simp [pd]
  | w + 1, m, i, h => by
    have hm : m / 2 < 2 ^ w := by rw [Nat.pow_succ] at h; omega
    have e : m = m % 2 + 2 * (m / 2) := by omega
    unfold pd
    split
    · rename_i h1
      rw [show (i % 2 + 2 * pd w (m / 2) (i / 2)) &&& m = (i % 2 + 2 * pd w (m / 2) (i / 2)) &&& (1 + 2 * (m / 2)) by rw [show 1 + 2 * (m / 2) = m by omega], and2 _ _ (by omega) (by omega), pd_sub w _ _ hm]
      congr 1
      rcases (show i % 2 = 0 ∨ i % 2 = 1 by omega) with q | q <;> rw [q] <;> rfl
    · rename_i h1
      rw [show (2 * pd w (m / 2) i) &&& m = (0 + 2 * pd w (m / 2) i) &&& (0 + 2 * (m / 2)) by rw [show 0 + 2 * (m / 2) = m by omega, Nat.zero_add], and2 _ _ (by omega) (by omega), pd_sub w _ _ hm]
      simp
theorem pd_all : ∀ w m n, m < 2 ^ w → n &&& m = n → ∃ i, i < 2 ^ pp w m ∧ pd w m i = n
  | 0, m, n, h, hn => by
    have : m = 0 := by simpa using h
    subst this
    exact ⟨0, by simp [pp], by simp at hn; simp [pd, hn]⟩
  | w + 1, m, n, h, hn => by
    have hm : m / 2 < 2 ^ w := by rw [Nat.pow_succ] at h; omega
    have e2 : (n % 2 + 2 * (n / 2)) &&& (m % 2 + 2 * (m / 2)) = (n % 2 &&& m % 2) + 2 * (n / 2 &&& m / 2) := and2 _ _ (by omega) (by omega)
    rw [show n % 2 + 2 * (n / 2) = n by omega, show m % 2 + 2 * (m / 2) = m by omega, hn] at e2
    have hlt : (n % 2 &&& m % 2) < 2 := Nat.lt_of_le_of_lt Nat.and_le_left (by omega)
    have h2 : n / 2 &&& m / 2 = n / 2 := by omega
    have h3 : n % 2 &&& m % 2 = n % 2 := by omega
    obtain ⟨i, hi, hi2⟩ := pd_all w (m / 2) (n / 2) hm h2
    by_cases h1 : m % 2 = 1
    · refine ⟨n % 2 + 2 * i, ?_, ?_⟩
      · unfold pp
        rw [h1, Nat.add_comm 1, Nat.pow_succ]
        omega
      · unfold pd
        rw [if_pos h1, show (n % 2 + 2 * i) % 2 = n % 2 by omega, show (n % 2 + 2 * i) / 2 = i by omega, hi2]
        omega
    · have h0 : m % 2 = 0 := by omega
      rw [h0] at h3
      have h4 : n % 2 = 0 := by simpa using h3.symm
      refine ⟨i, ?_, ?_⟩
      · unfold pp
        rw [h0, Nat.zero_add]; exact hi
      · unfold pd
        rw [if_neg h1, hi2]
        omega
theorem pd_comp : ∀ w m n, m < 2 ^ w → n &&& m = n → (n + (2 ^ w - 1 - m)) &&& m = n
  | 0, m, n, h, hn => by
    have : m = 0 := by simpa using h
    subst this
    simp at hn ⊢
    exact hn
  | w + 1, m, n, h, hn => by
    rw [Nat.pow_succ] at h
    have hm : m / 2 < 2 ^ w := by omega
    have e2 : (n % 2 + 2 * (n / 2)) &&& (m % 2 + 2 * (m / 2)) = (n % 2 &&& m % 2) + 2 * (n / 2 &&& m / 2) := and2 _ _ (by omega) (by omega)
    rw [show n % 2 + 2 * (n / 2) = n by omega, show m % 2 + 2 * (m / 2) = m by omega, hn] at e2
    have hlt : (n % 2 &&& m % 2) < 2 := Nat.lt_of_le_of_lt Nat.and_le_left (by omega)
    have h2 : n / 2 &&& m / 2 = n / 2 := by omega
    have h3 : n % 2 &&& m % 2 = n % 2 := by omega
    have ih := pd_comp w (m / 2) (n / 2) hm h2
    rw [Nat.pow_succ]
    by_cases h1 : m % 2 = 1
    · have e3 : n + (2 ^ w * 2 - 1 - m) = n % 2 + 2 * (n / 2 + (2 ^ w - 1 - m / 2)) := by omega
      rw [e3, show (n % 2 + 2 * (n / 2 + (2 ^ w - 1 - m / 2))) &&& m = (n % 2 + 2 * (n / 2 + (2 ^ w - 1 - m / 2))) &&& (1 + 2 * (m / 2)) by rw [show 1 + 2 * (m / 2) = m by omega], and2 _ _ (by omega) (by omega), ih]
      rcases (show n % 2 = 0 ∨ n % 2 = 1 by omega) with q | q
      · rw [q]; simp; omega
      · rw [q]; simp; omega
    · have h0 : m % 2 = 0 := by omega
      rw [h0] at h3
      have h4 : n % 2 = 0 := by simpa using h3.symm
      have e3 : n + (2 ^ w * 2 - 1 - m) = 1 + 2 * (n / 2 + (2 ^ w - 1 - m / 2)) := by omega
      rw [e3, show (1 + 2 * (n / 2 + (2 ^ w - 1 - m / 2))) &&& m = (1 + 2 * (n / 2 + (2 ^ w - 1 - m / 2))) &&& (0 + 2 * (m / 2)) by rw [show 0 + 2 * (m / 2) = m by omega], and2 _ _ (by omega) (by omega), ih]
      simp; omega
theorem pd_next : ∀ w m i, m < 2 ^ w → i + 1 < 2 ^ pp w m → (pd w m i + (2 ^ w - m)) &&& m = pd w m (i + 1)
  | 0, m, i, h, hi => by simp [pp] at hi
  | w + 1, m, i, h, hi => by
    rw [Nat.pow_succ] at h
    have hm : m / 2 < 2 ^ w := by omega
    unfold pp at hi
    rw [Nat.pow_succ]
    by_cases h1 : m % 2 = 1
    · rw [h1, Nat.add_comm 1, Nat.pow_succ] at hi
      unfold pd
      rw [if_pos h1, if_pos h1]
      rcases (show i % 2 = 0 ∨ i % 2 = 1 by omega) with q | q
      · have e3 : i % 2 + 2 * pd w (m / 2) (i / 2) + (2 ^ w * 2 - m) = 1 + 2 * (pd w (m / 2) (i / 2) + (2 ^ w - 1 - m / 2)) := by omega
        rw [e3, show (1 + 2 * (pd w (m / 2) (i / 2) + (2 ^ w - 1 - m / 2))) &&& m = (1 + 2 * (pd w (m / 2) (i / 2) + (2 ^ w - 1 - m / 2))) &&& (1 + 2 * (m / 2)) by rw [show 1 + 2 * (m / 2) = m by omega], and2 _ _ (by omega) (by omega), pd_comp w _ _ hm (pd_sub w _ _ hm), show (i + 1) % 2 = 1 by omega, show (i + 1) / 2 = i / 2 by omega]
        rfl
      · have e3 : i % 2 + 2 * pd w (m / 2) (i / 2) + (2 ^ w * 2 - m) = 0 + 2 * (pd w (m / 2) (i / 2) + (2 ^ w - m / 2)) := by omega
        rw [e3, show (0 + 2 * (pd w (m / 2) (i / 2) + (2 ^ w - m / 2))) &&& m = (0 + 2 * (pd w (m / 2) (i / 2) + (2 ^ w - m / 2))) &&& (1 + 2 * (m / 2)) by rw [show 1 + 2 * (m / 2) = m by omega], and2 _ _ (by omega) (by omega), pd_next w _ _ hm (by omega), show (i + 1) % 2 = 0 by omega, show (i + 1) / 2 = i / 2 + 1 by omega]
        rfl
    · have h0 : m % 2 = 0 := by omega
      rw [h0, Nat.zero_add] at hi
      unfold pd
      rw [if_neg h1, if_neg h1]
      have e3 : 2 * pd w (m / 2) i + (2 ^ w * 2 - m) = 0 + 2 * (pd w (m / 2) i + (2 ^ w - m / 2)) := by omega
      rw [e3, show (0 + 2 * (pd w (m / 2) i + (2 ^ w - m / 2))) &&& m = (0 + 2 * (pd w (m / 2) i + (2 ^ w - m / 2))) &&& (0 + 2 * (m / 2)) by rw [show 0 + 2 * (m / 2) = m by omega], and2 _ _ (by omega) (by omega), pd_next w _ _ hm hi]
      simp
theorem pp_ct : ∀ w m, pp w m = fb_ct (fun i => m.testBit i) w
  | 0, _ => rfl
  | w + 1, m => by
    unfold pp
    rw [Nat.add_comm w 1, fb_ct_split, pp_ct w (m / 2)]
    congr 1
    · show m % 2 = 0 + (if m.testBit 0 then 1 else 0)
      rw [Nat.testBit_zero]
      rcases (show m % 2 = 0 ∨ m % 2 = 1 by omega) with q | q <;> simp [q]
    · exact fb_ct_cong (fun k _ => by rw [Nat.add_comm 1 k, Nat.testBit_succ])
/-- the step as the machine does it -/
theorem pd_step {a m : Nat} (hm : m < 16384) (ha : a ≤ m) : (nI a - nI m) &&& nI m = nI ((a + (2 ^ 32 - m)) &&& m) := by
  have hl : (a + (2 ^ 32 - m)) &&& m < 2 ^ 32 := Nat.lt_of_le_of_lt Nat.and_le_right (by omega)
  apply u32_inj
  rw [u32_and, u32_nI (by omega), u32_nI hl]
  rcases Nat.lt_or_ge a m with q | q
  · have h1 : u32 (nI a - nI m) = a + (2 ^ 32 - m) := by
      have e1 : u32 (nI a) = a := u32_nI (by omega)
      have e2 : u32 (nI m) = m := u32_nI (by omega)
      unfold u32 at *
      rw [Int32.toBitVec_sub, BitVec.toNat_sub, e1, e2]
      omega
    rw [h1]
  · have e : a = m := by omega
    subst e
    have h1 : nI a - nI a = nI 0 := by rw [pk_sub (Nat.le_refl a), Nat.sub_self]
    rw [h1, u32_nI (by decide), show a + (2 ^ 32 - a) = 2 ^ 32 by omega, Nat.zero_and]
    symm
    apply Nat.eq_of_testBit_eq
    intro i
    rw [Nat.testBit_and, Nat.testBit_two_pow, Nat.zero_testBit]
    by_cases hi : 32 = i
    · subst hi
      rw [Nat.testBit_lt_two_pow (show a < 2 ^ 32 by omega)]
      simp
    · simp [hi]
theorem pd_le {w m i : Nat} (h : m < 2 ^ w) : pd w m i ≤ m := by
  rw [← pd_sub w m i h]; exact Nat.and_le_right
/-- one line more -/
theorem lb_set (G : Nat → Int64) {n : Nat} (x : Int64) (hx : uN x = 2 ^ (n % 64)) (q : Nat) : lb (vp_updL G (n / 64) (G (n / 64) ||| x)) q = (lb G q || decide (q = n)) := by
  unfold lb vp_updL
  by_cases h : q / 64 = n / 64
  · rw [if_pos h, uN_or', hx, Nat.testBit_or, h, Nat.testBit_two_pow]
    congr 1
    exact decide_eq_decide.mpr ⟨fun e => by omega, fun e => by rw [e]⟩
  · rw [if_neg h]
    simp [show q ≠ n by intro e; rw [e] at h; exact h rfl]
