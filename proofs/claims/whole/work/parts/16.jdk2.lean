/-! trailing zeros -/
theorem tz_v {x : Int32} {k : Nat} (hk : (u32 x).testBit k = true) (hl : ∀ i, i < k → (u32 x).testBit i = false) (h32 : k < 32) : (x ^^^ (-1 : Int32)) &&& (x - (1 : Int32)) = nI (2 ^ k - 1) := by
  obtain ⟨m, hm⟩ := tz_bit hk hl
  have hp : 0 < 2 ^ k := Nat.pow_pos (by decide)
  have h1 : 1 ≤ u32 x := by rw [hm]; exact Nat.mul_pos hp (by omega)
  have hs : u32 (x - (1 : Int32)) = u32 x - 1 := u32_sub x 1 (by show 1 ≤ u32 x; exact h1)
  have hlt : 2 ^ k - 1 < 2 ^ 32 := Nat.lt_of_lt_of_le (by omega : 2 ^ k - 1 < 2 ^ k) (Nat.pow_le_pow_right (by decide) (by omega))
  apply b_ext
  intro i hi
  rw [b_and, b_xor, b_m1 i hi]
  show (((u32 x).testBit i ^^ true) && (u32 (x - 1)).testBit i) = (u32 (nI (2 ^ k - 1))).testBit i
  rw [hs, u32_nI hlt, Nat.testBit_two_pow_sub_one]
  have e1 : u32 x = 2 ^ k * (2 * m + 1) + 0 := by omega
  have e2 : u32 x - 1 = 2 ^ k * (2 * m) + (2 ^ k - 1) := by
    rw [hm, Nat.mul_add]; omega
  rw [e2, e1, Nat.testBit_two_pow_mul_add _ hp, Nat.testBit_two_pow_mul_add _ (by omega)]
  by_cases hik : i < k
  · simp [hik, Nat.testBit_two_pow_sub_one]
  · simp only [hik, if_false]
    by_cases hj : i - k = 0
    · rw [hj]; simp
    · obtain ⟨j, hj2⟩ : ∃ j, i - k = j + 1 := ⟨i - k - 1, by omega⟩
      rw [hj2, Nat.testBit_succ, Nat.testBit_succ, show (2 * m + 1) / 2 = m by omega, show 2 * m / 2 = m by omega]
      cases m.testBit j <;> rfl

set_option maxRecDepth 100000 in
set_option maxHeartbeats 4000000 in
/-- Integer.numberOfTrailingZeros -/
theorem c_ntzI {F : zF} {h : zH} {x : Int32} {k : Nat} (hk : (u32 x).testBit k = true) (hl : ∀ i, i < k → (u32 x).testBit i = false) (h32 : k < 32) : zMet F yJ6_numberOfTrailingZeros_0f7a4 cJ6_numberOfTrailingZeros_0f7a4 2 (some .int) { frames := 1, cells := 0, slots := 0, locals := 30 } [.int x] h (zP h (some (.int (nI k)))) := by
  refine zMet_of (lv := [(0, .int x)]) (by decide) (by simp [lg_sl, Value.category]) rfl ?_
  intro X g z
  refine v_blk g [.iload_n 0, .iconst (-1), .ixor, .iload_n 0, .iconst 1, .isub, .iand] (pc' := 7) (lv' := [(0, .int x)]) (st' := [.int ((x ^^^ (-1 : Int32)) &&& (x - (1 : Int32)))]) (by decide +kernel) rfl rfl ?_
  refine v_topi (fun v ev => ?_)
  have hv : v = nI (2 ^ k - 1) := ev.trans (tz_v hk hl h32)
  clear ev
  subst hv
  refine v_blk g [.istore_n 0, .iload_n 0] (pc' := 9) (lv' := [(0, .int (nI (2 ^ k - 1)))]) (st' := [.int (nI (2 ^ k - 1))]) (by decide +kernel) rfl rfl ?_
  refine v_if_gt g (off := 8) (tgt := 17) (by decide +kernel) (by decide) (fun c0 => ?_) (fun c0 => ?_)
  · refine v_blk g [.iconst 1, .istore_n 1, .iload_n 0] (pc' := 20) (lv' := [(1, .int (1 : Int32)), (0, .int (nI (2 ^ k - 1)))]) (st' := [.int (nI (2 ^ k - 1))]) (by decide +kernel) rfl rfl ?_
    refine v_ldcw g kc_J6_264 (by decide +kernel) ?_
    refine v_icmp_le g (off := 11) (tgt := 34) (by decide +kernel) (by decide) (fun c1 => ?_) (fun c1 => ?_)
    · refine v_blk g [.iload_n 0, .sipush 256] (pc' := 38) (lv' := [(1, .int (1 : Int32)), (0, .int (nI (2 ^ k - 1)))]) (st' := [.int (256 : Int32), .int (nI (2 ^ k - 1))]) (by decide +kernel) rfl rfl ?_
      refine v_icmp_le g (off := 11) (tgt := 49) (by decide +kernel) (by decide) (fun c2 => ?_) (fun c2 => ?_)
      · refine v_blk g [.iload_n 0, .bipush 16] (pc' := 52) (lv' := [(1, .int (1 : Int32)), (0, .int (nI (2 ^ k - 1)))]) (st' := [.int (16 : Int32), .int (nI (2 ^ k - 1))]) (by decide +kernel) rfl rfl ?_
        refine v_icmp_le g (off := 10) (tgt := 62) (by decide +kernel) (by decide) (fun c3 => ?_) (fun c3 => ?_)
        · refine v_blk g [.iload_n 0, .iconst 4] (pc' := 64) (lv' := [(1, .int (1 : Int32)), (0, .int (nI (2 ^ k - 1)))]) (st' := [.int (4 : Int32), .int (nI (2 ^ k - 1))]) (by decide +kernel) rfl rfl ?_
          refine v_icmp_le g (off := 10) (tgt := 74) (by decide +kernel) (by decide) (fun c4 => ?_) (fun c4 => ?_)
          · refine v_blk g [.iload_n 1, .iload_n 0, .iconst 1, .iushr, .iadd] (pc' := 79) (lv' := [(1, .int (1 : Int32)), (0, .int (nI (2 ^ k - 1)))]) (st' := [.int ((1 : Int32) + (((nI (2 ^ k - 1)).toUInt32 >>> ((1 : Int32).toUInt32 &&& Int32.toUInt32 31)).toInt32))]) (by decide +kernel) rfl rfl ?_
            have H : ∀ k : Nat, k < 32 → (((0 : Int32) < nI (2 ^ k - 1)) ∧ ((nI (2 ^ k - 1)) ≤ (65536 : Int32)) ∧ ((nI (2 ^ k - 1)) ≤ (256 : Int32)) ∧ ((nI (2 ^ k - 1)) ≤ (16 : Int32)) ∧ ((nI (2 ^ k - 1)) ≤ (4 : Int32)) ∧ True) → (1 : Int32) + (((nI (2 ^ k - 1)).toUInt32 >>> ((1 : Int32).toUInt32 &&& Int32.toUInt32 31)).toInt32) = nI k := by decide +kernel
            exact v_iret g z rfl (by decide +kernel) ⟨congrArg (fun q => some (Value.int q)) (H k h32 ⟨c0, c1, c2, c3, c4, trivial⟩), rfl⟩ zcr0
          · refine v_blk g [.iinc 1 2, .iload_n 0, .iconst 2, .iushr, .istore_n 0, .iload_n 1, .iload_n 0, .iconst 1, .iushr, .iadd] (pc' := 79) (lv' := [(0, .int (((nI (2 ^ k - 1)).toUInt32 >>> ((2 : Int32).toUInt32 &&& Int32.toUInt32 31)).toInt32)), (1, .int ((1 : Int32) + (2 : Int32)))]) (st' := [.int (((1 : Int32) + (2 : Int32)) + (((((nI (2 ^ k - 1)).toUInt32 >>> ((2 : Int32).toUInt32 &&& Int32.toUInt32 31)).toInt32).toUInt32 >>> ((1 : Int32).toUInt32 &&& Int32.toUInt32 31)).toInt32))]) (by decide +kernel) rfl rfl ?_
            have H : ∀ k : Nat, k < 32 → (((0 : Int32) < nI (2 ^ k - 1)) ∧ ((nI (2 ^ k - 1)) ≤ (65536 : Int32)) ∧ ((nI (2 ^ k - 1)) ≤ (256 : Int32)) ∧ ((nI (2 ^ k - 1)) ≤ (16 : Int32)) ∧ ¬ (nI (2 ^ k - 1)) ≤ (4 : Int32) ∧ True) → ((1 : Int32) + (2 : Int32)) + (((((nI (2 ^ k - 1)).toUInt32 >>> ((2 : Int32).toUInt32 &&& Int32.toUInt32 31)).toInt32).toUInt32 >>> ((1 : Int32).toUInt32 &&& Int32.toUInt32 31)).toInt32) = nI k := by decide +kernel
            exact v_iret g z rfl (by decide +kernel) ⟨congrArg (fun q => some (Value.int q)) (H k h32 ⟨c0, c1, c2, c3, c4, trivial⟩), rfl⟩ zcr0
        · refine v_blk g [.iinc 1 4, .iload_n 0, .iconst 4, .iushr, .istore_n 0, .iload_n 0, .iconst 4] (pc' := 64) (lv' := [(0, .int (((nI (2 ^ k - 1)).toUInt32 >>> ((4 : Int32).toUInt32 &&& Int32.toUInt32 31)).toInt32)), (1, .int ((1 : Int32) + (4 : Int32)))]) (st' := [.int (4 : Int32), .int (((nI (2 ^ k - 1)).toUInt32 >>> ((4 : Int32).toUInt32 &&& Int32.toUInt32 31)).toInt32)]) (by decide +kernel) rfl rfl ?_
          refine v_icmp_le g (off := 10) (tgt := 74) (by decide +kernel) (by decide) (fun c4 => ?_) (fun c4 => ?_)
          · refine v_blk g [.iload_n 1, .iload_n 0, .iconst 1, .iushr, .iadd] (pc' := 79) (lv' := [(0, .int (((nI (2 ^ k - 1)).toUInt32 >>> ((4 : Int32).toUInt32 &&& Int32.toUInt32 31)).toInt32)), (1, .int ((1 : Int32) + (4 : Int32)))]) (st' := [.int (((1 : Int32) + (4 : Int32)) + (((((nI (2 ^ k - 1)).toUInt32 >>> ((4 : Int32).toUInt32 &&& Int32.toUInt32 31)).toInt32).toUInt32 >>> ((1 : Int32).toUInt32 &&& Int32.toUInt32 31)).toInt32))]) (by decide +kernel) rfl rfl ?_
            have H : ∀ k : Nat, k < 32 → (((0 : Int32) < nI (2 ^ k - 1)) ∧ ((nI (2 ^ k - 1)) ≤ (65536 : Int32)) ∧ ((nI (2 ^ k - 1)) ≤ (256 : Int32)) ∧ ¬ (nI (2 ^ k - 1)) ≤ (16 : Int32) ∧ ((((nI (2 ^ k - 1)).toUInt32 >>> ((4 : Int32).toUInt32 &&& Int32.toUInt32 31)).toInt32) ≤ (4 : Int32)) ∧ True) → ((1 : Int32) + (4 : Int32)) + (((((nI (2 ^ k - 1)).toUInt32 >>> ((4 : Int32).toUInt32 &&& Int32.toUInt32 31)).toInt32).toUInt32 >>> ((1 : Int32).toUInt32 &&& Int32.toUInt32 31)).toInt32) = nI k := by decide +kernel
            exact v_iret g z rfl (by decide +kernel) ⟨congrArg (fun q => some (Value.int q)) (H k h32 ⟨c0, c1, c2, c3, c4, trivial⟩), rfl⟩ zcr0
          · refine v_blk g [.iinc 1 2, .iload_n 0, .iconst 2, .iushr, .istore_n 0, .iload_n 1, .iload_n 0, .iconst 1, .iushr, .iadd] (pc' := 79) (lv' := [(0, .int (((((nI (2 ^ k - 1)).toUInt32 >>> ((4 : Int32).toUInt32 &&& Int32.toUInt32 31)).toInt32).toUInt32 >>> ((2 : Int32).toUInt32 &&& Int32.toUInt32 31)).toInt32)), (1, .int (((1 : Int32) + (4 : Int32)) + (2 : Int32)))]) (st' := [.int ((((1 : Int32) + (4 : Int32)) + (2 : Int32)) + (((((((nI (2 ^ k - 1)).toUInt32 >>> ((4 : Int32).toUInt32 &&& Int32.toUInt32 31)).toInt32).toUInt32 >>> ((2 : Int32).toUInt32 &&& Int32.toUInt32 31)).toInt32).toUInt32 >>> ((1 : Int32).toUInt32 &&& Int32.toUInt32 31)).toInt32))]) (by decide +kernel) rfl rfl ?_
            have H : ∀ k : Nat, k < 32 → (((0 : Int32) < nI (2 ^ k - 1)) ∧ ((nI (2 ^ k - 1)) ≤ (65536 : Int32)) ∧ ((nI (2 ^ k - 1)) ≤ (256 : Int32)) ∧ ¬ (nI (2 ^ k - 1)) ≤ (16 : Int32) ∧ ¬ (((nI (2 ^ k - 1)).toUInt32 >>> ((4 : Int32).toUInt32 &&& Int32.toUInt32 31)).toInt32) ≤ (4 : Int32) ∧ True) → (((1 : Int32) + (4 : Int32)) + (2 : Int32)) + (((((((nI (2 ^ k - 1)).toUInt32 >>> ((4 : Int32).toUInt32 &&& Int32.toUInt32 31)).toInt32).toUInt32 >>> ((2 : Int32).toUInt32 &&& Int32.toUInt32 31)).toInt32).toUInt32 >>> ((1 : Int32).toUInt32 &&& Int32.toUInt32 31)).toInt32) = nI k := by decide +kernel
            exact v_iret g z rfl (by decide +kernel) ⟨congrArg (fun q => some (Value.int q)) (H k h32 ⟨c0, c1, c2, c3, c4, trivial⟩), rfl⟩ zcr0
      · refine v_blk g [.iinc 1 8, .iload_n 0, .bipush 8, .iushr, .istore_n 0, .iload_n 0, .bipush 16] (pc' := 52) (lv' := [(0, .int (((nI (2 ^ k - 1)).toUInt32 >>> ((8 : Int32).toUInt32 &&& Int32.toUInt32 31)).toInt32)), (1, .int ((1 : Int32) + (8 : Int32)))]) (st' := [.int (16 : Int32), .int (((nI (2 ^ k - 1)).toUInt32 >>> ((8 : Int32).toUInt32 &&& Int32.toUInt32 31)).toInt32)]) (by decide +kernel) rfl rfl ?_
        refine v_icmp_le g (off := 10) (tgt := 62) (by decide +kernel) (by decide) (fun c3 => ?_) (fun c3 => ?_)
        · refine v_blk g [.iload_n 0, .iconst 4] (pc' := 64) (lv' := [(0, .int (((nI (2 ^ k - 1)).toUInt32 >>> ((8 : Int32).toUInt32 &&& Int32.toUInt32 31)).toInt32)), (1, .int ((1 : Int32) + (8 : Int32)))]) (st' := [.int (4 : Int32), .int (((nI (2 ^ k - 1)).toUInt32 >>> ((8 : Int32).toUInt32 &&& Int32.toUInt32 31)).toInt32)]) (by decide +kernel) rfl rfl ?_
          refine v_icmp_le g (off := 10) (tgt := 74) (by decide +kernel) (by decide) (fun c4 => ?_) (fun c4 => ?_)
          · refine v_blk g [.iload_n 1, .iload_n 0, .iconst 1, .iushr, .iadd] (pc' := 79) (lv' := [(0, .int (((nI (2 ^ k - 1)).toUInt32 >>> ((8 : Int32).toUInt32 &&& Int32.toUInt32 31)).toInt32)), (1, .int ((1 : Int32) + (8 : Int32)))]) (st' := [.int (((1 : Int32) + (8 : Int32)) + (((((nI (2 ^ k - 1)).toUInt32 >>> ((8 : Int32).toUInt32 &&& Int32.toUInt32 31)).toInt32).toUInt32 >>> ((1 : Int32).toUInt32 &&& Int32.toUInt32 31)).toInt32))]) (by decide +kernel) rfl rfl ?_
            have H : ∀ k : Nat, k < 32 → (((0 : Int32) < nI (2 ^ k - 1)) ∧ ((nI (2 ^ k - 1)) ≤ (65536 : Int32)) ∧ ¬ (nI (2 ^ k - 1)) ≤ (256 : Int32) ∧ ((((nI (2 ^ k - 1)).toUInt32 >>> ((8 : Int32).toUInt32 &&& Int32.toUInt32 31)).toInt32) ≤ (16 : Int32)) ∧ ((((nI (2 ^ k - 1)).toUInt32 >>> ((8 : Int32).toUInt32 &&& Int32.toUInt32 31)).toInt32) ≤ (4 : Int32)) ∧ True) → ((1 : Int32) + (8 : Int32)) + (((((nI (2 ^ k - 1)).toUInt32 >>> ((8 : Int32).toUInt32 &&& Int32.toUInt32 31)).toInt32).toUInt32 >>> ((1 : Int32).toUInt32 &&& Int32.toUInt32 31)).toInt32) = nI k := by decide +kernel
            exact v_iret g z rfl (by decide +kernel) ⟨congrArg (fun q => some (Value.int q)) (H k h32 ⟨c0, c1, c2, c3, c4, trivial⟩), rfl⟩ zcr0
          · refine v_blk g [.iinc 1 2, .iload_n 0, .iconst 2, .iushr, .istore_n 0, .iload_n 1, .iload_n 0, .iconst 1, .iushr, .iadd] (pc' := 79) (lv' := [(0, .int (((((nI (2 ^ k - 1)).toUInt32 >>> ((8 : Int32).toUInt32 &&& Int32.toUInt32 31)).toInt32).toUInt32 >>> ((2 : Int32).toUInt32 &&& Int32.toUInt32 31)).toInt32)), (1, .int (((1 : Int32) + (8 : Int32)) + (2 : Int32)))]) (st' := [.int ((((1 : Int32) + (8 : Int32)) + (2 : Int32)) + (((((((nI (2 ^ k - 1)).toUInt32 >>> ((8 : Int32).toUInt32 &&& Int32.toUInt32 31)).toInt32).toUInt32 >>> ((2 : Int32).toUInt32 &&& Int32.toUInt32 31)).toInt32).toUInt32 >>> ((1 : Int32).toUInt32 &&& Int32.toUInt32 31)).toInt32))]) (by decide +kernel) rfl rfl ?_
            have H : ∀ k : Nat, k < 32 → (((0 : Int32) < nI (2 ^ k - 1)) ∧ ((nI (2 ^ k - 1)) ≤ (65536 : Int32)) ∧ ¬ (nI (2 ^ k - 1)) ≤ (256 : Int32) ∧ ((((nI (2 ^ k - 1)).toUInt32 >>> ((8 : Int32).toUInt32 &&& Int32.toUInt32 31)).toInt32) ≤ (16 : Int32)) ∧ ¬ (((nI (2 ^ k - 1)).toUInt32 >>> ((8 : Int32).toUInt32 &&& Int32.toUInt32 31)).toInt32) ≤ (4 : Int32) ∧ True) → (((1 : Int32) + (8 : Int32)) + (2 : Int32)) + (((((((nI (2 ^ k - 1)).toUInt32 >>> ((8 : Int32).toUInt32 &&& Int32.toUInt32 31)).toInt32).toUInt32 >>> ((2 : Int32).toUInt32 &&& Int32.toUInt32 31)).toInt32).toUInt32 >>> ((1 : Int32).toUInt32 &&& Int32.toUInt32 31)).toInt32) = nI k := by decide +kernel
            exact v_iret g z rfl (by decide +kernel) ⟨congrArg (fun q => some (Value.int q)) (H k h32 ⟨c0, c1, c2, c3, c4, trivial⟩), rfl⟩ zcr0
        · refine v_blk g [.iinc 1 4, .iload_n 0, .iconst 4, .iushr, .istore_n 0, .iload_n 0, .iconst 4] (pc' := 64) (lv' := [(0, .int (((((nI (2 ^ k - 1)).toUInt32 >>> ((8 : Int32).toUInt32 &&& Int32.toUInt32 31)).toInt32).toUInt32 >>> ((4 : Int32).toUInt32 &&& Int32.toUInt32 31)).toInt32)), (1, .int (((1 : Int32) + (8 : Int32)) + (4 : Int32)))]) (st' := [.int (4 : Int32), .int (((((nI (2 ^ k - 1)).toUInt32 >>> ((8 : Int32).toUInt32 &&& Int32.toUInt32 31)).toInt32).toUInt32 >>> ((4 : Int32).toUInt32 &&& Int32.toUInt32 31)).toInt32)]) (by decide +kernel) rfl rfl ?_
          refine v_icmp_le g (off := 10) (tgt := 74) (by decide +kernel) (by decide) (fun c4 => ?_) (fun c4 => ?_)
          · refine v_blk g [.iload_n 1, .iload_n 0, .iconst 1, .iushr, .iadd] (pc' := 79) (lv' := [(0, .int (((((nI (2 ^ k - 1)).toUInt32 >>> ((8 : Int32).toUInt32 &&& Int32.toUInt32 31)).toInt32).toUInt32 >>> ((4 : Int32).toUInt32 &&& Int32.toUInt32 31)).toInt32)), (1, .int (((1 : Int32) + (8 : Int32)) + (4 : Int32)))]) (st' := [.int ((((1 : Int32) + (8 : Int32)) + (4 : Int32)) + (((((((nI (2 ^ k - 1)).toUInt32 >>> ((8 : Int32).toUInt32 &&& Int32.toUInt32 31)).toInt32).toUInt32 >>> ((4 : Int32).toUInt32 &&& Int32.toUInt32 31)).toInt32).toUInt32 >>> ((1 : Int32).toUInt32 &&& Int32.toUInt32 31)).toInt32))]) (by decide +kernel) rfl rfl ?_
            have H : ∀ k : Nat, k < 32 → (((0 : Int32) < nI (2 ^ k - 1)) ∧ ((nI (2 ^ k - 1)) ≤ (65536 : Int32)) ∧ ¬ (nI (2 ^ k - 1)) ≤ (256 : Int32) ∧ ¬ (((nI (2 ^ k - 1)).toUInt32 >>> ((8 : Int32).toUInt32 &&& Int32.toUInt32 31)).toInt32) ≤ (16 : Int32) ∧ ((((((nI (2 ^ k - 1)).toUInt32 >>> ((8 : Int32).toUInt32 &&& Int32.toUInt32 31)).toInt32).toUInt32 >>> ((4 : Int32).toUInt32 &&& Int32.toUInt32 31)).toInt32) ≤ (4 : Int32)) ∧ True) → (((1 : Int32) + (8 : Int32)) + (4 : Int32)) + (((((((nI (2 ^ k - 1)).toUInt32 >>> ((8 : Int32).toUInt32 &&& Int32.toUInt32 31)).toInt32).toUInt32 >>> ((4 : Int32).toUInt32 &&& Int32.toUInt32 31)).toInt32).toUInt32 >>> ((1 : Int32).toUInt32 &&& Int32.toUInt32 31)).toInt32) = nI k := by decide +kernel
            exact v_iret g z rfl (by decide +kernel) ⟨congrArg (fun q => some (Value.int q)) (H k h32 ⟨c0, c1, c2, c3, c4, trivial⟩), rfl⟩ zcr0
          · refine v_blk g [.iinc 1 2, .iload_n 0, .iconst 2, .iushr, .istore_n 0, .iload_n 1, .iload_n 0, .iconst 1, .iushr, .iadd] (pc' := 79) (lv' := [(0, .int (((((((nI (2 ^ k - 1)).toUInt32 >>> ((8 : Int32).toUInt32 &&& Int32.toUInt32 31)).toInt32).toUInt32 >>> ((4 : Int32).toUInt32 &&& Int32.toUInt32 31)).toInt32).toUInt32 >>> ((2 : Int32).toUInt32 &&& Int32.toUInt32 31)).toInt32)), (1, .int ((((1 : Int32) + (8 : Int32)) + (4 : Int32)) + (2 : Int32)))]) (st' := [.int (((((1 : Int32) + (8 : Int32)) + (4 : Int32)) + (2 : Int32)) + (((((((((nI (2 ^ k - 1)).toUInt32 >>> ((8 : Int32).toUInt32 &&& Int32.toUInt32 31)).toInt32).toUInt32 >>> ((4 : Int32).toUInt32 &&& Int32.toUInt32 31)).toInt32).toUInt32 >>> ((2 : Int32).toUInt32 &&& Int32.toUInt32 31)).toInt32).toUInt32 >>> ((1 : Int32).toUInt32 &&& Int32.toUInt32 31)).toInt32))]) (by decide +kernel) rfl rfl ?_
            have H : ∀ k : Nat, k < 32 → (((0 : Int32) < nI (2 ^ k - 1)) ∧ ((nI (2 ^ k - 1)) ≤ (65536 : Int32)) ∧ ¬ (nI (2 ^ k - 1)) ≤ (256 : Int32) ∧ ¬ (((nI (2 ^ k - 1)).toUInt32 >>> ((8 : Int32).toUInt32 &&& Int32.toUInt32 31)).toInt32) ≤ (16 : Int32) ∧ ¬ (((((nI (2 ^ k - 1)).toUInt32 >>> ((8 : Int32).toUInt32 &&& Int32.toUInt32 31)).toInt32).toUInt32 >>> ((4 : Int32).toUInt32 &&& Int32.toUInt32 31)).toInt32) ≤ (4 : Int32) ∧ True) → ((((1 : Int32) + (8 : Int32)) + (4 : Int32)) + (2 : Int32)) + (((((((((nI (2 ^ k - 1)).toUInt32 >>> ((8 : Int32).toUInt32 &&& Int32.toUInt32 31)).toInt32).toUInt32 >>> ((4 : Int32).toUInt32 &&& Int32.toUInt32 31)).toInt32).toUInt32 >>> ((2 : Int32).toUInt32 &&& Int32.toUInt32 31)).toInt32).toUInt32 >>> ((1 : Int32).toUInt32 &&& Int32.toUInt32 31)).toInt32) = nI k := by decide +kernel
            exact v_iret g z rfl (by decide +kernel) ⟨congrArg (fun q => some (Value.int q)) (H k h32 ⟨c0, c1, c2, c3, c4, trivial⟩), rfl⟩ zcr0
    · refine v_blk g [.iinc 1 16, .iload_n 0, .bipush 16, .iushr, .istore_n 0, .iload_n 0, .sipush 256] (pc' := 38) (lv' := [(0, .int (((nI (2 ^ k - 1)).toUInt32 >>> ((16 : Int32).toUInt32 &&& Int32.toUInt32 31)).toInt32)), (1, .int ((1 : Int32) + (16 : Int32)))]) (st' := [.int (256 : Int32), .int (((nI (2 ^ k - 1)).toUInt32 >>> ((16 : Int32).toUInt32 &&& Int32.toUInt32 31)).toInt32)]) (by decide +kernel) rfl rfl ?_
      refine v_icmp_le g (off := 11) (tgt := 49) (by decide +kernel) (by decide) (fun c2 => ?_) (fun c2 => ?_)
      · refine v_blk g [.iload_n 0, .bipush 16] (pc' := 52) (lv' := [(0, .int (((nI (2 ^ k - 1)).toUInt32 >>> ((16 : Int32).toUInt32 &&& Int32.toUInt32 31)).toInt32)), (1, .int ((1 : Int32) + (16 : Int32)))]) (st' := [.int (16 : Int32), .int (((nI (2 ^ k - 1)).toUInt32 >>> ((16 : Int32).toUInt32 &&& Int32.toUInt32 31)).toInt32)]) (by decide +kernel) rfl rfl ?_
        refine v_icmp_le g (off := 10) (tgt := 62) (by decide +kernel) (by decide) (fun c3 => ?_) (fun c3 => ?_)
        · refine v_blk g [.iload_n 0, .iconst 4] (pc' := 64) (lv' := [(0, .int (((nI (2 ^ k - 1)).toUInt32 >>> ((16 : Int32).toUInt32 &&& Int32.toUInt32 31)).toInt32)), (1, .int ((1 : Int32) + (16 : Int32)))]) (st' := [.int (4 : Int32), .int (((nI (2 ^ k - 1)).toUInt32 >>> ((16 : Int32).toUInt32 &&& Int32.toUInt32 31)).toInt32)]) (by decide +kernel) rfl rfl ?_
          refine v_icmp_le g (off := 10) (tgt := 74) (by decide +kernel) (by decide) (fun c4 => ?_) (fun c4 => ?_)
          · refine v_blk g [.iload_n 1, .iload_n 0, .iconst 1, .iushr, .iadd] (pc' := 79) (lv' := [(0, .int (((nI (2 ^ k - 1)).toUInt32 >>> ((16 : Int32).toUInt32 &&& Int32.toUInt32 31)).toInt32)), (1, .int ((1 : Int32) + (16 : Int32)))]) (st' := [.int (((1 : Int32) + (16 : Int32)) + (((((nI (2 ^ k - 1)).toUInt32 >>> ((16 : Int32).toUInt32 &&& Int32.toUInt32 31)).toInt32).toUInt32 >>> ((1 : Int32).toUInt32 &&& Int32.toUInt32 31)).toInt32))]) (by decide +kernel) rfl rfl ?_
            have H : ∀ k : Nat, k < 32 → (((0 : Int32) < nI (2 ^ k - 1)) ∧ ¬ (nI (2 ^ k - 1)) ≤ (65536 : Int32) ∧ ((((nI (2 ^ k - 1)).toUInt32 >>> ((16 : Int32).toUInt32 &&& Int32.toUInt32 31)).toInt32) ≤ (256 : Int32)) ∧ ((((nI (2 ^ k - 1)).toUInt32 >>> ((16 : Int32).toUInt32 &&& Int32.toUInt32 31)).toInt32) ≤ (16 : Int32)) ∧ ((((nI (2 ^ k - 1)).toUInt32 >>> ((16 : Int32).toUInt32 &&& Int32.toUInt32 31)).toInt32) ≤ (4 : Int32)) ∧ True) → ((1 : Int32) + (16 : Int32)) + (((((nI (2 ^ k - 1)).toUInt32 >>> ((16 : Int32).toUInt32 &&& Int32.toUInt32 31)).toInt32).toUInt32 >>> ((1 : Int32).toUInt32 &&& Int32.toUInt32 31)).toInt32) = nI k := by decide +kernel
            exact v_iret g z rfl (by decide +kernel) ⟨congrArg (fun q => some (Value.int q)) (H k h32 ⟨c0, c1, c2, c3, c4, trivial⟩), rfl⟩ zcr0
          · refine v_blk g [.iinc 1 2, .iload_n 0, .iconst 2, .iushr, .istore_n 0, .iload_n 1, .iload_n 0, .iconst 1, .iushr, .iadd] (pc' := 79) (lv' := [(0, .int (((((nI (2 ^ k - 1)).toUInt32 >>> ((16 : Int32).toUInt32 &&& Int32.toUInt32 31)).toInt32).toUInt32 >>> ((2 : Int32).toUInt32 &&& Int32.toUInt32 31)).toInt32)), (1, .int (((1 : Int32) + (16 : Int32)) + (2 : Int32)))]) (st' := [.int ((((1 : Int32) + (16 : Int32)) + (2 : Int32)) + (((((((nI (2 ^ k - 1)).toUInt32 >>> ((16 : Int32).toUInt32 &&& Int32.toUInt32 31)).toInt32).toUInt32 >>> ((2 : Int32).toUInt32 &&& Int32.toUInt32 31)).toInt32).toUInt32 >>> ((1 : Int32).toUInt32 &&& Int32.toUInt32 31)).toInt32))]) (by decide +kernel) rfl rfl ?_
            have H : ∀ k : Nat, k < 32 → (((0 : Int32) < nI (2 ^ k - 1)) ∧ ¬ (nI (2 ^ k - 1)) ≤ (65536 : Int32) ∧ ((((nI (2 ^ k - 1)).toUInt32 >>> ((16 : Int32).toUInt32 &&& Int32.toUInt32 31)).toInt32) ≤ (256 : Int32)) ∧ ((((nI (2 ^ k - 1)).toUInt32 >>> ((16 : Int32).toUInt32 &&& Int32.toUInt32 31)).toInt32) ≤ (16 : Int32)) ∧ ¬ (((nI (2 ^ k - 1)).toUInt32 >>> ((16 : Int32).toUInt32 &&& Int32.toUInt32 31)).toInt32) ≤ (4 : Int32) ∧ True) → (((1 : Int32) + (16 : Int32)) + (2 : Int32)) + (((((((nI (2 ^ k - 1)).toUInt32 >>> ((16 : Int32).toUInt32 &&& Int32.toUInt32 31)).toInt32).toUInt32 >>> ((2 : Int32).toUInt32 &&& Int32.toUInt32 31)).toInt32).toUInt32 >>> ((1 : Int32).toUInt32 &&& Int32.toUInt32 31)).toInt32) = nI k := by decide +kernel
            exact v_iret g z rfl (by decide +kernel) ⟨congrArg (fun q => some (Value.int q)) (H k h32 ⟨c0, c1, c2, c3, c4, trivial⟩), rfl⟩ zcr0
        · refine v_blk g [.iinc 1 4, .iload_n 0, .iconst 4, .iushr, .istore_n 0, .iload_n 0, .iconst 4] (pc' := 64) (lv' := [(0, .int (((((nI (2 ^ k - 1)).toUInt32 >>> ((16 : Int32).toUInt32 &&& Int32.toUInt32 31)).toInt32).toUInt32 >>> ((4 : Int32).toUInt32 &&& Int32.toUInt32 31)).toInt32)), (1, .int (((1 : Int32) + (16 : Int32)) + (4 : Int32)))]) (st' := [.int (4 : Int32), .int (((((nI (2 ^ k - 1)).toUInt32 >>> ((16 : Int32).toUInt32 &&& Int32.toUInt32 31)).toInt32).toUInt32 >>> ((4 : Int32).toUInt32 &&& Int32.toUInt32 31)).toInt32)]) (by decide +kernel) rfl rfl ?_
          refine v_icmp_le g (off := 10) (tgt := 74) (by decide +kernel) (by decide) (fun c4 => ?_) (fun c4 => ?_)
          · refine v_blk g [.iload_n 1, .iload_n 0, .iconst 1, .iushr, .iadd] (pc' := 79) (lv' := [(0, .int (((((nI (2 ^ k - 1)).toUInt32 >>> ((16 : Int32).toUInt32 &&& Int32.toUInt32 31)).toInt32).toUInt32 >>> ((4 : Int32).toUInt32 &&& Int32.toUInt32 31)).toInt32)), (1, .int (((1 : Int32) + (16 : Int32)) + (4 : Int32)))]) (st' := [.int ((((1 : Int32) + (16 : Int32)) + (4 : Int32)) + (((((((nI (2 ^ k - 1)).toUInt32 >>> ((16 : Int32).toUInt32 &&& Int32.toUInt32 31)).toInt32).toUInt32 >>> ((4 : Int32).toUInt32 &&& Int32.toUInt32 31)).toInt32).toUInt32 >>> ((1 : Int32).toUInt32 &&& Int32.toUInt32 31)).toInt32))]) (by decide +kernel) rfl rfl ?_
            have H : ∀ k : Nat, k < 32 → (((0 : Int32) < nI (2 ^ k - 1)) ∧ ¬ (nI (2 ^ k - 1)) ≤ (65536 : Int32) ∧ ((((nI (2 ^ k - 1)).toUInt32 >>> ((16 : Int32).toUInt32 &&& Int32.toUInt32 31)).toInt32) ≤ (256 : Int32)) ∧ ¬ (((nI (2 ^ k - 1)).toUInt32 >>> ((16 : Int32).toUInt32 &&& Int32.toUInt32 31)).toInt32) ≤ (16 : Int32) ∧ ((((((nI (2 ^ k - 1)).toUInt32 >>> ((16 : Int32).toUInt32 &&& Int32.toUInt32 31)).toInt32).toUInt32 >>> ((4 : Int32).toUInt32 &&& Int32.toUInt32 31)).toInt32) ≤ (4 : Int32)) ∧ True) → (((1 : Int32) + (16 : Int32)) + (4 : Int32)) + (((((((nI (2 ^ k - 1)).toUInt32 >>> ((16 : Int32).toUInt32 &&& Int32.toUInt32 31)).toInt32).toUInt32 >>> ((4 : Int32).toUInt32 &&& Int32.toUInt32 31)).toInt32).toUInt32 >>> ((1 : Int32).toUInt32 &&& Int32.toUInt32 31)).toInt32) = nI k := by decide +kernel
            exact v_iret g z rfl (by decide +kernel) ⟨congrArg (fun q => some (Value.int q)) (H k h32 ⟨c0, c1, c2, c3, c4, trivial⟩), rfl⟩ zcr0
          · refine v_blk g [.iinc 1 2, .iload_n 0, .iconst 2, .iushr, .istore_n 0, .iload_n 1, .iload_n 0, .iconst 1, .iushr, .iadd] (pc' := 79) (lv' := [(0, .int (((((((nI (2 ^ k - 1)).toUInt32 >>> ((16 : Int32).toUInt32 &&& Int32.toUInt32 31)).toInt32).toUInt32 >>> ((4 : Int32).toUInt32 &&& Int32.toUInt32 31)).toInt32).toUInt32 >>> ((2 : Int32).toUInt32 &&& Int32.toUInt32 31)).toInt32)), (1, .int ((((1 : Int32) + (16 : Int32)) + (4 : Int32)) + (2 : Int32)))]) (st' := [.int (((((1 : Int32) + (16 : Int32)) + (4 : Int32)) + (2 : Int32)) + (((((((((nI (2 ^ k - 1)).toUInt32 >>> ((16 : Int32).toUInt32 &&& Int32.toUInt32 31)).toInt32).toUInt32 >>> ((4 : Int32).toUInt32 &&& Int32.toUInt32 31)).toInt32).toUInt32 >>> ((2 : Int32).toUInt32 &&& Int32.toUInt32 31)).toInt32).toUInt32 >>> ((1 : Int32).toUInt32 &&& Int32.toUInt32 31)).toInt32))]) (by decide +kernel) rfl rfl ?_
            have H : ∀ k : Nat, k < 32 → (((0 : Int32) < nI (2 ^ k - 1)) ∧ ¬ (nI (2 ^ k - 1)) ≤ (65536 : Int32) ∧ ((((nI (2 ^ k - 1)).toUInt32 >>> ((16 : Int32).toUInt32 &&& Int32.toUInt32 31)).toInt32) ≤ (256 : Int32)) ∧ ¬ (((nI (2 ^ k - 1)).toUInt32 >>> ((16 : Int32).toUInt32 &&& Int32.toUInt32 31)).toInt32) ≤ (16 : Int32) ∧ ¬ (((((nI (2 ^ k - 1)).toUInt32 >>> ((16 : Int32).toUInt32 &&& Int32.toUInt32 31)).toInt32).toUInt32 >>> ((4 : Int32).toUInt32 &&& Int32.toUInt32 31)).toInt32) ≤ (4 : Int32) ∧ True) → ((((1 : Int32) + (16 : Int32)) + (4 : Int32)) + (2 : Int32)) + (((((((((nI (2 ^ k - 1)).toUInt32 >>> ((16 : Int32).toUInt32 &&& Int32.toUInt32 31)).toInt32).toUInt32 >>> ((4 : Int32).toUInt32 &&& Int32.toUInt32 31)).toInt32).toUInt32 >>> ((2 : Int32).toUInt32 &&& Int32.toUInt32 31)).toInt32).toUInt32 >>> ((1 : Int32).toUInt32 &&& Int32.toUInt32 31)).toInt32) = nI k := by decide +kernel
            exact v_iret g z rfl (by decide +kernel) ⟨congrArg (fun q => some (Value.int q)) (H k h32 ⟨c0, c1, c2, c3, c4, trivial⟩), rfl⟩ zcr0
      · refine v_blk g [.iinc 1 8, .iload_n 0, .bipush 8, .iushr, .istore_n 0, .iload_n 0, .bipush 16] (pc' := 52) (lv' := [(0, .int (((((nI (2 ^ k - 1)).toUInt32 >>> ((16 : Int32).toUInt32 &&& Int32.toUInt32 31)).toInt32).toUInt32 >>> ((8 : Int32).toUInt32 &&& Int32.toUInt32 31)).toInt32)), (1, .int (((1 : Int32) + (16 : Int32)) + (8 : Int32)))]) (st' := [.int (16 : Int32), .int (((((nI (2 ^ k - 1)).toUInt32 >>> ((16 : Int32).toUInt32 &&& Int32.toUInt32 31)).toInt32).toUInt32 >>> ((8 : Int32).toUInt32 &&& Int32.toUInt32 31)).toInt32)]) (by decide +kernel) rfl rfl ?_
        refine v_icmp_le g (off := 10) (tgt := 62) (by decide +kernel) (by decide) (fun c3 => ?_) (fun c3 => ?_)
        · refine v_blk g [.iload_n 0, .iconst 4] (pc' := 64) (lv' := [(0, .int (((((nI (2 ^ k - 1)).toUInt32 >>> ((16 : Int32).toUInt32 &&& Int32.toUInt32 31)).toInt32).toUInt32 >>> ((8 : Int32).toUInt32 &&& Int32.toUInt32 31)).toInt32)), (1, .int (((1 : Int32) + (16 : Int32)) + (8 : Int32)))]) (st' := [.int (4 : Int32), .int (((((nI (2 ^ k - 1)).toUInt32 >>> ((16 : Int32).toUInt32 &&& Int32.toUInt32 31)).toInt32).toUInt32 >>> ((8 : Int32).toUInt32 &&& Int32.toUInt32 31)).toInt32)]) (by decide +kernel) rfl rfl ?_
          refine v_icmp_le g (off := 10) (tgt := 74) (by decide +kernel) (by decide) (fun c4 => ?_) (fun c4 => ?_)
          · refine v_blk g [.iload_n 1, .iload_n 0, .iconst 1, .iushr, .iadd] (pc' := 79) (lv' := [(0, .int (((((nI (2 ^ k - 1)).toUInt32 >>> ((16 : Int32).toUInt32 &&& Int32.toUInt32 31)).toInt32).toUInt32 >>> ((8 : Int32).toUInt32 &&& Int32.toUInt32 31)).toInt32)), (1, .int (((1 : Int32) + (16 : Int32)) + (8 : Int32)))]) (st' := [.int ((((1 : Int32) + (16 : Int32)) + (8 : Int32)) + (((((((nI (2 ^ k - 1)).toUInt32 >>> ((16 : Int32).toUInt32 &&& Int32.toUInt32 31)).toInt32).toUInt32 >>> ((8 : Int32).toUInt32 &&& Int32.toUInt32 31)).toInt32).toUInt32 >>> ((1 : Int32).toUInt32 &&& Int32.toUInt32 31)).toInt32))]) (by decide +kernel) rfl rfl ?_
            have H : ∀ k : Nat, k < 32 → (((0 : Int32) < nI (2 ^ k - 1)) ∧ ¬ (nI (2 ^ k - 1)) ≤ (65536 : Int32) ∧ ¬ (((nI (2 ^ k - 1)).toUInt32 >>> ((16 : Int32).toUInt32 &&& Int32.toUInt32 31)).toInt32) ≤ (256 : Int32) ∧ ((((((nI (2 ^ k - 1)).toUInt32 >>> ((16 : Int32).toUInt32 &&& Int32.toUInt32 31)).toInt32).toUInt32 >>> ((8 : Int32).toUInt32 &&& Int32.toUInt32 31)).toInt32) ≤ (16 : Int32)) ∧ ((((((nI (2 ^ k - 1)).toUInt32 >>> ((16 : Int32).toUInt32 &&& Int32.toUInt32 31)).toInt32).toUInt32 >>> ((8 : Int32).toUInt32 &&& Int32.toUInt32 31)).toInt32) ≤ (4 : Int32)) ∧ True) → (((1 : Int32) + (16 : Int32)) + (8 : Int32)) + (((((((nI (2 ^ k - 1)).toUInt32 >>> ((16 : Int32).toUInt32 &&& Int32.toUInt32 31)).toInt32).toUInt32 >>> ((8 : Int32).toUInt32 &&& Int32.toUInt32 31)).toInt32).toUInt32 >>> ((1 : Int32).toUInt32 &&& Int32.toUInt32 31)).toInt32) = nI k := by decide +kernel
            exact v_iret g z rfl (by decide +kernel) ⟨congrArg (fun q => some (Value.int q)) (H k h32 ⟨c0, c1, c2, c3, c4, trivial⟩), rfl⟩ zcr0
          · refine v_blk g [.iinc 1 2, .iload_n 0, .iconst 2, .iushr, .istore_n 0, .iload_n 1, .iload_n 0, .iconst 1, .iushr, .iadd] (pc' := 79) (lv' := [(0, .int (((((((nI (2 ^ k - 1)).toUInt32 >>> ((16 : Int32).toUInt32 &&& Int32.toUInt32 31)).toInt32).toUInt32 >>> ((8 : Int32).toUInt32 &&& Int32.toUInt32 31)).toInt32).toUInt32 >>> ((2 : Int32).toUInt32 &&& Int32.toUInt32 31)).toInt32)), (1, .int ((((1 : Int32) + (16 : Int32)) + (8 : Int32)) + (2 : Int32)))]) (st' := [.int (((((1 : Int32) + (16 : Int32)) + (8 : Int32)) + (2 : Int32)) + (((((((((nI (2 ^ k - 1)).toUInt32 >>> ((16 : Int32).toUInt32 &&& Int32.toUInt32 31)).toInt32).toUInt32 >>> ((8 : Int32).toUInt32 &&& Int32.toUInt32 31)).toInt32).toUInt32 >>> ((2 : Int32).toUInt32 &&& Int32.toUInt32 31)).toInt32).toUInt32 >>> ((1 : Int32).toUInt32 &&& Int32.toUInt32 31)).toInt32))]) (by decide +kernel) rfl rfl ?_
            have H : ∀ k : Nat, k < 32 → (((0 : Int32) < nI (2 ^ k - 1)) ∧ ¬ (nI (2 ^ k - 1)) ≤ (65536 : Int32) ∧ ¬ (((nI (2 ^ k - 1)).toUInt32 >>> ((16 : Int32).toUInt32 &&& Int32.toUInt32 31)).toInt32) ≤ (256 : Int32) ∧ ((((((nI (2 ^ k - 1)).toUInt32 >>> ((16 : Int32).toUInt32 &&& Int32.toUInt32 31)).toInt32).toUInt32 >>> ((8 : Int32).toUInt32 &&& Int32.toUInt32 31)).toInt32) ≤ (16 : Int32)) ∧ ¬ (((((nI (2 ^ k - 1)).toUInt32 >>> ((16 : Int32).toUInt32 &&& Int32.toUInt32 31)).toInt32).toUInt32 >>> ((8 : Int32).toUInt32 &&& Int32.toUInt32 31)).toInt32) ≤ (4 : Int32) ∧ True) → ((((1 : Int32) + (16 : Int32)) + (8 : Int32)) + (2 : Int32)) + (((((((((nI (2 ^ k - 1)).toUInt32 >>> ((16 : Int32).toUInt32 &&& Int32.toUInt32 31)).toInt32).toUInt32 >>> ((8 : Int32).toUInt32 &&& Int32.toUInt32 31)).toInt32).toUInt32 >>> ((2 : Int32).toUInt32 &&& Int32.toUInt32 31)).toInt32).toUInt32 >>> ((1 : Int32).toUInt32 &&& Int32.toUInt32 31)).toInt32) = nI k := by decide +kernel
            exact v_iret g z rfl (by decide +kernel) ⟨congrArg (fun q => some (Value.int q)) (H k h32 ⟨c0, c1, c2, c3, c4, trivial⟩), rfl⟩ zcr0
        · refine v_blk g [.iinc 1 4, .iload_n 0, .iconst 4, .iushr, .istore_n 0, .iload_n 0, .iconst 4] (pc' := 64) (lv' := [(0, .int (((((((nI (2 ^ k - 1)).toUInt32 >>> ((16 : Int32).toUInt32 &&& Int32.toUInt32 31)).toInt32).toUInt32 >>> ((8 : Int32).toUInt32 &&& Int32.toUInt32 31)).toInt32).toUInt32 >>> ((4 : Int32).toUInt32 &&& Int32.toUInt32 31)).toInt32)), (1, .int ((((1 : Int32) + (16 : Int32)) + (8 : Int32)) + (4 : Int32)))]) (st' := [.int (4 : Int32), .int (((((((nI (2 ^ k - 1)).toUInt32 >>> ((16 : Int32).toUInt32 &&& Int32.toUInt32 31)).toInt32).toUInt32 >>> ((8 : Int32).toUInt32 &&& Int32.toUInt32 31)).toInt32).toUInt32 >>> ((4 : Int32).toUInt32 &&& Int32.toUInt32 31)).toInt32)]) (by decide +kernel) rfl rfl ?_
          refine v_icmp_le g (off := 10) (tgt := 74) (by decide +kernel) (by decide) (fun c4 => ?_) (fun c4 => ?_)
          · refine v_blk g [.iload_n 1, .iload_n 0, .iconst 1, .iushr, .iadd] (pc' := 79) (lv' := [(0, .int (((((((nI (2 ^ k - 1)).toUInt32 >>> ((16 : Int32).toUInt32 &&& Int32.toUInt32 31)).toInt32).toUInt32 >>> ((8 : Int32).toUInt32 &&& Int32.toUInt32 31)).toInt32).toUInt32 >>> ((4 : Int32).toUInt32 &&& Int32.toUInt32 31)).toInt32)), (1, .int ((((1 : Int32) + (16 : Int32)) + (8 : Int32)) + (4 : Int32)))]) (st' := [.int (((((1 : Int32) + (16 : Int32)) + (8 : Int32)) + (4 : Int32)) + (((((((((nI (2 ^ k - 1)).toUInt32 >>> ((16 : Int32).toUInt32 &&& Int32.toUInt32 31)).toInt32).toUInt32 >>> ((8 : Int32).toUInt32 &&& Int32.toUInt32 31)).toInt32).toUInt32 >>> ((4 : Int32).toUInt32 &&& Int32.toUInt32 31)).toInt32).toUInt32 >>> ((1 : Int32).toUInt32 &&& Int32.toUInt32 31)).toInt32))]) (by decide +kernel) rfl rfl ?_
            have H : ∀ k : Nat, k < 32 → (((0 : Int32) < nI (2 ^ k - 1)) ∧ ¬ (nI (2 ^ k - 1)) ≤ (65536 : Int32) ∧ ¬ (((nI (2 ^ k - 1)).toUInt32 >>> ((16 : Int32).toUInt32 &&& Int32.toUInt32 31)).toInt32) ≤ (256 : Int32) ∧ ¬ (((((nI (2 ^ k - 1)).toUInt32 >>> ((16 : Int32).toUInt32 &&& Int32.toUInt32 31)).toInt32).toUInt32 >>> ((8 : Int32).toUInt32 &&& Int32.toUInt32 31)).toInt32) ≤ (16 : Int32) ∧ ((((((((nI (2 ^ k - 1)).toUInt32 >>> ((16 : Int32).toUInt32 &&& Int32.toUInt32 31)).toInt32).toUInt32 >>> ((8 : Int32).toUInt32 &&& Int32.toUInt32 31)).toInt32).toUInt32 >>> ((4 : Int32).toUInt32 &&& Int32.toUInt32 31)).toInt32) ≤ (4 : Int32)) ∧ True) → ((((1 : Int32) + (16 : Int32)) + (8 : Int32)) + (4 : Int32)) + (((((((((nI (2 ^ k - 1)).toUInt32 >>> ((16 : Int32).toUInt32 &&& Int32.toUInt32 31)).toInt32).toUInt32 >>> ((8 : Int32).toUInt32 &&& Int32.toUInt32 31)).toInt32).toUInt32 >>> ((4 : Int32).toUInt32 &&& Int32.toUInt32 31)).toInt32).toUInt32 >>> ((1 : Int32).toUInt32 &&& Int32.toUInt32 31)).toInt32) = nI k := by decide +kernel
            exact v_iret g z rfl (by decide +kernel) ⟨congrArg (fun q => some (Value.int q)) (H k h32 ⟨c0, c1, c2, c3, c4, trivial⟩), rfl⟩ zcr0
          · refine v_blk g [.iinc 1 2, .iload_n 0, .iconst 2, .iushr, .istore_n 0, .iload_n 1, .iload_n 0, .iconst 1, .iushr, .iadd] (pc' := 79) (lv' := [(0, .int (((((((((nI (2 ^ k - 1)).toUInt32 >>> ((16 : Int32).toUInt32 &&& Int32.toUInt32 31)).toInt32).toUInt32 >>> ((8 : Int32).toUInt32 &&& Int32.toUInt32 31)).toInt32).toUInt32 >>> ((4 : Int32).toUInt32 &&& Int32.toUInt32 31)).toInt32).toUInt32 >>> ((2 : Int32).toUInt32 &&& Int32.toUInt32 31)).toInt32)), (1, .int (((((1 : Int32) + (16 : Int32)) + (8 : Int32)) + (4 : Int32)) + (2 : Int32)))]) (st' := [.int ((((((1 : Int32) + (16 : Int32)) + (8 : Int32)) + (4 : Int32)) + (2 : Int32)) + (((((((((((nI (2 ^ k - 1)).toUInt32 >>> ((16 : Int32).toUInt32 &&& Int32.toUInt32 31)).toInt32).toUInt32 >>> ((8 : Int32).toUInt32 &&& Int32.toUInt32 31)).toInt32).toUInt32 >>> ((4 : Int32).toUInt32 &&& Int32.toUInt32 31)).toInt32).toUInt32 >>> ((2 : Int32).toUInt32 &&& Int32.toUInt32 31)).toInt32).toUInt32 >>> ((1 : Int32).toUInt32 &&& Int32.toUInt32 31)).toInt32))]) (by decide +kernel) rfl rfl ?_
            have H : ∀ k : Nat, k < 32 → (((0 : Int32) < nI (2 ^ k - 1)) ∧ ¬ (nI (2 ^ k - 1)) ≤ (65536 : Int32) ∧ ¬ (((nI (2 ^ k - 1)).toUInt32 >>> ((16 : Int32).toUInt32 &&& Int32.toUInt32 31)).toInt32) ≤ (256 : Int32) ∧ ¬ (((((nI (2 ^ k - 1)).toUInt32 >>> ((16 : Int32).toUInt32 &&& Int32.toUInt32 31)).toInt32).toUInt32 >>> ((8 : Int32).toUInt32 &&& Int32.toUInt32 31)).toInt32) ≤ (16 : Int32) ∧ ¬ (((((((nI (2 ^ k - 1)).toUInt32 >>> ((16 : Int32).toUInt32 &&& Int32.toUInt32 31)).toInt32).toUInt32 >>> ((8 : Int32).toUInt32 &&& Int32.toUInt32 31)).toInt32).toUInt32 >>> ((4 : Int32).toUInt32 &&& Int32.toUInt32 31)).toInt32) ≤ (4 : Int32) ∧ True) → (((((1 : Int32) + (16 : Int32)) + (8 : Int32)) + (4 : Int32)) + (2 : Int32)) + (((((((((((nI (2 ^ k - 1)).toUInt32 >>> ((16 : Int32).toUInt32 &&& Int32.toUInt32 31)).toInt32).toUInt32 >>> ((8 : Int32).toUInt32 &&& Int32.toUInt32 31)).toInt32).toUInt32 >>> ((4 : Int32).toUInt32 &&& Int32.toUInt32 31)).toInt32).toUInt32 >>> ((2 : Int32).toUInt32 &&& Int32.toUInt32 31)).toInt32).toUInt32 >>> ((1 : Int32).toUInt32 &&& Int32.toUInt32 31)).toInt32) = nI k := by decide +kernel
            exact v_iret g z rfl (by decide +kernel) ⟨congrArg (fun q => some (Value.int q)) (H k h32 ⟨c0, c1, c2, c3, c4, trivial⟩), rfl⟩ zcr0
  · refine v_blk g [.iload_n 0, .bipush 32, .iand] (pc' := 16) (lv' := [(0, .int (nI (2 ^ k - 1)))]) (st' := [.int ((nI (2 ^ k - 1)) &&& (32 : Int32))]) (by decide +kernel) rfl rfl ?_
    have H : ∀ k : Nat, k < 32 → (¬ (0 : Int32) < nI (2 ^ k - 1) ∧ True) → (nI (2 ^ k - 1)) &&& (32 : Int32) = nI k := by decide +kernel
    exact v_iret g z rfl (by decide +kernel) ⟨congrArg (fun q => some (Value.int q)) (H k h32 ⟨c0, trivial⟩), rfl⟩ zcr0

theorem tz_lo {x : Int64} {k : Nat} (hl : ∀ i, i < k → (uN x).testBit i = false) (h : 32 ≤ k) : x.toInt32 = 0 := by
  apply u32_inj
  show x.toInt32.toBitVec.toNat = 0
  rw [uN_low]
  apply Nat.eq_of_testBit_eq
  intro i
  rw [Nat.testBit_mod_two_pow, Nat.zero_testBit]
  by_cases hi : i < 32
  · simp [hi, hl i (by omega)]
  · simp [hi]
theorem tz_lob (x : Int64) {i : Nat} (hi : i < 32) : (u32 x.toInt32).testBit i = (uN x).testBit i := by
  show (x.toInt32.toBitVec.toNat).testBit i = _
  rw [uN_low, Nat.testBit_mod_two_pow]
  simp [hi]
theorem tz_hib (x : Int64) {i : Nat} (hi : i < 32) : (u32 (x.toUInt64 >>> ((32 : Int32).toInt64.toUInt64 &&& Int64.toUInt64 63)).toInt64.toInt32).testBit i = (uN x).testBit (32 + i) := by
  rw [tz_lob _ hi, bc_ush x 32 32 (by decide), Nat.testBit_div_two_pow, Nat.add_comm]

theorem tz_ge {x : Int64} {k : Nat} (hk : (uN x).testBit k = true) (h0 : x.toInt32 = 0) : 32 ≤ k := by
  rcases Nat.lt_or_ge k 32 with q | q
  · rw [← tz_lob x q, h0] at hk
    simp [u32] at hk
  · exact q

set_option maxRecDepth 100000 in
set_option maxHeartbeats 4000000 in
/-- Long.numberOfTrailingZeros -/
theorem c_ntzL {F : zF} {h : zH} {x : Int64} {k : Nat} (hk : (uN x).testBit k = true) (hl : ∀ i, i < k → (uN x).testBit i = false) (h64 : k < 64) : zMet F yJ13_numberOfTrailingZeros_95d88 cJ13_numberOfTrailingZeros_95d88 3 (some .int) { frames := 2, cells := 0, slots := 0, locals := 60 } [.long x] h (zP h (some (.int (nI k)))) := by
  refine zMet_of (lv := [(0, .long x)]) (by decide) (by simp [lg_sl, Value.category]) rfl ?_
  intro X g z
  refine v_blk g [.lload_n 0, .l2i, .istore_n 2, .iload_n 2] (pc' := 4) (lv' := [(2, .int x.toInt32), (0, .long x)]) (st' := [.int x.toInt32]) (by decide +kernel) rfl rfl ?_
  refine v_if_ne g (off := 17) (tgt := 21) (by decide +kernel) (by decide) (fun c => ?_) (fun c => ?_)
  · refine v_blk g [.iload_n 2] (pc' := 22) (lv' := [(2, .int x.toInt32), (0, .long x)]) (st' := [.int x.toInt32]) (by decide +kernel) rfl rfl ?_
    have hk32 : k < 32 := by
      rcases Nat.lt_or_ge k 32 with q | q
      · exact q
      · exact absurd (tz_lo hl q) c
    refine v_callSp g (rest := []) (c_ntzI (k := k) (by rw [tz_lob x hk32]; exact hk) (fun q hq => by rw [tz_lob x (by omega)]; exact hl q hq) hk32) cl_J13_311 rfl (Nat.le_of_ble_eq_true rfl) (by decide +kernel) ⟨Nat.le_of_ble_eq_true rfl, Nat.le_of_ble_eq_true rfl⟩ (zcs0 (Nat.le_of_ble_eq_true rfl) (Nat.le_of_ble_eq_true rfl)) ?_
    show zV F X h 25 [(2, .int x.toInt32), (0, .long x)] [.int (nI k)]
    exact v_iret g z rfl (by decide +kernel) ⟨rfl, rfl⟩ zcr0
  · refine v_blk g [.bipush 32, .lload_n 0, .bipush 32, .lushr, .l2i] (pc' := 14) (lv' := [(2, .int x.toInt32), (0, .long x)]) (st' := [.int (((x.toUInt64 >>> ((32 : Int32).toInt64.toUInt64 &&& Int64.toUInt64 63)).toInt64).toInt32), .int (32 : Int32)]) (by decide +kernel) rfl rfl ?_
    refine v_callSp g (rest := [.int (32 : Int32)]) (c_ntzI (k := k - 32) (by rw [tz_hib x (by have := tz_ge (x := x) hk c; omega), show 32 + (k - 32) = k by have := tz_ge (x := x) hk c; omega]; exact hk) (fun q hq => by rw [tz_hib x (by omega)]; exact hl _ (by omega)) (by omega)) cl_J13_311 rfl (Nat.le_of_ble_eq_true rfl) (by decide +kernel) ⟨Nat.le_of_ble_eq_true rfl, Nat.le_of_ble_eq_true rfl⟩ (zcs0 (Nat.le_of_ble_eq_true rfl) (Nat.le_of_ble_eq_true rfl)) ?_
    show zV F X h 17 [(2, .int x.toInt32), (0, .long x)] [.int (nI (k - 32)), .int (32 : Int32)]
    refine v_blk g [.iadd] (pc' := 18) (lv' := [(2, .int x.toInt32), (0, .long x)]) (st' := [.int ((32 : Int32) + (nI (k - 32)))]) (by decide +kernel) rfl rfl ?_
    refine v_goto g (off := 7) (tgt := 25) (by decide +kernel) (by decide) ?_
    exact v_iret g z rfl (by decide +kernel) ⟨congrArg (fun q => some (Value.int q)) (by rw [show (32 : Int32) = nI 32 from rfl, nI_add]; congr 1; have := tz_ge (x := x) hk c; omega), rfl⟩ zcr0

set_option maxRecDepth 100000 in
set_option maxHeartbeats 4000000 in
/-- Integer.bitCount -/
theorem c_bitCountI {F : zF} {h : zH} (x : Int32) : zMet F yJ6_bitCount_0f7a4 cJ6_bitCount_0f7a4 1 (some .int) { frames := 1, cells := 0, slots := 0, locals := 30 } [.int x] h (zP h (some (.int (nI (pc32 x))))) := by
  refine zMet_of (lv := [(0, .int x)]) (by decide) (by simp [lg_sl, Value.category]) rfl ?_
  intro X g z
  refine v_blk g [.iload_n 0, .iload_n 0, .iconst 1, .iushr] (pc' := 4) (lv' := [(0, .int x)]) (st' := [.int ((x.toUInt32 >>> ((1 : Int32).toUInt32 &&& Int32.toUInt32 31)).toInt32), .int x]) (by decide +kernel) rfl rfl ?_
  refine v_ldcw g kc_J6_265 (by decide +kernel) ?_
  refine v_blk g [.iand, .isub] (pc' := 9) (lv' := [(0, .int x)]) (st' := [.int (x - (((x.toUInt32 >>> ((1 : Int32).toUInt32 &&& Int32.toUInt32 31)).toInt32) &&& (1431655765 : Int32)))]) (by decide +kernel) rfl rfl ?_
  refine v_topi (fun x1 ex1 => ?_)
  refine v_blk g [.istore_n 0, .iload_n 0] (pc' := 11) (lv' := [(0, .int x1)]) (st' := [.int x1]) (by decide +kernel) rfl rfl ?_
  refine v_ldcw g kc_J6_266 (by decide +kernel) ?_
  refine v_blk g [.iand, .iload_n 0, .iconst 2, .iushr] (pc' := 18) (lv' := [(0, .int x1)]) (st' := [.int ((x1.toUInt32 >>> ((2 : Int32).toUInt32 &&& Int32.toUInt32 31)).toInt32), .int (x1 &&& (858993459 : Int32))]) (by decide +kernel) rfl rfl ?_
  refine v_ldcw g kc_J6_266 (by decide +kernel) ?_
  refine v_blk g [.iand, .iadd] (pc' := 23) (lv' := [(0, .int x1)]) (st' := [.int ((x1 &&& (858993459 : Int32)) + (((x1.toUInt32 >>> ((2 : Int32).toUInt32 &&& Int32.toUInt32 31)).toInt32) &&& (858993459 : Int32)))]) (by decide +kernel) rfl rfl ?_
  refine v_topi (fun x2 ex2 => ?_)
  refine v_blk g [.istore_n 0, .iload_n 0, .iload_n 0, .iconst 4, .iushr, .iadd] (pc' := 29) (lv' := [(0, .int x2)]) (st' := [.int (x2 + ((x2.toUInt32 >>> ((4 : Int32).toUInt32 &&& Int32.toUInt32 31)).toInt32))]) (by decide +kernel) rfl rfl ?_
  refine v_ldcw g kc_J6_267 (by decide +kernel) ?_
  refine v_blk g [.iand] (pc' := 33) (lv' := [(0, .int x2)]) (st' := [.int ((x2 + ((x2.toUInt32 >>> ((4 : Int32).toUInt32 &&& Int32.toUInt32 31)).toInt32)) &&& (252645135 : Int32))]) (by decide +kernel) rfl rfl ?_
  refine v_topi (fun x3 ex3 => ?_)
  refine v_blk g [.istore_n 0, .iload_n 0, .iload_n 0, .bipush 8, .iushr, .iadd] (pc' := 40) (lv' := [(0, .int x3)]) (st' := [.int (x3 + ((x3.toUInt32 >>> ((8 : Int32).toUInt32 &&& Int32.toUInt32 31)).toInt32))]) (by decide +kernel) rfl rfl ?_
  refine v_topi (fun x4 ex4 => ?_)
  refine v_blk g [.istore_n 0, .iload_n 0, .iload_n 0, .bipush 16, .iushr, .iadd] (pc' := 47) (lv' := [(0, .int x4)]) (st' := [.int (x4 + ((x4.toUInt32 >>> ((16 : Int32).toUInt32 &&& Int32.toUInt32 31)).toInt32))]) (by decide +kernel) rfl rfl ?_
  refine v_topi (fun x5 ex5 => ?_)
  refine v_blk g [.istore_n 0, .iload_n 0, .bipush 63, .iand] (pc' := 52) (lv' := [(0, .int x5)]) (st' := [.int (x5 &&& (63 : Int32))]) (by decide +kernel) rfl rfl ?_
  exact v_iret g z rfl (by decide +kernel) ⟨congrArg (fun q => some (Value.int q)) (bc_32 ex1 ex2 ex3 ex4 ex5), rfl⟩ zcr0

/-- up to i the new, from there the old -/
def mx {α : Type} (g f : Nat → α) (i k : Nat) : α := if k < i then g k else f k
theorem mx_0 {α : Type} (g f : Nat → α) : mx g f 0 = f := by funext k; simp [mx]
theorem mx_at {α : Type} (g f : Nat → α) (i : Nat) : mx g f i i = f i := by simp [mx]
theorem mx_lt {α : Type} {g f : Nat → α} {i k : Nat} (h : k < i) : mx g f i k = g k := by simp [mx, h]
theorem mx_ge {α : Type} {g f : Nat → α} {i k : Nat} (h : i ≤ k) : mx g f i k = f k := by simp [mx, Nat.not_lt.mpr h]
theorem mx_J (g f : Nat → Int64) (i : Nat) : vp_updL (mx g f i) i (g i) = mx g f (i + 1) := by
  funext k
  unfold vp_updL mx
  by_cases h : k = i
  · subst h; simp
  · simp only [h, if_false]
    by_cases h2 : k < i
    · simp [h2, Nat.lt_succ_of_lt h2]
    · rw [if_neg h2, if_neg (by omega)]
theorem mx_I (g f : Nat → Int32) (i : Nat) : upd (mx g f i) i (g i) = mx g f (i + 1) := by
  funext k
  unfold upd mx
  by_cases h : k = i
  · subst h; simp
  · simp only [h, if_false]
    by_cases h2 : k < i
    · simp [h2, Nat.lt_succ_of_lt h2]
    · rw [if_neg h2, if_neg (by omega)]
theorem mx_Q {α : Type} (g f : Nat → α) (i : Nat) : va_up (mx g f i) i (g i) = mx g f (i + 1) := by
  funext k
  unfold va_up mx
  by_cases h : k = i
  · subst h; simp
  · simp only [h, if_false]
    by_cases h2 : k < i
    · simp [h2, Nat.lt_succ_of_lt h2]
    · rw [if_neg h2, if_neg (by omega)]

set_option maxRecDepth 100000 in
set_option maxHeartbeats 4000000 in
theorem c_fillJ {F : zF} {h : zH} {a n : Nat} {f : Nat → Int64} (v : Int64) (ha : h.1 a = some (aJ n f)) (hn : n ≤ 1000000) : zMet F yJ7_fill_d0a16 cJ7_fill_d0a16 5 none { frames := 1, cells := 0, slots := 0, locals := 30 } [.ref a, .long v] h (zP (z_s h a (aJ n (mx (fun _ => v) f n))) none) := by
  refine zMet_of (lv := [(0, .ref a), (1, .long v)]) (by decide) (by simp [lg_sl, Value.category]) rfl ?_
  intro X g z
  refine v_blk g [.iconst 0, .istore_n 3, .aload_n 0] (pc' := 3) (lv' := [(3, .int (0 : Int32)), (0, .ref a), (1, .long v)]) (st' := [.ref a]) (by decide +kernel) rfl rfl ?_
  refine v_alen g ha (by decide) (by decide +kernel) ?_
  refine v_blk g [.istore 4] (pc' := 6) (lv' := [(4, .int (nI n)), (3, .int (0 : Int32)), (0, .ref a), (1, .long v)]) (st' := []) (by decide +kernel) rfl rfl ?_
  have key : ∀ i, i ≤ n → zV F X (z_s h a (aJ n (mx (fun _ => v) f i))) 6 [(4, .int (nI n)), (3, .int (nI i)), (0, .ref a), (1, .long v)] [] := by
    refine z_up (P := fun i => zV F X (z_s h a (aJ n (mx (fun _ => v) f i))) 6 [(4, .int (nI n)), (3, .int (nI i)), (0, .ref a), (1, .long v)] []) n ?_ ?_
    · refine v_blk g [.iload_n 3, .iload 4] (pc' := 9) (lv' := [(4, .int (nI n)), (3, .int (nI n)), (0, .ref a), (1, .long v)]) (st' := [.int (nI n), .int (nI n)]) (by decide +kernel) rfl rfl ?_
      refine v_icmp_ge g (off := 13) (tgt := 22) (by decide +kernel) (by decide) (fun _ => ?_) (fun c => absurd c (fun q => q (nI_le (Nat.le_refl n) (by omega))))
      exact v_vret g z rfl (by decide +kernel) ⟨rfl, rfl⟩ zcr0
    · intro i hi ih
      refine v_blk g [.iload_n 3, .iload 4] (pc' := 9) (lv' := [(4, .int (nI n)), (3, .int (nI i)), (0, .ref a), (1, .long v)]) (st' := [.int (nI n), .int (nI i)]) (by decide +kernel) rfl rfl ?_
      refine v_icmp_ge g (off := 13) (tgt := 22) (by decide +kernel) (by decide) (fun c => absurd c (nI_ge hi (by omega))) (fun _ => ?_)
      refine v_blk g [.aload_n 0, .iload_n 3, .lload_n 1] (pc' := 15) (lv' := [(4, .int (nI n)), (3, .int (nI i)), (0, .ref a), (1, .long v)]) (st' := [.long v, .int (nI i), .ref a]) (by decide +kernel) rfl rfl ?_
      refine v_last g (z_s_self _ _ _) i rfl hi hn (by decide +kernel) ?_
      refine v_h (fun h1 eh1 => ?_)
      have h1_a : h1.1 a = some (aJ n (vp_updL (mx (fun _ => v) f i) i v)) := by rw [eh1]; exact z_s_self _ _ _
      refine v_blk g [.iinc 3 1] (pc' := 19) (lv' := [(3, .int ((nI i) + (1 : Int32))), (4, .int (nI n)), (0, .ref a), (1, .long v)]) (st' := []) (by decide +kernel) rfl rfl ?_
      refine v_goto g (off := -13) (tgt := 6) (by decide +kernel) (by decide) ?_
      refine v_eqh (h' := z_s h a (aJ n (mx (fun _ => v) f (i + 1)))) (by rw [eh1, z_ss, mx_J (fun _ => v)]) ?_
      refine v_lv [1, 0, 2, 3] (lv' := [(4, .int (nI n)), (3, .int ((nI i) + (1 : Int32))), (0, .ref a), (1, .long v)]) rfl ?_
      exact v_eq (by rw [nI_1]) rfl ih
  exact v_eqh (by rw [mx_0, z_sid ha]) (key 0 (by omega))

set_option maxRecDepth 100000 in
set_option maxHeartbeats 4000000 in
theorem c_fillI {F : zF} {h : zH} {a n : Nat} {f : Nat → Int32} (v : Int32) (ha : h.1 a = some (aI n f)) (hn : n ≤ 1000000) : zMet F yJ7_fill_53178 cJ7_fill_53178 4 none { frames := 1, cells := 0, slots := 0, locals := 30 } [.ref a, .int v] h (zP (z_s h a (aI n (mx (fun _ => v) f n))) none) := by
  refine zMet_of (lv := [(0, .ref a), (1, .int v)]) (by decide) (by simp [lg_sl, Value.category]) rfl ?_
  intro X g z
  refine v_blk g [.iconst 0, .istore_n 2, .aload_n 0] (pc' := 3) (lv' := [(2, .int (0 : Int32)), (0, .ref a), (1, .int v)]) (st' := [.ref a]) (by decide +kernel) rfl rfl ?_
  refine v_alen g ha (by decide) (by decide +kernel) ?_
  refine v_blk g [.istore_n 3] (pc' := 5) (lv' := [(3, .int (nI n)), (2, .int (0 : Int32)), (0, .ref a), (1, .int v)]) (st' := []) (by decide +kernel) rfl rfl ?_
  have key : ∀ i, i ≤ n → zV F X (z_s h a (aI n (mx (fun _ => v) f i))) 5 [(3, .int (nI n)), (2, .int (nI i)), (0, .ref a), (1, .int v)] [] := by
    refine z_up (P := fun i => zV F X (z_s h a (aI n (mx (fun _ => v) f i))) 5 [(3, .int (nI n)), (2, .int (nI i)), (0, .ref a), (1, .int v)] []) n ?_ ?_
    · refine v_blk g [.iload_n 2, .iload_n 3] (pc' := 7) (lv' := [(3, .int (nI n)), (2, .int (nI n)), (0, .ref a), (1, .int v)]) (st' := [.int (nI n), .int (nI n)]) (by decide +kernel) rfl rfl ?_
      refine v_icmp_ge g (off := 13) (tgt := 20) (by decide +kernel) (by decide) (fun _ => ?_) (fun c => absurd c (fun q => q (nI_le (Nat.le_refl n) (by omega))))
      exact v_vret g z rfl (by decide +kernel) ⟨rfl, rfl⟩ zcr0
    · intro i hi ih
      refine v_blk g [.iload_n 2, .iload_n 3] (pc' := 7) (lv' := [(3, .int (nI n)), (2, .int (nI i)), (0, .ref a), (1, .int v)]) (st' := [.int (nI n), .int (nI i)]) (by decide +kernel) rfl rfl ?_
      refine v_icmp_ge g (off := 13) (tgt := 20) (by decide +kernel) (by decide) (fun c => absurd c (nI_ge hi (by omega))) (fun _ => ?_)
      refine v_blk g [.aload_n 0, .iload_n 2, .iload_n 1] (pc' := 13) (lv' := [(3, .int (nI n)), (2, .int (nI i)), (0, .ref a), (1, .int v)]) (st' := [.int v, .int (nI i), .ref a]) (by decide +kernel) rfl rfl ?_
      refine v_iast g (z_s_self _ _ _) i rfl hi hn (by decide +kernel) ?_
      refine v_h (fun h1 eh1 => ?_)
      have h1_a : h1.1 a = some (aI n (upd (mx (fun _ => v) f i) i v)) := by rw [eh1]; exact z_s_self _ _ _
      refine v_blk g [.iinc 2 1] (pc' := 17) (lv' := [(2, .int ((nI i) + (1 : Int32))), (3, .int (nI n)), (0, .ref a), (1, .int v)]) (st' := []) (by decide +kernel) rfl rfl ?_
      refine v_goto g (off := -12) (tgt := 5) (by decide +kernel) (by decide) ?_
      refine v_eqh (h' := z_s h a (aI n (mx (fun _ => v) f (i + 1)))) (by rw [eh1, z_ss, mx_I (fun _ => v)]) ?_
      refine v_lv [1, 0, 2, 3] (lv' := [(3, .int (nI n)), (2, .int ((nI i) + (1 : Int32))), (0, .ref a), (1, .int v)]) rfl ?_
      exact v_eq (by rw [nI_1]) rfl ih
  exact v_eqh (by rw [mx_0, z_sid ha]) (key 0 (by omega))
