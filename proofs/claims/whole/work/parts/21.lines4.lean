/-! the matches of a LineSet's lines -/
theorem mi_fw (f : Nat → Int64) (w : Nat) : ¬ f w = 0 ↔ ∃ j, j < 64 ∧ (uN (f w)).testBit j = true := by
  rw [lN0]
  exact nz_bit (uN_lt _)
theorem mi_lb (f : Nat → Int64) (Q : Nat → Prop) : (∃ n, n < 16384 ∧ lb f n = true ∧ Q n) ↔ ∃ w, w < 256 ∧ ∃ j, j < 64 ∧ (uN (f w)).testBit j = true ∧ Q (64 * w + j) := by
  constructor
  · rintro ⟨n, h1, h2, h3⟩
    refine ⟨n / 64, by omega, n % 64, by omega, h2, ?_⟩
    rw [show 64 * (n / 64) + n % 64 = n by omega]
    exact h3
  · rintro ⟨w, h1, j, h2, h3, h4⟩
    exact ⟨64 * w + j, by omega, by rw [lb_at f w h2]; exact h3, h4⟩
theorem mi_P (f : Nat → Int64) {m : Nat} (hm : m < 6) : ¬ (aw f 256 &&& wm m = 0) ↔ ∃ n, n < 16384 ∧ lb f n = true ∧ n.testBit m = true := by
  rw [lN0, ← ne_eq, nz_bit (uN_lt _), mi_lb f (fun n => n.testBit m = true)]
  constructor
  · rintro ⟨j, h1, h2⟩
    rw [uN_and, Nat.testBit_and, Bool.and_eq_true, wm_bit hm h1, aw_bit] at h2
    obtain ⟨⟨w, h3, h4⟩, h5⟩ := h2
    exact ⟨w, h3, j, h1, h4, by rw [num_bit_lo h1 hm]; exact h5⟩
  · rintro ⟨w, h3, j, h1, h4, h5⟩
    refine ⟨j, h1, ?_⟩
    rw [uN_and, Nat.testBit_and, Bool.and_eq_true, wm_bit hm h1, aw_bit]
    rw [num_bit_lo h1 hm] at h5
    exact ⟨⟨w, h3, h4⟩, h5⟩
theorem mi_Q (f : Nat → Int64) {m : Nat} (hm : m < 6) : (aw f 256 &&& (wm m ^^^ (-1 : Int64)) = 0) ↔ ∀ n, n < 16384 → lb f n = true → n.testBit m = true := by
  have key : ¬ (aw f 256 &&& (wm m ^^^ (-1 : Int64)) = 0) ↔ ∃ n, n < 16384 ∧ lb f n = true ∧ n.testBit m = false := by
    rw [lN0, ← ne_eq, nz_bit (uN_lt _), mi_lb f (fun n => n.testBit m = false)]
    have hm1 : ∀ j, j < 64 → (uN (-1 : Int64)).testBit j = true := by decide +kernel
    constructor
    · rintro ⟨j, h1, h2⟩
      rw [uN_and, Nat.testBit_and, Bool.and_eq_true, uN_xor', Nat.testBit_xor, wm_bit hm h1, hm1 j h1, aw_bit] at h2
      obtain ⟨⟨w, h3, h4⟩, h5⟩ := h2
      exact ⟨w, h3, j, h1, h4, by rw [num_bit_lo h1 hm]; simpa using h5⟩
    · rintro ⟨w, h3, j, h1, h4, h5⟩
      refine ⟨j, h1, ?_⟩
      rw [uN_and, Nat.testBit_and, Bool.and_eq_true, uN_xor', Nat.testBit_xor, wm_bit hm h1, hm1 j h1, aw_bit]
      rw [num_bit_lo h1 hm] at h5
      exact ⟨⟨w, h3, h4⟩, by simpa using h5⟩
  constructor
  · intro h n h1 h2
    cases h3 : n.testBit m
    · exact absurd h (key.mpr ⟨n, h1, h2, h3⟩)
    · rfl
  · intro h
    rcases Classical.em (aw f 256 &&& (wm m ^^^ (-1 : Int64)) = 0) with q | q
    · exact q
    · obtain ⟨n, h1, h2, h3⟩ := key.mp q
      rw [h n h1 h2] at h3
      cases h3
def han (f : Nat → Int64) : Nat → Nat
  | 0 => 255
  | i + 1 => if f i = 0 then han f i &&& 255 else han f i &&& i
theorem han_bit (f : Nat → Int64) (m : Nat) : ∀ n, (han f n).testBit m = true ↔ m < 8 ∧ ∀ w, w < n → ¬ f w = 0 → w.testBit m = true
  | 0 => by
    unfold han
    rw [show (255 : Nat) = 2 ^ 8 - 1 from rfl, Nat.testBit_two_pow_sub_one]
    simp
  | n + 1 => by
    unfold han
    split
    · rename_i h0
      rw [Nat.testBit_and, Bool.and_eq_true, han_bit f m n, show (255 : Nat) = 2 ^ 8 - 1 from rfl, Nat.testBit_two_pow_sub_one]
      constructor
      · rintro ⟨⟨h1, h2⟩, h3⟩
        refine ⟨h1, fun w hw hf => ?_⟩
        rcases Nat.lt_or_ge w n with q | q
        · exact h2 w q hf
        · rw [show w = n by omega] at hf; exact absurd h0 hf
      · rintro ⟨h1, h2⟩
        exact ⟨⟨h1, fun w hw => h2 w (by omega)⟩, by simp [h1]⟩
    · rename_i h0
      rw [Nat.testBit_and, Bool.and_eq_true, han_bit f m n]
      constructor
      · rintro ⟨⟨h1, h2⟩, h3⟩
        refine ⟨h1, fun w hw hf => ?_⟩
        rcases Nat.lt_or_ge w n with q | q
        · exact h2 w q hf
        · rw [show w = n by omega]; exact h3
      · rintro ⟨h1, h2⟩
        exact ⟨⟨h1, fun w hw => h2 w (by omega)⟩, h2 n (by omega) h0⟩
theorem lt14 {a b : Nat} (ha : a < 256) (hb : b < 64) : a * 64 ||| b < 16384 := Nat.or_lt_two_pow (n := 14) (by omega) (by omega)
theorem or_bits {a b m : Nat} (hb : b < 64) : (a * 64 ||| b).testBit m = if m < 6 then b.testBit m else a.testBit (m - 6) := by
  rw [Nat.testBit_or]
  have e : (a * 64).testBit m = if m < 6 then false else a.testBit (m - 6) := by
    have := Nat.testBit_two_pow_mul_add a (i := 6) (b := 0) (by decide) m
    rw [show a * 64 = 2 ^ 6 * a + 0 by omega, this]
    simp
  rw [e]
  by_cases h : m < 6
  · simp [h]
  · rw [if_neg h, if_neg h, Nat.testBit_lt_two_pow (Nat.lt_of_lt_of_le (show b < 2 ^ 6 from hb) (Nat.pow_le_pow_right (by decide) (by omega)))]
    simp
theorem lor_lt (p : Nat → Bool) : lor p 6 < 64 := Nat.lt_pow_two_of_testBit (n := 6) _ (fun i hi => by rw [lor_bit]; simp; intro h; omega)
theorem hor_lt (p : Nat → Bool) : s_or p 256 < 256 := Nat.lt_pow_two_of_testBit (n := 8) _ (fun i hi => by
  cases hq : (s_or p 256).testBit i
  · rfl
  · obtain ⟨k, h1, -, h3⟩ := (s_or_bit p i 256).mp hq
    rw [Nat.testBit_lt_two_pow (Nat.lt_of_lt_of_le (show k < 2 ^ 8 by omega) (Nat.pow_le_pow_right (by decide) hi))] at h3
    cases h3)
theorem han_lt (f : Nat → Int64) : han f 256 < 256 := Nat.lt_pow_two_of_testBit (n := 8) _ (fun i hi => by
  cases hq : (han f 256).testBit i
  · rfl
  · have := ((han_bit f i 256).mp hq).1
    omega)
theorem mi_some (f : Nat → Int64) : s_or (fun w => decide (¬ f w = 0)) 256 * 64 ||| lor (fun m => decide (¬ (aw f 256 &&& wm m = 0))) 6 = s_or (lb f) 16384 := by
  refine eq14 (lt14 (hor_lt _) (lor_lt _)) (s_or_lt _ (Nat.le_refl _)) (fun m hm => ?_)
  rw [or_bits (lor_lt _), s_or_bit]
  by_cases h : m < 6
  · rw [if_pos h, lor_bit]
    simp only [h, decide_true, Bool.true_and, decide_eq_true_eq]
    exact mi_P f h
  · rw [if_neg h, s_or_bit, mi_lb f (fun n => n.testBit m = true)]
    constructor
    · rintro ⟨w, h1, h2, h3⟩
      obtain ⟨j, h4, h5⟩ := (mi_fw f w).mp (of_decide_eq_true h2)
      exact ⟨w, h1, j, h4, h5, by rw [num_bit_hi h4 (by omega)]; exact h3⟩
    · rintro ⟨w, h1, j, h4, h5, h6⟩
      rw [num_bit_hi h4 (by omega)] at h6
      exact ⟨w, h1, decide_eq_true ((mi_fw f w).mpr ⟨j, h4, h5⟩), h6⟩
theorem mi_all (f : Nat → Int64) : han f 256 * 64 ||| lor (fun m => decide (aw f 256 &&& (wm m ^^^ (-1 : Int64)) = 0)) 6 = s_an (lb f) 16384 := by
  refine eq14 (lt14 (han_lt _) (lor_lt _)) (s_an_lt _ _) (fun m hm => ?_)
  rw [or_bits (lor_lt _), s_an_bit]
  by_cases h : m < 6
  · rw [if_pos h, lor_bit]
    simp only [h, decide_true, Bool.true_and, decide_eq_true_eq]
    rw [mi_Q f h]
    exact ⟨fun q => ⟨hm, q⟩, fun q => q.2⟩
  · rw [if_neg h, han_bit]
    constructor
    · rintro ⟨h1, h2⟩
      refine ⟨hm, fun n hn hl => ?_⟩
      have e : n = 64 * (n / 64) + n % 64 := by omega
      rw [e, num_bit_hi (by omega) (by omega)]
      refine h2 (n / 64) (by omega) ((mi_fw f _).mpr ⟨n % 64, by omega, hl⟩)
    · rintro ⟨-, h2⟩
      refine ⟨by omega, fun w hw hf => ?_⟩
      obtain ⟨j, h4, h5⟩ := (mi_fw f w).mp hf
      have := h2 (64 * w + j) (by omega) (by rw [lb_at f w h4]; exact h5)
      rw [num_bit_hi h4 (by omega)] at this
      exact this
theorem lor_t {p : Nat → Bool} {m : Nat} (h : p m = true) : lor p (m + 1) = lor p m ||| 2 ^ m := by
  show lor p m ||| (if p m then 2 ^ m else 0) = _
  rw [if_pos h]
theorem lor_f {p : Nat → Bool} {m : Nat} (h : p m = false) : lor p (m + 1) = lor p m := by
  show lor p m ||| (if p m then 2 ^ m else 0) = _
  rw [if_neg (by rw [h]; decide), Nat.or_zero]
theorem sh1 {m : Nat} (hm : m < 6) : (1 : Int32) <<< (nI m &&& (31 : Int32)) = nI (2 ^ m) := by
  have h : ∀ m, m < 6 → (1 : Int32) <<< (nI m &&& (31 : Int32)) = nI (2 ^ m) := by decide +kernel
  exact h m hm
theorem sh6 {x : Nat} (hx : x < 256) : nI x <<< ((6 : Int32) &&& (31 : Int32)) = nI (x * 64) := pk_shlN _ 6 (by decide) (by omega)

set_option maxRecDepth 100000 in
set_option maxHeartbeats 4000000 in
theorem c_LS_some {F : zF} {h : zH} {a w : Nat} {f : Nat → Int64} (ha : h.1 a = some (oB 3 [.ref w])) (hw : h.1 w = some (aJ 256 f)) : zMet F yX3_matchesInSome cX3_matchesInSome 6 (some .int) { frames := 2, cells := 0, slots := 0, locals := 60 } [.ref a] h (zP h (some (.int (nI (s_or (lb f) 16384))))) := by
  refine zMet_of (lv := [(0, .ref a)]) (by decide) (by simp [lg_sl, Value.category]) rfl ?_
  intro X g z
  refine v_blk g [.iconst 0, .istore_n 1, .iconst 0, .istore_n 2] (pc' := 4) (lv' := [(2, .int (0 : Int32)), (1, .int (0 : Int32)), (0, .ref a)]) (st' := []) (by decide +kernel) rfl rfl ?_
  have key : ∀ i, i ≤ 256 → zV F X h 4 [(2, .int (nI i)), (1, .int (nI (s_or (fun w => decide (¬ f w = 0)) i))), (0, .ref a)] [] := by
    refine z_up (P := fun i => zV F X h 4 [(2, .int (nI i)), (1, .int (nI (s_or (fun w => decide (¬ f w = 0)) i))), (0, .ref a)] []) 256 ?_ ?_
    · refine v_blk g [.iload_n 2, .sipush 256] (pc' := 8) (lv' := [(2, .int (nI 256)), (1, .int (nI (s_or (fun w => decide (¬ f w = 0)) 256))), (0, .ref a)]) (st' := [.int (256 : Int32), .int (nI 256)]) (by decide +kernel) rfl rfl ?_
      refine v_icmp_ge g (off := 28) (tgt := 36) (by decide +kernel) (by decide) (fun _ => ?_) (fun c => absurd c (fun q => q (by decide)))
      refine v_blk g [.aload_n 0] (pc' := 37) (lv' := [(2, .int (nI 256)), (1, .int (nI (s_or (fun w => decide (¬ f w = 0)) 256))), (0, .ref a)]) (st' := [.ref a]) (by decide +kernel) rfl rfl ?_
      refine v_callVp g (rest := []) (c_LS_aw ha hw) cl_X3_68 ha rfl rfl (Nat.le_of_ble_eq_true rfl) (by decide +kernel) ⟨Nat.le_of_ble_eq_true rfl, Nat.le_of_ble_eq_true rfl⟩ (zcsn 0 0 rfl rfl (Nat.le_of_ble_eq_true rfl) (Nat.le_of_ble_eq_true rfl)) ?_
      show zV F X h 40 [(2, .int (nI 256)), (1, .int (nI (s_or (fun w => decide (¬ f w = 0)) 256))), (0, .ref a)] [.long (aw f 256)]
      refine v_blk g [.lstore_n 2, .iload_n 1, .bipush 6, .ishl] (pc' := 45) (lv' := [(2, .long (aw f 256)), (1, .int (nI (s_or (fun w => decide (¬ f w = 0)) 256))), (0, .ref a)]) (st' := [.int ((nI (s_or (fun w => decide (¬ f w = 0)) 256)) <<< ((6 : Int32) &&& (31 : Int32)))]) (by decide +kernel) rfl rfl ?_
      refine v_ti (z := nI (s_or (fun w => decide (¬ f w = 0)) 256 * 64)) (sh6 (hor_lt _)) ?_
      refine v_blk g [.istore 4, .iconst 0, .istore 5] (pc' := 50) (lv' := [(5, .int (0 : Int32)), (4, .int (nI (s_or (fun w => decide (¬ f w = 0)) 256 * 64))), (2, .long (aw f 256)), (1, .int (nI (s_or (fun w => decide (¬ f w = 0)) 256))), (0, .ref a)]) (st' := []) (by decide +kernel) rfl rfl ?_
      refine v_lv [0, 1, 2, 4] (lv' := [(5, .int (0 : Int32)), (4, .int (nI (s_or (fun w => decide (¬ f w = 0)) 256 * 64))), (2, .long (aw f 256)), (0, .ref a)]) rfl ?_
      have key2 : ∀ i, i ≤ 6 → zV F X h 50 [(5, .int (nI i)), (4, .int (nI (s_or (fun w => decide (¬ f w = 0)) 256 * 64 ||| lor (fun m => decide (¬ (aw f 256 &&& wm m = 0))) i))), (2, .long (aw f 256)), (0, .ref a)] [] := by
        refine z_up (P := fun i => zV F X h 50 [(5, .int (nI i)), (4, .int (nI (s_or (fun w => decide (¬ f w = 0)) 256 * 64 ||| lor (fun m => decide (¬ (aw f 256 &&& wm m = 0))) i))), (2, .long (aw f 256)), (0, .ref a)] []) 6 ?_ ?_
        · refine v_blk g [.iload 5, .bipush 6] (pc' := 54) (lv' := [(5, .int (nI 6)), (4, .int (nI (s_or (fun w => decide (¬ f w = 0)) 256 * 64 ||| lor (fun m => decide (¬ (aw f 256 &&& wm m = 0))) 6))), (2, .long (aw f 256)), (0, .ref a)]) (st' := [.int (6 : Int32), .int (nI 6)]) (by decide +kernel) rfl rfl ?_
          refine v_icmp_ge g (off := 35) (tgt := 89) (by decide +kernel) (by decide) (fun _ => ?_) (fun c => absurd c (fun q => q (by decide)))
          refine v_blk g [.iload 4] (pc' := 91) (lv' := [(5, .int (nI 6)), (4, .int (nI (s_or (fun w => decide (¬ f w = 0)) 256 * 64 ||| lor (fun m => decide (¬ (aw f 256 &&& wm m = 0))) 6))), (2, .long (aw f 256)), (0, .ref a)]) (st' := [.int (nI (s_or (fun w => decide (¬ f w = 0)) 256 * 64 ||| lor (fun m => decide (¬ (aw f 256 &&& wm m = 0))) 6))]) (by decide +kernel) rfl rfl ?_
          exact v_iret g z rfl (by decide +kernel) ⟨by rw [mi_some], rfl⟩ (zcrn 0 0 rfl rfl (Nat.le_of_ble_eq_true rfl) (Nat.le_of_ble_eq_true rfl))
        · intro i hi ih
          refine v_blk g [.iload 5, .bipush 6] (pc' := 54) (lv' := [(5, .int (nI i)), (4, .int (nI (s_or (fun w => decide (¬ f w = 0)) 256 * 64 ||| lor (fun m => decide (¬ (aw f 256 &&& wm m = 0))) i))), (2, .long (aw f 256)), (0, .ref a)]) (st' := [.int (6 : Int32), .int (nI i)]) (by decide +kernel) rfl rfl ?_
          refine v_icmp_ge g (off := 35) (tgt := 89) (by decide +kernel) (by decide) (fun c => absurd c (nI_ge (b := 6) hi (by decide))) (fun _ => ?_)
          refine v_blk g [.iload 4, .lload_n 2] (pc' := 60) (lv' := [(5, .int (nI i)), (4, .int (nI (s_or (fun w => decide (¬ f w = 0)) 256 * 64 ||| lor (fun m => decide (¬ (aw f 256 &&& wm m = 0))) i))), (2, .long (aw f 256)), (0, .ref a)]) (st' := [.long (aw f 256), .int (nI (s_or (fun w => decide (¬ f w = 0)) 256 * 64 ||| lor (fun m => decide (¬ (aw f 256 &&& wm m = 0))) i))]) (by decide +kernel) rfl rfl ?_
          refine v_gets g sl_X3_55 (by decide +kernel) (fun t9 hT => ?_)
          refine v_blk g [.iload 5] (pc' := 65) (lv' := [(5, .int (nI i)), (4, .int (nI (s_or (fun w => decide (¬ f w = 0)) 256 * 64 ||| lor (fun m => decide (¬ (aw f 256 &&& wm m = 0))) i))), (2, .long (aw f 256)), (0, .ref a)]) (st' := [.int (nI i), .ref t9, .long (aw f 256), .int (nI (s_or (fun w => decide (¬ f w = 0)) 256 * 64 ||| lor (fun m => decide (¬ (aw f 256 &&& wm m = 0))) i))]) (by decide +kernel) rfl rfl ?_
          refine hT _ _ _ _ _ i rfl hi (by decide +kernel) ?_
          refine v_st (st' := [.long (wm i), .long (aw f 256), .int (nI (s_or (fun w => decide (¬ f w = 0)) 256 * 64 ||| lor (fun m => decide (¬ (aw f 256 &&& wm m = 0))) i))]) (by rw [zWM_eq]) ?_
          refine v_blk g [.land, .lconst 0, .lcmp] (pc' := 69) (lv' := [(5, .int (nI i)), (4, .int (nI (s_or (fun w => decide (¬ f w = 0)) 256 * 64 ||| lor (fun m => decide (¬ (aw f 256 &&& wm m = 0))) i))), (2, .long (aw f 256)), (0, .ref a)]) (st' := [.int (lg_cmp ((aw f 256) &&& (wm i)) (0 : Int64)), .int (nI (s_or (fun w => decide (¬ f w = 0)) 256 * 64 ||| lor (fun m => decide (¬ (aw f 256 &&& wm m = 0))) i))]) (by decide +kernel) rfl rfl ?_
          refine v_if_eq g (off := 10) (tgt := 79) (by decide +kernel) (by decide) (fun c => ?_) (fun c => ?_)
          · refine v_blk g [.iconst 0, .ior, .istore 4, .iinc 5 1] (pc' := 86) (lv' := [(5, .int ((nI i) + (1 : Int32))), (4, .int ((nI (s_or (fun w => decide (¬ f w = 0)) 256 * 64 ||| lor (fun m => decide (¬ (aw f 256 &&& wm m = 0))) i)) ||| (0 : Int32))), (2, .long (aw f 256)), (0, .ref a)]) (st' := []) (by decide +kernel) rfl rfl ?_
            refine v_lv [0, 1, 2, 3] (lv' := [(5, .int ((nI i) + (1 : Int32))), (4, .int ((nI (s_or (fun w => decide (¬ f w = 0)) 256 * 64 ||| lor (fun m => decide (¬ (aw f 256 &&& wm m = 0))) i)) ||| (0 : Int32))), (2, .long (aw f 256)), (0, .ref a)]) rfl ?_
            have hp : (aw f 256 &&& wm i) = 0 := (lg_cmp_eq _ _).mp c
            refine v_goto g (off := -36) (tgt := 50) (by decide +kernel) (by decide) ?_
            exact v_eq (by rw [nI_1, show (0 : Int32) = nI 0 from rfl, fa_or, Nat.or_zero, lor_f (by exact decide_eq_false (fun q => q hp))]) rfl ih
          · have hp : ¬ (aw f 256 &&& wm i) = 0 := fun q => c ((lg_cmp_eq _ _).mpr q)
            refine v_blk g [.iconst 1, .iload 5, .ishl] (pc' := 76) (lv' := [(5, .int (nI i)), (4, .int (nI (s_or (fun w => decide (¬ f w = 0)) 256 * 64 ||| lor (fun m => decide (¬ (aw f 256 &&& wm m = 0))) i))), (2, .long (aw f 256)), (0, .ref a)]) (st' := [.int ((1 : Int32) <<< ((nI i) &&& (31 : Int32))), .int (nI (s_or (fun w => decide (¬ f w = 0)) 256 * 64 ||| lor (fun m => decide (¬ (aw f 256 &&& wm m = 0))) i))]) (by decide +kernel) rfl rfl ?_
            refine v_goto g (off := 4) (tgt := 80) (by decide +kernel) (by decide) ?_
            refine v_ti (z := nI (2 ^ i)) (sh1 hi) ?_
            refine v_blk g [.ior, .istore 4, .iinc 5 1] (pc' := 86) (lv' := [(5, .int ((nI i) + (1 : Int32))), (4, .int ((nI (s_or (fun w => decide (¬ f w = 0)) 256 * 64 ||| lor (fun m => decide (¬ (aw f 256 &&& wm m = 0))) i)) ||| (nI (2 ^ i)))), (2, .long (aw f 256)), (0, .ref a)]) (st' := []) (by decide +kernel) rfl rfl ?_
            refine v_goto g (off := -36) (tgt := 50) (by decide +kernel) (by decide) ?_
            refine v_lv [0, 1, 2, 3] (lv' := [(5, .int ((nI i) + (1 : Int32))), (4, .int ((nI (s_or (fun w => decide (¬ f w = 0)) 256 * 64 ||| lor (fun m => decide (¬ (aw f 256 &&& wm m = 0))) i)) ||| (nI (2 ^ i)))), (2, .long (aw f 256)), (0, .ref a)]) rfl ?_
            exact v_eq (by rw [nI_1, fa_or, Nat.or_assoc, lor_t (by exact decide_eq_true hp)]) rfl ih
      exact v_eq (by simp [lor]; rfl) rfl (key2 0 (by omega))
    · intro i hi ih
      refine v_blk g [.iload_n 2, .sipush 256] (pc' := 8) (lv' := [(2, .int (nI i)), (1, .int (nI (s_or (fun w => decide (¬ f w = 0)) i))), (0, .ref a)]) (st' := [.int (256 : Int32), .int (nI i)]) (by decide +kernel) rfl rfl ?_
      refine v_icmp_ge g (off := 28) (tgt := 36) (by decide +kernel) (by decide) (fun c => absurd c (nI_ge (b := 256) hi (by decide))) (fun _ => ?_)
      refine v_blk g [.iload_n 1, .aload_n 0] (pc' := 13) (lv' := [(2, .int (nI i)), (1, .int (nI (s_or (fun w => decide (¬ f w = 0)) i))), (0, .ref a)]) (st' := [.ref a, .int (nI (s_or (fun w => decide (¬ f w = 0)) i))]) (by decide +kernel) rfl rfl ?_
      refine v_get g ha fl_X3_11 rfl (by decide +kernel) ?_
      refine v_blk g [.iload_n 2] (pc' := 17) (lv' := [(2, .int (nI i)), (1, .int (nI (s_or (fun w => decide (¬ f w = 0)) i))), (0, .ref a)]) (st' := [.int (nI i), .ref w, .int (nI (s_or (fun w => decide (¬ f w = 0)) i))]) (by decide +kernel) rfl rfl ?_
      refine v_lald g hw i rfl hi (Nat.le_of_ble_eq_true rfl) (by decide +kernel) ?_
      refine v_blk g [.lconst 0, .lcmp] (pc' := 20) (lv' := [(2, .int (nI i)), (1, .int (nI (s_or (fun w => decide (¬ f w = 0)) i))), (0, .ref a)]) (st' := [.int (lg_cmp (f i) (0 : Int64)), .int (nI (s_or (fun w => decide (¬ f w = 0)) i))]) (by decide +kernel) rfl rfl ?_
      refine v_if_eq g (off := 7) (tgt := 27) (by decide +kernel) (by decide) (fun c => ?_) (fun c => ?_)
      · have hz : f i = 0 := (lg_cmp_eq _ _).mp c
        refine v_blk g [.iconst 0, .ior, .istore_n 1, .iinc 2 1] (pc' := 33) (lv' := [(2, .int ((nI i) + (1 : Int32))), (1, .int ((nI (s_or (fun w => decide (¬ f w = 0)) i)) ||| (0 : Int32))), (0, .ref a)]) (st' := []) (by decide +kernel) rfl rfl ?_
        refine v_goto g (off := -29) (tgt := 4) (by decide +kernel) (by decide) ?_
        refine v_lv [0, 1, 2] (lv' := [(2, .int ((nI i) + (1 : Int32))), (1, .int ((nI (s_or (fun w => decide (¬ f w = 0)) i)) ||| (0 : Int32))), (0, .ref a)]) rfl ?_
        exact v_eq (by rw [nI_1, show (0 : Int32) = nI 0 from rfl, fa_or]; simp [s_or, hz]) rfl ih
      · have hz : ¬ f i = 0 := fun q => c ((lg_cmp_eq _ _).mpr q)
        refine v_blk g [.iload_n 2] (pc' := 24) (lv' := [(2, .int (nI i)), (1, .int (nI (s_or (fun w => decide (¬ f w = 0)) i))), (0, .ref a)]) (st' := [.int (nI i), .int (nI (s_or (fun w => decide (¬ f w = 0)) i))]) (by decide +kernel) rfl rfl ?_
        refine v_goto g (off := 4) (tgt := 28) (by decide +kernel) (by decide) ?_
        refine v_blk g [.ior, .istore_n 1, .iinc 2 1] (pc' := 33) (lv' := [(2, .int ((nI i) + (1 : Int32))), (1, .int ((nI (s_or (fun w => decide (¬ f w = 0)) i)) ||| (nI i))), (0, .ref a)]) (st' := []) (by decide +kernel) rfl rfl ?_
        refine v_goto g (off := -29) (tgt := 4) (by decide +kernel) (by decide) ?_
        refine v_lv [0, 1, 2] (lv' := [(2, .int ((nI i) + (1 : Int32))), (1, .int ((nI (s_or (fun w => decide (¬ f w = 0)) i)) ||| (nI i))), (0, .ref a)]) rfl ?_
        exact v_eq (by rw [nI_1, fa_or]; simp [s_or, hz]) rfl ih
  exact key 0 (by omega)

set_option maxRecDepth 100000 in
set_option maxHeartbeats 4000000 in
theorem c_LS_all {F : zF} {h : zH} {a w : Nat} {f : Nat → Int64} (ha : h.1 a = some (oB 3 [.ref w])) (hw : h.1 w = some (aJ 256 f)) : zMet F yX3_matchesInAll cX3_matchesInAll 6 (some .int) { frames := 2, cells := 0, slots := 0, locals := 60 } [.ref a] h (zP h (some (.int (nI (s_an (lb f) 16384))))) := by
  refine zMet_of (lv := [(0, .ref a)]) (by decide) (by simp [lg_sl, Value.category]) rfl ?_
  intro X g z
  refine v_blk g [.sipush 255, .istore_n 1, .iconst 0, .istore_n 2] (pc' := 6) (lv' := [(2, .int (0 : Int32)), (1, .int (255 : Int32)), (0, .ref a)]) (st' := []) (by decide +kernel) rfl rfl ?_
  have key : ∀ i, i ≤ 256 → zV F X h 6 [(2, .int (nI i)), (1, .int (nI (han f i))), (0, .ref a)] [] := by
    refine z_up (P := fun i => zV F X h 6 [(2, .int (nI i)), (1, .int (nI (han f i))), (0, .ref a)] []) 256 ?_ ?_
    · refine v_blk g [.iload_n 2, .sipush 256] (pc' := 10) (lv' := [(2, .int (nI 256)), (1, .int (nI (han f 256))), (0, .ref a)]) (st' := [.int (256 : Int32), .int (nI 256)]) (by decide +kernel) rfl rfl ?_
      refine v_icmp_ge g (off := 30) (tgt := 40) (by decide +kernel) (by decide) (fun _ => ?_) (fun c => absurd c (fun q => q (by decide)))
      refine v_blk g [.aload_n 0] (pc' := 41) (lv' := [(2, .int (nI 256)), (1, .int (nI (han f 256))), (0, .ref a)]) (st' := [.ref a]) (by decide +kernel) rfl rfl ?_
      refine v_callVp g (rest := []) (c_LS_aw ha hw) cl_X3_68 ha rfl rfl (Nat.le_of_ble_eq_true rfl) (by decide +kernel) ⟨Nat.le_of_ble_eq_true rfl, Nat.le_of_ble_eq_true rfl⟩ (zcsn 0 0 rfl rfl (Nat.le_of_ble_eq_true rfl) (Nat.le_of_ble_eq_true rfl)) ?_
      show zV F X h 44 [(2, .int (nI 256)), (1, .int (nI (han f 256))), (0, .ref a)] [.long (aw f 256)]
      refine v_blk g [.lstore_n 2, .iload_n 1, .bipush 6, .ishl] (pc' := 49) (lv' := [(2, .long (aw f 256)), (1, .int (nI (han f 256))), (0, .ref a)]) (st' := [.int ((nI (han f 256)) <<< ((6 : Int32) &&& (31 : Int32)))]) (by decide +kernel) rfl rfl ?_
      refine v_ti (z := nI (han f 256 * 64)) (sh6 (han_lt _)) ?_
      refine v_blk g [.istore 4, .iconst 0, .istore 5] (pc' := 54) (lv' := [(5, .int (0 : Int32)), (4, .int (nI (han f 256 * 64))), (2, .long (aw f 256)), (1, .int (nI (han f 256))), (0, .ref a)]) (st' := []) (by decide +kernel) rfl rfl ?_
      refine v_lv [0, 1, 2, 4] (lv' := [(5, .int (0 : Int32)), (4, .int (nI (han f 256 * 64))), (2, .long (aw f 256)), (0, .ref a)]) rfl ?_
      have key2 : ∀ i, i ≤ 6 → zV F X h 54 [(5, .int (nI i)), (4, .int (nI (han f 256 * 64 ||| lor (fun m => decide (aw f 256 &&& (wm m ^^^ (-1 : Int64)) = 0)) i))), (2, .long (aw f 256)), (0, .ref a)] [] := by
        refine z_up (P := fun i => zV F X h 54 [(5, .int (nI i)), (4, .int (nI (han f 256 * 64 ||| lor (fun m => decide (aw f 256 &&& (wm m ^^^ (-1 : Int64)) = 0)) i))), (2, .long (aw f 256)), (0, .ref a)] []) 6 ?_ ?_
        · refine v_blk g [.iload 5, .bipush 6] (pc' := 58) (lv' := [(5, .int (nI 6)), (4, .int (nI (han f 256 * 64 ||| lor (fun m => decide (aw f 256 &&& (wm m ^^^ (-1 : Int64)) = 0)) 6))), (2, .long (aw f 256)), (0, .ref a)]) (st' := [.int (6 : Int32), .int (nI 6)]) (by decide +kernel) rfl rfl ?_
          refine v_icmp_ge g (off := 39) (tgt := 97) (by decide +kernel) (by decide) (fun _ => ?_) (fun c => absurd c (fun q => q (by decide)))
          refine v_blk g [.iload 4] (pc' := 99) (lv' := [(5, .int (nI 6)), (4, .int (nI (han f 256 * 64 ||| lor (fun m => decide (aw f 256 &&& (wm m ^^^ (-1 : Int64)) = 0)) 6))), (2, .long (aw f 256)), (0, .ref a)]) (st' := [.int (nI (han f 256 * 64 ||| lor (fun m => decide (aw f 256 &&& (wm m ^^^ (-1 : Int64)) = 0)) 6))]) (by decide +kernel) rfl rfl ?_
          exact v_iret g z rfl (by decide +kernel) ⟨by rw [mi_all], rfl⟩ (zcrn 0 0 rfl rfl (Nat.le_of_ble_eq_true rfl) (Nat.le_of_ble_eq_true rfl))
        · intro i hi ih
          refine v_blk g [.iload 5, .bipush 6] (pc' := 58) (lv' := [(5, .int (nI i)), (4, .int (nI (han f 256 * 64 ||| lor (fun m => decide (aw f 256 &&& (wm m ^^^ (-1 : Int64)) = 0)) i))), (2, .long (aw f 256)), (0, .ref a)]) (st' := [.int (6 : Int32), .int (nI i)]) (by decide +kernel) rfl rfl ?_
          refine v_icmp_ge g (off := 39) (tgt := 97) (by decide +kernel) (by decide) (fun c => absurd c (nI_ge (b := 6) hi (by decide))) (fun _ => ?_)
          refine v_blk g [.iload 4, .lload_n 2] (pc' := 64) (lv' := [(5, .int (nI i)), (4, .int (nI (han f 256 * 64 ||| lor (fun m => decide (aw f 256 &&& (wm m ^^^ (-1 : Int64)) = 0)) i))), (2, .long (aw f 256)), (0, .ref a)]) (st' := [.long (aw f 256), .int (nI (han f 256 * 64 ||| lor (fun m => decide (aw f 256 &&& (wm m ^^^ (-1 : Int64)) = 0)) i))]) (by decide +kernel) rfl rfl ?_
          refine v_gets g sl_X3_55 (by decide +kernel) (fun t9 hT => ?_)
          refine v_blk g [.iload 5] (pc' := 69) (lv' := [(5, .int (nI i)), (4, .int (nI (han f 256 * 64 ||| lor (fun m => decide (aw f 256 &&& (wm m ^^^ (-1 : Int64)) = 0)) i))), (2, .long (aw f 256)), (0, .ref a)]) (st' := [.int (nI i), .ref t9, .long (aw f 256), .int (nI (han f 256 * 64 ||| lor (fun m => decide (aw f 256 &&& (wm m ^^^ (-1 : Int64)) = 0)) i))]) (by decide +kernel) rfl rfl ?_
          refine hT _ _ _ _ _ i rfl hi (by decide +kernel) ?_
          refine v_st (st' := [.long (wm i), .long (aw f 256), .int (nI (han f 256 * 64 ||| lor (fun m => decide (aw f 256 &&& (wm m ^^^ (-1 : Int64)) = 0)) i))]) (by rw [zWM_eq]) ?_
          refine v_ldc2 g kc_X3_33 (by decide +kernel) ?_
          refine v_blk g [.lxor, .land, .lconst 0, .lcmp] (pc' := 77) (lv' := [(5, .int (nI i)), (4, .int (nI (han f 256 * 64 ||| lor (fun m => decide (aw f 256 &&& (wm m ^^^ (-1 : Int64)) = 0)) i))), (2, .long (aw f 256)), (0, .ref a)]) (st' := [.int (lg_cmp ((aw f 256) &&& ((wm i) ^^^ (-1 : Int64))) (0 : Int64)), .int (nI (han f 256 * 64 ||| lor (fun m => decide (aw f 256 &&& (wm m ^^^ (-1 : Int64)) = 0)) i))]) (by decide +kernel) rfl rfl ?_
          refine v_if_ne g (off := 10) (tgt := 87) (by decide +kernel) (by decide) (fun c => ?_) (fun c => ?_)
          · refine v_blk g [.iconst 0, .ior, .istore 4, .iinc 5 1] (pc' := 94) (lv' := [(5, .int ((nI i) + (1 : Int32))), (4, .int ((nI (han f 256 * 64 ||| lor (fun m => decide (aw f 256 &&& (wm m ^^^ (-1 : Int64)) = 0)) i)) ||| (0 : Int32))), (2, .long (aw f 256)), (0, .ref a)]) (st' := []) (by decide +kernel) rfl rfl ?_
            refine v_lv [0, 1, 2, 3] (lv' := [(5, .int ((nI i) + (1 : Int32))), (4, .int ((nI (han f 256 * 64 ||| lor (fun m => decide (aw f 256 &&& (wm m ^^^ (-1 : Int64)) = 0)) i)) ||| (0 : Int32))), (2, .long (aw f 256)), (0, .ref a)]) rfl ?_
            have hp : ¬ (aw f 256 &&& (wm i ^^^ (-1 : Int64))) = 0 := fun q => c ((lg_cmp_eq _ _).mpr q)
            refine v_goto g (off := -40) (tgt := 54) (by decide +kernel) (by decide) ?_
            exact v_eq (by rw [nI_1, show (0 : Int32) = nI 0 from rfl, fa_or, Nat.or_zero, lor_f (by exact decide_eq_false hp)]) rfl ih
          · have hp : (aw f 256 &&& (wm i ^^^ (-1 : Int64))) = 0 := (lg_cmp_eq _ _).mp c
            refine v_blk g [.iconst 1, .iload 5, .ishl] (pc' := 84) (lv' := [(5, .int (nI i)), (4, .int (nI (han f 256 * 64 ||| lor (fun m => decide (aw f 256 &&& (wm m ^^^ (-1 : Int64)) = 0)) i))), (2, .long (aw f 256)), (0, .ref a)]) (st' := [.int ((1 : Int32) <<< ((nI i) &&& (31 : Int32))), .int (nI (han f 256 * 64 ||| lor (fun m => decide (aw f 256 &&& (wm m ^^^ (-1 : Int64)) = 0)) i))]) (by decide +kernel) rfl rfl ?_
            refine v_goto g (off := 4) (tgt := 88) (by decide +kernel) (by decide) ?_
            refine v_ti (z := nI (2 ^ i)) (sh1 hi) ?_
            refine v_blk g [.ior, .istore 4, .iinc 5 1] (pc' := 94) (lv' := [(5, .int ((nI i) + (1 : Int32))), (4, .int ((nI (han f 256 * 64 ||| lor (fun m => decide (aw f 256 &&& (wm m ^^^ (-1 : Int64)) = 0)) i)) ||| (nI (2 ^ i)))), (2, .long (aw f 256)), (0, .ref a)]) (st' := []) (by decide +kernel) rfl rfl ?_
            refine v_goto g (off := -40) (tgt := 54) (by decide +kernel) (by decide) ?_
            refine v_lv [0, 1, 2, 3] (lv' := [(5, .int ((nI i) + (1 : Int32))), (4, .int ((nI (han f 256 * 64 ||| lor (fun m => decide (aw f 256 &&& (wm m ^^^ (-1 : Int64)) = 0)) i)) ||| (nI (2 ^ i)))), (2, .long (aw f 256)), (0, .ref a)]) rfl ?_
            exact v_eq (by rw [nI_1, fa_or, Nat.or_assoc, lor_t (by exact decide_eq_true hp)]) rfl ih
      exact v_eq (by simp [lor]; rfl) rfl (key2 0 (by omega))
    · intro i hi ih
      refine v_blk g [.iload_n 2, .sipush 256] (pc' := 10) (lv' := [(2, .int (nI i)), (1, .int (nI (han f i))), (0, .ref a)]) (st' := [.int (256 : Int32), .int (nI i)]) (by decide +kernel) rfl rfl ?_
      refine v_icmp_ge g (off := 30) (tgt := 40) (by decide +kernel) (by decide) (fun c => absurd c (nI_ge (b := 256) hi (by decide))) (fun _ => ?_)
      refine v_blk g [.iload_n 1, .aload_n 0] (pc' := 15) (lv' := [(2, .int (nI i)), (1, .int (nI (han f i))), (0, .ref a)]) (st' := [.ref a, .int (nI (han f i))]) (by decide +kernel) rfl rfl ?_
      refine v_get g ha fl_X3_11 rfl (by decide +kernel) ?_
      refine v_blk g [.iload_n 2] (pc' := 19) (lv' := [(2, .int (nI i)), (1, .int (nI (han f i))), (0, .ref a)]) (st' := [.int (nI i), .ref w, .int (nI (han f i))]) (by decide +kernel) rfl rfl ?_
      refine v_lald g hw i rfl hi (Nat.le_of_ble_eq_true rfl) (by decide +kernel) ?_
      refine v_blk g [.lconst 0, .lcmp] (pc' := 22) (lv' := [(2, .int (nI i)), (1, .int (nI (han f i))), (0, .ref a)]) (st' := [.int (lg_cmp (f i) (0 : Int64)), .int (nI (han f i))]) (by decide +kernel) rfl rfl ?_
      refine v_if_eq g (off := 7) (tgt := 29) (by decide +kernel) (by decide) (fun c => ?_) (fun c => ?_)
      · have hz : f i = 0 := (lg_cmp_eq _ _).mp c
        refine v_blk g [.sipush 255, .iand, .istore_n 1, .iinc 2 1] (pc' := 37) (lv' := [(2, .int ((nI i) + (1 : Int32))), (1, .int ((nI (han f i)) &&& (255 : Int32))), (0, .ref a)]) (st' := []) (by decide +kernel) rfl rfl ?_
        refine v_goto g (off := -31) (tgt := 6) (by decide +kernel) (by decide) ?_
        refine v_lv [0, 1, 2] (lv' := [(2, .int ((nI i) + (1 : Int32))), (1, .int ((nI (han f i)) &&& (255 : Int32))), (0, .ref a)]) rfl ?_
        exact v_eq (by rw [nI_1, show (255 : Int32) = nI 255 from rfl, fa_and]; simp [han, hz]) rfl ih
      · have hz : ¬ f i = 0 := fun q => c ((lg_cmp_eq _ _).mpr q)
        refine v_blk g [.iload_n 2] (pc' := 26) (lv' := [(2, .int (nI i)), (1, .int (nI (han f i))), (0, .ref a)]) (st' := [.int (nI i), .int (nI (han f i))]) (by decide +kernel) rfl rfl ?_
        refine v_goto g (off := 6) (tgt := 32) (by decide +kernel) (by decide) ?_
        refine v_blk g [.iand, .istore_n 1, .iinc 2 1] (pc' := 37) (lv' := [(2, .int ((nI i) + (1 : Int32))), (1, .int ((nI (han f i)) &&& (nI i))), (0, .ref a)]) (st' := []) (by decide +kernel) rfl rfl ?_
        refine v_goto g (off := -31) (tgt := 6) (by decide +kernel) (by decide) ?_
        refine v_lv [0, 1, 2] (lv' := [(2, .int ((nI i) + (1 : Int32))), (1, .int ((nI (han f i)) &&& (nI i))), (0, .ref a)]) rfl ?_
        exact v_eq (by rw [nI_1, fa_and]; simp [han, hz]) rfl ih
  exact key 0 (by omega)
