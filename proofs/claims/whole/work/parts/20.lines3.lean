/-! the LineSet's questions -/
section VT
variable {F : zF} {X : zX} {h : zH} {pc : Nat} {lv : zLv} {st : List Value}
theorem v_ti {x z : Int32} (e : x = z) (kk : zV F X h pc lv (.int z :: st)) : zV F X h pc lv (.int x :: st) := by subst e; exact kk
theorem v_tl {x z : Int64} (e : x = z) (kk : zV F X h pc lv (.long z :: st)) : zV F X h pc lv (.long x :: st) := by subst e; exact kk
end VT
def wm (j : Nat) : Int64 := match j with
  | 0 => -6148914691236517206
  | 1 => -3689348814741910324
  | 2 => -1085102592571150096
  | 3 => -71777214294589696
  | 4 => -281470681808896
  | _ => -4294967296
theorem zWM_eq (j : Nat) : zWM j = .long (wm j) := by
  match j with
  | 0 => rfl
  | 1 => rfl
  | 2 => rfl
  | 3 => rfl
  | 4 => rfl
  | _ + 5 => rfl
theorem wm_bit {m j : Nat} (hm : m < 6) (hj : j < 64) : (uN (wm m)).testBit j = j.testBit m := by
  have h : ∀ m, m < 6 → ∀ j, j < 64 → (uN (wm m)).testBit j = j.testBit m := by decide +kernel
  exact h m hm j hj
theorem num_or {w j : Nat} (hw : w < 256) (hj : j < 64) : (nI w <<< ((6 : Int32) &&& (31 : Int32))) ||| nI j = nI (64 * w + j) := by
  rw [pk_shlN _ 6 (by decide) (by omega), Nat.mul_comm]
  exact fa_or_sum (k := 6) w hj
theorem lN0 (x : Int64) : x = 0 ↔ uN x = 0 := ⟨fun h => by rw [h]; rfl, fun h => uN_inj (h.trans rfl)⟩
/-- the lowest bit of a number goes -/
theorem low_off {y m : Nat} (hm : y.testBit m = true) (hl : ∀ i, i < m → y.testBit i = false) (i : Nat) : (y &&& (y - 1)).testBit i = (y.testBit i && decide (i ≠ m)) := by
  obtain ⟨q, hq⟩ := tz_bit hm hl
  have hp : 0 < 2 ^ m := Nat.pow_pos (by decide)
  have e2 : y - 1 = 2 ^ m * (2 * q) + (2 ^ m - 1) := by rw [hq, Nat.mul_add]; omega
  have e1 : y = 2 ^ m * (2 * q + 1) + 0 := by omega
  rw [Nat.testBit_and, e2]
  rcases Nat.lt_trichotomy i m with h | h | h
  · rw [hl i h]; simp
  · subst h
    rw [Nat.testBit_two_pow_mul_add _ (by omega : 2 ^ i - 1 < 2 ^ i)]
    simp
  · have e3 : (2 ^ m * (2 * q) + (2 ^ m - 1)).testBit i = y.testBit i := by
      rw [e1, Nat.testBit_two_pow_mul_add _ hp, Nat.testBit_two_pow_mul_add _ (by omega), if_neg (by omega), if_neg (by omega)]
      obtain ⟨j, hj2⟩ : ∃ j, i - m = j + 1 := ⟨i - m - 1, by omega⟩
      rw [hj2, Nat.testBit_succ, Nat.testBit_succ, show (2 * q + 1) / 2 = q by omega, show 2 * q / 2 = q by omega]
    rw [e3]
    simp [show i ≠ m by omega]
theorem xor0 {a b : Nat} (h : a ^^^ b = 0) : a = b := by
  apply Nat.eq_of_testBit_eq
  intro i
  have h1 := congrArg (fun q => q.testBit i) h
  simp only [Nat.testBit_xor, Nat.zero_testBit] at h1
  simpa using h1
def lor (p : Nat → Bool) : Nat → Nat
  | 0 => 0
  | m + 1 => lor p m ||| (if p m then 2 ^ m else 0)
theorem lor_bit (p : Nat → Bool) (q : Nat) : ∀ m, (lor p m).testBit q = (decide (q < m) && p q)
  | 0 => by simp [lor]
  | m + 1 => by
    unfold lor
    rw [Nat.testBit_or, lor_bit p q m]
    by_cases h : p m = true
    · rw [if_pos h, Nat.testBit_two_pow]
      by_cases h2 : q = m
      · subst h2; simp [h]
      · by_cases h3 : q < m
        · simp [h3, show q < m + 1 by omega, Ne.symm h2]
        · simp [h3, show ¬ q < m + 1 by omega, Ne.symm h2]
    · rw [if_neg h]
      by_cases h2 : q = m
      · subst h2
        have hf : p q = false := by
          cases hh : p q
          · rfl
          · exact absurd hh h
        simp [hf]
      · by_cases h3 : q < m
        · simp [h3, show q < m + 1 by omega]
        · simp [h3, show ¬ q < m + 1 by omega]
def aw (f : Nat → Int64) : Nat → Int64
  | 0 => 0
  | i + 1 => aw f i ||| f i
theorem aw_bit (f : Nat → Int64) (j : Nat) : ∀ n, (uN (aw f n)).testBit j = true ↔ ∃ w, w < n ∧ (uN (f w)).testBit j = true
  | 0 => by simp [aw, show uN 0 = 0 from rfl]
  | n + 1 => by
    unfold aw
    rw [uN_or', Nat.testBit_or, Bool.or_eq_true, aw_bit f j n]
    constructor
    · rintro (⟨w, h1, h2⟩ | h)
      · exact ⟨w, by omega, h2⟩
      · exact ⟨n, by omega, h⟩
    · rintro ⟨w, h1, h2⟩
      rcases Nat.lt_or_ge w n with q | q
      · exact Or.inl ⟨w, q, h2⟩
      · rw [show w = n by omega] at h2; exact Or.inr h2
theorem nz_bit {x : Nat} (hx : x < 2 ^ 64) : x ≠ 0 ↔ ∃ j, j < 64 ∧ x.testBit j = true := by
  constructor
  · intro h
    obtain ⟨k, h1, h2, -⟩ := tz_first 64 h hx
    exact ⟨k, h1, h2⟩
  · rintro ⟨j, -, h⟩ e
    rw [e] at h; simp at h

set_option maxRecDepth 100000 in
set_option maxHeartbeats 4000000 in
theorem c_LS_under {F : zF} {h : zH} {a w : Nat} {f : Nat → Int64} (ha : h.1 a = some (oB 3 [.ref w])) (hw : h.1 w = some (aJ 256 f)) {n : Nat} (hn : n ≤ 16384) : zMet F yX3_sizeUnder cX3_sizeUnder 5 (some .int) { frames := 2, cells := 0, slots := 0, locals := 60 } [.ref a, .int (nI n)] h (zP h (some (.int (nI (fb_ct (lb f) n))))) := by
  refine zMet_of (lv := [(0, .ref a), (1, .int (nI n))]) (by decide) (by simp [lg_sl, Value.category]) rfl ?_
  intro X g z
  refine v_blk g [.iload_n 1, .bipush 6, .ishr] (pc' := 4) (lv' := [(0, .ref a), (1, .int (nI n))]) (st' := [.int ((nI n) >>> ((6 : Int32) &&& (31 : Int32)))]) (by decide +kernel) rfl rfl ?_
  refine v_ti (z := nI (n / 64)) (pk_shrN (by omega) _ 6 (by decide)) ?_
  refine v_blk g [.sipush 256] (pc' := 7) (lv' := [(0, .ref a), (1, .int (nI n))]) (st' := [.int (256 : Int32), .int (nI (n / 64))]) (by decide +kernel) rfl rfl ?_
  refine v_mmin g xl_X3_58 (by decide +kernel) ⟨Nat.le_of_ble_eq_true rfl, Nat.le_of_ble_eq_true rfl⟩ (Nat.le_of_ble_eq_true rfl) (zcrn 0 0 rfl rfl (Nat.le_of_ble_eq_true rfl) (Nat.le_of_ble_eq_true rfl)) ?_
  refine v_ti (z := nI (n / 64)) (if_neg (nI_nlt (a := 256) (by omega) (by decide))) ?_
  refine v_blk g [.istore_n 2, .iconst 0, .istore_n 3, .iconst 0, .istore 4] (pc' := 16) (lv' := [(4, .int (0 : Int32)), (3, .int (0 : Int32)), (2, .int (nI (n / 64))), (0, .ref a), (1, .int (nI n))]) (st' := []) (by decide +kernel) rfl rfl ?_
  have key : ∀ i, i ≤ (n / 64) → zV F X h 16 [(4, .int (nI i)), (3, .int (nI (fb_ct (lb f) (64 * i)))), (2, .int (nI (n / 64))), (0, .ref a), (1, .int (nI n))] [] := by
    refine z_up (P := fun i => zV F X h 16 [(4, .int (nI i)), (3, .int (nI (fb_ct (lb f) (64 * i)))), (2, .int (nI (n / 64))), (0, .ref a), (1, .int (nI n))] []) (n / 64) ?_ ?_
    · refine v_blk g [.iload 4, .iload_n 2] (pc' := 19) (lv' := [(4, .int (nI (n / 64))), (3, .int (nI (fb_ct (lb f) (64 * (n / 64))))), (2, .int (nI (n / 64))), (0, .ref a), (1, .int (nI n))]) (st' := [.int (nI (n / 64)), .int (nI (n / 64))]) (by decide +kernel) rfl rfl ?_
      refine v_icmp_ge g (off := 22) (tgt := 41) (by decide +kernel) (by decide) (fun _ => ?_) (fun c => absurd c (fun q => q (nI_le (Nat.le_refl _) (by omega))))
      refine v_blk g [.iload_n 1, .bipush 63, .iand] (pc' := 45) (lv' := [(4, .int (nI (n / 64))), (3, .int (nI (fb_ct (lb f) (64 * (n / 64))))), (2, .int (nI (n / 64))), (0, .ref a), (1, .int (nI n))]) (st' := [.int ((nI n) &&& (63 : Int32))]) (by decide +kernel) rfl rfl ?_
      refine v_ti (z := nI (n % 64)) (pk_andN (by omega) 6 (by decide)) ?_
      refine v_blk g [.istore 4, .iload 4] (pc' := 49) (lv' := [(4, .int (nI (n % 64))), (3, .int (nI (fb_ct (lb f) (64 * (n / 64))))), (2, .int (nI (n / 64))), (0, .ref a), (1, .int (nI n))]) (st' := [.int (nI (n % 64))]) (by decide +kernel) rfl rfl ?_
      refine v_if_eq g (off := 33) (tgt := 82) (by decide +kernel) (by decide) (fun c => ?_) (fun c => ?_)
      · refine v_blk g [.iload_n 3] (pc' := 83) (lv' := [(4, .int (nI (n % 64))), (3, .int (nI (fb_ct (lb f) (64 * (n / 64))))), (2, .int (nI (n / 64))), (0, .ref a), (1, .int (nI n))]) (st' := [.int (nI (fb_ct (lb f) (64 * (n / 64))))]) (by decide +kernel) rfl rfl ?_
        exact v_iret g z rfl (by decide +kernel) ⟨by have h0 : n % 64 = 0 := (nI_eq (b := 0) (by omega) (by decide)).mp c; rw [show 64 * (n / 64) = n by omega], rfl⟩ (zcrn 0 0 rfl rfl (Nat.le_of_ble_eq_true rfl) (Nat.le_of_ble_eq_true rfl))
      · have h0 : n % 64 ≠ 0 := fun q => c (by rw [q]; rfl)
        refine v_blk g [.iload_n 2] (pc' := 53) (lv' := [(4, .int (nI (n % 64))), (3, .int (nI (fb_ct (lb f) (64 * (n / 64))))), (2, .int (nI (n / 64))), (0, .ref a), (1, .int (nI n))]) (st' := [.int (nI (n / 64))]) (by decide +kernel) rfl rfl ?_
        refine v_if_lt g (off := 29) (tgt := 82) (by decide +kernel) (by decide) (fun c => absurd c (nI_pos (by omega))) (fun _ => ?_)
        refine v_blk g [.iload_n 2, .sipush 256] (pc' := 60) (lv' := [(4, .int (nI (n % 64))), (3, .int (nI (fb_ct (lb f) (64 * (n / 64))))), (2, .int (nI (n / 64))), (0, .ref a), (1, .int (nI n))]) (st' := [.int (256 : Int32), .int (nI (n / 64))]) (by decide +kernel) rfl rfl ?_
        refine v_icmp_ge g (off := 22) (tgt := 82) (by decide +kernel) (by decide) (fun c => absurd c (nI_ge (b := 256) (by omega) (by decide))) (fun _ => ?_)
        refine v_blk g [.iload_n 3, .aload_n 0] (pc' := 65) (lv' := [(4, .int (nI (n % 64))), (3, .int (nI (fb_ct (lb f) (64 * (n / 64))))), (2, .int (nI (n / 64))), (0, .ref a), (1, .int (nI n))]) (st' := [.ref a, .int (nI (fb_ct (lb f) (64 * (n / 64))))]) (by decide +kernel) rfl rfl ?_
        refine v_get g ha fl_X3_11 rfl (by decide +kernel) ?_
        refine v_blk g [.iload_n 2] (pc' := 69) (lv' := [(4, .int (nI (n % 64))), (3, .int (nI (fb_ct (lb f) (64 * (n / 64))))), (2, .int (nI (n / 64))), (0, .ref a), (1, .int (nI n))]) (st' := [.int (nI (n / 64)), .ref w, .int (nI (fb_ct (lb f) (64 * (n / 64))))]) (by decide +kernel) rfl rfl ?_
        refine v_lald g hw (n / 64) rfl (by omega) (Nat.le_of_ble_eq_true rfl) (by decide +kernel) ?_
        refine v_blk g [.lconst 1, .iload 4, .lshl, .lconst 1, .lsub, .land] (pc' := 77) (lv' := [(4, .int (nI (n % 64))), (3, .int (nI (fb_ct (lb f) (64 * (n / 64))))), (2, .int (nI (n / 64))), (0, .ref a), (1, .int (nI n))]) (st' := [.long ((f (n / 64)) &&& (((1 : Int64) <<< ((nI (n % 64)).toInt64 &&& (63 : Int64))) - (1 : Int64))), .int (nI (fb_ct (lb f) (64 * (n / 64))))]) (by decide +kernel) rfl rfl ?_
        refine v_callSp g (rest := [.int (nI (fb_ct (lb f) (64 * (n / 64))))]) (c_bitCountL _) cl_X3_39 rfl (Nat.le_of_ble_eq_true rfl) (by decide +kernel) ⟨Nat.le_of_ble_eq_true rfl, Nat.le_of_ble_eq_true rfl⟩ (zcsn 0 0 rfl rfl (Nat.le_of_ble_eq_true rfl) (Nat.le_of_ble_eq_true rfl)) ?_
        show zV F X h 80 [(4, .int (nI (n % 64))), (3, .int (nI (fb_ct (lb f) (64 * (n / 64))))), (2, .int (nI (n / 64))), (0, .ref a), (1, .int (nI n))] [.int (nI (pc64 ((f (n / 64)) &&& (((1 : Int64) <<< ((nI (n % 64)).toInt64 &&& (63 : Int64))) - (1 : Int64))))), .int (nI (fb_ct (lb f) (64 * (n / 64))))]
        refine v_ti (z := nI (fb_ct (fun q => (uN (f (n / 64))).testBit q) (n % 64))) (by rw [pc_mask _ (by omega)]) ?_
        refine v_blk g [.iadd, .istore_n 3, .iload_n 3] (pc' := 83) (lv' := [(3, .int ((nI (fb_ct (lb f) (64 * (n / 64)))) + (nI (fb_ct (fun q => (uN (f (n / 64))).testBit q) (n % 64))))), (4, .int (nI (n % 64))), (2, .int (nI (n / 64))), (0, .ref a), (1, .int (nI n))]) (st' := [.int ((nI (fb_ct (lb f) (64 * (n / 64)))) + (nI (fb_ct (fun q => (uN (f (n / 64))).testBit q) (n % 64))))]) (by decide +kernel) rfl rfl ?_
        exact v_iret g z rfl (by decide +kernel) ⟨by rw [nI_add, ← lb_part f (n / 64) (by omega), show 64 * (n / 64) + n % 64 = n by omega], rfl⟩ (zcrn 0 0 rfl rfl (Nat.le_of_ble_eq_true rfl) (Nat.le_of_ble_eq_true rfl))
    · intro i hi ih
      refine v_blk g [.iload 4, .iload_n 2] (pc' := 19) (lv' := [(4, .int (nI i)), (3, .int (nI (fb_ct (lb f) (64 * i)))), (2, .int (nI (n / 64))), (0, .ref a), (1, .int (nI n))]) (st' := [.int (nI (n / 64)), .int (nI i)]) (by decide +kernel) rfl rfl ?_
      refine v_icmp_ge g (off := 22) (tgt := 41) (by decide +kernel) (by decide) (fun c => absurd c (nI_ge hi (by omega))) (fun _ => ?_)
      refine v_blk g [.iload_n 3, .aload_n 0] (pc' := 24) (lv' := [(4, .int (nI i)), (3, .int (nI (fb_ct (lb f) (64 * i)))), (2, .int (nI (n / 64))), (0, .ref a), (1, .int (nI n))]) (st' := [.ref a, .int (nI (fb_ct (lb f) (64 * i)))]) (by decide +kernel) rfl rfl ?_
      refine v_get g ha fl_X3_11 rfl (by decide +kernel) ?_
      refine v_blk g [.iload 4] (pc' := 29) (lv' := [(4, .int (nI i)), (3, .int (nI (fb_ct (lb f) (64 * i)))), (2, .int (nI (n / 64))), (0, .ref a), (1, .int (nI n))]) (st' := [.int (nI i), .ref w, .int (nI (fb_ct (lb f) (64 * i)))]) (by decide +kernel) rfl rfl ?_
      refine v_lald g hw i rfl (by omega) (Nat.le_of_ble_eq_true rfl) (by decide +kernel) ?_
      refine v_callSp g (rest := [.int (nI (fb_ct (lb f) (64 * i)))]) (c_bitCountL (f i)) cl_X3_39 rfl (Nat.le_of_ble_eq_true rfl) (by decide +kernel) ⟨Nat.le_of_ble_eq_true rfl, Nat.le_of_ble_eq_true rfl⟩ (zcsn 0 0 rfl rfl (Nat.le_of_ble_eq_true rfl) (Nat.le_of_ble_eq_true rfl)) ?_
      show zV F X h 33 [(4, .int (nI i)), (3, .int (nI (fb_ct (lb f) (64 * i)))), (2, .int (nI (n / 64))), (0, .ref a), (1, .int (nI n))] [.int (nI (pc64 (f i))), .int (nI (fb_ct (lb f) (64 * i)))]
      refine v_blk g [.iadd, .istore_n 3, .iinc 4 1] (pc' := 38) (lv' := [(4, .int ((nI i) + (1 : Int32))), (3, .int ((nI (fb_ct (lb f) (64 * i))) + (nI (pc64 (f i))))), (2, .int (nI (n / 64))), (0, .ref a), (1, .int (nI n))]) (st' := []) (by decide +kernel) rfl rfl ?_
      refine v_goto g (off := -22) (tgt := 16) (by decide +kernel) (by decide) ?_
      refine v_lv [0, 1, 2, 3, 4] (lv' := [(4, .int ((nI i) + (1 : Int32))), (3, .int ((nI (fb_ct (lb f) (64 * i))) + (nI (pc64 (f i))))), (2, .int (nI (n / 64))), (0, .ref a), (1, .int (nI n))]) rfl ?_
      exact v_eq (by rw [nI_add, nI_1, show 64 * (i + 1) = 64 * i + 64 by omega, lb_part f i (by omega)]; rfl) rfl ih
  exact key 0 (by omega)

set_option maxRecDepth 100000 in
set_option maxHeartbeats 4000000 in
theorem c_LS_place {F : zF} {h : zH} {x : Int64} {k j : Nat} (hj : j < 64) (hb : (uN x).testBit j = true) (hc : fb_ct (fun q => (uN x).testBit q) j = k) (hk : k ≤ 64) : zMet F yX3_placeOfBit cX3_placeOfBit 6 (some .int) { frames := 3, cells := 0, slots := 0, locals := 90 } [.long x, .int (nI k)] h (zP h (some (.int (nI j)))) := by
  refine zMet_of (lv := [(0, .long x), (2, .int (nI k))]) (by decide) (by simp [lg_sl, Value.category]) rfl ?_
  intro X g z
  refine v_blk g [.lload_n 0, .lstore_n 3, .iconst 0, .istore 5] (pc' := 5) (lv' := [(5, .int (0 : Int32)), (3, .long x), (0, .long x), (2, .int (nI k))]) (st' := []) (by decide +kernel) rfl rfl ?_
  have key : ∀ t, t ≤ k → ∀ y : Int64, (∀ j, j < 64 → (uN y).testBit j = ((uN x).testBit j && decide (t ≤ fb_ct (fun q => (uN x).testBit q) j))) → zV F X h 5 [(5, .int (nI t)), (3, .long y), (0, .long x), (2, .int (nI k))] [] := by
    refine z_up (P := fun t => ∀ y : Int64, (∀ j, j < 64 → (uN y).testBit j = ((uN x).testBit j && decide (t ≤ fb_ct (fun q => (uN x).testBit q) j))) → zV F X h 5 [(5, .int (nI t)), (3, .long y), (0, .long x), (2, .int (nI k))] []) k ?_ ?_
    · intro y hy
      refine v_blk g [.iload 5, .iload_n 2] (pc' := 8) (lv' := [(5, .int (nI k)), (3, .long y), (0, .long x), (2, .int (nI k))]) (st' := [.int (nI k), .int (nI k)]) (by decide +kernel) rfl rfl ?_
      refine v_icmp_ge g (off := 15) (tgt := 23) (by decide +kernel) (by decide) (fun _ => ?_) (fun c => absurd c (fun q => q (nI_le (Nat.le_refl _) (by omega))))
      refine v_blk g [.lload_n 3] (pc' := 24) (lv' := [(5, .int (nI k)), (3, .long y), (0, .long x), (2, .int (nI k))]) (st' := [.long y]) (by decide +kernel) rfl rfl ?_
      have hlow : ∀ q, q < j → (uN y).testBit q = false := fun q hq => by
        rw [hy q (by omega)]
        cases hxq : (uN x).testBit q
        · rfl
        · have h1 := fb_ct_mono (fun q => (uN x).testBit q) (show q + 1 ≤ j from hq)
          rw [fb_ct_succ, hxq, hc] at h1
          simp at h1 ⊢
          omega
      refine v_callSp g (rest := []) (c_ntzL (k := j) (by rw [hy j hj, hb, hc]; simp) hlow hj) cl_X3_44 rfl (Nat.le_of_ble_eq_true rfl) (by decide +kernel) ⟨Nat.le_of_ble_eq_true rfl, Nat.le_of_ble_eq_true rfl⟩ (zcsn 0 0 rfl rfl (Nat.le_of_ble_eq_true rfl) (Nat.le_of_ble_eq_true rfl)) ?_
      show zV F X h 27 [(5, .int (nI k)), (3, .long y), (0, .long x), (2, .int (nI k))] [.int (nI j)]
      exact v_iret g z rfl (by decide +kernel) ⟨rfl, rfl⟩ (zcrn 0 0 rfl rfl (Nat.le_of_ble_eq_true rfl) (Nat.le_of_ble_eq_true rfl))
    · intro t ht ih y hy
      refine v_blk g [.iload 5, .iload_n 2] (pc' := 8) (lv' := [(5, .int (nI t)), (3, .long y), (0, .long x), (2, .int (nI k))]) (st' := [.int (nI k), .int (nI t)]) (by decide +kernel) rfl rfl ?_
      refine v_icmp_ge g (off := 15) (tgt := 23) (by decide +kernel) (by decide) (fun c => absurd c (nI_ge ht (by omega))) (fun _ => ?_)
      refine v_blk g [.lload_n 3, .lload_n 3, .lconst 1, .lsub, .land, .lstore_n 3, .iinc 5 1] (pc' := 20) (lv' := [(5, .int ((nI t) + (1 : Int32))), (3, .long (y &&& (y - (1 : Int64)))), (0, .long x), (2, .int (nI k))]) (st' := []) (by decide +kernel) rfl rfl ?_
      refine v_goto g (off := -15) (tgt := 5) (by decide +kernel) (by decide) ?_
      obtain ⟨p, hp, hp2, hp3⟩ := fb_ct_kth (p := fun q => (uN x).testBit q) (k := t) (n := 64) (by have := fb_ct_mono (fun q => (uN x).testBit q) (show j ≤ 64 by omega); omega)
      have hyp : (uN y).testBit p = true := by rw [hy p hp, hp2, hp3]; simp
      have hlow : ∀ q, q < p → (uN y).testBit q = false := fun q hq => by
        rw [hy q (by omega)]
        cases hxq : (uN x).testBit q
        · rfl
        · have h1 := fb_ct_mono (fun q => (uN x).testBit q) (show q + 1 ≤ p from hq)
          rw [fb_ct_succ, hxq, hp3] at h1
          simp at h1 ⊢
          omega
      have hne : 1 ≤ uN y := by
        rcases Nat.eq_zero_or_pos (uN y) with q | q
        · rw [q] at hyp; simp at hyp
        · exact q
      refine v_lv [0, 1, 2, 3] (lv' := [(5, .int ((nI t) + (1 : Int32))), (3, .long (y &&& (y - (1 : Int64)))), (0, .long x), (2, .int (nI k))]) rfl ?_
      refine v_eq (by rw [nI_1]) rfl (ih _ (fun q hq => ?_))
      rw [uN_and, uN_sub _ _ (by show 1 ≤ uN y; exact hne)]
      show ((uN y) &&& (uN y - 1)).testBit q = _
      rw [low_off hyp hlow, hy q hq]
      cases hxq : (uN x).testBit q
      · simp
      · by_cases hqp : q = p
        · subst hqp; rw [hp3]; simp
        · have hc2 : fb_ct (fun q => (uN x).testBit q) q ≠ t := fun e => hqp (fb_ct_kth_one (p := fun q => (uN x).testBit q) hxq hp2 (e.trans hp3.symm))
          simp only [Bool.true_and, hqp, ne_eq, not_false_eq_true, decide_true, Bool.and_true]
          exact decide_eq_decide.mpr ⟨fun z => by omega, fun z => by omega⟩
  exact key 0 (by omega) x (fun q hq => by simp)

set_option maxRecDepth 100000 in
set_option maxHeartbeats 4000000 in
theorem c_LS_numberAt {F : zF} {h : zH} {a w : Nat} {f : Nat → Int64} (ha : h.1 a = some (oB 3 [.ref w])) (hw : h.1 w = some (aJ 256 f)) (v : Int32) : zMet F yX3_numberAt cX3_numberAt 5 (some .int) { frames := 4, cells := 0, slots := 0, locals := 120 } [.ref a, .int v] h (zP h (some (.int (s_line (lb f) v)))) := by
  refine zMet_of (lv := [(0, .ref a), (1, .int v)]) (by decide) (by simp [lg_sl, Value.category]) rfl ?_
  intro X g z
  refine v_blk g [.iload_n 1, .istore_n 2, .iconst 0, .istore_n 3] (pc' := 4) (lv' := [(3, .int (0 : Int32)), (2, .int v), (0, .ref a), (1, .int v)]) (st' := []) (by decide +kernel) rfl rfl ?_
  by_cases hv : v < 0
  · refine v_blk g [.iload_n 3, .sipush 256] (pc' := 8) (lv' := [(3, .int (0 : Int32)), (2, .int v), (0, .ref a), (1, .int v)]) (st' := [.int (256 : Int32), .int (0 : Int32)]) (by decide +kernel) rfl rfl ?_
    refine v_icmp_ge g (off := 51) (tgt := 59) (by decide +kernel) (by decide) (fun c => absurd c (by decide)) (fun _ => ?_)
    refine v_blk g [.iload_n 2] (pc' := 12) (lv' := [(3, .int (0 : Int32)), (2, .int v), (0, .ref a), (1, .int v)]) (st' := [.int v]) (by decide +kernel) rfl rfl ?_
    refine v_if_lt g (off := 47) (tgt := 59) (by decide +kernel) (by decide) (fun _ => ?_) (fun c => absurd c (fun q => q hv))
    refine v_blk g [.iconst (-1)] (pc' := 60) (lv' := [(3, .int (0 : Int32)), (2, .int v), (0, .ref a), (1, .int v)]) (st' := [.int (-1 : Int32)]) (by decide +kernel) rfl rfl ?_
    exact v_iret g z rfl (by decide +kernel) ⟨by rw [s_line, if_pos hv], rfl⟩ (zcrn 0 0 rfl rfl (Nat.le_of_ble_eq_true rfl) (Nat.le_of_ble_eq_true rfl))
  · obtain ⟨K, hK, rfl⟩ := nI_of hv
    rw [s_line, if_neg hv, nI_clamp hK] at z
    have key : ∀ i, i ≤ 256 → (fb_ct (lb f) (64 * i) ≤ K → zV F X h 4 [(3, .int (nI i)), (2, .int (nI (K - fb_ct (lb f) (64 * i)))), (0, .ref a), (1, .int (nI K))] []) := by
      refine z_up (P := fun i => (fb_ct (lb f) (64 * i) ≤ K → zV F X h 4 [(3, .int (nI i)), (2, .int (nI (K - fb_ct (lb f) (64 * i)))), (0, .ref a), (1, .int (nI K))] [])) 256 ?_ ?_
      · intro hle
        refine v_blk g [.iload_n 3, .sipush 256] (pc' := 8) (lv' := [(3, .int (nI 256)), (2, .int (nI (K - fb_ct (lb f) (64 * 256)))), (0, .ref a), (1, .int (nI K))]) (st' := [.int (256 : Int32), .int (nI 256)]) (by decide +kernel) rfl rfl ?_
        refine v_icmp_ge g (off := 51) (tgt := 59) (by decide +kernel) (by decide) (fun _ => ?_) (fun c => absurd c (fun q => q (by decide)))
        refine v_blk g [.iconst (-1)] (pc' := 60) (lv' := [(3, .int (nI 256)), (2, .int (nI (K - fb_ct (lb f) (64 * 256)))), (0, .ref a), (1, .int (nI K))]) (st' := [.int (-1 : Int32)]) (by decide +kernel) rfl rfl ?_
        exact v_iret g z rfl (by decide +kernel) ⟨by rw [if_neg (by rw [nth_none hle]; decide)], rfl⟩ (zcrn 0 0 rfl rfl (Nat.le_of_ble_eq_true rfl) (Nat.le_of_ble_eq_true rfl))
      · intro i hi ih hle
        have hpc : pc64 (f i) ≤ 64 := fb_ct_le _ 64
        have hnx : fb_ct (lb f) (64 * (i + 1)) = fb_ct (lb f) (64 * i) + pc64 (f i) := by rw [show 64 * (i + 1) = 64 * i + 64 by omega, lb_part f i (by omega)]; rfl
        refine v_blk g [.iload_n 3, .sipush 256] (pc' := 8) (lv' := [(3, .int (nI i)), (2, .int (nI (K - fb_ct (lb f) (64 * i)))), (0, .ref a), (1, .int (nI K))]) (st' := [.int (256 : Int32), .int (nI i)]) (by decide +kernel) rfl rfl ?_
        refine v_icmp_ge g (off := 51) (tgt := 59) (by decide +kernel) (by decide) (fun c => absurd c (nI_ge (b := 256) hi (by decide))) (fun _ => ?_)
        refine v_blk g [.iload_n 2] (pc' := 12) (lv' := [(3, .int (nI i)), (2, .int (nI (K - fb_ct (lb f) (64 * i)))), (0, .ref a), (1, .int (nI K))]) (st' := [.int (nI (K - fb_ct (lb f) (64 * i)))]) (by decide +kernel) rfl rfl ?_
        refine v_if_lt g (off := 47) (tgt := 59) (by decide +kernel) (by decide) (fun c => absurd c (nI_pos (by omega))) (fun _ => ?_)
        refine v_blk g [.aload_n 0] (pc' := 16) (lv' := [(3, .int (nI i)), (2, .int (nI (K - fb_ct (lb f) (64 * i)))), (0, .ref a), (1, .int (nI K))]) (st' := [.ref a]) (by decide +kernel) rfl rfl ?_
        refine v_get g ha fl_X3_11 rfl (by decide +kernel) ?_
        refine v_blk g [.iload_n 3] (pc' := 20) (lv' := [(3, .int (nI i)), (2, .int (nI (K - fb_ct (lb f) (64 * i)))), (0, .ref a), (1, .int (nI K))]) (st' := [.int (nI i), .ref w]) (by decide +kernel) rfl rfl ?_
        refine v_lald g hw i rfl hi (Nat.le_of_ble_eq_true rfl) (by decide +kernel) ?_
        refine v_callSp g (rest := []) (c_bitCountL (f i)) cl_X3_39 rfl (Nat.le_of_ble_eq_true rfl) (by decide +kernel) ⟨Nat.le_of_ble_eq_true rfl, Nat.le_of_ble_eq_true rfl⟩ (zcsn 0 0 rfl rfl (Nat.le_of_ble_eq_true rfl) (Nat.le_of_ble_eq_true rfl)) ?_
        show zV F X h 24 [(3, .int (nI i)), (2, .int (nI (K - fb_ct (lb f) (64 * i)))), (0, .ref a), (1, .int (nI K))] [.int (nI (pc64 (f i)))]
        refine v_blk g [.istore 4, .iload_n 2, .iload 4] (pc' := 29) (lv' := [(4, .int (nI (pc64 (f i)))), (3, .int (nI i)), (2, .int (nI (K - fb_ct (lb f) (64 * i)))), (0, .ref a), (1, .int (nI K))]) (st' := [.int (nI (pc64 (f i))), .int (nI (K - fb_ct (lb f) (64 * i)))]) (by decide +kernel) rfl rfl ?_
        refine v_icmp_ge g (off := 19) (tgt := 48) (by decide +kernel) (by decide) (fun c => ?_) (fun c => ?_)
        · have hge : pc64 (f i) ≤ K - fb_ct (lb f) (64 * i) := (nI_leI (by omega) (by omega)).mp c
          refine v_blk g [.iload_n 2, .iload 4, .isub, .istore_n 2, .iinc 3 1] (pc' := 56) (lv' := [(3, .int ((nI i) + (1 : Int32))), (2, .int ((nI (K - fb_ct (lb f) (64 * i))) - (nI (pc64 (f i))))), (4, .int (nI (pc64 (f i)))), (0, .ref a), (1, .int (nI K))]) (st' := []) (by decide +kernel) rfl rfl ?_
          refine v_goto g (off := -52) (tgt := 4) (by decide +kernel) (by decide) ?_
          refine v_lv [0, 1, 3, 4] (lv' := [(3, .int ((nI i) + (1 : Int32))), (2, .int ((nI (K - fb_ct (lb f) (64 * i))) - (nI (pc64 (f i))))), (0, .ref a), (1, .int (nI K))]) rfl ?_
          exact v_eq (by rw [nI_1, pk_sub hge, hnx, Nat.sub_add_eq]) rfl (ih (by omega))
        · have hlt : K - fb_ct (lb f) (64 * i) < pc64 (f i) := Nat.not_le.mp (fun q => c ((nI_leI (by omega) (by omega)).mpr q))
          obtain ⟨j, hj, hj2, hj3⟩ := fb_ct_kth (p := fun q => (uN (f i)).testBit q) hlt
          refine v_blk g [.iload_n 3, .bipush 6, .ishl, .aload_n 0] (pc' := 37) (lv' := [(4, .int (nI (pc64 (f i)))), (3, .int (nI i)), (2, .int (nI (K - fb_ct (lb f) (64 * i)))), (0, .ref a), (1, .int (nI K))]) (st' := [.ref a, .int ((nI i) <<< ((6 : Int32) &&& (31 : Int32)))]) (by decide +kernel) rfl rfl ?_
          refine v_get g ha fl_X3_11 rfl (by decide +kernel) ?_
          refine v_blk g [.iload_n 3] (pc' := 41) (lv' := [(4, .int (nI (pc64 (f i)))), (3, .int (nI i)), (2, .int (nI (K - fb_ct (lb f) (64 * i)))), (0, .ref a), (1, .int (nI K))]) (st' := [.int (nI i), .ref w, .int ((nI i) <<< ((6 : Int32) &&& (31 : Int32)))]) (by decide +kernel) rfl rfl ?_
          refine v_lald g hw i rfl hi (Nat.le_of_ble_eq_true rfl) (by decide +kernel) ?_
          refine v_blk g [.iload_n 2] (pc' := 43) (lv' := [(4, .int (nI (pc64 (f i)))), (3, .int (nI i)), (2, .int (nI (K - fb_ct (lb f) (64 * i)))), (0, .ref a), (1, .int (nI K))]) (st' := [.int (nI (K - fb_ct (lb f) (64 * i))), .long (f i), .int ((nI i) <<< ((6 : Int32) &&& (31 : Int32)))]) (by decide +kernel) rfl rfl ?_
          refine v_callSp g (rest := [.int ((nI i) <<< ((6 : Int32) &&& (31 : Int32)))]) (c_LS_place hj hj2 hj3 (by omega)) cl_X3_64 rfl (Nat.le_of_ble_eq_true rfl) (by decide +kernel) ⟨Nat.le_of_ble_eq_true rfl, Nat.le_of_ble_eq_true rfl⟩ (zcsn 0 0 rfl rfl (Nat.le_of_ble_eq_true rfl) (Nat.le_of_ble_eq_true rfl)) ?_
          show zV F X h 46 [(4, .int (nI (pc64 (f i)))), (3, .int (nI i)), (2, .int (nI (K - fb_ct (lb f) (64 * i)))), (0, .ref a), (1, .int (nI K))] [.int (nI j), .int ((nI i) <<< ((6 : Int32) &&& (31 : Int32)))]
          refine v_blk g [.ior] (pc' := 47) (lv' := [(4, .int (nI (pc64 (f i)))), (3, .int (nI i)), (2, .int (nI (K - fb_ct (lb f) (64 * i)))), (0, .ref a), (1, .int (nI K))]) (st' := [.int (((nI i) <<< ((6 : Int32) &&& (31 : Int32))) ||| (nI j))]) (by decide +kernel) rfl rfl ?_
          exact v_iret g z rfl (by decide +kernel) ⟨by have hn : s_nth (lb f) K = 64 * i + j := by { have h1 := nth_is (S := lb f) (n := 64 * i + j) (by omega) (by rw [lb_at f i hj]; exact hj2); rw [lb_part f i (by omega), hj3, show fb_ct (lb f) (64 * i) + (K - fb_ct (lb f) (64 * i)) = K by omega] at h1; exact h1 }; rw [hn, if_pos (by omega), num_or hi hj], rfl⟩ (zcrn 0 0 rfl rfl (Nat.le_of_ble_eq_true rfl) (Nat.le_of_ble_eq_true rfl))
    exact key 0 (by omega) (Nat.zero_le _)

set_option maxRecDepth 100000 in
set_option maxHeartbeats 4000000 in
theorem c_LS_least {F : zF} {h : zH} {a w b u : Nat} {f f2 : Nat → Int64} (ha : h.1 a = some (oB 3 [.ref w])) (hw : h.1 w = some (aJ 256 f)) (hb : h.1 b = some (oB 3 [.ref u])) (hu : h.1 u = some (aJ 256 f2)) : zMet F yX3_leastInJustOne cX3_leastInJustOne 5 (some .int) { frames := 3, cells := 0, slots := 0, locals := 90 } [.ref a, .ref b] h (zP h (some (.int (s_unl (lb f) (lb f2))))) := by
  refine zMet_of (lv := [(0, .ref a), (1, .ref b)]) (by decide) (by simp [lg_sl, Value.category]) rfl ?_
  intro X g z
  refine v_blk g [.iconst 0, .istore_n 2] (pc' := 2) (lv' := [(2, .int (0 : Int32)), (0, .ref a), (1, .ref b)]) (st' := []) (by decide +kernel) rfl rfl ?_
  have key : ∀ i, i ≤ 256 → ((∀ n, n < 64 * i → lb f n = lb f2 n) → zV F X h 2 [(2, .int (nI i)), (0, .ref a), (1, .ref b)] []) := by
    refine z_up (P := fun i => ((∀ n, n < 64 * i → lb f n = lb f2 n) → zV F X h 2 [(2, .int (nI i)), (0, .ref a), (1, .ref b)] [])) 256 ?_ ?_
    · intro hall
      refine v_blk g [.iload_n 2, .sipush 256] (pc' := 6) (lv' := [(2, .int (nI 256)), (0, .ref a), (1, .ref b)]) (st' := [.int (256 : Int32), .int (nI 256)]) (by decide +kernel) rfl rfl ?_
      refine v_icmp_ge g (off := 39) (tgt := 45) (by decide +kernel) (by decide) (fun _ => ?_) (fun c => absurd c (fun q => q (by decide)))
      refine v_blk g [.iconst (-1)] (pc' := 46) (lv' := [(2, .int (nI 256)), (0, .ref a), (1, .ref b)]) (st' := [.int (-1 : Int32)]) (by decide +kernel) rfl rfl ?_
      exact v_iret g z rfl (by decide +kernel) ⟨by rw [s_unl, first_none (fun q hq => by rw [hall q hq]; simp)]; rfl, rfl⟩ (zcrn 0 0 rfl rfl (Nat.le_of_ble_eq_true rfl) (Nat.le_of_ble_eq_true rfl))
    · intro i hi ih hall
      refine v_blk g [.iload_n 2, .sipush 256] (pc' := 6) (lv' := [(2, .int (nI i)), (0, .ref a), (1, .ref b)]) (st' := [.int (256 : Int32), .int (nI i)]) (by decide +kernel) rfl rfl ?_
      refine v_icmp_ge g (off := 39) (tgt := 45) (by decide +kernel) (by decide) (fun c => absurd c (nI_ge (b := 256) hi (by decide))) (fun _ => ?_)
      refine v_blk g [.aload_n 0] (pc' := 10) (lv' := [(2, .int (nI i)), (0, .ref a), (1, .ref b)]) (st' := [.ref a]) (by decide +kernel) rfl rfl ?_
      refine v_get g ha fl_X3_11 rfl (by decide +kernel) ?_
      refine v_blk g [.iload_n 2] (pc' := 14) (lv' := [(2, .int (nI i)), (0, .ref a), (1, .ref b)]) (st' := [.int (nI i), .ref w]) (by decide +kernel) rfl rfl ?_
      refine v_lald g hw i rfl hi (Nat.le_of_ble_eq_true rfl) (by decide +kernel) ?_
      refine v_blk g [.aload_n 1] (pc' := 16) (lv' := [(2, .int (nI i)), (0, .ref a), (1, .ref b)]) (st' := [.ref b, .long (f i)]) (by decide +kernel) rfl rfl ?_
      refine v_get g hb fl_X3_11 rfl (by decide +kernel) ?_
      refine v_blk g [.iload_n 2] (pc' := 20) (lv' := [(2, .int (nI i)), (0, .ref a), (1, .ref b)]) (st' := [.int (nI i), .ref u, .long (f i)]) (by decide +kernel) rfl rfl ?_
      refine v_lald g hu i rfl hi (Nat.le_of_ble_eq_true rfl) (by decide +kernel) ?_
      refine v_blk g [.lxor, .lstore_n 3, .lload_n 3, .lconst 0, .lcmp] (pc' := 26) (lv' := [(3, .long ((f i) ^^^ (f2 i))), (2, .int (nI i)), (0, .ref a), (1, .ref b)]) (st' := [.int (lg_cmp ((f i) ^^^ (f2 i)) (0 : Int64))]) (by decide +kernel) rfl rfl ?_
      refine v_if_eq g (off := 13) (tgt := 39) (by decide +kernel) (by decide) (fun c => ?_) (fun c => ?_)
      · have he : f i = f2 i := by
          have h0 := (lN0 _).mp ((lg_cmp_eq _ _).mp c)
          rw [uN_xor'] at h0
          exact uN_inj (xor0 h0)
        refine v_blk g [.iinc 2 1] (pc' := 42) (lv' := [(2, .int ((nI i) + (1 : Int32))), (3, .long ((f i) ^^^ (f2 i))), (0, .ref a), (1, .ref b)]) (st' := []) (by decide +kernel) rfl rfl ?_
        refine v_goto g (off := -40) (tgt := 2) (by decide +kernel) (by decide) ?_
        refine v_lv [0, 2, 3] (lv' := [(2, .int ((nI i) + (1 : Int32))), (0, .ref a), (1, .ref b)]) rfl ?_
        refine v_eq (by rw [nI_1]) rfl (ih (fun n hn => ?_))
        rcases Nat.lt_or_ge n (64 * i) with q | q
        · exact hall n q
        · rw [show n = 64 * i + (n - 64 * i) by omega, lb_at f i (by omega), lb_at f2 i (by omega), he]
      · have hx0 : uN (f i ^^^ f2 i) ≠ 0 := fun q => c ((lg_cmp_eq _ _).mpr ((lN0 _).mpr q))
        obtain ⟨j, hj, hj2, hj3⟩ := tz_first 64 hx0 (uN_lt _)
        refine v_blk g [.iload_n 2, .bipush 6, .ishl, .lload_n 3] (pc' := 34) (lv' := [(3, .long ((f i) ^^^ (f2 i))), (2, .int (nI i)), (0, .ref a), (1, .ref b)]) (st' := [.long ((f i) ^^^ (f2 i)), .int ((nI i) <<< ((6 : Int32) &&& (31 : Int32)))]) (by decide +kernel) rfl rfl ?_
        refine v_callSp g (rest := [.int ((nI i) <<< ((6 : Int32) &&& (31 : Int32)))]) (c_ntzL hj2 hj3 hj) cl_X3_44 rfl (Nat.le_of_ble_eq_true rfl) (by decide +kernel) ⟨Nat.le_of_ble_eq_true rfl, Nat.le_of_ble_eq_true rfl⟩ (zcsn 0 0 rfl rfl (Nat.le_of_ble_eq_true rfl) (Nat.le_of_ble_eq_true rfl)) ?_
        show zV F X h 37 [(3, .long ((f i) ^^^ (f2 i))), (2, .int (nI i)), (0, .ref a), (1, .ref b)] [.int (nI j), .int ((nI i) <<< ((6 : Int32) &&& (31 : Int32)))]
        refine v_blk g [.ior] (pc' := 38) (lv' := [(3, .long ((f i) ^^^ (f2 i))), (2, .int (nI i)), (0, .ref a), (1, .ref b)]) (st' := [.int (((nI i) <<< ((6 : Int32) &&& (31 : Int32))) ||| (nI j))]) (by decide +kernel) rfl rfl ?_
        have hn : fa_first (fun n => lb f n != lb f2 n) 16384 = 64 * i + j := by
          refine first_is (by omega) ?_ (fun n hn => ?_)
          · rw [lb_at f i hj, lb_at f2 i hj]
            rw [uN_xor', Nat.testBit_xor] at hj2
            simpa using hj2
          · rcases Nat.lt_or_ge n (64 * i) with q | q
            · rw [hall n q]; simp
            · have h2 := hj3 (n - 64 * i) (by omega)
              rw [uN_xor', Nat.testBit_xor] at h2
              rw [show n = 64 * i + (n - 64 * i) by omega, lb_at f i (by omega), lb_at f2 i (by omega)]
              simpa using h2
        exact v_iret g z rfl (by decide +kernel) ⟨by rw [s_unl, hn, if_pos (by omega), num_or hi hj], rfl⟩ (zcrn 0 0 rfl rfl (Nat.le_of_ble_eq_true rfl) (Nat.le_of_ble_eq_true rfl))
  exact key 0 (by omega) (fun n hn => absurd hn (by omega))

set_option maxRecDepth 100000 in
set_option maxHeartbeats 4000000 in
theorem c_LS_aw {F : zF} {h : zH} {a w : Nat} {f : Nat → Int64} (ha : h.1 a = some (oB 3 [.ref w])) (hw : h.1 w = some (aJ 256 f)) : zMet F yX3_allWordsAsOne cX3_allWordsAsOne 4 (some .long) { frames := 1, cells := 0, slots := 0, locals := 30 } [.ref a] h (zP h (some (.long (aw f 256)))) := by
  refine zMet_of (lv := [(0, .ref a)]) (by decide) (by simp [lg_sl, Value.category]) rfl ?_
  intro X g z
  refine v_blk g [.lconst 0, .lstore_n 1, .iconst 0, .istore_n 3] (pc' := 4) (lv' := [(3, .int (0 : Int32)), (1, .long (0 : Int64)), (0, .ref a)]) (st' := []) (by decide +kernel) rfl rfl ?_
  have key : ∀ i, i ≤ 256 → zV F X h 4 [(3, .int (nI i)), (1, .long (aw f i)), (0, .ref a)] [] := by
    refine z_up (P := fun i => zV F X h 4 [(3, .int (nI i)), (1, .long (aw f i)), (0, .ref a)] []) 256 ?_ ?_
    · refine v_blk g [.iload_n 3, .sipush 256] (pc' := 8) (lv' := [(3, .int (nI 256)), (1, .long (aw f 256)), (0, .ref a)]) (st' := [.int (256 : Int32), .int (nI 256)]) (by decide +kernel) rfl rfl ?_
      refine v_icmp_ge g (off := 18) (tgt := 26) (by decide +kernel) (by decide) (fun _ => ?_) (fun c => absurd c (fun q => q (by decide)))
      refine v_blk g [.lload_n 1] (pc' := 27) (lv' := [(3, .int (nI 256)), (1, .long (aw f 256)), (0, .ref a)]) (st' := [.long (aw f 256)]) (by decide +kernel) rfl rfl ?_
      exact v_lret g z rfl (by decide +kernel) ⟨rfl, rfl⟩ (zcrn 0 0 rfl rfl (Nat.le_of_ble_eq_true rfl) (Nat.le_of_ble_eq_true rfl))
    · intro i hi ih
      refine v_blk g [.iload_n 3, .sipush 256] (pc' := 8) (lv' := [(3, .int (nI i)), (1, .long (aw f i)), (0, .ref a)]) (st' := [.int (256 : Int32), .int (nI i)]) (by decide +kernel) rfl rfl ?_
      refine v_icmp_ge g (off := 18) (tgt := 26) (by decide +kernel) (by decide) (fun c => absurd c (nI_ge (b := 256) hi (by decide))) (fun _ => ?_)
      refine v_blk g [.lload_n 1, .aload_n 0] (pc' := 13) (lv' := [(3, .int (nI i)), (1, .long (aw f i)), (0, .ref a)]) (st' := [.ref a, .long (aw f i)]) (by decide +kernel) rfl rfl ?_
      refine v_get g ha fl_X3_11 rfl (by decide +kernel) ?_
      refine v_blk g [.iload_n 3] (pc' := 17) (lv' := [(3, .int (nI i)), (1, .long (aw f i)), (0, .ref a)]) (st' := [.int (nI i), .ref w, .long (aw f i)]) (by decide +kernel) rfl rfl ?_
      refine v_lald g hw i rfl hi (Nat.le_of_ble_eq_true rfl) (by decide +kernel) ?_
      refine v_blk g [.lor, .lstore_n 1, .iinc 3 1] (pc' := 23) (lv' := [(3, .int ((nI i) + (1 : Int32))), (1, .long ((aw f i) ||| (f i))), (0, .ref a)]) (st' := []) (by decide +kernel) rfl rfl ?_
      refine v_goto g (off := -19) (tgt := 4) (by decide +kernel) (by decide) ?_
      refine v_lv [0, 1, 2] (lv' := [(3, .int ((nI i) + (1 : Int32))), (1, .long ((aw f i) ||| (f i))), (0, .ref a)]) rfl ?_
      exact v_eq (by rw [nI_1]; rfl) rfl ih
  exact key 0 (by omega)
