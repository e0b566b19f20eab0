/-! the Scale: weighing, and its questions -/
def wO (O : Nat → Int32) (v : Nat → Nat) (o m : Nat) : Nat := if O m < 0 then o else v (O m).toNatClampNeg
def x_bits (L : Nat → Int64) (x : Int32) : Int64 := if 0 < x then (if x ≤ 54 then L x.toNatClampNeg else 0) else -1
def okLow (L : Nat → Int64) (W : Nat → Nat) : Prop := ∀ p, p < 55 → ∀ n, n < 64 → (uN (L p)).testBit n = decide (p ≤ wS W 0 n 6)
theorem x_bits_at {L : Nat → Int64} {W : Nat → Nat} (hL : okLow L W) (hW : ∀ m, W m ≤ 9) {p H j : Nat} (hp : p ≤ 200) (hp0 : 0 < p) (hH : H ≤ 200) (hj : j < 64) : (uN (x_bits L (nI p - nI H))).testBit j = decide (p ≤ H + wS W 0 j 6) := by
  have hs := wS_le hW 0 j 6
  unfold x_bits
  rcases Nat.lt_or_ge H p with q | q
  · have g0 : (0 : Int32) < nI (p - H) := nI_lt (a := 0) (by omega) (by omega)
    rw [pk_sub (by omega), if_pos g0]
    by_cases h54 : p - H ≤ 54
    · have g1 : nI (p - H) ≤ (54 : Int32) := nI_le (b := 54) h54 (by decide)
      rw [if_pos g1, nI_clamp (by omega), hL _ (by omega) j hj]
      exact decide_eq_decide.mpr ⟨fun z => by omega, fun z => by omega⟩
    · have g1 : ¬ nI (p - H) ≤ (54 : Int32) := nI_ge (a := 54) (by omega) (by omega)
      rw [if_neg g1]
      rw [show uN 0 = 0 from rfl, Nat.zero_testBit]
      symm
      exact decide_eq_false (by omega)
  · rw [if_neg]
    · have hm1 : ∀ j, j < 64 → (uN (-1 : Int64)).testBit j = true := by decide +kernel
      rw [hm1 j hj]
      symm
      exact decide_eq_true (by omega)
    · intro h0
      have h1 := Int32.lt_iff_toInt_lt.mp h0
      rw [pk_sub_toInt (by omega) (by omega)] at h1
      have h2 : (0 : Int32).toInt = 0 := rfl
      omega
def s_from (S : Nat → Bool) (W : Nat → Nat) (v : Int32) : Nat := fb_ct (fun n => S n && decide (v.toInt ≤ (wt W n : Int))) 16384
def isTop (S : Nat → Bool) (W : Nat → Nat) (k : Nat) (M : Int) : Prop := (∀ n, n < k → S n = true → (wt W n : Int) ≤ M) ∧ (M = -1 ∨ ∃ n, n < k ∧ S n = true ∧ (wt W n : Int) = M)
theorem isTop_one {S : Nat → Bool} {W : Nat → Nat} {k : Nat} {M N : Int} (h1 : isTop S W k M) (h2 : isTop S W k N) : M = N := by
  obtain ⟨a1, a2⟩ := h1
  obtain ⟨b1, b2⟩ := h2
  rcases a2 with a2 | ⟨n, n1, n2, n3⟩ <;> rcases b2 with b2 | ⟨m, m1, m2, m3⟩
  · omega
  · have := a1 m m1 m2; omega
  · have := b1 n n1 n2; omega
  · have := a1 m m1 m2; have := b1 n n1 n2; omega

set_option maxRecDepth 100000 in
set_option maxHeartbeats 4000000 in
theorem c_Sc_bitsFrom {F : zF} {h : zH} {a wa la ha9 fa : Nat} {ff : Nat → Int64} (ha : h.1 a = some (oB 5 [.ref wa, .ref la, .ref ha9, .ref fa])) (hfa : h.1 fa = some (aJ 55 ff)) (x : Int32) : zMet F yX5_bitsFrom cX5_bitsFrom 2 (some .long) { frames := 1, cells := 0, slots := 0, locals := 30 } [.ref a, .int x] h (zP h (some (.long (x_bits ff x)))) := by
  refine zMet_of (lv := [(0, .ref a), (1, .int x)]) (by decide) (by simp [lg_sl, Value.category]) rfl ?_
  intro X g z
  refine v_blk g [.iload_n 1] (pc' := 1) (lv' := [(0, .ref a), (1, .int x)]) (st' := [.int x]) (by decide +kernel) rfl rfl ?_
  refine v_if_gt g (off := 7) (tgt := 8) (by decide +kernel) (by decide) (fun c => ?_) (fun c => ?_)
  · refine v_blk g [.iload_n 1, .bipush 54] (pc' := 11) (lv' := [(0, .ref a), (1, .int x)]) (st' := [.int (54 : Int32), .int x]) (by decide +kernel) rfl rfl ?_
    refine v_icmp_le g (off := 7) (tgt := 18) (by decide +kernel) (by decide) (fun c1 => ?_) (fun c1 => ?_)
    · obtain ⟨k, hk, rfl⟩ : ∃ k : Nat, k < 55 ∧ x = nI k := by
        rcases pk_ix x (n := 55) (by decide) with q | q | ⟨k, q1, q2⟩
        · exact absurd q (fa_of_lt c).2.2.1
        · exact absurd (fa_trans (fa_of_nle (show ¬ (55 : Int32) ≤ 54 by decide)) q) (fun z => by have := Int32.lt_iff_toInt_lt.mp z; have := Int32.le_iff_toInt_le.mp c1; omega)
        · exact ⟨k, q1, q2⟩
      refine v_blk g [.aload_n 0] (pc' := 19) (lv' := [(0, .ref a), (1, .int (nI k))]) (st' := [.ref a]) (by decide +kernel) rfl rfl ?_
      refine v_get g ha fl_X5_23 rfl (by decide +kernel) ?_
      refine v_blk g [.iload_n 1] (pc' := 23) (lv' := [(0, .ref a), (1, .int (nI k))]) (st' := [.int (nI k), .ref fa]) (by decide +kernel) rfl rfl ?_
      refine v_lald g hfa k rfl hk (Nat.le_of_ble_eq_true rfl) (by decide +kernel) ?_
      exact v_lret g z rfl (by decide +kernel) ⟨by rw [x_bits, if_pos c, if_pos c1, nI_clamp (by omega)], rfl⟩ (zcrn 0 0 rfl rfl (Nat.le_of_ble_eq_true rfl) (Nat.le_of_ble_eq_true rfl))
    · refine v_blk g [.lconst 0] (pc' := 15) (lv' := [(0, .ref a), (1, .int x)]) (st' := [.long (0 : Int64)]) (by decide +kernel) rfl rfl ?_
      refine v_goto g (off := 9) (tgt := 24) (by decide +kernel) (by decide) ?_
      exact v_lret g z rfl (by decide +kernel) ⟨by rw [x_bits, if_pos c, if_neg c1], rfl⟩ (zcrn 0 0 rfl rfl (Nat.le_of_ble_eq_true rfl) (Nat.le_of_ble_eq_true rfl))
  · refine v_ldc2 g kc_X5_63 (by decide +kernel) ?_
    exact v_lret g z rfl (by decide +kernel) ⟨by rw [x_bits, if_neg c], rfl⟩ (zcrn 0 0 rfl rfl (Nat.le_of_ble_eq_true rfl) (Nat.le_of_ble_eq_true rfl))

theorem s_from_low (f : Nat → Int64) (W : Nat → Nat) {v : Int32} (h : ¬ 0 < v) : s_from (lb f) W v = fb_ct (lb f) 16384 := by
  have h1 : v.toInt ≤ 0 := by
    rcases Int.lt_or_le 0 v.toInt with q | q
    · have q2 : (0 : Int32).toInt < v.toInt := q
      exact absurd (Int32.lt_iff_toInt_lt.mpr q2) h
    · exact q
  exact fb_ct_cong (fun n _ => by rw [decide_eq_true (by omega), Bool.and_true])
theorem s_from_high (f : Nat → Int64) {W : Nat → Nat} (hW : ∀ m, W m ≤ 9) {v : Int32} (h : ¬ v ≤ 126) : s_from (lb f) W v = 0 := by
  have h1 : ¬ v.toInt ≤ 126 := fun q => h (Int32.le_iff_toInt_le.mpr q)
  refine fb_ct_zero.mpr (fun n _ => ?_)
  have := wS_le hW 0 n 14
  rw [decide_eq_false (by unfold wt; omega), Bool.and_false]
theorem s_from_part (f : Nat → Int64) {W : Nat → Nat} {L : Nat → Int64} (hL : okLow L W) (hW : ∀ m, W m ≤ 9) {p i : Nat} (hp : p ≤ 200) (hp0 : 0 < p) : fb_ct (fun n => lb f n && decide ((nI p).toInt ≤ (wt W n : Int))) (64 * (i + 1)) = fb_ct (fun n => lb f n && decide ((nI p).toInt ≤ (wt W n : Int))) (64 * i) + pc64 (f i &&& x_bits L (nI p - nI (wS W 6 i 8))) := by
  rw [show 64 * (i + 1) = 64 * i + 64 by omega, fb_ct_split]
  congr 1
  refine fb_ct_cong (fun j hj => ?_)
  have h8 := wS_le hW 6 i 8
  rw [lb_at f i hj, uN_and, Nat.testBit_and, x_bits_at hL hW hp hp0 (by omega) hj, wt_split W hj, nI_toInt (by omega)]
  congr 1
  exact decide_eq_decide.mpr ⟨fun z => by omega, fun z => by omega⟩

set_option maxRecDepth 100000 in
set_option maxHeartbeats 4000000 in
theorem c_Sc_sizeFrom {F : zF} {h : zH} {a wa la ha9 fa b u : Nat} {hf : Nat → Int32} {ff f : Nat → Int64} {W : Nat → Nat} (ha : h.1 a = some (oB 5 [.ref wa, .ref la, .ref ha9, .ref fa])) (hha : h.1 ha9 = some (aI 256 hf)) (hfa : h.1 fa = some (aJ 55 ff)) (hb : h.1 b = some (oB 3 [.ref u])) (hu : h.1 u = some (aJ 256 f)) (hW : ∀ m, W m ≤ 9) (hhf : nIs hf (fun q => wS W 6 q 8) 256) (hff : okLow ff W) (v : Int32) : zMet F yX5_sizeFrom cX5_sizeFrom 5 (some .int) { frames := 3, cells := 0, slots := 0, locals := 90 } [.ref a, .ref b, .int v] h (zP h (some (.int (nI (s_from (lb f) W v))))) := by
  refine zMet_of (lv := [(0, .ref a), (1, .ref b), (2, .int v)]) (by decide) (by simp [lg_sl, Value.category]) rfl ?_
  intro X g z
  refine v_blk g [.iload_n 2] (pc' := 1) (lv' := [(0, .ref a), (1, .ref b), (2, .int v)]) (st' := [.int v]) (by decide +kernel) rfl rfl ?_
  refine v_if_gt g (off := 8) (tgt := 9) (by decide +kernel) (by decide) (fun c => ?_) (fun c => ?_)
  · refine v_blk g [.iload_n 2, .bipush 126] (pc' := 12) (lv' := [(0, .ref a), (1, .ref b), (2, .int v)]) (st' := [.int (126 : Int32), .int v]) (by decide +kernel) rfl rfl ?_
    refine v_icmp_le g (off := 5) (tgt := 17) (by decide +kernel) (by decide) (fun c1 => ?_) (fun c1 => ?_)
    · obtain ⟨p, hp, rfl⟩ : ∃ p : Nat, p < 127 ∧ v = nI p := by
        rcases pk_ix v (n := 127) (by decide) with q | q | ⟨k, q1, q2⟩
        · exact absurd q (fa_of_lt c).2.2.1
        · exact absurd c1 (fun z => by have h1 := Int32.le_iff_toInt_le.mp z; have h2 := Int32.le_iff_toInt_le.mp q; have h3 : (nI 127).toInt = 127 := rfl; have h4 : (126 : Int32).toInt = 126 := rfl; omega)
        · exact ⟨k, q1, q2⟩
      have hp0 : 0 < p := by
        have h1 := Int32.lt_iff_toInt_lt.mp c
        rw [nI_toInt (by omega)] at h1
        have h2 : (0 : Int32).toInt = 0 := rfl
        omega
      refine v_blk g [.iconst 0, .istore_n 3, .iconst 0, .istore 4] (pc' := 22) (lv' := [(4, .int (0 : Int32)), (3, .int (0 : Int32)), (0, .ref a), (1, .ref b), (2, .int (nI p))]) (st' := []) (by decide +kernel) rfl rfl ?_
      have key : ∀ i, i ≤ 256 → zV F X h 22 [(4, .int (nI i)), (3, .int (nI (fb_ct (fun n => lb f n && decide ((nI p).toInt ≤ (wt W n : Int))) (64 * i)))), (0, .ref a), (1, .ref b), (2, .int (nI p))] [] := by
        refine z_up (P := fun i => zV F X h 22 [(4, .int (nI i)), (3, .int (nI (fb_ct (fun n => lb f n && decide ((nI p).toInt ≤ (wt W n : Int))) (64 * i)))), (0, .ref a), (1, .ref b), (2, .int (nI p))] []) 256 ?_ ?_
        · refine v_blk g [.iload 4, .sipush 256] (pc' := 27) (lv' := [(4, .int (nI 256)), (3, .int (nI (fb_ct (fun n => lb f n && decide ((nI p).toInt ≤ (wt W n : Int))) (64 * 256)))), (0, .ref a), (1, .ref b), (2, .int (nI p))]) (st' := [.int (256 : Int32), .int (nI 256)]) (by decide +kernel) rfl rfl ?_
          refine v_icmp_ge g (off := 36) (tgt := 63) (by decide +kernel) (by decide) (fun _ => ?_) (fun c => absurd c (fun q => q (by decide)))
          refine v_blk g [.iload_n 3] (pc' := 64) (lv' := [(4, .int (nI 256)), (3, .int (nI (fb_ct (fun n => lb f n && decide ((nI p).toInt ≤ (wt W n : Int))) (64 * 256)))), (0, .ref a), (1, .ref b), (2, .int (nI p))]) (st' := [.int (nI (fb_ct (fun n => lb f n && decide ((nI p).toInt ≤ (wt W n : Int))) (64 * 256)))]) (by decide +kernel) rfl rfl ?_
          exact v_iret g z rfl (by decide +kernel) ⟨rfl, rfl⟩ (zcrn 0 0 rfl rfl (Nat.le_of_ble_eq_true rfl) (Nat.le_of_ble_eq_true rfl))
        · intro i hi ih
          refine v_blk g [.iload 4, .sipush 256] (pc' := 27) (lv' := [(4, .int (nI i)), (3, .int (nI (fb_ct (fun n => lb f n && decide ((nI p).toInt ≤ (wt W n : Int))) (64 * i)))), (0, .ref a), (1, .ref b), (2, .int (nI p))]) (st' := [.int (256 : Int32), .int (nI i)]) (by decide +kernel) rfl rfl ?_
          refine v_icmp_ge g (off := 36) (tgt := 63) (by decide +kernel) (by decide) (fun c => absurd c (nI_ge (b := 256) hi (by decide))) (fun _ => ?_)
          refine v_blk g [.iload_n 3, .aload_n 1] (pc' := 32) (lv' := [(4, .int (nI i)), (3, .int (nI (fb_ct (fun n => lb f n && decide ((nI p).toInt ≤ (wt W n : Int))) (64 * i)))), (0, .ref a), (1, .ref b), (2, .int (nI p))]) (st' := [.ref b, .int (nI (fb_ct (fun n => lb f n && decide ((nI p).toInt ≤ (wt W n : Int))) (64 * i)))]) (by decide +kernel) rfl rfl ?_
          refine v_get g hb fl_X5_50 rfl (by decide +kernel) ?_
          refine v_blk g [.iload 4] (pc' := 37) (lv' := [(4, .int (nI i)), (3, .int (nI (fb_ct (fun n => lb f n && decide ((nI p).toInt ≤ (wt W n : Int))) (64 * i)))), (0, .ref a), (1, .ref b), (2, .int (nI p))]) (st' := [.int (nI i), .ref u, .int (nI (fb_ct (fun n => lb f n && decide ((nI p).toInt ≤ (wt W n : Int))) (64 * i)))]) (by decide +kernel) rfl rfl ?_
          refine v_lald g hu i rfl hi (Nat.le_of_ble_eq_true rfl) (by decide +kernel) ?_
          refine v_blk g [.aload_n 0, .iload_n 2, .aload_n 0] (pc' := 41) (lv' := [(4, .int (nI i)), (3, .int (nI (fb_ct (fun n => lb f n && decide ((nI p).toInt ≤ (wt W n : Int))) (64 * i)))), (0, .ref a), (1, .ref b), (2, .int (nI p))]) (st' := [.ref a, .int (nI p), .ref a, .long (f i), .int (nI (fb_ct (fun n => lb f n && decide ((nI p).toInt ≤ (wt W n : Int))) (64 * i)))]) (by decide +kernel) rfl rfl ?_
          refine v_get g ha fl_X5_20 rfl (by decide +kernel) ?_
          refine v_blk g [.iload 4] (pc' := 46) (lv' := [(4, .int (nI i)), (3, .int (nI (fb_ct (fun n => lb f n && decide ((nI p).toInt ≤ (wt W n : Int))) (64 * i)))), (0, .ref a), (1, .ref b), (2, .int (nI p))]) (st' := [.int (nI i), .ref ha9, .int (nI p), .ref a, .long (f i), .int (nI (fb_ct (fun n => lb f n && decide ((nI p).toInt ≤ (wt W n : Int))) (64 * i)))]) (by decide +kernel) rfl rfl ?_
          refine v_iald g hha i rfl hi (Nat.le_of_ble_eq_true rfl) (by decide +kernel) ?_
          refine v_ti (z := nI (wS W 6 i 8)) (hhf i hi) ?_
          refine v_blk g [.isub] (pc' := 48) (lv' := [(4, .int (nI i)), (3, .int (nI (fb_ct (fun n => lb f n && decide ((nI p).toInt ≤ (wt W n : Int))) (64 * i)))), (0, .ref a), (1, .ref b), (2, .int (nI p))]) (st' := [.int ((nI p) - (nI (wS W 6 i 8))), .ref a, .long (f i), .int (nI (fb_ct (fun n => lb f n && decide ((nI p).toInt ≤ (wt W n : Int))) (64 * i)))]) (by decide +kernel) rfl rfl ?_
          refine v_callVp g (rest := [.long (f i), .int (nI (fb_ct (fun n => lb f n && decide ((nI p).toInt ≤ (wt W n : Int))) (64 * i)))]) (c_Sc_bitsFrom ha hfa _) cl_X5_53 ha rfl rfl (Nat.le_of_ble_eq_true rfl) (by decide +kernel) ⟨Nat.le_of_ble_eq_true rfl, Nat.le_of_ble_eq_true rfl⟩ (zcsn 0 0 rfl rfl (Nat.le_of_ble_eq_true rfl) (Nat.le_of_ble_eq_true rfl)) ?_
          show zV F X h 51 [(4, .int (nI i)), (3, .int (nI (fb_ct (fun n => lb f n && decide ((nI p).toInt ≤ (wt W n : Int))) (64 * i)))), (0, .ref a), (1, .ref b), (2, .int (nI p))] [.long (x_bits ff (nI p - nI (wS W 6 i 8))), .long (f i), .int (nI (fb_ct (fun n => lb f n && decide ((nI p).toInt ≤ (wt W n : Int))) (64 * i)))]
          refine v_blk g [.land] (pc' := 52) (lv' := [(4, .int (nI i)), (3, .int (nI (fb_ct (fun n => lb f n && decide ((nI p).toInt ≤ (wt W n : Int))) (64 * i)))), (0, .ref a), (1, .ref b), (2, .int (nI p))]) (st' := [.long ((f i) &&& (x_bits ff (nI p - nI (wS W 6 i 8)))), .int (nI (fb_ct (fun n => lb f n && decide ((nI p).toInt ≤ (wt W n : Int))) (64 * i)))]) (by decide +kernel) rfl rfl ?_
          refine v_callSp g (rest := [.int (nI (fb_ct (fun n => lb f n && decide ((nI p).toInt ≤ (wt W n : Int))) (64 * i)))]) (c_bitCountL _) cl_X5_57 rfl (Nat.le_of_ble_eq_true rfl) (by decide +kernel) ⟨Nat.le_of_ble_eq_true rfl, Nat.le_of_ble_eq_true rfl⟩ (zcsn 0 0 rfl rfl (Nat.le_of_ble_eq_true rfl) (Nat.le_of_ble_eq_true rfl)) ?_
          show zV F X h 55 [(4, .int (nI i)), (3, .int (nI (fb_ct (fun n => lb f n && decide ((nI p).toInt ≤ (wt W n : Int))) (64 * i)))), (0, .ref a), (1, .ref b), (2, .int (nI p))] [.int (nI (pc64 (f i &&& x_bits ff (nI p - nI (wS W 6 i 8))))), .int (nI (fb_ct (fun n => lb f n && decide ((nI p).toInt ≤ (wt W n : Int))) (64 * i)))]
          refine v_blk g [.iadd, .istore_n 3, .iinc 4 1] (pc' := 60) (lv' := [(4, .int ((nI i) + (1 : Int32))), (3, .int ((nI (fb_ct (fun n => lb f n && decide ((nI p).toInt ≤ (wt W n : Int))) (64 * i))) + (nI (pc64 (f i &&& x_bits ff (nI p - nI (wS W 6 i 8))))))), (0, .ref a), (1, .ref b), (2, .int (nI p))]) (st' := []) (by decide +kernel) rfl rfl ?_
          refine v_goto g (off := -38) (tgt := 22) (by decide +kernel) (by decide) ?_
          refine v_lv [0, 1, 2, 3, 4] (lv' := [(4, .int ((nI i) + (1 : Int32))), (3, .int ((nI (fb_ct (fun n => lb f n && decide ((nI p).toInt ≤ (wt W n : Int))) (64 * i))) + (nI (pc64 (f i &&& x_bits ff (nI p - nI (wS W 6 i 8))))))), (0, .ref a), (1, .ref b), (2, .int (nI p))]) rfl ?_
          exact v_eq (by rw [nI_add, nI_1, s_from_part f hff hW (by omega) hp0]) rfl ih
      exact key 0 (by omega)
    · refine v_blk g [.iconst 0] (pc' := 16) (lv' := [(0, .ref a), (1, .ref b), (2, .int v)]) (st' := [.int (0 : Int32)]) (by decide +kernel) rfl rfl ?_
      exact v_iret g z rfl (by decide +kernel) ⟨by rw [s_from_high f hW c1]; rfl, rfl⟩ (zcrn 0 0 rfl rfl (Nat.le_of_ble_eq_true rfl) (Nat.le_of_ble_eq_true rfl))
  · refine v_blk g [.aload_n 1] (pc' := 5) (lv' := [(0, .ref a), (1, .ref b), (2, .int v)]) (st' := [.ref b]) (by decide +kernel) rfl rfl ?_
    refine v_callVp g (rest := []) (c_sizeOfAll hb hu) cl_X5_46 hb rfl rfl (Nat.le_of_ble_eq_true rfl) (by decide +kernel) ⟨Nat.le_of_ble_eq_true rfl, Nat.le_of_ble_eq_true rfl⟩ (zcsn 0 0 rfl rfl (Nat.le_of_ble_eq_true rfl) (Nat.le_of_ble_eq_true rfl)) ?_
    show zV F X h 8 [(0, .ref a), (1, .ref b), (2, .int v)] [.int (nI (fb_sm (fun k => pc64 (f k)) 256))]
    exact v_iret g z rfl (by decide +kernel) ⟨by rw [lb_sm, s_from_low f W c], rfl⟩ (zcrn 0 0 rfl rfl (Nat.le_of_ble_eq_true rfl) (Nat.le_of_ble_eq_true rfl))

set_option maxRecDepth 100000 in
set_option maxHeartbeats 4000000 in
theorem c_Sc_gLow {F : zF} {h : zH} {a wa la ha9 fa : Nat} {ff : Nat → Int64} {W : Nat → Nat} (ha : h.1 a = some (oB 5 [.ref wa, .ref la, .ref ha9, .ref fa])) (hfa : h.1 fa = some (aJ 55 ff)) (hW : ∀ m, W m ≤ 9) (hff : okLow ff W) (x : Int64) : zMet F yX5_greatestLow cX5_greatestLow 4 (some .int) { frames := 1, cells := 0, slots := 0, locals := 30 } [.ref a, .long x] h (fun v h2 => h2 = h ∧ ∃ M, M ≤ 54 ∧ v = some (.int (nI M)) ∧ (∀ j, j < 64 → (uN x).testBit j = true → wS W 0 j 6 ≤ M) ∧ (M = 0 ∨ ∃ j, j < 64 ∧ (uN x).testBit j = true ∧ wS W 0 j 6 = M)) := by
  refine zMet_of (lv := [(0, .ref a), (1, .long x)]) (by decide) (by simp [lg_sl, Value.category]) rfl ?_
  intro X g z
  refine v_blk g [.bipush 54, .istore_n 3] (pc' := 3) (lv' := [(3, .int (54 : Int32)), (0, .ref a), (1, .long x)]) (st' := []) (by decide +kernel) rfl rfl ?_
  have key : ∀ d, d ≤ 54 → (∀ j, j < 64 → (uN x).testBit j = true → wS W 0 j 6 ≤ d) → zV F X h 3 [(3, .int (nI d)), (0, .ref a), (1, .long x)] [] := by
    intro d
    induction d with
    | zero =>
      intro _ hx
      refine v_blk g [.iload_n 3] (pc' := 4) (lv' := [(3, .int (nI 0)), (0, .ref a), (1, .long x)]) (st' := [.int (nI 0)]) (by decide +kernel) rfl rfl ?_
      refine v_if_le g (off := 24) (tgt := 28) (by decide +kernel) (by decide) (fun _ => ?_) (fun c => absurd c (fun q => q (by decide)))
      refine v_blk g [.iconst 0] (pc' := 29) (lv' := [(3, .int (nI 0)), (0, .ref a), (1, .long x)]) (st' := [.int (0 : Int32)]) (by decide +kernel) rfl rfl ?_
      exact v_iret g z rfl (by decide +kernel) ⟨rfl, 0, by omega, rfl, hx, Or.inl rfl⟩ (zcrn 0 0 rfl rfl (Nat.le_of_ble_eq_true rfl) (Nat.le_of_ble_eq_true rfl))
    | succ d ihd =>
      intro hd hx
      refine v_blk g [.iload_n 3] (pc' := 4) (lv' := [(3, .int (nI (d + 1))), (0, .ref a), (1, .long x)]) (st' := [.int (nI (d + 1))]) (by decide +kernel) rfl rfl ?_
      refine v_if_le g (off := 24) (tgt := 28) (by decide +kernel) (by decide) (fun c => absurd c (nI_nle (by omega) (by omega))) (fun _ => ?_)
      refine v_blk g [.lload_n 1, .aload_n 0] (pc' := 9) (lv' := [(3, .int (nI (d + 1))), (0, .ref a), (1, .long x)]) (st' := [.ref a, .long x]) (by decide +kernel) rfl rfl ?_
      refine v_get g ha fl_X5_23 rfl (by decide +kernel) ?_
      refine v_blk g [.iload_n 3] (pc' := 13) (lv' := [(3, .int (nI (d + 1))), (0, .ref a), (1, .long x)]) (st' := [.int (nI (d + 1)), .ref fa, .long x]) (by decide +kernel) rfl rfl ?_
      refine v_lald g hfa (d + 1) rfl (by omega) (Nat.le_of_ble_eq_true rfl) (by decide +kernel) ?_
      refine v_blk g [.land, .lconst 0, .lcmp] (pc' := 17) (lv' := [(3, .int (nI (d + 1))), (0, .ref a), (1, .long x)]) (st' := [.int (lg_cmp (x &&& (ff (d + 1))) (0 : Int64))]) (by decide +kernel) rfl rfl ?_
      refine v_if_eq g (off := 5) (tgt := 22) (by decide +kernel) (by decide) (fun c => ?_) (fun c => ?_)
      · refine v_blk g [.iinc 3 (-1)] (pc' := 25) (lv' := [(3, .int ((nI (d + 1)) + (-1 : Int32))), (0, .ref a), (1, .long x)]) (st' := []) (by decide +kernel) rfl rfl ?_
        refine v_goto g (off := -22) (tgt := 3) (by decide +kernel) (by decide) ?_
        refine v_lv [0, 1, 2] (lv' := [(3, .int ((nI (d + 1)) + (-1 : Int32))), (0, .ref a), (1, .long x)]) rfl ?_
        refine v_eq (by rw [show nI (d + 1) + (-1 : Int32) = nI d from pk_m1 d]) rfl (ihd (by omega) (fun j hj hb => ?_))
        have h0 := (lN0 _).mp ((lg_cmp_eq _ _).mp c)
        rcases Nat.lt_or_ge d (wS W 0 j 6) with q | q
        · exact absurd h0 ((nz_bit (uN_lt _)).mpr ⟨j, hj, by rw [uN_and, Nat.testBit_and, hb, hff _ (by omega) j hj, decide_eq_true (by omega)]; rfl⟩)
        · exact q
      · obtain ⟨j, hj, hb⟩ := (nz_bit (uN_lt _)).mp (fun q => c ((lg_cmp_eq _ _).mpr ((lN0 _).mpr q)))
        rw [uN_and, Nat.testBit_and, Bool.and_eq_true, hff _ (by omega) j hj, decide_eq_true_eq] at hb
        have h1 := hx j hj hb.1
        refine v_blk g [.iload_n 3] (pc' := 21) (lv' := [(3, .int (nI (d + 1))), (0, .ref a), (1, .long x)]) (st' := [.int (nI (d + 1))]) (by decide +kernel) rfl rfl ?_
        exact v_iret g z rfl (by decide +kernel) ⟨rfl, d + 1, hd, rfl, hx, Or.inr ⟨j, hj, hb.1, by omega⟩⟩ (zcrn 0 0 rfl rfl (Nat.le_of_ble_eq_true rfl) (Nat.le_of_ble_eq_true rfl))
  refine key 54 (by decide) (fun j _ _ => ?_)
  have := wS_le hW 0 j 6
  omega

theorem top_skip {f : Nat → Int64} {W : Nat → Nat} {i : Nat} {M : Int} (h : isTop (lb f) W (64 * i) M) (hs : ∀ j, j < 64 → (uN (f i)).testBit j = true → (wS W 0 j 6 : Int) + wS W 6 i 8 ≤ M) : isTop (lb f) W (64 * (i + 1)) M := by
  obtain ⟨h1, h2⟩ := h
  refine ⟨fun n hn hl => ?_, h2.imp id (fun ⟨n, q1, q2⟩ => ⟨n, by omega, q2⟩)⟩
  rcases Nat.lt_or_ge n (64 * i) with q | q
  · exact h1 n q hl
  · have e : n = 64 * i + (n - 64 * i) := by omega
    rw [e, lb_at f i (by omega)] at hl
    rw [e, wt_split W (by omega)]
    have := hs (n - 64 * i) (by omega) hl
    omega
theorem top_more {f : Nat → Int64} {W : Nat → Nat} {i m : Nat} {M : Int} (h : isTop (lb f) W (64 * i) M) (hs : ∀ j, j < 64 → (uN (f i)).testBit j = true → wS W 0 j 6 ≤ m) (hm : ∃ j, j < 64 ∧ (uN (f i)).testBit j = true ∧ wS W 0 j 6 = m) : isTop (lb f) W (64 * (i + 1)) (if M < (wS W 6 i 8 + m : Nat) then ((wS W 6 i 8 + m : Nat) : Int) else M) := by
  obtain ⟨h1, h2⟩ := h
  refine ⟨fun n hn hl => ?_, ?_⟩
  · rcases Nat.lt_or_ge n (64 * i) with q | q
    · have := h1 n q hl
      split <;> omega
    · have e : n = 64 * i + (n - 64 * i) := by omega
      rw [e, lb_at f i (by omega)] at hl
      rw [e, wt_split W (by omega)]
      have := hs (n - 64 * i) (by omega) hl
      split <;> omega
  · split
    · obtain ⟨j, q1, q2, q3⟩ := hm
      exact Or.inr ⟨64 * i + j, by omega, by rw [lb_at f i q1]; exact q2, by rw [wt_split W q1]; omega⟩
    · exact h2.imp id (fun ⟨n, q1, q2⟩ => ⟨n, by omega, q2⟩)
theorem top_rng {S : Nat → Bool} {W : Nat → Nat} {k : Nat} {M : Int} (hW : ∀ m, W m ≤ 9) (h : isTop S W k M) : -1 ≤ M ∧ M ≤ 126 := by
  rcases h.2 with q | ⟨n, -, -, q⟩
  · omega
  · have := wS_le hW 0 n 14
    unfold wt at q
    omega
theorem ofI_lt {a b : Int} (ha : -1 ≤ a ∧ a ≤ 1000) (hb : -1 ≤ b ∧ b ≤ 1000) : Int32.ofInt a < Int32.ofInt b ↔ a < b := by
  rw [Int32.lt_iff_toInt_lt, fb_ofI (by omega) (by omega), fb_ofI (by omega) (by omega)]
theorem ofI_le {a b : Int} (ha : -1 ≤ a ∧ a ≤ 1000) (hb : -1 ≤ b ∧ b ≤ 1000) : Int32.ofInt a ≤ Int32.ofInt b ↔ a ≤ b := by
  rw [Int32.le_iff_toInt_le, fb_ofI (by omega) (by omega), fb_ofI (by omega) (by omega)]
theorem ofI_n (n : Nat) : Int32.ofInt (n : Int) = nI n := rfl

set_option maxRecDepth 100000 in
set_option maxHeartbeats 4000000 in
theorem c_Sc_greatest {F : zF} {h : zH} {a wa la ha9 fa b u : Nat} {lf hf : Nat → Int32} {ff f : Nat → Int64} {W : Nat → Nat} (ha : h.1 a = some (oB 5 [.ref wa, .ref la, .ref ha9, .ref fa])) (hla : h.1 la = some (aI 64 lf)) (hha : h.1 ha9 = some (aI 256 hf)) (hfa : h.1 fa = some (aJ 55 ff)) (hb : h.1 b = some (oB 3 [.ref u])) (hu : h.1 u = some (aJ 256 f)) (hW : ∀ m, W m ≤ 9) (hhf : nIs hf (fun q => wS W 6 q 8) 256) (hff : okLow ff W) (hlf : nIs lf (fun q => wS W 0 q 6) 64) : zMet F yX5_greatest cX5_greatest 5 (some .int) { frames := 2, cells := 0, slots := 0, locals := 60 } [.ref a, .ref b] h (fun v h2 => h2 = h ∧ ∃ M : Int, v = some (.int (Int32.ofInt M)) ∧ isTop (lb f) W 16384 M) := by
  refine zMet_of (lv := [(0, .ref a), (1, .ref b)]) (by decide) (by simp [lg_sl, Value.category]) rfl ?_
  intro X g z
  refine v_blk g [.iconst (-1), .istore_n 2, .aload_n 0] (pc' := 3) (lv' := [(2, .int (-1 : Int32)), (0, .ref a), (1, .ref b)]) (st' := [.ref a]) (by decide +kernel) rfl rfl ?_
  refine v_get g ha fl_X5_17 rfl (by decide +kernel) ?_
  refine v_blk g [.bipush 63] (pc' := 8) (lv' := [(2, .int (-1 : Int32)), (0, .ref a), (1, .ref b)]) (st' := [.int (63 : Int32), .ref la]) (by decide +kernel) rfl rfl ?_
  refine v_iald g hla 63 rfl (by decide) (Nat.le_of_ble_eq_true rfl) (by decide +kernel) ?_
  refine v_ti (z := nI (wS W 0 63 6)) (hlf 63 (by decide)) ?_
  refine v_blk g [.istore_n 3, .iconst 0, .istore 4] (pc' := 13) (lv' := [(4, .int (0 : Int32)), (3, .int (nI (wS W 0 63 6))), (2, .int (-1 : Int32)), (0, .ref a), (1, .ref b)]) (st' := []) (by decide +kernel) rfl rfl ?_
  have key : ∀ i, i ≤ 256 → ∀ M : Int, isTop (lb f) W (64 * i) M → zV F X h 13 [(4, .int (nI i)), (3, .int (nI (wS W 0 63 6))), (2, .int (Int32.ofInt M)), (0, .ref a), (1, .ref b)] [] := by
    refine z_up (P := fun i => ∀ M : Int, isTop (lb f) W (64 * i) M → zV F X h 13 [(4, .int (nI i)), (3, .int (nI (wS W 0 63 6))), (2, .int (Int32.ofInt M)), (0, .ref a), (1, .ref b)] []) 256 ?_ ?_
    · intro M hM
      refine v_blk g [.iload 4, .sipush 256] (pc' := 18) (lv' := [(4, .int (nI 256)), (3, .int (nI (wS W 0 63 6))), (2, .int (Int32.ofInt M)), (0, .ref a), (1, .ref b)]) (st' := [.int (256 : Int32), .int (nI 256)]) (by decide +kernel) rfl rfl ?_
      refine v_icmp_ge g (off := 58) (tgt := 76) (by decide +kernel) (by decide) (fun _ => ?_) (fun c => absurd c (fun q => q (by decide)))
      refine v_blk g [.iload_n 2] (pc' := 77) (lv' := [(4, .int (nI 256)), (3, .int (nI (wS W 0 63 6))), (2, .int (Int32.ofInt M)), (0, .ref a), (1, .ref b)]) (st' := [.int (Int32.ofInt M)]) (by decide +kernel) rfl rfl ?_
      exact v_iret g z rfl (by decide +kernel) ⟨rfl, M, rfl, hM⟩ (zcrn 0 0 rfl rfl (Nat.le_of_ble_eq_true rfl) (Nat.le_of_ble_eq_true rfl))
    · intro i hi ih M hM
      have hr := top_rng hW hM
      have h8 := wS_le hW 6 i 8
      have h6 := wS_le hW 0 63 6
      refine v_blk g [.iload 4, .sipush 256] (pc' := 18) (lv' := [(4, .int (nI i)), (3, .int (nI (wS W 0 63 6))), (2, .int (Int32.ofInt M)), (0, .ref a), (1, .ref b)]) (st' := [.int (256 : Int32), .int (nI i)]) (by decide +kernel) rfl rfl ?_
      refine v_icmp_ge g (off := 58) (tgt := 76) (by decide +kernel) (by decide) (fun c => absurd c (nI_ge (b := 256) hi (by decide))) (fun _ => ?_)
      refine v_blk g [.aload_n 1] (pc' := 22) (lv' := [(4, .int (nI i)), (3, .int (nI (wS W 0 63 6))), (2, .int (Int32.ofInt M)), (0, .ref a), (1, .ref b)]) (st' := [.ref b]) (by decide +kernel) rfl rfl ?_
      refine v_get g hb fl_X5_50 rfl (by decide +kernel) ?_
      refine v_blk g [.iload 4] (pc' := 27) (lv' := [(4, .int (nI i)), (3, .int (nI (wS W 0 63 6))), (2, .int (Int32.ofInt M)), (0, .ref a), (1, .ref b)]) (st' := [.int (nI i), .ref u]) (by decide +kernel) rfl rfl ?_
      refine v_lald g hu i rfl hi (Nat.le_of_ble_eq_true rfl) (by decide +kernel) ?_
      refine v_blk g [.lconst 0, .lcmp] (pc' := 30) (lv' := [(4, .int (nI i)), (3, .int (nI (wS W 0 63 6))), (2, .int (Int32.ofInt M)), (0, .ref a), (1, .ref b)]) (st' := [.int (lg_cmp (f i) (0 : Int64))]) (by decide +kernel) rfl rfl ?_
      refine v_if_eq g (off := 40) (tgt := 70) (by decide +kernel) (by decide) (fun c => ?_) (fun c => ?_)
      · refine v_blk g [.iinc 4 1] (pc' := 73) (lv' := [(4, .int ((nI i) + (1 : Int32))), (3, .int (nI (wS W 0 63 6))), (2, .int (Int32.ofInt M)), (0, .ref a), (1, .ref b)]) (st' := []) (by decide +kernel) rfl rfl ?_
        refine v_goto g (off := -60) (tgt := 13) (by decide +kernel) (by decide) ?_
        refine v_lv [0, 1, 2, 3, 4] (lv' := [(4, .int ((nI i) + (1 : Int32))), (3, .int (nI (wS W 0 63 6))), (2, .int (Int32.ofInt M)), (0, .ref a), (1, .ref b)]) rfl ?_
        refine v_eq (by rw [nI_1]) rfl (ih M (top_skip hM (fun j hj hb => ?_)))
        have h0 := (lN0 _).mp ((lg_cmp_eq _ _).mp c)
        rw [h0] at hb
        simp at hb
      · refine v_blk g [.aload_n 0] (pc' := 34) (lv' := [(4, .int (nI i)), (3, .int (nI (wS W 0 63 6))), (2, .int (Int32.ofInt M)), (0, .ref a), (1, .ref b)]) (st' := [.ref a]) (by decide +kernel) rfl rfl ?_
        refine v_get g ha fl_X5_20 rfl (by decide +kernel) ?_
        refine v_blk g [.iload 4] (pc' := 39) (lv' := [(4, .int (nI i)), (3, .int (nI (wS W 0 63 6))), (2, .int (Int32.ofInt M)), (0, .ref a), (1, .ref b)]) (st' := [.int (nI i), .ref ha9]) (by decide +kernel) rfl rfl ?_
        refine v_iald g hha i rfl hi (Nat.le_of_ble_eq_true rfl) (by decide +kernel) ?_
        refine v_ti (z := nI (wS W 6 i 8)) (hhf i hi) ?_
        refine v_blk g [.iload_n 3, .iadd] (pc' := 42) (lv' := [(4, .int (nI i)), (3, .int (nI (wS W 0 63 6))), (2, .int (Int32.ofInt M)), (0, .ref a), (1, .ref b)]) (st' := [.int ((nI (wS W 6 i 8)) + (nI (wS W 0 63 6)))]) (by decide +kernel) rfl rfl ?_
        refine v_ti (z := nI (wS W 6 i 8 + wS W 0 63 6)) (nI_add _ _) ?_
        refine v_blk g [.iload_n 2] (pc' := 43) (lv' := [(4, .int (nI i)), (3, .int (nI (wS W 0 63 6))), (2, .int (Int32.ofInt M)), (0, .ref a), (1, .ref b)]) (st' := [.int (Int32.ofInt M), .int (nI (wS W 6 i 8 + wS W 0 63 6))]) (by decide +kernel) rfl rfl ?_
        refine v_icmp_le g (off := 27) (tgt := 70) (by decide +kernel) (by decide) (fun c1 => ?_) (fun c1 => ?_)
        · refine v_blk g [.iinc 4 1] (pc' := 73) (lv' := [(4, .int ((nI i) + (1 : Int32))), (3, .int (nI (wS W 0 63 6))), (2, .int (Int32.ofInt M)), (0, .ref a), (1, .ref b)]) (st' := []) (by decide +kernel) rfl rfl ?_
          refine v_goto g (off := -60) (tgt := 13) (by decide +kernel) (by decide) ?_
          refine v_lv [0, 1, 2, 3, 4] (lv' := [(4, .int ((nI i) + (1 : Int32))), (3, .int (nI (wS W 0 63 6))), (2, .int (Int32.ofInt M)), (0, .ref a), (1, .ref b)]) rfl ?_
          refine v_eq (by rw [nI_1]) rfl (ih M (top_skip hM (fun j hj hb => ?_)))
          have h9 := (ofI_le (a := ((wS W 6 i 8 + wS W 0 63 6 : Nat) : Int)) (b := M) (by omega) (by omega)).mp c1
          have h7 := wS_mono (W := W) hj
          omega
        · refine v_blk g [.iload_n 2, .aload_n 0] (pc' := 48) (lv' := [(4, .int (nI i)), (3, .int (nI (wS W 0 63 6))), (2, .int (Int32.ofInt M)), (0, .ref a), (1, .ref b)]) (st' := [.ref a, .int (Int32.ofInt M)]) (by decide +kernel) rfl rfl ?_
          refine v_get g ha fl_X5_20 rfl (by decide +kernel) ?_
          refine v_blk g [.iload 4] (pc' := 53) (lv' := [(4, .int (nI i)), (3, .int (nI (wS W 0 63 6))), (2, .int (Int32.ofInt M)), (0, .ref a), (1, .ref b)]) (st' := [.int (nI i), .ref ha9, .int (Int32.ofInt M)]) (by decide +kernel) rfl rfl ?_
          refine v_iald g hha i rfl hi (Nat.le_of_ble_eq_true rfl) (by decide +kernel) ?_
          refine v_ti (z := nI (wS W 6 i 8)) (hhf i hi) ?_
          refine v_blk g [.aload_n 0, .aload_n 1] (pc' := 56) (lv' := [(4, .int (nI i)), (3, .int (nI (wS W 0 63 6))), (2, .int (Int32.ofInt M)), (0, .ref a), (1, .ref b)]) (st' := [.ref b, .ref a, .int (nI (wS W 6 i 8)), .int (Int32.ofInt M)]) (by decide +kernel) rfl rfl ?_
          refine v_get g hb fl_X5_50 rfl (by decide +kernel) ?_
          refine v_blk g [.iload 4] (pc' := 61) (lv' := [(4, .int (nI i)), (3, .int (nI (wS W 0 63 6))), (2, .int (Int32.ofInt M)), (0, .ref a), (1, .ref b)]) (st' := [.int (nI i), .ref u, .ref a, .int (nI (wS W 6 i 8)), .int (Int32.ofInt M)]) (by decide +kernel) rfl rfl ?_
          refine v_lald g hu i rfl hi (Nat.le_of_ble_eq_true rfl) (by decide +kernel) ?_
          obtain ⟨j0, hj0, hb0⟩ := (mi_fw f i).mp (fun q => c ((lg_cmp_eq _ _).mpr q))
          refine v_callV g (rest := [.int (nI (wS W 6 i 8)), .int (Int32.ofInt M)]) (c_Sc_gLow ha hfa hW hff _) cl_X5_65 ha rfl rfl (Nat.le_of_ble_eq_true rfl) (by decide +kernel) ⟨Nat.le_of_ble_eq_true rfl, Nat.le_of_ble_eq_true rfl⟩ (zcsn 0 0 rfl rfl (Nat.le_of_ble_eq_true rfl) (Nat.le_of_ble_eq_true rfl)) (fun v2 h2 hp9 => ?_)
          obtain ⟨rfl, m, hm, rfl, hm1, hm2⟩ := hp9
          show zV F X h2 65 [(4, .int (nI i)), (3, .int (nI (wS W 0 63 6))), (2, .int (Int32.ofInt M)), (0, .ref a), (1, .ref b)] [.int (nI m), .int (nI (wS W 6 i 8)), .int (Int32.ofInt M)]
          refine v_blk g [.iadd] (pc' := 66) (lv' := [(4, .int (nI i)), (3, .int (nI (wS W 0 63 6))), (2, .int (Int32.ofInt M)), (0, .ref a), (1, .ref b)]) (st' := [.int ((nI (wS W 6 i 8)) + (nI m)), .int (Int32.ofInt M)]) (by decide +kernel) rfl rfl ?_
          refine v_ti (z := nI (wS W 6 i 8 + m)) (nI_add _ _) ?_
          refine v_mmax g xl_X5_68 (by decide +kernel) ⟨Nat.le_of_ble_eq_true rfl, Nat.le_of_ble_eq_true rfl⟩ (Nat.le_of_ble_eq_true rfl) (zcrn 0 0 rfl rfl (Nat.le_of_ble_eq_true rfl) (Nat.le_of_ble_eq_true rfl)) ?_
          refine v_ti (z := Int32.ofInt (if M < (wS W 6 i 8 + m : Nat) then ((wS W 6 i 8 + m : Nat) : Int) else M)) (by rw [← ofI_n]; by_cases q : M < ((wS W 6 i 8 + m : Nat) : Int) <;> simp only [ofI_lt (a := M) (b := ((wS W 6 i 8 + m : Nat) : Int)) (by omega) (by omega), q, if_true, if_false]) ?_
          refine v_blk g [.istore_n 2, .iinc 4 1] (pc' := 73) (lv' := [(4, .int ((nI i) + (1 : Int32))), (2, .int (Int32.ofInt (if M < (wS W 6 i 8 + m : Nat) then ((wS W 6 i 8 + m : Nat) : Int) else M))), (3, .int (nI (wS W 0 63 6))), (0, .ref a), (1, .ref b)]) (st' := []) (by decide +kernel) rfl rfl ?_
          refine v_goto g (off := -60) (tgt := 13) (by decide +kernel) (by decide) ?_
          refine v_lv [0, 2, 1, 3, 4] (lv' := [(4, .int ((nI i) + (1 : Int32))), (3, .int (nI (wS W 0 63 6))), (2, .int (Int32.ofInt (if M < (wS W 6 i 8 + m : Nat) then ((wS W 6 i 8 + m : Nat) : Int) else M))), (0, .ref a), (1, .ref b)]) rfl ?_
          refine v_eq (by rw [nI_1]) rfl (ih _ (top_more hM hm1 ?_))
          rcases hm2 with q | q
          · exact ⟨j0, hj0, hb0, by have := hm1 j0 hj0 hb0; omega⟩
          · exact q
  exact key 0 (Nat.zero_le _) (-1) ⟨fun n hn => absurd hn (by omega), Or.inl rfl⟩
