/-! the Scale: weights of lines -/
def wS (W : Nat → Nat) (s n k : Nat) : Nat := fb_sm (fun m => if n.testBit m then W (s + m) else 0) k
def wt (W : Nat → Nat) (n : Nat) : Nat := wS W 0 n 14
theorem wS_le {W : Nat → Nat} (hW : ∀ m, W m ≤ 9) (s n k : Nat) : wS W s n k ≤ 9 * k := by
  unfold wS
  have := fb_sm_bound (f := fun m => if n.testBit m then W (s + m) else 0) (c := 9) (n := k) (fun m _ => by
    show (if n.testBit m then W (s + m) else 0) ≤ 9
    split
    · exact hW _
    · omega)
  omega
theorem wS_0 (W : Nat → Nat) (s k : Nat) : wS W s 0 k = 0 := by
  unfold wS
  rw [fb_sm_cong (g := fun _ => 0) (fun m _ => by simp), fb_sm_const]
  omega
theorem wS_low (W : Nat → Nat) (s : Nat) {n t k : Nat} (ht : t < k) (hb : n.testBit t = true) (hl : ∀ i, i < t → n.testBit i = false) : wS W s n k = wS W s (n &&& (n - 1)) k + W (s + t) := by
  have h := fb_sm_upd (fun m => if n.testBit m then W (s + m) else 0) 0 (i := t) (n := k) ht
  simp only [hb, if_true, Nat.add_zero] at h
  unfold wS
  rw [← h]
  congr 1
  refine fb_sm_cong (fun m _ => ?_)
  rw [low_off hb hl]
  by_cases hm : m = t
  · simp [hm]
  · simp [hm]
theorem wt_split (W : Nat → Nat) {w j : Nat} (hj : j < 64) : wt W (64 * w + j) = wS W 0 j 6 + wS W 6 w 8 := by
  unfold wt wS
  rw [show (14 : Nat) = 6 + 8 from rfl, fb_sm_split]
  congr 1
  · exact fb_sm_cong (fun m hm => by rw [num_bit_lo hj hm])
  · exact fb_sm_cong (fun m hm => by rw [num_bit_hi hj (by omega), show 6 + m - 6 = m by omega, Nat.zero_add])
theorem wS_mono {W : Nat → Nat} {j : Nat} (hj : j < 64) : wS W 0 j 6 ≤ wS W 0 63 6 := by
  unfold wS
  refine fb_sm_le (fun m hm => ?_)
  have h63 : ∀ m, m < 6 → (63 : Nat).testBit m = true := by decide
  show (if j.testBit m then W (0 + m) else 0) ≤ (if (63 : Nat).testBit m then W (0 + m) else 0)
  rw [h63 m hm]
  split <;> simp
def nIs (f : Nat → Int32) (g : Nat → Nat) (n : Nat) : Prop := ∀ q, q < n → f q = nI (g q)

set_option maxRecDepth 100000 in
set_option maxHeartbeats 4000000 in
theorem c_Sc_init {F : zF} {h : zH} {a : Nat} (ha : h.1 a = some (oB 5 [.null, .null, .null, .null])) : zMet F yX5_init cX5_init 1 none { frames := 1, cells := 4, slots := 389, locals := 30 } [.ref a] h (fun v h2 => v = none ∧ ∃ q1 q2 q3 q4, h2.1 a = some (oB 5 [.ref q1, .ref q2, .ref q3, .ref q4]) ∧ h2.1 q1 = some (aI 14 (fun _ => 0)) ∧ h2.1 q2 = some (aI 64 (fun _ => 0)) ∧ h2.1 q3 = some (aI 256 (fun _ => 0)) ∧ h2.1 q4 = some (aJ 55 (fun _ => 0)) ∧ h2.2.1 = h.2.1 + 4 ∧ h2.2.2 = h.2.2 + 389 ∧ ∀ b x, h.1 b = some x → b ≠ a → h2.1 b = some x) := by
  refine zMet_of (lv := [(0, .ref a)]) (by decide) (by simp [lg_sl, Value.category]) rfl ?_
  intro X g z
  refine v_blk g [.aload_n 0] (pc' := 1) (lv' := [(0, .ref a)]) (st' := [.ref a]) (by decide +kernel) rfl rfl ?_
  refine v_obj g ol_X5_5 (by decide +kernel) ⟨Nat.le_of_ble_eq_true rfl, Nat.le_of_ble_eq_true rfl⟩ (Nat.le_of_ble_eq_true rfl) ?_ ob_i ob_c
  refine v_blk g [.aload_n 0, .bipush 14] (pc' := 7) (lv' := [(0, .ref a)]) (st' := [.int (14 : Int32), .ref a]) (by decide +kernel) rfl rfl ?_
  refine v_newI g 14 rfl (Nat.le_of_ble_eq_true rfl) ac_int (zcsk 0 0 1 14 rfl rfl (Nat.le_of_ble_eq_true rfl) (Nat.le_of_ble_eq_true rfl)) (by decide +kernel) (fun q1 hq1 => ?_)
  refine v_h (fun h1 eh1 => ?_)
  have h1_c : h1.2.1 = h.2.1 + 1 ∧ h1.2.2 = h.2.2 + 14 := zcn eh1 ⟨rfl, rfl⟩
  have h1_a : h1.1 a = some (oB 5 [.null, .null, .null, .null]) := by rw [eh1]; exact z_no ha hq1
  have h1_q1 : h1.1 q1 = some (aI 14 (fun _ => 0)) := by rw [eh1]; exact z_n_self _ _ _ _
  refine v_putF g (fs' := [.ref q1, .null, .null, .null]) h1_a fl_X5_11 rfl rfl rfl rfl (Nat.le_of_ble_eq_true rfl) rfl (by decide +kernel) ?_
  refine v_h (fun h2 eh2 => ?_)
  have h2_c : h2.2.1 = h.2.1 + 1 ∧ h2.2.2 = h.2.2 + 14 := zcs eh2 h1_c
  have h2_a : h2.1 a = some (oB 5 [.ref q1, .null, .null, .null]) := by rw [eh2]; exact z_s_self _ _ _
  have h2_q1 : h2.1 q1 = some (aI 14 (fun _ => 0)) := by rw [eh2]; exact z_so h1_q1 (z_ne h1_q1 h1_a rfl)
  refine v_blk g [.aload_n 0, .bipush 64] (pc' := 15) (lv' := [(0, .ref a)]) (st' := [.int (64 : Int32), .ref a]) (by decide +kernel) rfl rfl ?_
  refine v_newI g 64 rfl (Nat.le_of_ble_eq_true rfl) ac_int (zcsk 1 14 1 64 h2_c.1 h2_c.2 (Nat.le_of_ble_eq_true rfl) (Nat.le_of_ble_eq_true rfl)) (by decide +kernel) (fun q2 hq2 => ?_)
  refine v_h (fun h3 eh3 => ?_)
  have h3_c : h3.2.1 = h.2.1 + 2 ∧ h3.2.2 = h.2.2 + 78 := zcn eh3 h2_c
  have h3_a : h3.1 a = some (oB 5 [.ref q1, .null, .null, .null]) := by rw [eh3]; exact z_no h2_a hq2
  have h3_q1 : h3.1 q1 = some (aI 14 (fun _ => 0)) := by rw [eh3]; exact z_no h2_q1 hq2
  have h3_q2 : h3.1 q2 = some (aI 64 (fun _ => 0)) := by rw [eh3]; exact z_n_self _ _ _ _
  refine v_putF g (fs' := [.ref q1, .ref q2, .null, .null]) h3_a fl_X5_17 rfl rfl rfl rfl (Nat.le_of_ble_eq_true rfl) rfl (by decide +kernel) ?_
  refine v_h (fun h4 eh4 => ?_)
  have h4_c : h4.2.1 = h.2.1 + 2 ∧ h4.2.2 = h.2.2 + 78 := zcs eh4 h3_c
  have h4_a : h4.1 a = some (oB 5 [.ref q1, .ref q2, .null, .null]) := by rw [eh4]; exact z_s_self _ _ _
  have h4_q1 : h4.1 q1 = some (aI 14 (fun _ => 0)) := by rw [eh4]; exact z_so h3_q1 (z_ne h3_q1 h3_a rfl)
  have h4_q2 : h4.1 q2 = some (aI 64 (fun _ => 0)) := by rw [eh4]; exact z_so h3_q2 (z_ne h3_q2 h3_a rfl)
  refine v_blk g [.aload_n 0, .sipush 256] (pc' := 24) (lv' := [(0, .ref a)]) (st' := [.int (256 : Int32), .ref a]) (by decide +kernel) rfl rfl ?_
  refine v_newI g 256 rfl (Nat.le_of_ble_eq_true rfl) ac_int (zcsk 2 78 1 256 h4_c.1 h4_c.2 (Nat.le_of_ble_eq_true rfl) (Nat.le_of_ble_eq_true rfl)) (by decide +kernel) (fun q3 hq3 => ?_)
  refine v_h (fun h5 eh5 => ?_)
  have h5_c : h5.2.1 = h.2.1 + 3 ∧ h5.2.2 = h.2.2 + 334 := zcn eh5 h4_c
  have h5_a : h5.1 a = some (oB 5 [.ref q1, .ref q2, .null, .null]) := by rw [eh5]; exact z_no h4_a hq3
  have h5_q1 : h5.1 q1 = some (aI 14 (fun _ => 0)) := by rw [eh5]; exact z_no h4_q1 hq3
  have h5_q2 : h5.1 q2 = some (aI 64 (fun _ => 0)) := by rw [eh5]; exact z_no h4_q2 hq3
  have h5_q3 : h5.1 q3 = some (aI 256 (fun _ => 0)) := by rw [eh5]; exact z_n_self _ _ _ _
  refine v_putF g (fs' := [.ref q1, .ref q2, .ref q3, .null]) h5_a fl_X5_20 rfl rfl rfl rfl (Nat.le_of_ble_eq_true rfl) rfl (by decide +kernel) ?_
  refine v_h (fun h6 eh6 => ?_)
  have h6_c : h6.2.1 = h.2.1 + 3 ∧ h6.2.2 = h.2.2 + 334 := zcs eh6 h5_c
  have h6_a : h6.1 a = some (oB 5 [.ref q1, .ref q2, .ref q3, .null]) := by rw [eh6]; exact z_s_self _ _ _
  have h6_q1 : h6.1 q1 = some (aI 14 (fun _ => 0)) := by rw [eh6]; exact z_so h5_q1 (z_ne h5_q1 h5_a rfl)
  have h6_q2 : h6.1 q2 = some (aI 64 (fun _ => 0)) := by rw [eh6]; exact z_so h5_q2 (z_ne h5_q2 h5_a rfl)
  have h6_q3 : h6.1 q3 = some (aI 256 (fun _ => 0)) := by rw [eh6]; exact z_so h5_q3 (z_ne h5_q3 h5_a rfl)
  refine v_blk g [.aload_n 0, .bipush 55] (pc' := 32) (lv' := [(0, .ref a)]) (st' := [.int (55 : Int32), .ref a]) (by decide +kernel) rfl rfl ?_
  refine v_newJ g 55 rfl (Nat.le_of_ble_eq_true rfl) ac_long (zcsk 3 334 1 55 h6_c.1 h6_c.2 (Nat.le_of_ble_eq_true rfl) (Nat.le_of_ble_eq_true rfl)) (by decide +kernel) (fun q4 hq4 => ?_)
  refine v_h (fun h7 eh7 => ?_)
  have h7_c : h7.2.1 = h.2.1 + 4 ∧ h7.2.2 = h.2.2 + 389 := zcn eh7 h6_c
  have h7_a : h7.1 a = some (oB 5 [.ref q1, .ref q2, .ref q3, .null]) := by rw [eh7]; exact z_no h6_a hq4
  have h7_q1 : h7.1 q1 = some (aI 14 (fun _ => 0)) := by rw [eh7]; exact z_no h6_q1 hq4
  have h7_q2 : h7.1 q2 = some (aI 64 (fun _ => 0)) := by rw [eh7]; exact z_no h6_q2 hq4
  have h7_q3 : h7.1 q3 = some (aI 256 (fun _ => 0)) := by rw [eh7]; exact z_no h6_q3 hq4
  have h7_q4 : h7.1 q4 = some (aJ 55 (fun _ => 0)) := by rw [eh7]; exact z_n_self _ _ _ _
  refine v_putF g (fs' := [.ref q1, .ref q2, .ref q3, .ref q4]) h7_a fl_X5_23 rfl rfl rfl rfl (Nat.le_of_ble_eq_true rfl) rfl (by decide +kernel) ?_
  refine v_h (fun h8 eh8 => ?_)
  have h8_c : h8.2.1 = h.2.1 + 4 ∧ h8.2.2 = h.2.2 + 389 := zcs eh8 h7_c
  have h8_a : h8.1 a = some (oB 5 [.ref q1, .ref q2, .ref q3, .ref q4]) := by rw [eh8]; exact z_s_self _ _ _
  have h8_q1 : h8.1 q1 = some (aI 14 (fun _ => 0)) := by rw [eh8]; exact z_so h7_q1 (z_ne h7_q1 h7_a rfl)
  have h8_q2 : h8.1 q2 = some (aI 64 (fun _ => 0)) := by rw [eh8]; exact z_so h7_q2 (z_ne h7_q2 h7_a rfl)
  have h8_q3 : h8.1 q3 = some (aI 256 (fun _ => 0)) := by rw [eh8]; exact z_so h7_q3 (z_ne h7_q3 h7_a rfl)
  have h8_q4 : h8.1 q4 = some (aJ 55 (fun _ => 0)) := by rw [eh8]; exact z_so h7_q4 (z_ne h7_q4 h7_a rfl)
  exact v_vret g z rfl (by decide +kernel) ⟨rfl, q1, q2, q3, q4, h8_a, h8_q1, h8_q2, h8_q3, h8_q4, h8_c.1, h8_c.2, fun b x hb hne => by rw [eh8, z_s_ne hne, eh7, z_n_ne (fun e => by subst e; rw [eh6, z_s_ne hne, eh5, z_n_ne (z_nn (by rw [eh4, z_s_ne hne, eh3, z_n_ne (z_nn (by rw [eh2, z_s_ne hne, eh1, z_n_ne (z_nn hb hq1)]; exact hb) hq2), eh2, z_s_ne hne, eh1, z_n_ne (z_nn hb hq1)]; exact hb) hq3)] at hq4; rw [eh4, z_s_ne hne, eh3, z_n_ne (z_nn (by rw [eh2, z_s_ne hne, eh1, z_n_ne (z_nn hb hq1)]; exact hb) hq2), eh2, z_s_ne hne, eh1, z_n_ne (z_nn hb hq1), hb] at hq4; cases hq4), eh6, z_s_ne hne, eh5, z_n_ne (z_nn (by rw [eh4, z_s_ne hne, eh3, z_n_ne (z_nn (by rw [eh2, z_s_ne hne, eh1, z_n_ne (z_nn hb hq1)]; exact hb) hq2), eh2, z_s_ne hne, eh1, z_n_ne (z_nn hb hq1)]; exact hb) hq3), eh4, z_s_ne hne, eh3, z_n_ne (z_nn (by rw [eh2, z_s_ne hne, eh1, z_n_ne (z_nn hb hq1)]; exact hb) hq2), eh2, z_s_ne hne, eh1, z_n_ne (z_nn hb hq1)]; exact hb⟩ (zcrn 4 389 h8_c.1 h8_c.2 (Nat.le_of_ble_eq_true rfl) (Nat.le_of_ble_eq_true rfl))

set_option maxRecDepth 100000 in
set_option maxHeartbeats 4000000 in
theorem c_Sc_fillSums {F : zF} {h : zH} {a wa la ha9 fa sm k s : Nat} {wf f : Nat → Int32} {W : Nat → Nat} (ha : h.1 a = some (oB 5 [.ref wa, .ref la, .ref ha9, .ref fa])) (hwa : h.1 wa = some (aI 14 wf)) (hsm : h.1 sm = some (aI (2 ^ k) f)) (hne : wa ≠ sm) (hwf : nIs wf W 14) (hk : k ≤ 8) (hs : s + k ≤ 14) : zMet F yX5_fillSums cX5_fillSums 5 none { frames := 2, cells := 0, slots := 0, locals := 60 } [.ref a, .ref sm, .int (nI s)] h (fun v h2 => v = none ∧ ∃ S, h2 = z_s h sm (aI (2 ^ k) S) ∧ nIs S (fun q => wS W s q k) (2 ^ k)) := by
  refine zMet_of (lv := [(0, .ref a), (1, .ref sm), (2, .int (nI s))]) (by decide) (by simp [lg_sl, Value.category]) rfl ?_
  intro X g z
  have hk8 : 2 ^ k ≤ 256 := Nat.le_trans (Nat.pow_le_pow_right (by decide) hk) (by decide)
  have hk0 : 0 < 2 ^ k := Nat.pow_pos (by decide)
  refine v_blk g [.aload_n 1, .iconst 0, .iconst 0] (pc' := 3) (lv' := [(0, .ref a), (1, .ref sm), (2, .int (nI s))]) (st' := [.int (0 : Int32), .int (0 : Int32), .ref sm]) (by decide +kernel) rfl rfl ?_
  refine v_iast g hsm 0 rfl hk0 (by omega) (by decide +kernel) ?_
  refine v_h (fun h1 eh1 => ?_)
  have h1_c : h1.2.1 = h.2.1 + 0 ∧ h1.2.2 = h.2.2 + 0 := zcs eh1 ⟨rfl, rfl⟩
  have h1_a : h1.1 a = some (oB 5 [.ref wa, .ref la, .ref ha9, .ref fa]) := by rw [eh1]; exact z_so ha (z_ne ha hsm rfl)
  have h1_wa : h1.1 wa = some (aI 14 wf) := by rw [eh1]; exact z_so hwa hne
  have h1_sm : h1.1 sm = some (aI (2 ^ k) (upd f 0 (0 : Int32))) := by rw [eh1]; exact z_s_self _ _ _
  refine v_blk g [.iconst 1, .istore_n 3] (pc' := 6) (lv' := [(3, .int (1 : Int32)), (0, .ref a), (1, .ref sm), (2, .int (nI s))]) (st' := []) (by decide +kernel) rfl rfl ?_
  have key : ∀ i, i ≤ 2 ^ k → (0 < i → ∀ S : Nat → Int32, nIs S (fun q => wS W s q k) i → zV F X (z_s h sm (aI (2 ^ k) S)) 6 [(3, .int (nI i)), (0, .ref a), (1, .ref sm), (2, .int (nI s))] []) := by
    refine z_up (P := fun i => (0 < i → ∀ S : Nat → Int32, nIs S (fun q => wS W s q k) i → zV F X (z_s h sm (aI (2 ^ k) S)) 6 [(3, .int (nI i)), (0, .ref a), (1, .ref sm), (2, .int (nI s))] [])) (2 ^ k) ?_ ?_
    · intro _ S hS
      refine v_blk g [.iload_n 3, .aload_n 1] (pc' := 8) (lv' := [(3, .int (nI (2 ^ k))), (0, .ref a), (1, .ref sm), (2, .int (nI s))]) (st' := [.ref sm, .int (nI (2 ^ k))]) (by decide +kernel) rfl rfl ?_
      refine v_alen g (z_s_self _ _ _) (by decide) (by decide +kernel) ?_
      refine v_icmp_ge g (off := 46) (tgt := 55) (by decide +kernel) (by decide) (fun _ => ?_) (fun c => absurd c (fun q => q (nI_le (Nat.le_refl _) (by omega))))
      exact v_vret g z rfl (by decide +kernel) ⟨rfl, S, rfl, hS⟩ (zcrn 0 0 rfl rfl (Nat.le_of_ble_eq_true rfl) (Nat.le_of_ble_eq_true rfl))
    · intro i hi ih h0 S hS
      obtain ⟨t, ht, hb, hlow⟩ := tz_first k (n := i) (by omega) hi
      have hlt : i &&& (i - 1) < i := Nat.lt_of_le_of_lt Nat.and_le_right (by omega)
      refine v_blk g [.iload_n 3, .aload_n 1] (pc' := 8) (lv' := [(3, .int (nI i)), (0, .ref a), (1, .ref sm), (2, .int (nI s))]) (st' := [.ref sm, .int (nI i)]) (by decide +kernel) rfl rfl ?_
      refine v_alen g (z_s_self _ _ _) (by decide) (by decide +kernel) ?_
      refine v_icmp_ge g (off := 46) (tgt := 55) (by decide +kernel) (by decide) (fun c => absurd c (nI_ge hi (by omega))) (fun _ => ?_)
      refine v_blk g [.iload_n 2, .iload_n 3] (pc' := 14) (lv' := [(3, .int (nI i)), (0, .ref a), (1, .ref sm), (2, .int (nI s))]) (st' := [.int (nI i), .int (nI s)]) (by decide +kernel) rfl rfl ?_
      refine v_callSp g (rest := [.int (nI s)]) (c_ntzI (x := nI i) (k := t) (by rw [u32_nI (by omega)]; exact hb) (fun q hq => by rw [u32_nI (by omega)]; exact hlow q hq) (by omega)) cl_X5_34 rfl (Nat.le_of_ble_eq_true rfl) (by decide +kernel) ⟨Nat.le_of_ble_eq_true rfl, Nat.le_of_ble_eq_true rfl⟩ (zcsn 0 0 rfl rfl (Nat.le_of_ble_eq_true rfl) (Nat.le_of_ble_eq_true rfl)) ?_
      show zV F X (z_s h sm (aI (2 ^ k) S)) 17 [(3, .int (nI i)), (0, .ref a), (1, .ref sm), (2, .int (nI s))] [.int (nI t), .int (nI s)]
      refine v_blk g [.iadd] (pc' := 18) (lv' := [(3, .int (nI i)), (0, .ref a), (1, .ref sm), (2, .int (nI s))]) (st' := [.int ((nI s) + (nI t))]) (by decide +kernel) rfl rfl ?_
      refine v_ti (z := nI (s + t)) (nI_add s t) ?_
      refine v_blk g [.istore 4, .aload_n 1, .iload_n 3, .aload_n 1, .iload_n 3, .iload_n 3, .iconst 1, .isub, .iand] (pc' := 28) (lv' := [(4, .int (nI (s + t))), (3, .int (nI i)), (0, .ref a), (1, .ref sm), (2, .int (nI s))]) (st' := [.int ((nI i) &&& ((nI i) - (1 : Int32))), .ref sm, .int (nI i), .ref sm]) (by decide +kernel) rfl rfl ?_
      refine v_ti (z := nI (i &&& (i - 1))) (by rw [show (1 : Int32) = nI 1 from rfl, pk_sub (by omega), fa_and]) ?_
      refine v_iald g (z_s_self _ _ _) (i &&& (i - 1)) rfl (by omega) (by omega) (by decide +kernel) ?_
      refine v_ti (z := nI (wS W s (i &&& (i - 1)) k)) (hS _ hlt) ?_
      refine v_blk g [.iload 4, .bipush 14] (pc' := 33) (lv' := [(4, .int (nI (s + t))), (3, .int (nI i)), (0, .ref a), (1, .ref sm), (2, .int (nI s))]) (st' := [.int (14 : Int32), .int (nI (s + t)), .int (nI (wS W s (i &&& (i - 1)) k)), .int (nI i), .ref sm]) (by decide +kernel) rfl rfl ?_
      refine v_icmp_ge g (off := 13) (tgt := 46) (by decide +kernel) (by decide) (fun c => absurd c (nI_ge (b := 14) (by omega) (by decide))) (fun _ => ?_)
      refine v_blk g [.aload_n 0] (pc' := 37) (lv' := [(4, .int (nI (s + t))), (3, .int (nI i)), (0, .ref a), (1, .ref sm), (2, .int (nI s))]) (st' := [.ref a, .int (nI (wS W s (i &&& (i - 1)) k)), .int (nI i), .ref sm]) (by decide +kernel) rfl rfl ?_
      refine v_get g (z_so ha (z_ne ha hsm rfl)) fl_X5_11 rfl (by decide +kernel) ?_
      refine v_blk g [.iload 4] (pc' := 42) (lv' := [(4, .int (nI (s + t))), (3, .int (nI i)), (0, .ref a), (1, .ref sm), (2, .int (nI s))]) (st' := [.int (nI (s + t)), .ref wa, .int (nI (wS W s (i &&& (i - 1)) k)), .int (nI i), .ref sm]) (by decide +kernel) rfl rfl ?_
      refine v_iald g (z_so hwa hne) (s + t) rfl (by omega) (Nat.le_of_ble_eq_true rfl) (by decide +kernel) ?_
      refine v_goto g (off := 4) (tgt := 47) (by decide +kernel) (by decide) ?_
      refine v_ti (z := nI (W (s + t))) (hwf _ (by omega)) ?_
      refine v_blk g [.iadd] (pc' := 48) (lv' := [(4, .int (nI (s + t))), (3, .int (nI i)), (0, .ref a), (1, .ref sm), (2, .int (nI s))]) (st' := [.int ((nI (wS W s (i &&& (i - 1)) k)) + (nI (W (s + t)))), .int (nI i), .ref sm]) (by decide +kernel) rfl rfl ?_
      refine v_ti (z := nI (wS W s i k)) (by rw [nI_add, ← wS_low W s ht hb hlow]) ?_
      refine v_iast g (z_s_self _ _ _) i rfl hi (by omega) (by decide +kernel) ?_
      refine v_h (fun h2 eh2 => ?_)
      have h2_c : h2.2.1 = h.2.1 + 0 ∧ h2.2.2 = h.2.2 + 0 := zcs eh2 ⟨rfl, rfl⟩
      have h2_a : h2.1 a = some (oB 5 [.ref wa, .ref la, .ref ha9, .ref fa]) := by rw [eh2]; exact z_so (z_so ha (z_ne ha hsm rfl)) (z_ne ha hsm rfl)
      have h2_wa : h2.1 wa = some (aI 14 wf) := by rw [eh2]; exact z_so (z_so hwa hne) hne
      have h2_sm : h2.1 sm = some (aI (2 ^ k) (upd S i (nI (wS W s i k)))) := by rw [eh2]; exact z_s_self _ _ _
      refine v_blk g [.iinc 3 1] (pc' := 52) (lv' := [(3, .int ((nI i) + (1 : Int32))), (4, .int (nI (s + t))), (0, .ref a), (1, .ref sm), (2, .int (nI s))]) (st' := []) (by decide +kernel) rfl rfl ?_
      refine v_goto g (off := -46) (tgt := 6) (by decide +kernel) (by decide) ?_
      refine v_lv [0, 2, 3, 4] (lv' := [(3, .int ((nI i) + (1 : Int32))), (0, .ref a), (1, .ref sm), (2, .int (nI s))]) rfl ?_
      refine v_eqh (h' := z_s h sm (aI (2 ^ k) (upd S i (nI (wS W s i k))))) (by rw [eh2, z_ss]) ?_
      refine v_eq (by rw [nI_1]) rfl (ih (by omega) _ (fun q hq => ?_))
      by_cases hqi : q = i
      · subst hqi; exact pk_us
      · rw [pk_un hqi]; exact hS q (by omega)
  rw [eh1]
  exact key 1 hk0 (by decide) _ (fun q hq => by show upd f 0 0 q = nI (wS W s q k); rw [show q = 0 by omega, pk_us, wS_0]; rfl)

set_option maxRecDepth 100000 in
set_option maxHeartbeats 4000000 in
theorem c_Sc_fillLow {F : zF} {h : zH} {a wa la ha9 fa : Nat} {lf : Nat → Int32} {ff : Nat → Int64} {sg : Nat → Nat} (ha : h.1 a = some (oB 5 [.ref wa, .ref la, .ref ha9, .ref fa])) (hla : h.1 la = some (aI 64 lf)) (hfa : h.1 fa = some (aJ 55 ff)) (hlf : nIs lf sg 64) (hsg : ∀ n, n < 64 → sg n ≤ 54) : zMet F yX5_fillLowFrom cX5_fillLowFrom 3 none { frames := 2, cells := 0, slots := 0, locals := 60 } [.ref a] h (fun v h2 => v = none ∧ ∃ L, h2 = z_s h fa (aJ 55 L) ∧ ∀ p, p < 55 → ∀ n, n < 64 → (uN (L p)).testBit n = decide (p ≤ sg n)) := by
  refine zMet_of (lv := [(0, .ref a)]) (by decide) (by simp [lg_sl, Value.category]) rfl ?_
  intro X g z
  refine v_blk g [.aload_n 0] (pc' := 1) (lv' := [(0, .ref a)]) (st' := [.ref a]) (by decide +kernel) rfl rfl ?_
  refine v_get g ha fl_X5_23 rfl (by decide +kernel) ?_
  refine v_blk g [.lconst 0] (pc' := 5) (lv' := [(0, .ref a)]) (st' := [.long (0 : Int64), .ref fa]) (by decide +kernel) rfl rfl ?_
  refine v_callSp g (rest := []) (c_fillJ 0 hfa (by decide)) cl_X5_40 rfl (Nat.le_of_ble_eq_true rfl) (by decide +kernel) ⟨Nat.le_of_ble_eq_true rfl, Nat.le_of_ble_eq_true rfl⟩ (zcsn 0 0 rfl rfl (Nat.le_of_ble_eq_true rfl) (Nat.le_of_ble_eq_true rfl)) ?_
  show zV F X (z_s h fa (aJ 55 (mx (fun _ => (0 : Int64)) ff 55))) 8 [(0, .ref a)] []
  refine v_blk g [.iconst 0, .istore_n 1] (pc' := 10) (lv' := [(1, .int (0 : Int32)), (0, .ref a)]) (st' := []) (by decide +kernel) rfl rfl ?_
  have key2 : ∀ d, d ≤ 54 → ∀ L : Nat → Int64, (∀ p, p < 55 → ∀ n, n < 64 → (uN (L p)).testBit n = if d ≤ p then decide (p ≤ sg n) else decide (sg n = p)) → zV F X (z_s h fa (aJ 55 L)) 54 [(1, .int (nI d + (-1 : Int32))), (0, .ref a)] [] := by
    intro d
    induction d with
    | zero =>
      intro _ L hL
      refine v_blk g [.iload_n 1] (pc' := 55) (lv' := [(1, .int (nI 0 + (-1 : Int32))), (0, .ref a)]) (st' := [.int (nI 0 + (-1 : Int32))]) (by decide +kernel) rfl rfl ?_
      refine v_if_lt g (off := 26) (tgt := 81) (by decide +kernel) (by decide) (fun _ => ?_) (fun c => absurd c (fun q => q (by decide)))
      exact v_vret g z rfl (by decide +kernel) ⟨rfl, L, rfl, fun p hp n hn => by rw [hL p hp n hn, if_pos (Nat.zero_le _)]⟩ (zcrn 0 0 rfl rfl (Nat.le_of_ble_eq_true rfl) (Nat.le_of_ble_eq_true rfl))
    | succ d ihd =>
      intro hd L hL
      refine v_eq (lv' := [(1, .int (nI d)), (0, .ref a)]) (st' := []) (by rw [pk_m1]) rfl ?_
      refine v_blk g [.iload_n 1] (pc' := 55) (lv' := [(1, .int (nI d)), (0, .ref a)]) (st' := [.int (nI d)]) (by decide +kernel) rfl rfl ?_
      refine v_if_lt g (off := 26) (tgt := 81) (by decide +kernel) (by decide) (fun c => absurd c (nI_pos (by omega))) (fun _ => ?_)
      refine v_blk g [.aload_n 0] (pc' := 59) (lv' := [(1, .int (nI d)), (0, .ref a)]) (st' := [.ref a]) (by decide +kernel) rfl rfl ?_
      refine v_get g (z_so ha (z_ne ha hfa rfl)) fl_X5_23 rfl (by decide +kernel) ?_
      refine v_blk g [.iload_n 1, .dup2] (pc' := 64) (lv' := [(1, .int (nI d)), (0, .ref a)]) (st' := [.int (nI d), .ref fa, .int (nI d), .ref fa]) (by decide +kernel) rfl rfl ?_
      refine v_lald g (z_s_self _ _ _) d rfl (by omega) (Nat.le_of_ble_eq_true rfl) (by decide +kernel) ?_
      refine v_blk g [.aload_n 0] (pc' := 66) (lv' := [(1, .int (nI d)), (0, .ref a)]) (st' := [.ref a, .long (L d), .int (nI d), .ref fa]) (by decide +kernel) rfl rfl ?_
      refine v_get g (z_so ha (z_ne ha hfa rfl)) fl_X5_23 rfl (by decide +kernel) ?_
      refine v_blk g [.iload_n 1, .iconst 1, .iadd] (pc' := 72) (lv' := [(1, .int (nI d)), (0, .ref a)]) (st' := [.int ((nI d) + (1 : Int32)), .ref fa, .long (L d), .int (nI d), .ref fa]) (by decide +kernel) rfl rfl ?_
      refine v_ti (z := nI (d + 1)) (nI_1 d) ?_
      refine v_lald g (z_s_self _ _ _) (d + 1) rfl (by omega) (Nat.le_of_ble_eq_true rfl) (by decide +kernel) ?_
      refine v_blk g [.lor] (pc' := 74) (lv' := [(1, .int (nI d)), (0, .ref a)]) (st' := [.long ((L d) ||| (L (d + 1))), .int (nI d), .ref fa]) (by decide +kernel) rfl rfl ?_
      refine v_last g (z_s_self _ _ _) d rfl (by omega) (Nat.le_of_ble_eq_true rfl) (by decide +kernel) ?_
      refine v_h (fun h1 eh1 => ?_)
      have h1_c : h1.2.1 = h.2.1 + 0 ∧ h1.2.2 = h.2.2 + 0 := zcs eh1 ⟨rfl, rfl⟩
      have h1_a : h1.1 a = some (oB 5 [.ref wa, .ref la, .ref ha9, .ref fa]) := by rw [eh1]; exact z_so (z_so ha (z_ne ha hfa rfl)) (z_ne ha hfa rfl)
      have h1_la : h1.1 la = some (aI 64 lf) := by rw [eh1]; exact z_so (z_so hla (z_ne hla hfa rfl)) (z_ne hla hfa rfl)
      have h1_fa : h1.1 fa = some (aJ 55 (vp_updL L d ((L d) ||| (L (d + 1))))) := by rw [eh1]; exact z_s_self _ _ _
      refine v_blk g [.iinc 1 (-1)] (pc' := 78) (lv' := [(1, .int ((nI d) + (-1 : Int32))), (0, .ref a)]) (st' := []) (by decide +kernel) rfl rfl ?_
      refine v_goto g (off := -24) (tgt := 54) (by decide +kernel) (by decide) ?_
      refine v_lv [0, 1] (lv' := [(1, .int ((nI d) + (-1 : Int32))), (0, .ref a)]) rfl ?_
      refine v_eqh (h' := z_s h fa (aJ 55 (vp_updL L d (L d ||| L (d + 1))))) (by rw [eh1, z_ss]) ?_
      refine ihd (by omega) _ (fun p hp n hn => ?_)
      by_cases hpd : p = d
      · subst hpd
        rw [pk_uLs, uN_or', Nat.testBit_or, hL p (by omega) n hn, hL (p + 1) (by omega) n hn, if_neg (by omega), if_pos (by omega), if_pos (by omega)]
        rw [← Bool.decide_or]
        exact decide_eq_decide.mpr ⟨fun q => by omega, fun q => by omega⟩
      · rw [pk_uLn hpd, hL p hp n hn]
        by_cases h9 : d + 1 ≤ p
        · rw [if_pos h9, if_pos (by omega)]
        · rw [if_neg h9, if_neg (by omega)]
  have key : ∀ i, i ≤ 64 → ∀ L : Nat → Int64, (∀ p, p < 55 → ∀ n, n < 64 → (uN (L p)).testBit n = (decide (n < i) && decide (sg n = p))) → zV F X (z_s h fa (aJ 55 L)) 10 [(1, .int (nI i)), (0, .ref a)] [] := by
    refine z_up (P := fun i => ∀ L : Nat → Int64, (∀ p, p < 55 → ∀ n, n < 64 → (uN (L p)).testBit n = (decide (n < i) && decide (sg n = p))) → zV F X (z_s h fa (aJ 55 L)) 10 [(1, .int (nI i)), (0, .ref a)] []) 64 ?_ ?_
    · intro L hL
      refine v_blk g [.iload_n 1, .bipush 64] (pc' := 13) (lv' := [(1, .int (nI 64)), (0, .ref a)]) (st' := [.int (64 : Int32), .int (nI 64)]) (by decide +kernel) rfl rfl ?_
      refine v_icmp_ge g (off := 38) (tgt := 51) (by decide +kernel) (by decide) (fun _ => ?_) (fun c => absurd c (fun q => q (by decide)))
      refine v_blk g [.bipush 53, .istore_n 1] (pc' := 54) (lv' := [(1, .int (53 : Int32)), (0, .ref a)]) (st' := []) (by decide +kernel) rfl rfl ?_
      refine v_lv [0, 1] (lv' := [(1, .int (53 : Int32)), (0, .ref a)]) rfl ?_
      refine v_eq rfl rfl (key2 54 (by decide) L (fun p hp n hn => ?_))
      have h9 := hsg n hn
      rw [hL p hp n hn]
      simp only [hn, decide_true, Bool.true_and]
      by_cases h8 : 54 ≤ p
      · rw [if_pos h8]
        exact decide_eq_decide.mpr ⟨fun q => by omega, fun q => by omega⟩
      · rw [if_neg h8]
    · intro i hi ih L hL
      have h9 := hsg i hi
      refine v_blk g [.iload_n 1, .bipush 64] (pc' := 13) (lv' := [(1, .int (nI i)), (0, .ref a)]) (st' := [.int (64 : Int32), .int (nI i)]) (by decide +kernel) rfl rfl ?_
      refine v_icmp_ge g (off := 38) (tgt := 51) (by decide +kernel) (by decide) (fun c => absurd c (nI_ge (b := 64) hi (by decide))) (fun _ => ?_)
      refine v_blk g [.aload_n 0] (pc' := 17) (lv' := [(1, .int (nI i)), (0, .ref a)]) (st' := [.ref a]) (by decide +kernel) rfl rfl ?_
      refine v_get g (z_so ha (z_ne ha hfa rfl)) fl_X5_17 rfl (by decide +kernel) ?_
      refine v_blk g [.iload_n 1] (pc' := 21) (lv' := [(1, .int (nI i)), (0, .ref a)]) (st' := [.int (nI i), .ref la]) (by decide +kernel) rfl rfl ?_
      refine v_iald g (z_so hla (z_ne hla hfa rfl)) i rfl hi (Nat.le_of_ble_eq_true rfl) (by decide +kernel) ?_
      refine v_ti (z := nI (sg i)) (hlf i hi) ?_
      refine v_blk g [.istore_n 2, .iload_n 2] (pc' := 24) (lv' := [(2, .int (nI (sg i))), (1, .int (nI i)), (0, .ref a)]) (st' := [.int (nI (sg i))]) (by decide +kernel) rfl rfl ?_
      refine v_if_lt g (off := 21) (tgt := 45) (by decide +kernel) (by decide) (fun c => absurd c (nI_pos (by omega))) (fun _ => ?_)
      refine v_blk g [.iload_n 2, .bipush 54] (pc' := 30) (lv' := [(2, .int (nI (sg i))), (1, .int (nI i)), (0, .ref a)]) (st' := [.int (54 : Int32), .int (nI (sg i))]) (by decide +kernel) rfl rfl ?_
      refine v_icmp_gt g (off := 15) (tgt := 45) (by decide +kernel) (by decide) (fun c => absurd c (nI_nlt (a := 54) (by omega) (by decide) : ¬ (54 : Int32) < nI (sg i))) (fun _ => ?_)
      refine v_blk g [.aload_n 0] (pc' := 34) (lv' := [(2, .int (nI (sg i))), (1, .int (nI i)), (0, .ref a)]) (st' := [.ref a]) (by decide +kernel) rfl rfl ?_
      refine v_get g (z_so ha (z_ne ha hfa rfl)) fl_X5_23 rfl (by decide +kernel) ?_
      refine v_blk g [.iload_n 2, .dup2] (pc' := 39) (lv' := [(2, .int (nI (sg i))), (1, .int (nI i)), (0, .ref a)]) (st' := [.int (nI (sg i)), .ref fa, .int (nI (sg i)), .ref fa]) (by decide +kernel) rfl rfl ?_
      refine v_lald g (z_s_self _ _ _) (sg i) rfl (by omega) (Nat.le_of_ble_eq_true rfl) (by decide +kernel) ?_
      refine v_blk g [.lconst 1, .iload_n 1, .lshl, .lor] (pc' := 44) (lv' := [(2, .int (nI (sg i))), (1, .int (nI i)), (0, .ref a)]) (st' := [.long ((L (sg i)) ||| ((1 : Int64) <<< ((nI i).toInt64 &&& (63 : Int64)))), .int (nI (sg i)), .ref fa]) (by decide +kernel) rfl rfl ?_
      refine v_last g (z_s_self _ _ _) (sg i) rfl (by omega) (Nat.le_of_ble_eq_true rfl) (by decide +kernel) ?_
      refine v_h (fun h1 eh1 => ?_)
      have h1_c : h1.2.1 = h.2.1 + 0 ∧ h1.2.2 = h.2.2 + 0 := zcs eh1 ⟨rfl, rfl⟩
      have h1_a : h1.1 a = some (oB 5 [.ref wa, .ref la, .ref ha9, .ref fa]) := by rw [eh1]; exact z_so (z_so ha (z_ne ha hfa rfl)) (z_ne ha hfa rfl)
      have h1_la : h1.1 la = some (aI 64 lf) := by rw [eh1]; exact z_so (z_so hla (z_ne hla hfa rfl)) (z_ne hla hfa rfl)
      have h1_fa : h1.1 fa = some (aJ 55 (vp_updL L (sg i) ((L (sg i)) ||| ((1 : Int64) <<< ((nI i).toInt64 &&& (63 : Int64)))))) := by rw [eh1]; exact z_s_self _ _ _
      refine v_blk g [.iinc 1 1] (pc' := 48) (lv' := [(1, .int ((nI i) + (1 : Int32))), (2, .int (nI (sg i))), (0, .ref a)]) (st' := []) (by decide +kernel) rfl rfl ?_
      refine v_goto g (off := -38) (tgt := 10) (by decide +kernel) (by decide) ?_
      refine v_lv [0, 2] (lv' := [(1, .int ((nI i) + (1 : Int32))), (0, .ref a)]) rfl ?_
      refine v_eqh (h' := z_s h fa (aJ 55 (vp_updL L (sg i) (L (sg i) ||| (1 : Int64) <<< ((nI i).toInt64 &&& (63 : Int64)))))) (by rw [eh1, z_ss]) ?_
      refine v_eq (by rw [nI_1]) rfl (ih _ (fun p hp n hn => ?_))
      by_cases hpd : p = sg i
      · subst hpd
        rw [pk_uLs, uN_or', ls_one hi, Nat.testBit_or, hL _ hp n hn, Nat.testBit_two_pow]
        by_cases hni : n = i
        · subst hni; simp
        · rw [show decide (i = n) = false from decide_eq_false (fun q => hni q.symm), Bool.or_false]
          congr 1
          exact decide_eq_decide.mpr ⟨fun q => by omega, fun q => by omega⟩
      · rw [pk_uLn hpd, hL p hp n hn]
        by_cases hni : n = i
        · subst hni; simp [show ¬ sg n = p from fun q => hpd q.symm]
        · congr 1
          exact decide_eq_decide.mpr ⟨fun q => by omega, fun q => by omega⟩
  exact key 0 (Nat.zero_le _) _ (fun p hp n hn => by rw [mx_lt hp]; simp; exact Nat.zero_testBit _)
