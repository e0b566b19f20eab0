/-! a new Books -/
set_option maxRecDepth 100000 in
set_option maxHeartbeats 4000000 in
theorem c_Bk_init {F : zF} {h : zH} {b : Nat} (hb : h.1 b = some (oB 0 [.int 0, .long 0, .long 0, .null, .null, .int 0, .null, .int 0, .null, .null, .int 0])) : zMet F yX0_init cX0_init 2 none { frames := 3, cells := 9, slots := 102, locals := 90 } [.ref b] h (fun v h2 => v = none ∧ ∃ (q1 q2 q3 q4 q5 : Nat) (D : Nat → Option Nat) (da : Nat → Nat), h2.1 b = some (oB 0 [.int 0, .long 0, .long 0, .ref q1, .ref q2, .int 0, .ref q3, .int 0, .ref q4, .ref q5, .int 0]) ∧ h2.1 q1 = some (aI 14 (mx (fun _ => (-1 : Int32)) (fun _ => 0) 14)) ∧ h2.1 q2 = some (aQ 4 20 (fun _ => none)) ∧ h2.1 q3 = some (aQ 5 4 D) ∧ h2.1 q4 = some (aJ 20 (fun _ => 0)) ∧ h2.1 q5 = some (aI 20 (fun _ => 0)) ∧ (∀ e, e < 4 → D e = some (da e) ∧ h2.1 (da e) = some (oD (0, 0, 0, 0, 0, 0)) ∧ h.1 (da e) = none) ∧ (∀ e e2, e < 4 → e2 < 4 → da e = da e2 → e = e2) ∧ h.1 q1 = none ∧ h.1 q2 = none ∧ h.1 q3 = none ∧ h.1 q4 = none ∧ h.1 q5 = none ∧ (h2.2.1 = h.2.1 + 9 ∧ h2.2.2 = h.2.2 + 102) ∧ ∀ x y, h.1 x = some y → x ≠ b → h2.1 x = some y) := by
  refine zMet_of (lv := [(0, .ref b)]) (by decide) (by simp [lg_sl, Value.category]) rfl ?_
  intro X g z
  refine v_blk g [.aload_n 0] (pc' := 1) (lv' := [(0, .ref b)]) (st' := [.ref b]) (by decide +kernel) rfl rfl ?_
  refine v_obj g ol_X0_3 (by decide +kernel) ⟨Nat.le_of_ble_eq_true rfl, Nat.le_of_ble_eq_true rfl⟩ (Nat.le_of_ble_eq_true rfl) ?_ ob_i ob_c
  refine v_blk g [.aload_n 0, .bipush 14] (pc' := 7) (lv' := [(0, .ref b)]) (st' := [.int (14 : Int32), .ref b]) (by decide +kernel) rfl rfl ?_
  refine v_newI g 14 rfl (Nat.le_of_ble_eq_true rfl) ac_int (zcsk 0 0 1 14 rfl rfl (Nat.le_of_ble_eq_true rfl) (Nat.le_of_ble_eq_true rfl)) (by decide +kernel) (fun q1 hq1 => ?_)
  refine v_h (fun h1 eh1 => ?_)
  have h1_c : h1.2.1 = h.2.1 + 1 ∧ h1.2.2 = h.2.2 + 14 := zcn eh1 ⟨rfl, rfl⟩
  have h1_b : h1.1 b = some (oB 0 [.int (0 : Int32), .long (0 : Int64), .long (0 : Int64), .null, .null, .int (0 : Int32), .null, .int (0 : Int32), .null, .null, .int (0 : Int32)]) := by rw [eh1]; exact z_no hb hq1
  have h1_q1 : h1.1 q1 = some (aI 14 (fun _ => 0)) := by rw [eh1]; exact z_n_self _ _ _ _
  refine v_putF g (fs' := [.int (0 : Int32), .long (0 : Int64), .long (0 : Int64), .ref q1, .null, .int (0 : Int32), .null, .int (0 : Int32), .null, .null, .int (0 : Int32)]) h1_b fl_X0_9 rfl rfl rfl rfl (Nat.le_of_ble_eq_true rfl) rfl (by decide +kernel) ?_
  refine v_h (fun h2 eh2 => ?_)
  have h2_c : h2.2.1 = h.2.1 + 1 ∧ h2.2.2 = h.2.2 + 14 := zcs eh2 h1_c
  have h2_b : h2.1 b = some (oB 0 [.int (0 : Int32), .long (0 : Int64), .long (0 : Int64), .ref q1, .null, .int (0 : Int32), .null, .int (0 : Int32), .null, .null, .int (0 : Int32)]) := by rw [eh2]; exact z_s_self _ _ _
  have h2_q1 : h2.1 q1 = some (aI 14 (fun _ => 0)) := by rw [eh2]; exact z_so h1_q1 (z_ne h1_q1 h1_b rfl)
  refine v_blk g [.aload_n 0] (pc' := 13) (lv' := [(0, .ref b)]) (st' := [.ref b]) (by decide +kernel) rfl rfl ?_
  refine v_get g h2_b fl_X0_9 rfl (by decide +kernel) ?_
  refine v_blk g [.iconst (-1)] (pc' := 17) (lv' := [(0, .ref b)]) (st' := [.int (-1 : Int32), .ref q1]) (by decide +kernel) rfl rfl ?_
  refine v_callSp g (rest := []) (c_fillI (-1) h2_q1 (by decide)) cl_X0_15 rfl (Nat.le_of_ble_eq_true rfl) (by decide +kernel) ⟨Nat.le_of_ble_eq_true rfl, Nat.le_of_ble_eq_true rfl⟩ (zcsn 1 14 h2_c.1 h2_c.2 (Nat.le_of_ble_eq_true rfl) (Nat.le_of_ble_eq_true rfl)) ?_
  show zV F X (z_s h2 q1 (aI 14 (mx (fun _ => (-1 : Int32)) (fun _ => 0) 14))) 20 [(0, .ref b)] []
  refine v_h (fun h3 eh3 => ?_)
  have h3_c : h3.2.1 = h.2.1 + 1 ∧ h3.2.2 = h.2.2 + 14 := zcs eh3 h2_c
  have h3_b : h3.1 b = some (oB 0 [.int (0 : Int32), .long (0 : Int64), .long (0 : Int64), .ref q1, .null, .int (0 : Int32), .null, .int (0 : Int32), .null, .null, .int (0 : Int32)]) := by rw [eh3]; exact z_so h2_b (z_nn hb hq1)
  have h3_q1 : h3.1 q1 = some (aI 14 (mx (fun _ => (-1 : Int32)) (fun _ => 0) 14)) := by rw [eh3]; exact z_s_self _ _ _
  refine v_blk g [.aload_n 0, .bipush 20] (pc' := 23) (lv' := [(0, .ref b)]) (st' := [.int (20 : Int32), .ref b]) (by decide +kernel) rfl rfl ?_
  refine v_newQ4 g 20 rfl (Nat.le_of_ble_eq_true rfl) kl_X0_21 (zcsk 1 14 1 20 h3_c.1 h3_c.2 (Nat.le_of_ble_eq_true rfl) (Nat.le_of_ble_eq_true rfl)) (by decide +kernel) (fun q2 hq2 => ?_)
  refine v_h (fun h4 eh4 => ?_)
  have h4_c : h4.2.1 = h.2.1 + 2 ∧ h4.2.2 = h.2.2 + 34 := zcn eh4 h3_c
  have h4_b : h4.1 b = some (oB 0 [.int (0 : Int32), .long (0 : Int64), .long (0 : Int64), .ref q1, .null, .int (0 : Int32), .null, .int (0 : Int32), .null, .null, .int (0 : Int32)]) := by rw [eh4]; exact z_no h3_b hq2
  have h4_q1 : h4.1 q1 = some (aI 14 (mx (fun _ => (-1 : Int32)) (fun _ => 0) 14)) := by rw [eh4]; exact z_no h3_q1 hq2
  have h4_q2 : h4.1 q2 = some (aQ 4 20 (fun _ => none)) := by rw [eh4]; exact z_n_self _ _ _ _
  refine v_putF g (fs' := [.int (0 : Int32), .long (0 : Int64), .long (0 : Int64), .ref q1, .ref q2, .int (0 : Int32), .null, .int (0 : Int32), .null, .null, .int (0 : Int32)]) h4_b fl_X0_23 rfl rfl rfl rfl (Nat.le_of_ble_eq_true rfl) rfl (by decide +kernel) ?_
  refine v_h (fun h5 eh5 => ?_)
  have h5_c : h5.2.1 = h.2.1 + 2 ∧ h5.2.2 = h.2.2 + 34 := zcs eh5 h4_c
  have h5_b : h5.1 b = some (oB 0 [.int (0 : Int32), .long (0 : Int64), .long (0 : Int64), .ref q1, .ref q2, .int (0 : Int32), .null, .int (0 : Int32), .null, .null, .int (0 : Int32)]) := by rw [eh5]; exact z_s_self _ _ _
  have h5_q1 : h5.1 q1 = some (aI 14 (mx (fun _ => (-1 : Int32)) (fun _ => 0) 14)) := by rw [eh5]; exact z_so h4_q1 (Ne.symm (z_nn hb hq1))
  have h5_q2 : h5.1 q2 = some (aQ 4 20 (fun _ => none)) := by rw [eh5]; exact z_so h4_q2 (z_ne h4_q2 h4_b rfl)
  refine v_blk g [.aload_n 0, .iconst 4] (pc' := 31) (lv' := [(0, .ref b)]) (st' := [.int (4 : Int32), .ref b]) (by decide +kernel) rfl rfl ?_
  refine v_newQ5 g 4 rfl (Nat.le_of_ble_eq_true rfl) kl_X0_27 (zcsk 2 34 1 4 h5_c.1 h5_c.2 (Nat.le_of_ble_eq_true rfl) (Nat.le_of_ble_eq_true rfl)) (by decide +kernel) (fun q3 hq3 => ?_)
  refine v_h (fun h6 eh6 => ?_)
  have h6_c : h6.2.1 = h.2.1 + 3 ∧ h6.2.2 = h.2.2 + 38 := zcn eh6 h5_c
  have h6_b : h6.1 b = some (oB 0 [.int (0 : Int32), .long (0 : Int64), .long (0 : Int64), .ref q1, .ref q2, .int (0 : Int32), .null, .int (0 : Int32), .null, .null, .int (0 : Int32)]) := by rw [eh6]; exact z_no h5_b hq3
  have h6_q1 : h6.1 q1 = some (aI 14 (mx (fun _ => (-1 : Int32)) (fun _ => 0) 14)) := by rw [eh6]; exact z_no h5_q1 hq3
  have h6_q2 : h6.1 q2 = some (aQ 4 20 (fun _ => none)) := by rw [eh6]; exact z_no h5_q2 hq3
  have h6_q3 : h6.1 q3 = some (aQ 5 4 (fun _ => none)) := by rw [eh6]; exact z_n_self _ _ _ _
  refine v_putF g (fs' := [.int (0 : Int32), .long (0 : Int64), .long (0 : Int64), .ref q1, .ref q2, .int (0 : Int32), .ref q3, .int (0 : Int32), .null, .null, .int (0 : Int32)]) h6_b fl_X0_29 rfl rfl rfl rfl (Nat.le_of_ble_eq_true rfl) rfl (by decide +kernel) ?_
  refine v_h (fun h7 eh7 => ?_)
  have h7_c : h7.2.1 = h.2.1 + 3 ∧ h7.2.2 = h.2.2 + 38 := zcs eh7 h6_c
  have h7_b : h7.1 b = some (oB 0 [.int (0 : Int32), .long (0 : Int64), .long (0 : Int64), .ref q1, .ref q2, .int (0 : Int32), .ref q3, .int (0 : Int32), .null, .null, .int (0 : Int32)]) := by rw [eh7]; exact z_s_self _ _ _
  have h7_q1 : h7.1 q1 = some (aI 14 (mx (fun _ => (-1 : Int32)) (fun _ => 0) 14)) := by rw [eh7]; exact z_so h6_q1 (Ne.symm (z_nn hb hq1))
  have h7_q2 : h7.1 q2 = some (aQ 4 20 (fun _ => none)) := by rw [eh7]; exact z_so h6_q2 (z_ne h6_q2 h6_b rfl)
  have h7_q3 : h7.1 q3 = some (aQ 5 4 (fun _ => none)) := by rw [eh7]; exact z_so h6_q3 (z_ne h6_q3 h6_b rfl)
  refine v_blk g [.iconst 0, .istore_n 1] (pc' := 39) (lv' := [(1, .int (0 : Int32)), (0, .ref b)]) (st' := []) (by decide +kernel) rfl rfl ?_
  have fr3 : ∀ x y, h.1 x = some y → x ≠ b → h3.1 x = some y := fun x y q1' q2' => by rw [eh3, z_s_ne (z_nn q1' hq1), eh2, z_s_ne q2', eh1, z_n_ne (z_nn q1' hq1)]; exact q1'
  have fq2 : h.1 q2 = none := by
    cases hx : h.1 q2 with
    | none => rfl
    | some y =>
      have hne : q2 ≠ b := fun e => by subst e; rw [h3_b] at hq2; cases hq2
      rw [fr3 q2 y hx hne] at hq2; cases hq2
  have fr5 : ∀ x y, h.1 x = some y → x ≠ b → h5.1 x = some y := fun x y q1' q2' => by rw [eh5, z_s_ne q2', eh4, z_n_ne (z_nn q1' fq2)]; exact fr3 x y q1' q2'
  have fq3 : h.1 q3 = none := by
    cases hx : h.1 q3 with
    | none => rfl
    | some y =>
      have hne : q3 ≠ b := fun e => by subst e; rw [h5_b] at hq3; cases hq3
      rw [fr5 q3 y hx hne] at hq3; cases hq3
  have fr7 : ∀ x y, h.1 x = some y → x ≠ b → h7.1 x = some y := fun x y q1' q2' => by rw [eh7, z_s_ne q2', eh6, z_n_ne (z_nn q1' fq3)]; exact fr5 x y q1' q2'
  have key : ∀ i, i ≤ 4 → ∀ (H : zH) (D : Nat → Option Nat) (da : Nat → Nat), H.1 b = some (oB 0 [.int 0, .long 0, .long 0, .ref q1, .ref q2, .int 0, .ref q3, .int 0, .null, .null, .int 0]) → H.1 q1 = some (aI 14 (mx (fun _ => (-1 : Int32)) (fun _ => 0) 14)) → H.1 q2 = some (aQ 4 20 (fun _ => none)) → H.1 q3 = some (aQ 5 4 D) → (∀ e, e < i → D e = some (da e) ∧ H.1 (da e) = some (oD (0, 0, 0, 0, 0, 0)) ∧ h.1 (da e) = none) → (∀ e e2, e < i → e2 < i → da e = da e2 → e = e2) → (H.2.1 = h.2.1 + (3 + i) ∧ H.2.2 = h.2.2 + (38 + 6 * i)) → (∀ x y, h.1 x = some y → x ≠ b → H.1 x = some y) → zV F X H 39 [(1, .int (nI i)), (0, .ref b)] [] := by
    refine z_up (P := fun i => ∀ (H : zH) (D : Nat → Option Nat) (da : Nat → Nat), H.1 b = some (oB 0 [.int 0, .long 0, .long 0, .ref q1, .ref q2, .int 0, .ref q3, .int 0, .null, .null, .int 0]) → H.1 q1 = some (aI 14 (mx (fun _ => (-1 : Int32)) (fun _ => 0) 14)) → H.1 q2 = some (aQ 4 20 (fun _ => none)) → H.1 q3 = some (aQ 5 4 D) → (∀ e, e < i → D e = some (da e) ∧ H.1 (da e) = some (oD (0, 0, 0, 0, 0, 0)) ∧ h.1 (da e) = none) → (∀ e e2, e < i → e2 < i → da e = da e2 → e = e2) → (H.2.1 = h.2.1 + (3 + i) ∧ H.2.2 = h.2.2 + (38 + 6 * i)) → (∀ x y, h.1 x = some y → x ≠ b → H.1 x = some y) → zV F X H 39 [(1, .int (nI i)), (0, .ref b)] []) 4 ?_ ?_
    · intro H D da hbH h1H h2H h3H hde hin hcn hfr
      refine v_blk g [.iload_n 1, .iconst 4] (pc' := 41) (lv' := [(1, .int (nI 4)), (0, .ref b)]) (st' := [.int (4 : Int32), .int (nI 4)]) (by decide +kernel) rfl rfl ?_
      refine v_icmp_ge g (off := 22) (tgt := 63) (by decide +kernel) (by decide) (fun _ => ?_) (fun c => absurd c (fun q => q (by decide)))
      refine v_blk g [.aload_n 0, .bipush 20] (pc' := 66) (lv' := [(1, .int (nI 4)), (0, .ref b)]) (st' := [.int (20 : Int32), .ref b]) (by decide +kernel) rfl rfl ?_
      refine v_newJ g 20 rfl (Nat.le_of_ble_eq_true rfl) ac_long (zcsk 7 62 1 20 hcn.1 hcn.2 (Nat.le_of_ble_eq_true rfl) (Nat.le_of_ble_eq_true rfl)) (by decide +kernel) (fun q4 hq4 => ?_)
      refine v_h (fun H1 eH1 => ?_)
      have H1_c : H1.2.1 = h.2.1 + 8 ∧ H1.2.2 = h.2.2 + 82 := zcn eH1 hcn
      have H1_b : H1.1 b = some (oB 0 [.int (0 : Int32), .long (0 : Int64), .long (0 : Int64), .ref q1, .ref q2, .int (0 : Int32), .ref q3, .int (0 : Int32), .null, .null, .int (0 : Int32)]) := by rw [eH1]; exact z_no hbH hq4
      have H1_q3 : H1.1 q3 = some (aQ 5 4 D) := by rw [eH1]; exact z_no h3H hq4
      have H1_q1 : H1.1 q1 = some (aI 14 (mx (fun _ => (-1 : Int32)) (fun _ => 0) 14)) := by rw [eH1]; exact z_no h1H hq4
      have H1_q2 : H1.1 q2 = some (aQ 4 20 (fun _ => none)) := by rw [eH1]; exact z_no h2H hq4
      have H1_q4 : H1.1 q4 = some (aJ 20 (fun _ => 0)) := by rw [eH1]; exact z_n_self _ _ _ _
      refine v_putF g (fs' := [.int (0 : Int32), .long (0 : Int64), .long (0 : Int64), .ref q1, .ref q2, .int (0 : Int32), .ref q3, .int (0 : Int32), .ref q4, .null, .int (0 : Int32)]) H1_b fl_X0_34 rfl rfl rfl rfl (Nat.le_of_ble_eq_true rfl) rfl (by decide +kernel) ?_
      refine v_h (fun H2 eH2 => ?_)
      have H2_c : H2.2.1 = h.2.1 + 8 ∧ H2.2.2 = h.2.2 + 82 := zcs eH2 H1_c
      have H2_b : H2.1 b = some (oB 0 [.int (0 : Int32), .long (0 : Int64), .long (0 : Int64), .ref q1, .ref q2, .int (0 : Int32), .ref q3, .int (0 : Int32), .ref q4, .null, .int (0 : Int32)]) := by rw [eH2]; exact z_s_self _ _ _
      have H2_q3 : H2.1 q3 = some (aQ 5 4 D) := by rw [eH2]; exact z_so H1_q3 (z_ne H1_q3 H1_b rfl)
      have H2_q1 : H2.1 q1 = some (aI 14 (mx (fun _ => (-1 : Int32)) (fun _ => 0) 14)) := by rw [eH2]; exact z_so H1_q1 (Ne.symm (z_nn hb hq1))
      have H2_q2 : H2.1 q2 = some (aQ 4 20 (fun _ => none)) := by rw [eH2]; exact z_so H1_q2 (z_ne H1_q2 H1_b rfl)
      have H2_q4 : H2.1 q4 = some (aJ 20 (fun _ => 0)) := by rw [eH2]; exact z_so H1_q4 (z_ne H1_q4 H1_b rfl)
      refine v_blk g [.aload_n 0, .bipush 20] (pc' := 74) (lv' := [(1, .int (nI 4)), (0, .ref b)]) (st' := [.int (20 : Int32), .ref b]) (by decide +kernel) rfl rfl ?_
      refine v_newI g 20 rfl (Nat.le_of_ble_eq_true rfl) ac_int (zcsk 8 82 1 20 H2_c.1 H2_c.2 (Nat.le_of_ble_eq_true rfl) (Nat.le_of_ble_eq_true rfl)) (by decide +kernel) (fun q5 hq5 => ?_)
      refine v_h (fun H3 eH3 => ?_)
      have H3_c : H3.2.1 = h.2.1 + 9 ∧ H3.2.2 = h.2.2 + 102 := zcn eH3 H2_c
      have H3_b : H3.1 b = some (oB 0 [.int (0 : Int32), .long (0 : Int64), .long (0 : Int64), .ref q1, .ref q2, .int (0 : Int32), .ref q3, .int (0 : Int32), .ref q4, .null, .int (0 : Int32)]) := by rw [eH3]; exact z_no H2_b hq5
      have H3_q3 : H3.1 q3 = some (aQ 5 4 D) := by rw [eH3]; exact z_no H2_q3 hq5
      have H3_q1 : H3.1 q1 = some (aI 14 (mx (fun _ => (-1 : Int32)) (fun _ => 0) 14)) := by rw [eH3]; exact z_no H2_q1 hq5
      have H3_q2 : H3.1 q2 = some (aQ 4 20 (fun _ => none)) := by rw [eH3]; exact z_no H2_q2 hq5
      have H3_q4 : H3.1 q4 = some (aJ 20 (fun _ => 0)) := by rw [eH3]; exact z_no H2_q4 hq5
      have H3_q5 : H3.1 q5 = some (aI 20 (fun _ => 0)) := by rw [eH3]; exact z_n_self _ _ _ _
      refine v_putF g (fs' := [.int (0 : Int32), .long (0 : Int64), .long (0 : Int64), .ref q1, .ref q2, .int (0 : Int32), .ref q3, .int (0 : Int32), .ref q4, .ref q5, .int (0 : Int32)]) H3_b fl_X0_38 rfl rfl rfl rfl (Nat.le_of_ble_eq_true rfl) rfl (by decide +kernel) ?_
      refine v_h (fun H4 eH4 => ?_)
      have H4_c : H4.2.1 = h.2.1 + 9 ∧ H4.2.2 = h.2.2 + 102 := zcs eH4 H3_c
      have H4_b : H4.1 b = some (oB 0 [.int (0 : Int32), .long (0 : Int64), .long (0 : Int64), .ref q1, .ref q2, .int (0 : Int32), .ref q3, .int (0 : Int32), .ref q4, .ref q5, .int (0 : Int32)]) := by rw [eH4]; exact z_s_self _ _ _
      have H4_q3 : H4.1 q3 = some (aQ 5 4 D) := by rw [eH4]; exact z_so H3_q3 (z_ne H3_q3 H3_b rfl)
      have H4_q1 : H4.1 q1 = some (aI 14 (mx (fun _ => (-1 : Int32)) (fun _ => 0) 14)) := by rw [eH4]; exact z_so H3_q1 (Ne.symm (z_nn hb hq1))
      have H4_q2 : H4.1 q2 = some (aQ 4 20 (fun _ => none)) := by rw [eH4]; exact z_so H3_q2 (z_ne H3_q2 H3_b rfl)
      have H4_q4 : H4.1 q4 = some (aJ 20 (fun _ => 0)) := by rw [eH4]; exact z_so H3_q4 (z_ne H3_q4 H3_b rfl)
      have H4_q5 : H4.1 q5 = some (aI 20 (fun _ => 0)) := by rw [eH4]; exact z_so H3_q5 (z_ne H3_q5 H3_b rfl)
      have k4 : ∀ x y, H.1 x = some y → x ≠ b → H2.1 x = some y := fun x y a1 a2 => by rw [eH2, z_s_ne a2, eH1, z_n_ne (z_nn a1 hq4)]; exact a1
      have k5 : ∀ x y, H2.1 x = some y → x ≠ b → H4.1 x = some y := fun x y a1 a2 => by rw [eH4, z_s_ne a2, eH3, z_n_ne (z_nn a1 hq5)]; exact a1
      have fq4 : h.1 q4 = none := by
        cases hx : h.1 q4 with
        | none => rfl
        | some y =>
          have hne : q4 ≠ b := fun e => by subst e; rw [hbH] at hq4; cases hq4
          rw [hfr q4 y hx hne] at hq4; cases hq4
      have fq5 : h.1 q5 = none := by
        cases hx : h.1 q5 with
        | none => rfl
        | some y =>
          have hne : q5 ≠ b := fun e => by subst e; rw [H2_b] at hq5; cases hq5
          rw [k4 q5 y (hfr q5 y hx hne) hne] at hq5; cases hq5
      have hdb : ∀ e, e < 4 → da e ≠ b := fun e he q => by have a1 := (hde e he).2.2; rw [q, hb] at a1; cases a1
      exact v_vret g z rfl (by decide +kernel) ⟨rfl, q1, q2, q3, q4, q5, D, da, H4_b, H4_q1, H4_q2, H4_q3, H4_q4, H4_q5, fun e he => ⟨(hde e he).1, k5 _ _ (k4 _ _ (hde e he).2.1 (hdb e he)) (hdb e he), (hde e he).2.2⟩, hin, hq1, fq2, fq3, fq4, fq5, H4_c, fun x y a1 a2 => k5 x y (k4 x y (hfr x y a1 a2) a2) a2⟩ (zcrn 9 102 H4_c.1 H4_c.2 (Nat.le_of_ble_eq_true rfl) (Nat.le_of_ble_eq_true rfl))
    · intro i hi ih H D da hbH h1H h2H h3H hde hin hcn hfr
      refine v_blk g [.iload_n 1, .iconst 4] (pc' := 41) (lv' := [(1, .int (nI i)), (0, .ref b)]) (st' := [.int (4 : Int32), .int (nI i)]) (by decide +kernel) rfl rfl ?_
      refine v_icmp_ge g (off := 22) (tgt := 63) (by decide +kernel) (by decide) (fun c => absurd c (nI_ge (b := 4) hi (by decide))) (fun _ => ?_)
      refine v_blk g [.aload_n 0] (pc' := 45) (lv' := [(1, .int (nI i)), (0, .ref b)]) (st' := [.ref b]) (by decide +kernel) rfl rfl ?_
      refine v_get g hbH fl_X0_29 rfl (by decide +kernel) ?_
      refine v_blk g [.iload_n 1] (pc' := 49) (lv' := [(1, .int (nI i)), (0, .ref b)]) (st' := [.int (nI i), .ref q3]) (by decide +kernel) rfl rfl ?_
      refine v_new g nl_X0_27 (zcsk (3 + i) (38 + 6 * i) 1 6 hcn.1 hcn.2 (by dsimp only; omega) (by dsimp only; omega)) (by decide +kernel) (fun d9 hd9 => ?_)
      refine v_h (fun H1 eH1 => ?_)
      have H1_c : H1.2.1 = h.2.1 + ((3 + i) + 1) ∧ H1.2.2 = h.2.2 + ((38 + 6 * i) + 6) := zcn eH1 hcn
      have H1_b : H1.1 b = some (oB 0 [.int (0 : Int32), .long (0 : Int64), .long (0 : Int64), .ref q1, .ref q2, .int (0 : Int32), .ref q3, .int (0 : Int32), .null, .null, .int (0 : Int32)]) := by rw [eH1]; exact z_no hbH hd9
      have H1_q3 : H1.1 q3 = some (aQ 5 4 D) := by rw [eH1]; exact z_no h3H hd9
      have H1_q1 : H1.1 q1 = some (aI 14 (mx (fun _ => (-1 : Int32)) (fun _ => 0) 14)) := by rw [eH1]; exact z_no h1H hd9
      have H1_q2 : H1.1 q2 = some (aQ 4 20 (fun _ => none)) := by rw [eH1]; exact z_no h2H hd9
      have H1_d9 : H1.1 d9 = some (oB 2 [.int 0, .int 0, .int 0, .long 0, .long 0, .long 0]) := by rw [eH1]; exact z_n_self _ _ _ _
      refine v_blk g [.dup] (pc' := 53) (lv' := [(1, .int (nI i)), (0, .ref b)]) (st' := [.ref d9, .ref d9, .int (nI i), .ref q3]) (by decide +kernel) rfl rfl ?_
      refine v_callIp g (rest := [.ref d9, .int (nI i), .ref q3]) (c_Div_init H1_d9) cl_X0_33 rfl (Nat.le_of_ble_eq_true rfl) (by decide +kernel) ⟨Nat.le_of_ble_eq_true rfl, Nat.le_of_ble_eq_true rfl⟩ (zcsn ((3 + i) + 1) ((38 + 6 * i) + 6) H1_c.1 H1_c.2 (by dsimp only; omega) (by dsimp only; omega)) ?_
      show zV F X (z_s H1 d9 (oD (0, 0, 0, 0, 0, 0))) 56 [(1, .int (nI i)), (0, .ref b)] [.ref d9, .int (nI i), .ref q3]
      refine v_h (fun H2 eH2 => ?_)
      have H2_c : H2.2.1 = h.2.1 + ((3 + i) + 1) ∧ H2.2.2 = h.2.2 + ((38 + 6 * i) + 6) := zcs eH2 H1_c
      have H2_b : H2.1 b = some (oB 0 [.int (0 : Int32), .long (0 : Int64), .long (0 : Int64), .ref q1, .ref q2, .int (0 : Int32), .ref q3, .int (0 : Int32), .null, .null, .int (0 : Int32)]) := by rw [eH2]; exact z_so H1_b (z_nn hbH hd9)
      have H2_q3 : H2.1 q3 = some (aQ 5 4 D) := by rw [eH2]; exact z_so H1_q3 (z_nn h3H hd9)
      have H2_q1 : H2.1 q1 = some (aI 14 (mx (fun _ => (-1 : Int32)) (fun _ => 0) 14)) := by rw [eH2]; exact z_so H1_q1 (z_nn h1H hd9)
      have H2_q2 : H2.1 q2 = some (aQ 4 20 (fun _ => none)) := by rw [eH2]; exact z_so H1_q2 (z_nn h2H hd9)
      have H2_d9 : H2.1 d9 = some (oB 2 [.int (0 : Int32), .int (0 : Int32), .int (0 : Int32), .long (0 : Int64), .long (0 : Int64), .long (0 : Int64)]) := by rw [eH2]; exact z_s_self _ _ _
      refine v_aast5 g (r := (some d9)) H2_q3 (fun v e => by cases e; exact ⟨_, H2_d9⟩) i rfl hi (Nat.le_of_ble_eq_true rfl) (by decide +kernel) ?_
      refine v_h (fun H3 eH3 => ?_)
      have H3_c : H3.2.1 = h.2.1 + ((3 + i) + 1) ∧ H3.2.2 = h.2.2 + ((38 + 6 * i) + 6) := zcs eH3 H2_c
      have H3_b : H3.1 b = some (oB 0 [.int (0 : Int32), .long (0 : Int64), .long (0 : Int64), .ref q1, .ref q2, .int (0 : Int32), .ref q3, .int (0 : Int32), .null, .null, .int (0 : Int32)]) := by rw [eH3]; exact z_so H2_b (z_ne hbH h3H rfl)
      have H3_q3 : H3.1 q3 = some (aQ 5 4 (va_up D i (some d9))) := by rw [eH3]; exact z_s_self _ _ _
      have H3_q1 : H3.1 q1 = some (aI 14 (mx (fun _ => (-1 : Int32)) (fun _ => 0) 14)) := by rw [eH3]; exact z_so H2_q1 (z_ne h1H h3H rfl)
      have H3_q2 : H3.1 q2 = some (aQ 4 20 (fun _ => none)) := by rw [eH3]; exact z_so H2_q2 (z_ne h2H h3H rfl)
      have H3_d9 : H3.1 d9 = some (oB 2 [.int (0 : Int32), .int (0 : Int32), .int (0 : Int32), .long (0 : Int64), .long (0 : Int64), .long (0 : Int64)]) := by rw [eH3]; exact z_so H2_d9 (Ne.symm (z_nn h3H hd9))
      refine v_blk g [.iinc 1 1] (pc' := 60) (lv' := [(1, .int ((nI i) + (1 : Int32))), (0, .ref b)]) (st' := []) (by decide +kernel) rfl rfl ?_
      refine v_goto g (off := -21) (tgt := 39) (by decide +kernel) (by decide) ?_
      refine v_lv [0, 1] (lv' := [(1, .int ((nI i) + (1 : Int32))), (0, .ref b)]) rfl ?_
      have k3 : ∀ x y, H.1 x = some y → x ≠ q3 → H3.1 x = some y := fun x y a1 a2 => by rw [eH3, z_s_ne a2, eH2, z_s_ne (z_nn a1 hd9), eH1, z_n_ne (z_nn a1 hd9)]; exact a1
      have fd9 : h.1 d9 = none := by
        cases hx : h.1 d9 with
        | none => rfl
        | some y =>
          have hne : d9 ≠ b := fun e => by subst e; rw [hbH] at hd9; cases hd9
          rw [hfr d9 y hx hne] at hd9; cases hd9
      refine v_eq (by rw [nI_1]) rfl (ih H3 _ (va_up da i d9) H3_b H3_q1 H3_q2 H3_q3 (fun e he => ?_) (fun e e2 he he2 q => ?_) ⟨?_, ?_⟩ (fun x y a1 a2 => ?_))
      · by_cases hei : e = i
        · subst hei; rw [va_up_self, va_up_self]; exact ⟨rfl, H3_d9, fd9⟩
        · have a1 := hde e (by omega)
          rw [va_up_ne _ _ hei, va_up_ne _ _ hei]
          exact ⟨a1.1, k3 _ _ a1.2.1 (z_ne a1.2.1 h3H rfl), a1.2.2⟩
      · by_cases h1 : e = i
        · by_cases h2 : e2 = i
          · omega
          · rw [h1, va_up_self, va_up_ne _ _ h2] at q
            have a1 := (hde e2 (by omega)).2.1
            rw [← q, hd9] at a1; cases a1
        · by_cases h2 : e2 = i
          · rw [h2, va_up_self, va_up_ne _ _ h1] at q
            have a1 := (hde e (by omega)).2.1
            rw [q, hd9] at a1; cases a1
          · rw [va_up_ne _ _ h1, va_up_ne _ _ h2] at q
            exact hin e e2 (by omega) (by omega) q
      · have := H3_c.1; omega
      · have := H3_c.2; omega
      · exact k3 x y (hfr x y a1 a2) (fun q => by rw [q] at a1; rw [fq3] at a1; cases a1)
  exact v_eq rfl rfl (key 0 (Nat.zero_le _) h7 (fun _ => none) (fun _ => 0) h7_b h7_q1 h7_q2 h7_q3 (fun e he => absurd he (Nat.not_lt_zero e)) (fun e e2 he => absurd he (Nat.not_lt_zero e)) h7_c fr7)
