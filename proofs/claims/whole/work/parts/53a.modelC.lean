/-! the reference: made anew -/
theorem nd_get {L : List Nat} (h : L.Nodup) {i j : Nat} (hi : i < L.length) (hj : j < L.length) (hij : i ≠ j) : L.getD i 0 ≠ L.getD j 0 := by
  rw [List.getD_eq_getElem?_getD, List.getD_eq_getElem?_getD, List.getElem?_eq_getElem hi, List.getElem?_eq_getElem hj]
  have hp := List.pairwise_iff_getElem.mp h
  intro e
  rcases Nat.lt_or_gt_of_ne hij with q | q
  · exact hp i j hi hj q e
  · exact hp j i hj hi q e.symm
theorem z_ndc {h : zH} {L : List Nat} {q : Nat} (hn : L.Nodup) (ha : ∀ x ∈ L, ∃ y, h.1 x = some y) (hq : h.1 q = none) : (q :: L).Nodup := by
  refine List.nodup_cons.mpr ⟨fun hm => ?_, hn⟩
  obtain ⟨y, hy⟩ := ha q hm
  rw [hq] at hy
  cases hy

set_option maxRecDepth 100000 in
set_option maxHeartbeats 4000000 in
theorem m_init {F : zF} {h : zH} {m : Nat} (hm : h.1 m = some (oB 8 [.null, .null, .null, .null, .int 0, .int 0, .int 0, .null, .null, .null, .null, .int 0, .int 0, .int 0, .null, .int 0, .int 0, .long 0, .long 0, .null, .null, .int 0, .int 0, .null, .null, .null, .null, .null, .null, .int 0, .null, .int 0, .long 0, .long 0, .null, .null, .int 0, .null, .null, .null, .int 0, .int 0, .int 0, .int 0])) : zMet F yX8_init cX8_init 2 none { frames := 1, cells := 23, slots := 315900, locals := 30 } [.ref m] h (fun v h2 => v = none ∧ ∃ R : Nat → Nat, MC h2 h2 m R (oM R 0 0 0 0 30 1 0 0 0 0 0 0 0 0 0 0 0 0 0 0 0) (mx (fun _ => (-1 : Int32)) (fun _ => 0) 14) (mx (fun _ => (-1 : Int32)) (fun _ => 0) 14) (upd (upd (upd (upd (fun _ => 0) 0 2) 1 3) 2 4) 3 6) (fun _ => 0) (fun _ => 0) (fun _ => 0) (fun _ => 0) (fun _ => 0) (fun _ => 0) (fun _ => 0) (fun _ => 0) (fun _ => 0) (fun _ => 0) (fun _ => 0) (fun _ => 0) (fun _ => 0) (fun _ => 0) (fun _ => 0) (fun _ => 0) (fun _ => 0) (fun _ => 0) (fun _ => 0) (fun _ => 0) ∧ (∀ k, k < 23 → h.1 (R k) = none) ∧ (h2.2.1 = h.2.1 + 23 ∧ h2.2.2 = h.2.2 + 315900) ∧ ∀ x y, h.1 x = some y → x ≠ m → h2.1 x = some y) := by
  refine zMet_of (lv := [(0, .ref m)]) (by decide) (by simp [lg_sl, Value.category]) rfl ?_
  intro X g z
  refine v_blk g [.aload_n 0] (pc' := 1) (lv' := [(0, .ref m)]) (st' := [.ref m]) (by decide +kernel) rfl rfl ?_
  refine v_obj g ol_X8_1 (by decide +kernel) ⟨Nat.le_of_ble_eq_true rfl, Nat.le_of_ble_eq_true rfl⟩ (Nat.le_of_ble_eq_true rfl) ?_ ob_i ob_c
  have nd0 : ([] : List Nat).Nodup := List.nodup_nil
  refine v_blk g [.aload_n 0, .bipush 14] (pc' := 7) (lv' := [(0, .ref m)]) (st' := [.int (14 : Int32), .ref m]) (by decide +kernel) rfl rfl ?_
  refine v_newI g 14 rfl (Nat.le_of_ble_eq_true rfl) ac_int (zcsk 0 0 1 14 rfl rfl (Nat.le_of_ble_eq_true rfl) (Nat.le_of_ble_eq_true rfl)) (by decide +kernel) (fun q0 hq0 => ?_)
  have fq0 : ∀ y, h.1 q0 = some y → False := fun y hy => by
    have e1 : q0 ≠ m := fun e => by rw [e, hm] at hq0; cases hq0
    have e2 := (fun x y hx _ => hx) q0 y hy e1; rw [hq0] at e2; cases e2
  refine v_h (fun h1 eh1 => ?_)
  have kp_h1 : ∀ x y, h.1 x = some y → x ≠ m → h1.1 x = some y := fun x y hx hm9 => by rw [eh1]; exact z_no ((fun x y hx _ => hx) x y hx hm9) hq0
  have h1_c : h1.2.1 = h.2.1 + 1 ∧ h1.2.2 = h.2.2 + 14 := zcn eh1 ⟨rfl, rfl⟩
  have h1_m : h1.1 m = some (oB 8 [.null, .null, .null, .null, .int 0, .int 0, .int 0, .null, .null, .null, .null, .int 0, .int 0, .int 0, .null, .int 0, .int 0, .long 0, .long 0, .null, .null, .int 0, .int 0, .null, .null, .null, .null, .null, .null, .int 0, .null, .int 0, .long 0, .long 0, .null, .null, .int 0, .null, .null, .null, .int 0, .int 0, .int 0, .int 0]) := by rw [eh1]; exact z_no hm hq0
  have h1_q0 : h1.1 q0 = some (aI 14 (fun _ => 0)) := by rw [eh1]; exact z_n_self _ _ _ _
  have nd1 := z_ndc nd0 (fun x hx => absurd hx List.not_mem_nil) hq0
  refine v_putF g (fs' := [.ref q0, .null, .null, .null, .int 0, .int 0, .int 0, .null, .null, .null, .null, .int 0, .int 0, .int 0, .null, .int 0, .int 0, .long 0, .long 0, .null, .null, .int 0, .int 0, .null, .null, .null, .null, .null, .null, .int 0, .null, .int 0, .long 0, .long 0, .null, .null, .int 0, .null, .null, .null, .int 0, .int 0, .int 0, .int 0]) h1_m fl_X8_9 rfl rfl rfl rfl (Nat.le_of_ble_eq_true rfl) rfl (by decide +kernel) ?_
  refine v_h (fun h2 eh2 => ?_)
  have kp_h2 : ∀ x y, h.1 x = some y → x ≠ m → h2.1 x = some y := fun x y hx hm9 => by rw [eh2]; exact z_so ((kp_h1) x y hx hm9) hm9
  have h2_c : h2.2.1 = h.2.1 + 1 ∧ h2.2.2 = h.2.2 + 14 := zcs eh2 h1_c
  have h2_m : h2.1 m = some (oB 8 [.ref q0, .null, .null, .null, .int 0, .int 0, .int 0, .null, .null, .null, .null, .int 0, .int 0, .int 0, .null, .int 0, .int 0, .long 0, .long 0, .null, .null, .int 0, .int 0, .null, .null, .null, .null, .null, .null, .int 0, .null, .int 0, .long 0, .long 0, .null, .null, .int 0, .null, .null, .null, .int 0, .int 0, .int 0, .int 0]) := by rw [eh2]; exact z_s_self _ _ _
  have h2_q0 : h2.1 q0 = some (aI 14 (fun _ => 0)) := by rw [eh2]; exact z_so h1_q0 (Ne.symm (z_ne h1_m h1_q0 rfl))
  refine v_blk g [.aload_n 0, .bipush 14] (pc' := 15) (lv' := [(0, .ref m)]) (st' := [.int (14 : Int32), .ref m]) (by decide +kernel) rfl rfl ?_
  refine v_newI g 14 rfl (Nat.le_of_ble_eq_true rfl) ac_int (zcsk 1 14 1 14 h2_c.1 h2_c.2 (Nat.le_of_ble_eq_true rfl) (Nat.le_of_ble_eq_true rfl)) (by decide +kernel) (fun q1 hq1 => ?_)
  have fq1 : ∀ y, h.1 q1 = some y → False := fun y hy => by
    have e1 : q1 ≠ m := fun e => by rw [e, h2_m] at hq1; cases hq1
    have e2 := (kp_h2) q1 y hy e1; rw [hq1] at e2; cases e2
  refine v_h (fun h3 eh3 => ?_)
  have kp_h3 : ∀ x y, h.1 x = some y → x ≠ m → h3.1 x = some y := fun x y hx hm9 => by rw [eh3]; exact z_no ((kp_h2) x y hx hm9) hq1
  have h3_c : h3.2.1 = h.2.1 + 2 ∧ h3.2.2 = h.2.2 + 28 := zcn eh3 h2_c
  have h3_m : h3.1 m = some (oB 8 [.ref q0, .null, .null, .null, .int 0, .int 0, .int 0, .null, .null, .null, .null, .int 0, .int 0, .int 0, .null, .int 0, .int 0, .long 0, .long 0, .null, .null, .int 0, .int 0, .null, .null, .null, .null, .null, .null, .int 0, .null, .int 0, .long 0, .long 0, .null, .null, .int 0, .null, .null, .null, .int 0, .int 0, .int 0, .int 0]) := by rw [eh3]; exact z_no h2_m hq1
  have h3_q0 : h3.1 q0 = some (aI 14 (fun _ => 0)) := by rw [eh3]; exact z_no h2_q0 hq1
  have h3_q1 : h3.1 q1 = some (aI 14 (fun _ => 0)) := by rw [eh3]; exact z_n_self _ _ _ _
  have nd2 := z_ndc nd1 (List.forall_mem_cons.mpr ⟨⟨_, h2_q0⟩, (fun x hx => absurd hx List.not_mem_nil)⟩) hq1
  refine v_putF g (fs' := [.ref q0, .ref q1, .null, .null, .int 0, .int 0, .int 0, .null, .null, .null, .null, .int 0, .int 0, .int 0, .null, .int 0, .int 0, .long 0, .long 0, .null, .null, .int 0, .int 0, .null, .null, .null, .null, .null, .null, .int 0, .null, .int 0, .long 0, .long 0, .null, .null, .int 0, .null, .null, .null, .int 0, .int 0, .int 0, .int 0]) h3_m fl_X8_13 rfl rfl rfl rfl (Nat.le_of_ble_eq_true rfl) rfl (by decide +kernel) ?_
  refine v_h (fun h4 eh4 => ?_)
  have kp_h4 : ∀ x y, h.1 x = some y → x ≠ m → h4.1 x = some y := fun x y hx hm9 => by rw [eh4]; exact z_so ((kp_h3) x y hx hm9) hm9
  have h4_c : h4.2.1 = h.2.1 + 2 ∧ h4.2.2 = h.2.2 + 28 := zcs eh4 h3_c
  have h4_m : h4.1 m = some (oB 8 [.ref q0, .ref q1, .null, .null, .int 0, .int 0, .int 0, .null, .null, .null, .null, .int 0, .int 0, .int 0, .null, .int 0, .int 0, .long 0, .long 0, .null, .null, .int 0, .int 0, .null, .null, .null, .null, .null, .null, .int 0, .null, .int 0, .long 0, .long 0, .null, .null, .int 0, .null, .null, .null, .int 0, .int 0, .int 0, .int 0]) := by rw [eh4]; exact z_s_self _ _ _
  have h4_q0 : h4.1 q0 = some (aI 14 (fun _ => 0)) := by rw [eh4]; exact z_so h3_q0 (Ne.symm (z_ne h1_m h1_q0 rfl))
  have h4_q1 : h4.1 q1 = some (aI 14 (fun _ => 0)) := by rw [eh4]; exact z_so h3_q1 (Ne.symm (z_ne h3_m h3_q1 rfl))
  refine v_blk g [.aload_n 0, .iconst 4] (pc' := 22) (lv' := [(0, .ref m)]) (st' := [.int (4 : Int32), .ref m]) (by decide +kernel) rfl rfl ?_
  refine v_newI g 4 rfl (Nat.le_of_ble_eq_true rfl) ac_int (zcsk 2 28 1 4 h4_c.1 h4_c.2 (Nat.le_of_ble_eq_true rfl) (Nat.le_of_ble_eq_true rfl)) (by decide +kernel) (fun q2 hq2 => ?_)
  have fq2 : ∀ y, h.1 q2 = some y → False := fun y hy => by
    have e1 : q2 ≠ m := fun e => by rw [e, h4_m] at hq2; cases hq2
    have e2 := (kp_h4) q2 y hy e1; rw [hq2] at e2; cases e2
  have kp_q2 : ∀ x y, h.1 x = some y → x ≠ m → h4.1 x = some y := kp_h4
  refine v_h (fun h5 eh5 => ?_)
  have kp_h5 : ∀ x y, h.1 x = some y → x ≠ m → h5.1 x = some y := fun x y hx hm9 => by rw [eh5]; exact z_no ((kp_h4) x y hx hm9) hq2
  have h5_c : h5.2.1 = h.2.1 + 3 ∧ h5.2.2 = h.2.2 + 32 := zcn eh5 h4_c
  have h5_m : h5.1 m = some (oB 8 [.ref q0, .ref q1, .null, .null, .int 0, .int 0, .int 0, .null, .null, .null, .null, .int 0, .int 0, .int 0, .null, .int 0, .int 0, .long 0, .long 0, .null, .null, .int 0, .int 0, .null, .null, .null, .null, .null, .null, .int 0, .null, .int 0, .long 0, .long 0, .null, .null, .int 0, .null, .null, .null, .int 0, .int 0, .int 0, .int 0]) := by rw [eh5]; exact z_no h4_m hq2
  have h5_q0 : h5.1 q0 = some (aI 14 (fun _ => 0)) := by rw [eh5]; exact z_no h4_q0 hq2
  have h5_q1 : h5.1 q1 = some (aI 14 (fun _ => 0)) := by rw [eh5]; exact z_no h4_q1 hq2
  have h5_q2 : h5.1 q2 = some (aI 4 (fun _ => 0)) := by rw [eh5]; exact z_n_self _ _ _ _
  have nd3 := z_ndc nd2 (List.forall_mem_cons.mpr ⟨⟨_, h4_q1⟩, (List.forall_mem_cons.mpr ⟨⟨_, h4_q0⟩, (fun x hx => absurd hx List.not_mem_nil)⟩)⟩) hq2
  refine v_blk g [.dup, .iconst 0, .iconst 2] (pc' := 27) (lv' := [(0, .ref m)]) (st' := [.int (2 : Int32), .int (0 : Int32), .ref q2, .ref q2, .ref m]) (by decide +kernel) rfl rfl ?_
  refine v_iast g h5_q2 0 rfl (by decide) (Nat.le_of_ble_eq_true rfl) (by decide +kernel) ?_
  refine v_h (fun h6 eh6 => ?_)
  have kp_h6 : ∀ x y, h.1 x = some y → x ≠ m → h6.1 x = some y := fun x y hx hm9 => by rw [eh6]; exact z_so ((kp_h5) x y hx hm9) (fun e => by have := kp_q2 x y hx hm9; rw [e, hq2] at this; cases this)
  have h6_c : h6.2.1 = h.2.1 + 3 ∧ h6.2.2 = h.2.2 + 32 := zcs eh6 h5_c
  have h6_m : h6.1 m = some (oB 8 [.ref q0, .ref q1, .null, .null, .int 0, .int 0, .int 0, .null, .null, .null, .null, .int 0, .int 0, .int 0, .null, .int 0, .int 0, .long 0, .long 0, .null, .null, .int 0, .int 0, .null, .null, .null, .null, .null, .null, .int 0, .null, .int 0, .long 0, .long 0, .null, .null, .int 0, .null, .null, .null, .int 0, .int 0, .int 0, .int 0]) := by rw [eh6]; exact z_so h5_m (z_ne h5_m h5_q2 rfl)
  have h6_q0 : h6.1 q0 = some (aI 14 (fun _ => 0)) := by rw [eh6]; exact z_so h5_q0 (z_ne h5_q0 h5_q2 rfl)
  have h6_q1 : h6.1 q1 = some (aI 14 (fun _ => 0)) := by rw [eh6]; exact z_so h5_q1 (z_ne h5_q1 h5_q2 rfl)
  have h6_q2 : h6.1 q2 = some (aI 4 (upd (fun _ => 0) 0 (2 : Int32))) := by rw [eh6]; exact z_s_self _ _ _
  refine v_blk g [.dup, .iconst 1, .iconst 3] (pc' := 31) (lv' := [(0, .ref m)]) (st' := [.int (3 : Int32), .int (1 : Int32), .ref q2, .ref q2, .ref m]) (by decide +kernel) rfl rfl ?_
  refine v_iast g h6_q2 1 rfl (by decide) (Nat.le_of_ble_eq_true rfl) (by decide +kernel) ?_
  refine v_h (fun h7 eh7 => ?_)
  have kp_h7 : ∀ x y, h.1 x = some y → x ≠ m → h7.1 x = some y := fun x y hx hm9 => by rw [eh7]; exact z_so ((kp_h6) x y hx hm9) (fun e => by have := kp_q2 x y hx hm9; rw [e, hq2] at this; cases this)
  have h7_c : h7.2.1 = h.2.1 + 3 ∧ h7.2.2 = h.2.2 + 32 := zcs eh7 h6_c
  have h7_m : h7.1 m = some (oB 8 [.ref q0, .ref q1, .null, .null, .int 0, .int 0, .int 0, .null, .null, .null, .null, .int 0, .int 0, .int 0, .null, .int 0, .int 0, .long 0, .long 0, .null, .null, .int 0, .int 0, .null, .null, .null, .null, .null, .null, .int 0, .null, .int 0, .long 0, .long 0, .null, .null, .int 0, .null, .null, .null, .int 0, .int 0, .int 0, .int 0]) := by rw [eh7]; exact z_so h6_m (z_ne h5_m h5_q2 rfl)
  have h7_q0 : h7.1 q0 = some (aI 14 (fun _ => 0)) := by rw [eh7]; exact z_so h6_q0 (z_ne h5_q0 h5_q2 rfl)
  have h7_q1 : h7.1 q1 = some (aI 14 (fun _ => 0)) := by rw [eh7]; exact z_so h6_q1 (z_ne h5_q1 h5_q2 rfl)
  have h7_q2 : h7.1 q2 = some (aI 4 (upd (upd (fun _ => 0) 0 (2 : Int32)) 1 (3 : Int32))) := by rw [eh7]; exact z_s_self _ _ _
  refine v_blk g [.dup, .iconst 2, .iconst 4] (pc' := 35) (lv' := [(0, .ref m)]) (st' := [.int (4 : Int32), .int (2 : Int32), .ref q2, .ref q2, .ref m]) (by decide +kernel) rfl rfl ?_
  refine v_iast g h7_q2 2 rfl (by decide) (Nat.le_of_ble_eq_true rfl) (by decide +kernel) ?_
  refine v_h (fun h8 eh8 => ?_)
  have kp_h8 : ∀ x y, h.1 x = some y → x ≠ m → h8.1 x = some y := fun x y hx hm9 => by rw [eh8]; exact z_so ((kp_h7) x y hx hm9) (fun e => by have := kp_q2 x y hx hm9; rw [e, hq2] at this; cases this)
  have h8_c : h8.2.1 = h.2.1 + 3 ∧ h8.2.2 = h.2.2 + 32 := zcs eh8 h7_c
  have h8_m : h8.1 m = some (oB 8 [.ref q0, .ref q1, .null, .null, .int 0, .int 0, .int 0, .null, .null, .null, .null, .int 0, .int 0, .int 0, .null, .int 0, .int 0, .long 0, .long 0, .null, .null, .int 0, .int 0, .null, .null, .null, .null, .null, .null, .int 0, .null, .int 0, .long 0, .long 0, .null, .null, .int 0, .null, .null, .null, .int 0, .int 0, .int 0, .int 0]) := by rw [eh8]; exact z_so h7_m (z_ne h5_m h5_q2 rfl)
  have h8_q0 : h8.1 q0 = some (aI 14 (fun _ => 0)) := by rw [eh8]; exact z_so h7_q0 (z_ne h5_q0 h5_q2 rfl)
  have h8_q1 : h8.1 q1 = some (aI 14 (fun _ => 0)) := by rw [eh8]; exact z_so h7_q1 (z_ne h5_q1 h5_q2 rfl)
  have h8_q2 : h8.1 q2 = some (aI 4 (upd (upd (upd (fun _ => 0) 0 (2 : Int32)) 1 (3 : Int32)) 2 (4 : Int32))) := by rw [eh8]; exact z_s_self _ _ _
  refine v_blk g [.dup, .iconst 3, .bipush 6] (pc' := 40) (lv' := [(0, .ref m)]) (st' := [.int (6 : Int32), .int (3 : Int32), .ref q2, .ref q2, .ref m]) (by decide +kernel) rfl rfl ?_
  refine v_iast g h8_q2 3 rfl (by decide) (Nat.le_of_ble_eq_true rfl) (by decide +kernel) ?_
  refine v_h (fun h9 eh9 => ?_)
  have kp_h9 : ∀ x y, h.1 x = some y → x ≠ m → h9.1 x = some y := fun x y hx hm9 => by rw [eh9]; exact z_so ((kp_h8) x y hx hm9) (fun e => by have := kp_q2 x y hx hm9; rw [e, hq2] at this; cases this)
  have h9_c : h9.2.1 = h.2.1 + 3 ∧ h9.2.2 = h.2.2 + 32 := zcs eh9 h8_c
  have h9_m : h9.1 m = some (oB 8 [.ref q0, .ref q1, .null, .null, .int 0, .int 0, .int 0, .null, .null, .null, .null, .int 0, .int 0, .int 0, .null, .int 0, .int 0, .long 0, .long 0, .null, .null, .int 0, .int 0, .null, .null, .null, .null, .null, .null, .int 0, .null, .int 0, .long 0, .long 0, .null, .null, .int 0, .null, .null, .null, .int 0, .int 0, .int 0, .int 0]) := by rw [eh9]; exact z_so h8_m (z_ne h5_m h5_q2 rfl)
  have h9_q0 : h9.1 q0 = some (aI 14 (fun _ => 0)) := by rw [eh9]; exact z_so h8_q0 (z_ne h5_q0 h5_q2 rfl)
  have h9_q1 : h9.1 q1 = some (aI 14 (fun _ => 0)) := by rw [eh9]; exact z_so h8_q1 (z_ne h5_q1 h5_q2 rfl)
  have h9_q2 : h9.1 q2 = some (aI 4 (upd (upd (upd (upd (fun _ => 0) 0 (2 : Int32)) 1 (3 : Int32)) 2 (4 : Int32)) 3 (6 : Int32))) := by rw [eh9]; exact z_s_self _ _ _
  refine v_putF g (fs' := [.ref q0, .ref q1, .ref q2, .null, .int 0, .int 0, .int 0, .null, .null, .null, .null, .int 0, .int 0, .int 0, .null, .int 0, .int 0, .long 0, .long 0, .null, .null, .int 0, .int 0, .null, .null, .null, .null, .null, .null, .int 0, .null, .int 0, .long 0, .long 0, .null, .null, .int 0, .null, .null, .null, .int 0, .int 0, .int 0, .int 0]) h9_m fl_X8_16 rfl rfl rfl rfl (Nat.le_of_ble_eq_true rfl) rfl (by decide +kernel) ?_
  refine v_h (fun h10 eh10 => ?_)
  have kp_h10 : ∀ x y, h.1 x = some y → x ≠ m → h10.1 x = some y := fun x y hx hm9 => by rw [eh10]; exact z_so ((kp_h9) x y hx hm9) hm9
  have h10_c : h10.2.1 = h.2.1 + 3 ∧ h10.2.2 = h.2.2 + 32 := zcs eh10 h9_c
  have h10_m : h10.1 m = some (oB 8 [.ref q0, .ref q1, .ref q2, .null, .int 0, .int 0, .int 0, .null, .null, .null, .null, .int 0, .int 0, .int 0, .null, .int 0, .int 0, .long 0, .long 0, .null, .null, .int 0, .int 0, .null, .null, .null, .null, .null, .null, .int 0, .null, .int 0, .long 0, .long 0, .null, .null, .int 0, .null, .null, .null, .int 0, .int 0, .int 0, .int 0]) := by rw [eh10]; exact z_s_self _ _ _
  have h10_q0 : h10.1 q0 = some (aI 14 (fun _ => 0)) := by rw [eh10]; exact z_so h9_q0 (Ne.symm (z_ne h1_m h1_q0 rfl))
  have h10_q1 : h10.1 q1 = some (aI 14 (fun _ => 0)) := by rw [eh10]; exact z_so h9_q1 (Ne.symm (z_ne h3_m h3_q1 rfl))
  have h10_q2 : h10.1 q2 = some (aI 4 (upd (upd (upd (upd (fun _ => 0) 0 (2 : Int32)) 1 (3 : Int32)) 2 (4 : Int32)) 3 (6 : Int32))) := by rw [eh10]; exact z_so h9_q2 (Ne.symm (z_ne h5_m h5_q2 rfl))
  refine v_blk g [.aload_n 0, .sipush 200] (pc' := 48) (lv' := [(0, .ref m)]) (st' := [.int (200 : Int32), .ref m]) (by decide +kernel) rfl rfl ?_
  refine v_newI g 200 rfl (Nat.le_of_ble_eq_true rfl) ac_int (zcsk 3 32 1 200 h10_c.1 h10_c.2 (Nat.le_of_ble_eq_true rfl) (Nat.le_of_ble_eq_true rfl)) (by decide +kernel) (fun q3 hq3 => ?_)
  have fq3 : ∀ y, h.1 q3 = some y → False := fun y hy => by
    have e1 : q3 ≠ m := fun e => by rw [e, h10_m] at hq3; cases hq3
    have e2 := (kp_h10) q3 y hy e1; rw [hq3] at e2; cases e2
  refine v_h (fun h11 eh11 => ?_)
  have kp_h11 : ∀ x y, h.1 x = some y → x ≠ m → h11.1 x = some y := fun x y hx hm9 => by rw [eh11]; exact z_no ((kp_h10) x y hx hm9) hq3
  have h11_c : h11.2.1 = h.2.1 + 4 ∧ h11.2.2 = h.2.2 + 232 := zcn eh11 h10_c
  have h11_m : h11.1 m = some (oB 8 [.ref q0, .ref q1, .ref q2, .null, .int 0, .int 0, .int 0, .null, .null, .null, .null, .int 0, .int 0, .int 0, .null, .int 0, .int 0, .long 0, .long 0, .null, .null, .int 0, .int 0, .null, .null, .null, .null, .null, .null, .int 0, .null, .int 0, .long 0, .long 0, .null, .null, .int 0, .null, .null, .null, .int 0, .int 0, .int 0, .int 0]) := by rw [eh11]; exact z_no h10_m hq3
  have h11_q0 : h11.1 q0 = some (aI 14 (fun _ => 0)) := by rw [eh11]; exact z_no h10_q0 hq3
  have h11_q1 : h11.1 q1 = some (aI 14 (fun _ => 0)) := by rw [eh11]; exact z_no h10_q1 hq3
  have h11_q2 : h11.1 q2 = some (aI 4 (upd (upd (upd (upd (fun _ => 0) 0 (2 : Int32)) 1 (3 : Int32)) 2 (4 : Int32)) 3 (6 : Int32))) := by rw [eh11]; exact z_no h10_q2 hq3
  have h11_q3 : h11.1 q3 = some (aI 200 (fun _ => 0)) := by rw [eh11]; exact z_n_self _ _ _ _
  have nd4 := z_ndc nd3 (List.forall_mem_cons.mpr ⟨⟨_, h10_q2⟩, (List.forall_mem_cons.mpr ⟨⟨_, h10_q1⟩, (List.forall_mem_cons.mpr ⟨⟨_, h10_q0⟩, (fun x hx => absurd hx List.not_mem_nil)⟩)⟩)⟩) hq3
  refine v_putF g (fs' := [.ref q0, .ref q1, .ref q2, .ref q3, .int 0, .int 0, .int 0, .null, .null, .null, .null, .int 0, .int 0, .int 0, .null, .int 0, .int 0, .long 0, .long 0, .null, .null, .int 0, .int 0, .null, .null, .null, .null, .null, .null, .int 0, .null, .int 0, .long 0, .long 0, .null, .null, .int 0, .null, .null, .null, .int 0, .int 0, .int 0, .int 0]) h11_m fl_X8_19 rfl rfl rfl rfl (Nat.le_of_ble_eq_true rfl) rfl (by decide +kernel) ?_
  refine v_h (fun h12 eh12 => ?_)
  have kp_h12 : ∀ x y, h.1 x = some y → x ≠ m → h12.1 x = some y := fun x y hx hm9 => by rw [eh12]; exact z_so ((kp_h11) x y hx hm9) hm9
  have h12_c : h12.2.1 = h.2.1 + 4 ∧ h12.2.2 = h.2.2 + 232 := zcs eh12 h11_c
  have h12_m : h12.1 m = some (oB 8 [.ref q0, .ref q1, .ref q2, .ref q3, .int 0, .int 0, .int 0, .null, .null, .null, .null, .int 0, .int 0, .int 0, .null, .int 0, .int 0, .long 0, .long 0, .null, .null, .int 0, .int 0, .null, .null, .null, .null, .null, .null, .int 0, .null, .int 0, .long 0, .long 0, .null, .null, .int 0, .null, .null, .null, .int 0, .int 0, .int 0, .int 0]) := by rw [eh12]; exact z_s_self _ _ _
  have h12_q0 : h12.1 q0 = some (aI 14 (fun _ => 0)) := by rw [eh12]; exact z_so h11_q0 (Ne.symm (z_ne h1_m h1_q0 rfl))
  have h12_q1 : h12.1 q1 = some (aI 14 (fun _ => 0)) := by rw [eh12]; exact z_so h11_q1 (Ne.symm (z_ne h3_m h3_q1 rfl))
  have h12_q2 : h12.1 q2 = some (aI 4 (upd (upd (upd (upd (fun _ => 0) 0 (2 : Int32)) 1 (3 : Int32)) 2 (4 : Int32)) 3 (6 : Int32))) := by rw [eh12]; exact z_so h11_q2 (Ne.symm (z_ne h5_m h5_q2 rfl))
  have h12_q3 : h12.1 q3 = some (aI 200 (fun _ => 0)) := by rw [eh12]; exact z_so h11_q3 (Ne.symm (z_ne h11_m h11_q3 rfl))
  refine v_blk g [.aload_n 0, .sipush 10240] (pc' := 57) (lv' := [(0, .ref m)]) (st' := [.int (10240 : Int32), .ref m]) (by decide +kernel) rfl rfl ?_
  refine v_newI g 10240 rfl (Nat.le_of_ble_eq_true rfl) ac_int (zcsk 4 232 1 10240 h12_c.1 h12_c.2 (Nat.le_of_ble_eq_true rfl) (Nat.le_of_ble_eq_true rfl)) (by decide +kernel) (fun q4 hq4 => ?_)
  have fq4 : ∀ y, h.1 q4 = some y → False := fun y hy => by
    have e1 : q4 ≠ m := fun e => by rw [e, h12_m] at hq4; cases hq4
    have e2 := (kp_h12) q4 y hy e1; rw [hq4] at e2; cases e2
  refine v_h (fun h13 eh13 => ?_)
  have kp_h13 : ∀ x y, h.1 x = some y → x ≠ m → h13.1 x = some y := fun x y hx hm9 => by rw [eh13]; exact z_no ((kp_h12) x y hx hm9) hq4
  have h13_c : h13.2.1 = h.2.1 + 5 ∧ h13.2.2 = h.2.2 + 10472 := zcn eh13 h12_c
  have h13_m : h13.1 m = some (oB 8 [.ref q0, .ref q1, .ref q2, .ref q3, .int 0, .int 0, .int 0, .null, .null, .null, .null, .int 0, .int 0, .int 0, .null, .int 0, .int 0, .long 0, .long 0, .null, .null, .int 0, .int 0, .null, .null, .null, .null, .null, .null, .int 0, .null, .int 0, .long 0, .long 0, .null, .null, .int 0, .null, .null, .null, .int 0, .int 0, .int 0, .int 0]) := by rw [eh13]; exact z_no h12_m hq4
  have h13_q0 : h13.1 q0 = some (aI 14 (fun _ => 0)) := by rw [eh13]; exact z_no h12_q0 hq4
  have h13_q1 : h13.1 q1 = some (aI 14 (fun _ => 0)) := by rw [eh13]; exact z_no h12_q1 hq4
  have h13_q2 : h13.1 q2 = some (aI 4 (upd (upd (upd (upd (fun _ => 0) 0 (2 : Int32)) 1 (3 : Int32)) 2 (4 : Int32)) 3 (6 : Int32))) := by rw [eh13]; exact z_no h12_q2 hq4
  have h13_q3 : h13.1 q3 = some (aI 200 (fun _ => 0)) := by rw [eh13]; exact z_no h12_q3 hq4
  have h13_q4 : h13.1 q4 = some (aI 10240 (fun _ => 0)) := by rw [eh13]; exact z_n_self _ _ _ _
  have nd5 := z_ndc nd4 (List.forall_mem_cons.mpr ⟨⟨_, h12_q3⟩, (List.forall_mem_cons.mpr ⟨⟨_, h12_q2⟩, (List.forall_mem_cons.mpr ⟨⟨_, h12_q1⟩, (List.forall_mem_cons.mpr ⟨⟨_, h12_q0⟩, (fun x hx => absurd hx List.not_mem_nil)⟩)⟩)⟩)⟩) hq4
  refine v_putF g (fs' := [.ref q0, .ref q1, .ref q2, .ref q3, .int 0, .int 0, .int 0, .ref q4, .null, .null, .null, .int 0, .int 0, .int 0, .null, .int 0, .int 0, .long 0, .long 0, .null, .null, .int 0, .int 0, .null, .null, .null, .null, .null, .null, .int 0, .null, .int 0, .long 0, .long 0, .null, .null, .int 0, .null, .null, .null, .int 0, .int 0, .int 0, .int 0]) h13_m fl_X8_22 rfl rfl rfl rfl (Nat.le_of_ble_eq_true rfl) rfl (by decide +kernel) ?_
  refine v_h (fun h14 eh14 => ?_)
  have kp_h14 : ∀ x y, h.1 x = some y → x ≠ m → h14.1 x = some y := fun x y hx hm9 => by rw [eh14]; exact z_so ((kp_h13) x y hx hm9) hm9
  have h14_c : h14.2.1 = h.2.1 + 5 ∧ h14.2.2 = h.2.2 + 10472 := zcs eh14 h13_c
  have h14_m : h14.1 m = some (oB 8 [.ref q0, .ref q1, .ref q2, .ref q3, .int 0, .int 0, .int 0, .ref q4, .null, .null, .null, .int 0, .int 0, .int 0, .null, .int 0, .int 0, .long 0, .long 0, .null, .null, .int 0, .int 0, .null, .null, .null, .null, .null, .null, .int 0, .null, .int 0, .long 0, .long 0, .null, .null, .int 0, .null, .null, .null, .int 0, .int 0, .int 0, .int 0]) := by rw [eh14]; exact z_s_self _ _ _
  have h14_q0 : h14.1 q0 = some (aI 14 (fun _ => 0)) := by rw [eh14]; exact z_so h13_q0 (Ne.symm (z_ne h1_m h1_q0 rfl))
  have h14_q1 : h14.1 q1 = some (aI 14 (fun _ => 0)) := by rw [eh14]; exact z_so h13_q1 (Ne.symm (z_ne h3_m h3_q1 rfl))
  have h14_q2 : h14.1 q2 = some (aI 4 (upd (upd (upd (upd (fun _ => 0) 0 (2 : Int32)) 1 (3 : Int32)) 2 (4 : Int32)) 3 (6 : Int32))) := by rw [eh14]; exact z_so h13_q2 (Ne.symm (z_ne h5_m h5_q2 rfl))
  have h14_q3 : h14.1 q3 = some (aI 200 (fun _ => 0)) := by rw [eh14]; exact z_so h13_q3 (Ne.symm (z_ne h11_m h11_q3 rfl))
  have h14_q4 : h14.1 q4 = some (aI 10240 (fun _ => 0)) := by rw [eh14]; exact z_so h13_q4 (Ne.symm (z_ne h13_m h13_q4 rfl))
  refine v_blk g [.aload_n 0, .bipush 20] (pc' := 65) (lv' := [(0, .ref m)]) (st' := [.int (20 : Int32), .ref m]) (by decide +kernel) rfl rfl ?_
  refine v_newI g 20 rfl (Nat.le_of_ble_eq_true rfl) ac_int (zcsk 5 10472 1 20 h14_c.1 h14_c.2 (Nat.le_of_ble_eq_true rfl) (Nat.le_of_ble_eq_true rfl)) (by decide +kernel) (fun q5 hq5 => ?_)
  have fq5 : ∀ y, h.1 q5 = some y → False := fun y hy => by
    have e1 : q5 ≠ m := fun e => by rw [e, h14_m] at hq5; cases hq5
    have e2 := (kp_h14) q5 y hy e1; rw [hq5] at e2; cases e2
  refine v_h (fun h15 eh15 => ?_)
  have kp_h15 : ∀ x y, h.1 x = some y → x ≠ m → h15.1 x = some y := fun x y hx hm9 => by rw [eh15]; exact z_no ((kp_h14) x y hx hm9) hq5
  have h15_c : h15.2.1 = h.2.1 + 6 ∧ h15.2.2 = h.2.2 + 10492 := zcn eh15 h14_c
  have h15_m : h15.1 m = some (oB 8 [.ref q0, .ref q1, .ref q2, .ref q3, .int 0, .int 0, .int 0, .ref q4, .null, .null, .null, .int 0, .int 0, .int 0, .null, .int 0, .int 0, .long 0, .long 0, .null, .null, .int 0, .int 0, .null, .null, .null, .null, .null, .null, .int 0, .null, .int 0, .long 0, .long 0, .null, .null, .int 0, .null, .null, .null, .int 0, .int 0, .int 0, .int 0]) := by rw [eh15]; exact z_no h14_m hq5
  have h15_q0 : h15.1 q0 = some (aI 14 (fun _ => 0)) := by rw [eh15]; exact z_no h14_q0 hq5
  have h15_q1 : h15.1 q1 = some (aI 14 (fun _ => 0)) := by rw [eh15]; exact z_no h14_q1 hq5
  have h15_q2 : h15.1 q2 = some (aI 4 (upd (upd (upd (upd (fun _ => 0) 0 (2 : Int32)) 1 (3 : Int32)) 2 (4 : Int32)) 3 (6 : Int32))) := by rw [eh15]; exact z_no h14_q2 hq5
  have h15_q3 : h15.1 q3 = some (aI 200 (fun _ => 0)) := by rw [eh15]; exact z_no h14_q3 hq5
  have h15_q4 : h15.1 q4 = some (aI 10240 (fun _ => 0)) := by rw [eh15]; exact z_no h14_q4 hq5
  have h15_q5 : h15.1 q5 = some (aI 20 (fun _ => 0)) := by rw [eh15]; exact z_n_self _ _ _ _
  have nd6 := z_ndc nd5 (List.forall_mem_cons.mpr ⟨⟨_, h14_q4⟩, (List.forall_mem_cons.mpr ⟨⟨_, h14_q3⟩, (List.forall_mem_cons.mpr ⟨⟨_, h14_q2⟩, (List.forall_mem_cons.mpr ⟨⟨_, h14_q1⟩, (List.forall_mem_cons.mpr ⟨⟨_, h14_q0⟩, (fun x hx => absurd hx List.not_mem_nil)⟩)⟩)⟩)⟩)⟩) hq5
  refine v_putF g (fs' := [.ref q0, .ref q1, .ref q2, .ref q3, .int 0, .int 0, .int 0, .ref q4, .ref q5, .null, .null, .int 0, .int 0, .int 0, .null, .int 0, .int 0, .long 0, .long 0, .null, .null, .int 0, .int 0, .null, .null, .null, .null, .null, .null, .int 0, .null, .int 0, .long 0, .long 0, .null, .null, .int 0, .null, .null, .null, .int 0, .int 0, .int 0, .int 0]) h15_m fl_X8_25 rfl rfl rfl rfl (Nat.le_of_ble_eq_true rfl) rfl (by decide +kernel) ?_
  refine v_h (fun h16 eh16 => ?_)
  have kp_h16 : ∀ x y, h.1 x = some y → x ≠ m → h16.1 x = some y := fun x y hx hm9 => by rw [eh16]; exact z_so ((kp_h15) x y hx hm9) hm9
  have h16_c : h16.2.1 = h.2.1 + 6 ∧ h16.2.2 = h.2.2 + 10492 := zcs eh16 h15_c
  have h16_m : h16.1 m = some (oB 8 [.ref q0, .ref q1, .ref q2, .ref q3, .int 0, .int 0, .int 0, .ref q4, .ref q5, .null, .null, .int 0, .int 0, .int 0, .null, .int 0, .int 0, .long 0, .long 0, .null, .null, .int 0, .int 0, .null, .null, .null, .null, .null, .null, .int 0, .null, .int 0, .long 0, .long 0, .null, .null, .int 0, .null, .null, .null, .int 0, .int 0, .int 0, .int 0]) := by rw [eh16]; exact z_s_self _ _ _
  have h16_q0 : h16.1 q0 = some (aI 14 (fun _ => 0)) := by rw [eh16]; exact z_so h15_q0 (Ne.symm (z_ne h1_m h1_q0 rfl))
  have h16_q1 : h16.1 q1 = some (aI 14 (fun _ => 0)) := by rw [eh16]; exact z_so h15_q1 (Ne.symm (z_ne h3_m h3_q1 rfl))
  have h16_q2 : h16.1 q2 = some (aI 4 (upd (upd (upd (upd (fun _ => 0) 0 (2 : Int32)) 1 (3 : Int32)) 2 (4 : Int32)) 3 (6 : Int32))) := by rw [eh16]; exact z_so h15_q2 (Ne.symm (z_ne h5_m h5_q2 rfl))
  have h16_q3 : h16.1 q3 = some (aI 200 (fun _ => 0)) := by rw [eh16]; exact z_so h15_q3 (Ne.symm (z_ne h11_m h11_q3 rfl))
  have h16_q4 : h16.1 q4 = some (aI 10240 (fun _ => 0)) := by rw [eh16]; exact z_so h15_q4 (Ne.symm (z_ne h13_m h13_q4 rfl))
  have h16_q5 : h16.1 q5 = some (aI 20 (fun _ => 0)) := by rw [eh16]; exact z_so h15_q5 (Ne.symm (z_ne h15_m h15_q5 rfl))
  refine v_blk g [.aload_n 0, .bipush 20] (pc' := 73) (lv' := [(0, .ref m)]) (st' := [.int (20 : Int32), .ref m]) (by decide +kernel) rfl rfl ?_
  refine v_newI g 20 rfl (Nat.le_of_ble_eq_true rfl) ac_int (zcsk 6 10492 1 20 h16_c.1 h16_c.2 (Nat.le_of_ble_eq_true rfl) (Nat.le_of_ble_eq_true rfl)) (by decide +kernel) (fun q6 hq6 => ?_)
  have fq6 : ∀ y, h.1 q6 = some y → False := fun y hy => by
    have e1 : q6 ≠ m := fun e => by rw [e, h16_m] at hq6; cases hq6
    have e2 := (kp_h16) q6 y hy e1; rw [hq6] at e2; cases e2
  refine v_h (fun h17 eh17 => ?_)
  have kp_h17 : ∀ x y, h.1 x = some y → x ≠ m → h17.1 x = some y := fun x y hx hm9 => by rw [eh17]; exact z_no ((kp_h16) x y hx hm9) hq6
  have h17_c : h17.2.1 = h.2.1 + 7 ∧ h17.2.2 = h.2.2 + 10512 := zcn eh17 h16_c
  have h17_m : h17.1 m = some (oB 8 [.ref q0, .ref q1, .ref q2, .ref q3, .int 0, .int 0, .int 0, .ref q4, .ref q5, .null, .null, .int 0, .int 0, .int 0, .null, .int 0, .int 0, .long 0, .long 0, .null, .null, .int 0, .int 0, .null, .null, .null, .null, .null, .null, .int 0, .null, .int 0, .long 0, .long 0, .null, .null, .int 0, .null, .null, .null, .int 0, .int 0, .int 0, .int 0]) := by rw [eh17]; exact z_no h16_m hq6
  have h17_q0 : h17.1 q0 = some (aI 14 (fun _ => 0)) := by rw [eh17]; exact z_no h16_q0 hq6
  have h17_q1 : h17.1 q1 = some (aI 14 (fun _ => 0)) := by rw [eh17]; exact z_no h16_q1 hq6
  have h17_q2 : h17.1 q2 = some (aI 4 (upd (upd (upd (upd (fun _ => 0) 0 (2 : Int32)) 1 (3 : Int32)) 2 (4 : Int32)) 3 (6 : Int32))) := by rw [eh17]; exact z_no h16_q2 hq6
  have h17_q3 : h17.1 q3 = some (aI 200 (fun _ => 0)) := by rw [eh17]; exact z_no h16_q3 hq6
  have h17_q4 : h17.1 q4 = some (aI 10240 (fun _ => 0)) := by rw [eh17]; exact z_no h16_q4 hq6
  have h17_q5 : h17.1 q5 = some (aI 20 (fun _ => 0)) := by rw [eh17]; exact z_no h16_q5 hq6
  have h17_q6 : h17.1 q6 = some (aI 20 (fun _ => 0)) := by rw [eh17]; exact z_n_self _ _ _ _
  have nd7 := z_ndc nd6 (List.forall_mem_cons.mpr ⟨⟨_, h16_q5⟩, (List.forall_mem_cons.mpr ⟨⟨_, h16_q4⟩, (List.forall_mem_cons.mpr ⟨⟨_, h16_q3⟩, (List.forall_mem_cons.mpr ⟨⟨_, h16_q2⟩, (List.forall_mem_cons.mpr ⟨⟨_, h16_q1⟩, (List.forall_mem_cons.mpr ⟨⟨_, h16_q0⟩, (fun x hx => absurd hx List.not_mem_nil)⟩)⟩)⟩)⟩)⟩)⟩) hq6
  refine v_putF g (fs' := [.ref q0, .ref q1, .ref q2, .ref q3, .int 0, .int 0, .int 0, .ref q4, .ref q5, .ref q6, .null, .int 0, .int 0, .int 0, .null, .int 0, .int 0, .long 0, .long 0, .null, .null, .int 0, .int 0, .null, .null, .null, .null, .null, .null, .int 0, .null, .int 0, .long 0, .long 0, .null, .null, .int 0, .null, .null, .null, .int 0, .int 0, .int 0, .int 0]) h17_m fl_X8_28 rfl rfl rfl rfl (Nat.le_of_ble_eq_true rfl) rfl (by decide +kernel) ?_
  refine v_h (fun h18 eh18 => ?_)
  have kp_h18 : ∀ x y, h.1 x = some y → x ≠ m → h18.1 x = some y := fun x y hx hm9 => by rw [eh18]; exact z_so ((kp_h17) x y hx hm9) hm9
  have h18_c : h18.2.1 = h.2.1 + 7 ∧ h18.2.2 = h.2.2 + 10512 := zcs eh18 h17_c
  have h18_m : h18.1 m = some (oB 8 [.ref q0, .ref q1, .ref q2, .ref q3, .int 0, .int 0, .int 0, .ref q4, .ref q5, .ref q6, .null, .int 0, .int 0, .int 0, .null, .int 0, .int 0, .long 0, .long 0, .null, .null, .int 0, .int 0, .null, .null, .null, .null, .null, .null, .int 0, .null, .int 0, .long 0, .long 0, .null, .null, .int 0, .null, .null, .null, .int 0, .int 0, .int 0, .int 0]) := by rw [eh18]; exact z_s_self _ _ _
  have h18_q0 : h18.1 q0 = some (aI 14 (fun _ => 0)) := by rw [eh18]; exact z_so h17_q0 (Ne.symm (z_ne h1_m h1_q0 rfl))
  have h18_q1 : h18.1 q1 = some (aI 14 (fun _ => 0)) := by rw [eh18]; exact z_so h17_q1 (Ne.symm (z_ne h3_m h3_q1 rfl))
  have h18_q2 : h18.1 q2 = some (aI 4 (upd (upd (upd (upd (fun _ => 0) 0 (2 : Int32)) 1 (3 : Int32)) 2 (4 : Int32)) 3 (6 : Int32))) := by rw [eh18]; exact z_so h17_q2 (Ne.symm (z_ne h5_m h5_q2 rfl))
  have h18_q3 : h18.1 q3 = some (aI 200 (fun _ => 0)) := by rw [eh18]; exact z_so h17_q3 (Ne.symm (z_ne h11_m h11_q3 rfl))
  have h18_q4 : h18.1 q4 = some (aI 10240 (fun _ => 0)) := by rw [eh18]; exact z_so h17_q4 (Ne.symm (z_ne h13_m h13_q4 rfl))
  have h18_q5 : h18.1 q5 = some (aI 20 (fun _ => 0)) := by rw [eh18]; exact z_so h17_q5 (Ne.symm (z_ne h15_m h15_q5 rfl))
  have h18_q6 : h18.1 q6 = some (aI 20 (fun _ => 0)) := by rw [eh18]; exact z_so h17_q6 (Ne.symm (z_ne h17_m h17_q6 rfl))
  refine v_blk g [.aload_n 0, .bipush 20] (pc' := 81) (lv' := [(0, .ref m)]) (st' := [.int (20 : Int32), .ref m]) (by decide +kernel) rfl rfl ?_
  refine v_newZ g 20 rfl (Nat.le_of_ble_eq_true rfl) ac_boolean (zcsk 7 10512 1 20 h18_c.1 h18_c.2 (Nat.le_of_ble_eq_true rfl) (Nat.le_of_ble_eq_true rfl)) (by decide +kernel) (fun q7 hq7 => ?_)
  have fq7 : ∀ y, h.1 q7 = some y → False := fun y hy => by
    have e1 : q7 ≠ m := fun e => by rw [e, h18_m] at hq7; cases hq7
    have e2 := (kp_h18) q7 y hy e1; rw [hq7] at e2; cases e2
  refine v_h (fun h19 eh19 => ?_)
  have kp_h19 : ∀ x y, h.1 x = some y → x ≠ m → h19.1 x = some y := fun x y hx hm9 => by rw [eh19]; exact z_no ((kp_h18) x y hx hm9) hq7
  have h19_c : h19.2.1 = h.2.1 + 8 ∧ h19.2.2 = h.2.2 + 10532 := zcn eh19 h18_c
  have h19_m : h19.1 m = some (oB 8 [.ref q0, .ref q1, .ref q2, .ref q3, .int 0, .int 0, .int 0, .ref q4, .ref q5, .ref q6, .null, .int 0, .int 0, .int 0, .null, .int 0, .int 0, .long 0, .long 0, .null, .null, .int 0, .int 0, .null, .null, .null, .null, .null, .null, .int 0, .null, .int 0, .long 0, .long 0, .null, .null, .int 0, .null, .null, .null, .int 0, .int 0, .int 0, .int 0]) := by rw [eh19]; exact z_no h18_m hq7
  have h19_q0 : h19.1 q0 = some (aI 14 (fun _ => 0)) := by rw [eh19]; exact z_no h18_q0 hq7
  have h19_q1 : h19.1 q1 = some (aI 14 (fun _ => 0)) := by rw [eh19]; exact z_no h18_q1 hq7
  have h19_q2 : h19.1 q2 = some (aI 4 (upd (upd (upd (upd (fun _ => 0) 0 (2 : Int32)) 1 (3 : Int32)) 2 (4 : Int32)) 3 (6 : Int32))) := by rw [eh19]; exact z_no h18_q2 hq7
  have h19_q3 : h19.1 q3 = some (aI 200 (fun _ => 0)) := by rw [eh19]; exact z_no h18_q3 hq7
  have h19_q4 : h19.1 q4 = some (aI 10240 (fun _ => 0)) := by rw [eh19]; exact z_no h18_q4 hq7
  have h19_q5 : h19.1 q5 = some (aI 20 (fun _ => 0)) := by rw [eh19]; exact z_no h18_q5 hq7
  have h19_q6 : h19.1 q6 = some (aI 20 (fun _ => 0)) := by rw [eh19]; exact z_no h18_q6 hq7
  have h19_q7 : h19.1 q7 = some (aZ 20 (fun _ => 0)) := by rw [eh19]; exact z_n_self _ _ _ _
  have nd8 := z_ndc nd7 (List.forall_mem_cons.mpr ⟨⟨_, h18_q6⟩, (List.forall_mem_cons.mpr ⟨⟨_, h18_q5⟩, (List.forall_mem_cons.mpr ⟨⟨_, h18_q4⟩, (List.forall_mem_cons.mpr ⟨⟨_, h18_q3⟩, (List.forall_mem_cons.mpr ⟨⟨_, h18_q2⟩, (List.forall_mem_cons.mpr ⟨⟨_, h18_q1⟩, (List.forall_mem_cons.mpr ⟨⟨_, h18_q0⟩, (fun x hx => absurd hx List.not_mem_nil)⟩)⟩)⟩)⟩)⟩)⟩)⟩) hq7
  refine v_putF g (fs' := [.ref q0, .ref q1, .ref q2, .ref q3, .int 0, .int 0, .int 0, .ref q4, .ref q5, .ref q6, .ref q7, .int 0, .int 0, .int 0, .null, .int 0, .int 0, .long 0, .long 0, .null, .null, .int 0, .int 0, .null, .null, .null, .null, .null, .null, .int 0, .null, .int 0, .long 0, .long 0, .null, .null, .int 0, .null, .null, .null, .int 0, .int 0, .int 0, .int 0]) h19_m fl_X8_31 rfl rfl rfl rfl (Nat.le_of_ble_eq_true rfl) rfl (by decide +kernel) ?_
  refine v_h (fun h20 eh20 => ?_)
  have kp_h20 : ∀ x y, h.1 x = some y → x ≠ m → h20.1 x = some y := fun x y hx hm9 => by rw [eh20]; exact z_so ((kp_h19) x y hx hm9) hm9
  have h20_c : h20.2.1 = h.2.1 + 8 ∧ h20.2.2 = h.2.2 + 10532 := zcs eh20 h19_c
  have h20_m : h20.1 m = some (oB 8 [.ref q0, .ref q1, .ref q2, .ref q3, .int 0, .int 0, .int 0, .ref q4, .ref q5, .ref q6, .ref q7, .int 0, .int 0, .int 0, .null, .int 0, .int 0, .long 0, .long 0, .null, .null, .int 0, .int 0, .null, .null, .null, .null, .null, .null, .int 0, .null, .int 0, .long 0, .long 0, .null, .null, .int 0, .null, .null, .null, .int 0, .int 0, .int 0, .int 0]) := by rw [eh20]; exact z_s_self _ _ _
  have h20_q0 : h20.1 q0 = some (aI 14 (fun _ => 0)) := by rw [eh20]; exact z_so h19_q0 (Ne.symm (z_ne h1_m h1_q0 rfl))
  have h20_q1 : h20.1 q1 = some (aI 14 (fun _ => 0)) := by rw [eh20]; exact z_so h19_q1 (Ne.symm (z_ne h3_m h3_q1 rfl))
  have h20_q2 : h20.1 q2 = some (aI 4 (upd (upd (upd (upd (fun _ => 0) 0 (2 : Int32)) 1 (3 : Int32)) 2 (4 : Int32)) 3 (6 : Int32))) := by rw [eh20]; exact z_so h19_q2 (Ne.symm (z_ne h5_m h5_q2 rfl))
  have h20_q3 : h20.1 q3 = some (aI 200 (fun _ => 0)) := by rw [eh20]; exact z_so h19_q3 (Ne.symm (z_ne h11_m h11_q3 rfl))
  have h20_q4 : h20.1 q4 = some (aI 10240 (fun _ => 0)) := by rw [eh20]; exact z_so h19_q4 (Ne.symm (z_ne h13_m h13_q4 rfl))
  have h20_q5 : h20.1 q5 = some (aI 20 (fun _ => 0)) := by rw [eh20]; exact z_so h19_q5 (Ne.symm (z_ne h15_m h15_q5 rfl))
  have h20_q6 : h20.1 q6 = some (aI 20 (fun _ => 0)) := by rw [eh20]; exact z_so h19_q6 (Ne.symm (z_ne h17_m h17_q6 rfl))
  have h20_q7 : h20.1 q7 = some (aZ 20 (fun _ => 0)) := by rw [eh20]; exact z_so h19_q7 (Ne.symm (z_ne h19_m h19_q7 rfl))
  refine v_blk g [.aload_n 0, .bipush 30] (pc' := 89) (lv' := [(0, .ref m)]) (st' := [.int (30 : Int32), .ref m]) (by decide +kernel) rfl rfl ?_
  refine v_put g (fs' := [.ref q0, .ref q1, .ref q2, .ref q3, .int 0, .int 0, .int 0, .ref q4, .ref q5, .ref q6, .ref q7, .int 0, .int (30 : Int32), .int 0, .null, .int 0, .int 0, .long 0, .long 0, .null, .null, .int 0, .int 0, .null, .null, .null, .null, .null, .null, .int 0, .null, .int 0, .long 0, .long 0, .null, .null, .int 0, .null, .null, .null, .int 0, .int 0, .int 0, .int 0]) h20_m fl_X8_35 rfl rfl (Nat.le_of_ble_eq_true rfl) rfl (by decide +kernel) ?_
  refine v_h (fun h21 eh21 => ?_)
  have kp_h21 : ∀ x y, h.1 x = some y → x ≠ m → h21.1 x = some y := fun x y hx hm9 => by rw [eh21]; exact z_so ((kp_h20) x y hx hm9) hm9
  have h21_c : h21.2.1 = h.2.1 + 8 ∧ h21.2.2 = h.2.2 + 10532 := zcs eh21 h20_c
  have h21_m : h21.1 m = some (oB 8 [.ref q0, .ref q1, .ref q2, .ref q3, .int 0, .int 0, .int 0, .ref q4, .ref q5, .ref q6, .ref q7, .int 0, .int (30 : Int32), .int 0, .null, .int 0, .int 0, .long 0, .long 0, .null, .null, .int 0, .int 0, .null, .null, .null, .null, .null, .null, .int 0, .null, .int 0, .long 0, .long 0, .null, .null, .int 0, .null, .null, .null, .int 0, .int 0, .int 0, .int 0]) := by rw [eh21]; exact z_s_self _ _ _
  have h21_q0 : h21.1 q0 = some (aI 14 (fun _ => 0)) := by rw [eh21]; exact z_so h20_q0 (Ne.symm (z_ne h1_m h1_q0 rfl))
  have h21_q1 : h21.1 q1 = some (aI 14 (fun _ => 0)) := by rw [eh21]; exact z_so h20_q1 (Ne.symm (z_ne h3_m h3_q1 rfl))
  have h21_q2 : h21.1 q2 = some (aI 4 (upd (upd (upd (upd (fun _ => 0) 0 (2 : Int32)) 1 (3 : Int32)) 2 (4 : Int32)) 3 (6 : Int32))) := by rw [eh21]; exact z_so h20_q2 (Ne.symm (z_ne h5_m h5_q2 rfl))
  have h21_q3 : h21.1 q3 = some (aI 200 (fun _ => 0)) := by rw [eh21]; exact z_so h20_q3 (Ne.symm (z_ne h11_m h11_q3 rfl))
  have h21_q4 : h21.1 q4 = some (aI 10240 (fun _ => 0)) := by rw [eh21]; exact z_so h20_q4 (Ne.symm (z_ne h13_m h13_q4 rfl))
  have h21_q5 : h21.1 q5 = some (aI 20 (fun _ => 0)) := by rw [eh21]; exact z_so h20_q5 (Ne.symm (z_ne h15_m h15_q5 rfl))
  have h21_q6 : h21.1 q6 = some (aI 20 (fun _ => 0)) := by rw [eh21]; exact z_so h20_q6 (Ne.symm (z_ne h17_m h17_q6 rfl))
  have h21_q7 : h21.1 q7 = some (aZ 20 (fun _ => 0)) := by rw [eh21]; exact z_so h20_q7 (Ne.symm (z_ne h19_m h19_q7 rfl))
  refine v_blk g [.aload_n 0, .iconst 1] (pc' := 94) (lv' := [(0, .ref m)]) (st' := [.int (1 : Int32), .ref m]) (by decide +kernel) rfl rfl ?_
  refine v_put g (fs' := [.ref q0, .ref q1, .ref q2, .ref q3, .int 0, .int 0, .int 0, .ref q4, .ref q5, .ref q6, .ref q7, .int 0, .int (30 : Int32), .int (1 : Int32), .null, .int 0, .int 0, .long 0, .long 0, .null, .null, .int 0, .int 0, .null, .null, .null, .null, .null, .null, .int 0, .null, .int 0, .long 0, .long 0, .null, .null, .int 0, .null, .null, .null, .int 0, .int 0, .int 0, .int 0]) h21_m fl_X8_39 rfl rfl (Nat.le_of_ble_eq_true rfl) rfl (by decide +kernel) ?_
  refine v_h (fun h22 eh22 => ?_)
  have kp_h22 : ∀ x y, h.1 x = some y → x ≠ m → h22.1 x = some y := fun x y hx hm9 => by rw [eh22]; exact z_so ((kp_h21) x y hx hm9) hm9
  have h22_c : h22.2.1 = h.2.1 + 8 ∧ h22.2.2 = h.2.2 + 10532 := zcs eh22 h21_c
  have h22_m : h22.1 m = some (oB 8 [.ref q0, .ref q1, .ref q2, .ref q3, .int 0, .int 0, .int 0, .ref q4, .ref q5, .ref q6, .ref q7, .int 0, .int (30 : Int32), .int (1 : Int32), .null, .int 0, .int 0, .long 0, .long 0, .null, .null, .int 0, .int 0, .null, .null, .null, .null, .null, .null, .int 0, .null, .int 0, .long 0, .long 0, .null, .null, .int 0, .null, .null, .null, .int 0, .int 0, .int 0, .int 0]) := by rw [eh22]; exact z_s_self _ _ _
  have h22_q0 : h22.1 q0 = some (aI 14 (fun _ => 0)) := by rw [eh22]; exact z_so h21_q0 (Ne.symm (z_ne h1_m h1_q0 rfl))
  have h22_q1 : h22.1 q1 = some (aI 14 (fun _ => 0)) := by rw [eh22]; exact z_so h21_q1 (Ne.symm (z_ne h3_m h3_q1 rfl))
  have h22_q2 : h22.1 q2 = some (aI 4 (upd (upd (upd (upd (fun _ => 0) 0 (2 : Int32)) 1 (3 : Int32)) 2 (4 : Int32)) 3 (6 : Int32))) := by rw [eh22]; exact z_so h21_q2 (Ne.symm (z_ne h5_m h5_q2 rfl))
  have h22_q3 : h22.1 q3 = some (aI 200 (fun _ => 0)) := by rw [eh22]; exact z_so h21_q3 (Ne.symm (z_ne h11_m h11_q3 rfl))
  have h22_q4 : h22.1 q4 = some (aI 10240 (fun _ => 0)) := by rw [eh22]; exact z_so h21_q4 (Ne.symm (z_ne h13_m h13_q4 rfl))
  have h22_q5 : h22.1 q5 = some (aI 20 (fun _ => 0)) := by rw [eh22]; exact z_so h21_q5 (Ne.symm (z_ne h15_m h15_q5 rfl))
  have h22_q6 : h22.1 q6 = some (aI 20 (fun _ => 0)) := by rw [eh22]; exact z_so h21_q6 (Ne.symm (z_ne h17_m h17_q6 rfl))
  have h22_q7 : h22.1 q7 = some (aZ 20 (fun _ => 0)) := by rw [eh22]; exact z_so h21_q7 (Ne.symm (z_ne h19_m h19_q7 rfl))
  refine v_blk g [.aload_n 0, .bipush 24] (pc' := 100) (lv' := [(0, .ref m)]) (st' := [.int (24 : Int32), .ref m]) (by decide +kernel) rfl rfl ?_
  refine v_newJ g 24 rfl (Nat.le_of_ble_eq_true rfl) ac_long (zcsk 8 10532 1 24 h22_c.1 h22_c.2 (Nat.le_of_ble_eq_true rfl) (Nat.le_of_ble_eq_true rfl)) (by decide +kernel) (fun q8 hq8 => ?_)
  have fq8 : ∀ y, h.1 q8 = some y → False := fun y hy => by
    have e1 : q8 ≠ m := fun e => by rw [e, h22_m] at hq8; cases hq8
    have e2 := (kp_h22) q8 y hy e1; rw [hq8] at e2; cases e2
  refine v_h (fun h23 eh23 => ?_)
  have kp_h23 : ∀ x y, h.1 x = some y → x ≠ m → h23.1 x = some y := fun x y hx hm9 => by rw [eh23]; exact z_no ((kp_h22) x y hx hm9) hq8
  have h23_c : h23.2.1 = h.2.1 + 9 ∧ h23.2.2 = h.2.2 + 10556 := zcn eh23 h22_c
  have h23_m : h23.1 m = some (oB 8 [.ref q0, .ref q1, .ref q2, .ref q3, .int 0, .int 0, .int 0, .ref q4, .ref q5, .ref q6, .ref q7, .int 0, .int (30 : Int32), .int (1 : Int32), .null, .int 0, .int 0, .long 0, .long 0, .null, .null, .int 0, .int 0, .null, .null, .null, .null, .null, .null, .int 0, .null, .int 0, .long 0, .long 0, .null, .null, .int 0, .null, .null, .null, .int 0, .int 0, .int 0, .int 0]) := by rw [eh23]; exact z_no h22_m hq8
  have h23_q0 : h23.1 q0 = some (aI 14 (fun _ => 0)) := by rw [eh23]; exact z_no h22_q0 hq8
  have h23_q1 : h23.1 q1 = some (aI 14 (fun _ => 0)) := by rw [eh23]; exact z_no h22_q1 hq8
  have h23_q2 : h23.1 q2 = some (aI 4 (upd (upd (upd (upd (fun _ => 0) 0 (2 : Int32)) 1 (3 : Int32)) 2 (4 : Int32)) 3 (6 : Int32))) := by rw [eh23]; exact z_no h22_q2 hq8
  have h23_q3 : h23.1 q3 = some (aI 200 (fun _ => 0)) := by rw [eh23]; exact z_no h22_q3 hq8
  have h23_q4 : h23.1 q4 = some (aI 10240 (fun _ => 0)) := by rw [eh23]; exact z_no h22_q4 hq8
  have h23_q5 : h23.1 q5 = some (aI 20 (fun _ => 0)) := by rw [eh23]; exact z_no h22_q5 hq8
  have h23_q6 : h23.1 q6 = some (aI 20 (fun _ => 0)) := by rw [eh23]; exact z_no h22_q6 hq8
  have h23_q7 : h23.1 q7 = some (aZ 20 (fun _ => 0)) := by rw [eh23]; exact z_no h22_q7 hq8
  have h23_q8 : h23.1 q8 = some (aJ 24 (fun _ => 0)) := by rw [eh23]; exact z_n_self _ _ _ _
  have nd9 := z_ndc nd8 (List.forall_mem_cons.mpr ⟨⟨_, h22_q7⟩, (List.forall_mem_cons.mpr ⟨⟨_, h22_q6⟩, (List.forall_mem_cons.mpr ⟨⟨_, h22_q5⟩, (List.forall_mem_cons.mpr ⟨⟨_, h22_q4⟩, (List.forall_mem_cons.mpr ⟨⟨_, h22_q3⟩, (List.forall_mem_cons.mpr ⟨⟨_, h22_q2⟩, (List.forall_mem_cons.mpr ⟨⟨_, h22_q1⟩, (List.forall_mem_cons.mpr ⟨⟨_, h22_q0⟩, (fun x hx => absurd hx List.not_mem_nil)⟩)⟩)⟩)⟩)⟩)⟩)⟩)⟩) hq8
  refine v_putF g (fs' := [.ref q0, .ref q1, .ref q2, .ref q3, .int 0, .int 0, .int 0, .ref q4, .ref q5, .ref q6, .ref q7, .int 0, .int (30 : Int32), .int (1 : Int32), .ref q8, .int 0, .int 0, .long 0, .long 0, .null, .null, .int 0, .int 0, .null, .null, .null, .null, .null, .null, .int 0, .null, .int 0, .long 0, .long 0, .null, .null, .int 0, .null, .null, .null, .int 0, .int 0, .int 0, .int 0]) h23_m fl_X8_42 rfl rfl rfl rfl (Nat.le_of_ble_eq_true rfl) rfl (by decide +kernel) ?_
  refine v_h (fun h24 eh24 => ?_)
  have kp_h24 : ∀ x y, h.1 x = some y → x ≠ m → h24.1 x = some y := fun x y hx hm9 => by rw [eh24]; exact z_so ((kp_h23) x y hx hm9) hm9
  have h24_c : h24.2.1 = h.2.1 + 9 ∧ h24.2.2 = h.2.2 + 10556 := zcs eh24 h23_c
  have h24_m : h24.1 m = some (oB 8 [.ref q0, .ref q1, .ref q2, .ref q3, .int 0, .int 0, .int 0, .ref q4, .ref q5, .ref q6, .ref q7, .int 0, .int (30 : Int32), .int (1 : Int32), .ref q8, .int 0, .int 0, .long 0, .long 0, .null, .null, .int 0, .int 0, .null, .null, .null, .null, .null, .null, .int 0, .null, .int 0, .long 0, .long 0, .null, .null, .int 0, .null, .null, .null, .int 0, .int 0, .int 0, .int 0]) := by rw [eh24]; exact z_s_self _ _ _
  have h24_q0 : h24.1 q0 = some (aI 14 (fun _ => 0)) := by rw [eh24]; exact z_so h23_q0 (Ne.symm (z_ne h1_m h1_q0 rfl))
  have h24_q1 : h24.1 q1 = some (aI 14 (fun _ => 0)) := by rw [eh24]; exact z_so h23_q1 (Ne.symm (z_ne h3_m h3_q1 rfl))
  have h24_q2 : h24.1 q2 = some (aI 4 (upd (upd (upd (upd (fun _ => 0) 0 (2 : Int32)) 1 (3 : Int32)) 2 (4 : Int32)) 3 (6 : Int32))) := by rw [eh24]; exact z_so h23_q2 (Ne.symm (z_ne h5_m h5_q2 rfl))
  have h24_q3 : h24.1 q3 = some (aI 200 (fun _ => 0)) := by rw [eh24]; exact z_so h23_q3 (Ne.symm (z_ne h11_m h11_q3 rfl))
  have h24_q4 : h24.1 q4 = some (aI 10240 (fun _ => 0)) := by rw [eh24]; exact z_so h23_q4 (Ne.symm (z_ne h13_m h13_q4 rfl))
  have h24_q5 : h24.1 q5 = some (aI 20 (fun _ => 0)) := by rw [eh24]; exact z_so h23_q5 (Ne.symm (z_ne h15_m h15_q5 rfl))
  have h24_q6 : h24.1 q6 = some (aI 20 (fun _ => 0)) := by rw [eh24]; exact z_so h23_q6 (Ne.symm (z_ne h17_m h17_q6 rfl))
  have h24_q7 : h24.1 q7 = some (aZ 20 (fun _ => 0)) := by rw [eh24]; exact z_so h23_q7 (Ne.symm (z_ne h19_m h19_q7 rfl))
  have h24_q8 : h24.1 q8 = some (aJ 24 (fun _ => 0)) := by rw [eh24]; exact z_so h23_q8 (Ne.symm (z_ne h23_m h23_q8 rfl))
  refine v_blk g [.aload_n 0, .bipush 20] (pc' := 108) (lv' := [(0, .ref m)]) (st' := [.int (20 : Int32), .ref m]) (by decide +kernel) rfl rfl ?_
  refine v_newJ g 20 rfl (Nat.le_of_ble_eq_true rfl) ac_long (zcsk 9 10556 1 20 h24_c.1 h24_c.2 (Nat.le_of_ble_eq_true rfl) (Nat.le_of_ble_eq_true rfl)) (by decide +kernel) (fun q9 hq9 => ?_)
  have fq9 : ∀ y, h.1 q9 = some y → False := fun y hy => by
    have e1 : q9 ≠ m := fun e => by rw [e, h24_m] at hq9; cases hq9
    have e2 := (kp_h24) q9 y hy e1; rw [hq9] at e2; cases e2
  refine v_h (fun h25 eh25 => ?_)
  have kp_h25 : ∀ x y, h.1 x = some y → x ≠ m → h25.1 x = some y := fun x y hx hm9 => by rw [eh25]; exact z_no ((kp_h24) x y hx hm9) hq9
  have h25_c : h25.2.1 = h.2.1 + 10 ∧ h25.2.2 = h.2.2 + 10576 := zcn eh25 h24_c
  have h25_m : h25.1 m = some (oB 8 [.ref q0, .ref q1, .ref q2, .ref q3, .int 0, .int 0, .int 0, .ref q4, .ref q5, .ref q6, .ref q7, .int 0, .int (30 : Int32), .int (1 : Int32), .ref q8, .int 0, .int 0, .long 0, .long 0, .null, .null, .int 0, .int 0, .null, .null, .null, .null, .null, .null, .int 0, .null, .int 0, .long 0, .long 0, .null, .null, .int 0, .null, .null, .null, .int 0, .int 0, .int 0, .int 0]) := by rw [eh25]; exact z_no h24_m hq9
  have h25_q0 : h25.1 q0 = some (aI 14 (fun _ => 0)) := by rw [eh25]; exact z_no h24_q0 hq9
  have h25_q1 : h25.1 q1 = some (aI 14 (fun _ => 0)) := by rw [eh25]; exact z_no h24_q1 hq9
  have h25_q2 : h25.1 q2 = some (aI 4 (upd (upd (upd (upd (fun _ => 0) 0 (2 : Int32)) 1 (3 : Int32)) 2 (4 : Int32)) 3 (6 : Int32))) := by rw [eh25]; exact z_no h24_q2 hq9
  have h25_q3 : h25.1 q3 = some (aI 200 (fun _ => 0)) := by rw [eh25]; exact z_no h24_q3 hq9
  have h25_q4 : h25.1 q4 = some (aI 10240 (fun _ => 0)) := by rw [eh25]; exact z_no h24_q4 hq9
  have h25_q5 : h25.1 q5 = some (aI 20 (fun _ => 0)) := by rw [eh25]; exact z_no h24_q5 hq9
  have h25_q6 : h25.1 q6 = some (aI 20 (fun _ => 0)) := by rw [eh25]; exact z_no h24_q6 hq9
  have h25_q7 : h25.1 q7 = some (aZ 20 (fun _ => 0)) := by rw [eh25]; exact z_no h24_q7 hq9
  have h25_q8 : h25.1 q8 = some (aJ 24 (fun _ => 0)) := by rw [eh25]; exact z_no h24_q8 hq9
  have h25_q9 : h25.1 q9 = some (aJ 20 (fun _ => 0)) := by rw [eh25]; exact z_n_self _ _ _ _
  have nd10 := z_ndc nd9 (List.forall_mem_cons.mpr ⟨⟨_, h24_q8⟩, (List.forall_mem_cons.mpr ⟨⟨_, h24_q7⟩, (List.forall_mem_cons.mpr ⟨⟨_, h24_q6⟩, (List.forall_mem_cons.mpr ⟨⟨_, h24_q5⟩, (List.forall_mem_cons.mpr ⟨⟨_, h24_q4⟩, (List.forall_mem_cons.mpr ⟨⟨_, h24_q3⟩, (List.forall_mem_cons.mpr ⟨⟨_, h24_q2⟩, (List.forall_mem_cons.mpr ⟨⟨_, h24_q1⟩, (List.forall_mem_cons.mpr ⟨⟨_, h24_q0⟩, (fun x hx => absurd hx List.not_mem_nil)⟩)⟩)⟩)⟩)⟩)⟩)⟩)⟩)⟩) hq9
  refine v_putF g (fs' := [.ref q0, .ref q1, .ref q2, .ref q3, .int 0, .int 0, .int 0, .ref q4, .ref q5, .ref q6, .ref q7, .int 0, .int (30 : Int32), .int (1 : Int32), .ref q8, .int 0, .int 0, .long 0, .long 0, .ref q9, .null, .int 0, .int 0, .null, .null, .null, .null, .null, .null, .int 0, .null, .int 0, .long 0, .long 0, .null, .null, .int 0, .null, .null, .null, .int 0, .int 0, .int 0, .int 0]) h25_m fl_X8_46 rfl rfl rfl rfl (Nat.le_of_ble_eq_true rfl) rfl (by decide +kernel) ?_
  refine v_h (fun h26 eh26 => ?_)
  have kp_h26 : ∀ x y, h.1 x = some y → x ≠ m → h26.1 x = some y := fun x y hx hm9 => by rw [eh26]; exact z_so ((kp_h25) x y hx hm9) hm9
  have h26_c : h26.2.1 = h.2.1 + 10 ∧ h26.2.2 = h.2.2 + 10576 := zcs eh26 h25_c
  have h26_m : h26.1 m = some (oB 8 [.ref q0, .ref q1, .ref q2, .ref q3, .int 0, .int 0, .int 0, .ref q4, .ref q5, .ref q6, .ref q7, .int 0, .int (30 : Int32), .int (1 : Int32), .ref q8, .int 0, .int 0, .long 0, .long 0, .ref q9, .null, .int 0, .int 0, .null, .null, .null, .null, .null, .null, .int 0, .null, .int 0, .long 0, .long 0, .null, .null, .int 0, .null, .null, .null, .int 0, .int 0, .int 0, .int 0]) := by rw [eh26]; exact z_s_self _ _ _
  have h26_q0 : h26.1 q0 = some (aI 14 (fun _ => 0)) := by rw [eh26]; exact z_so h25_q0 (Ne.symm (z_ne h1_m h1_q0 rfl))
  have h26_q1 : h26.1 q1 = some (aI 14 (fun _ => 0)) := by rw [eh26]; exact z_so h25_q1 (Ne.symm (z_ne h3_m h3_q1 rfl))
  have h26_q2 : h26.1 q2 = some (aI 4 (upd (upd (upd (upd (fun _ => 0) 0 (2 : Int32)) 1 (3 : Int32)) 2 (4 : Int32)) 3 (6 : Int32))) := by rw [eh26]; exact z_so h25_q2 (Ne.symm (z_ne h5_m h5_q2 rfl))
  have h26_q3 : h26.1 q3 = some (aI 200 (fun _ => 0)) := by rw [eh26]; exact z_so h25_q3 (Ne.symm (z_ne h11_m h11_q3 rfl))
  have h26_q4 : h26.1 q4 = some (aI 10240 (fun _ => 0)) := by rw [eh26]; exact z_so h25_q4 (Ne.symm (z_ne h13_m h13_q4 rfl))
  have h26_q5 : h26.1 q5 = some (aI 20 (fun _ => 0)) := by rw [eh26]; exact z_so h25_q5 (Ne.symm (z_ne h15_m h15_q5 rfl))
  have h26_q6 : h26.1 q6 = some (aI 20 (fun _ => 0)) := by rw [eh26]; exact z_so h25_q6 (Ne.symm (z_ne h17_m h17_q6 rfl))
  have h26_q7 : h26.1 q7 = some (aZ 20 (fun _ => 0)) := by rw [eh26]; exact z_so h25_q7 (Ne.symm (z_ne h19_m h19_q7 rfl))
  have h26_q8 : h26.1 q8 = some (aJ 24 (fun _ => 0)) := by rw [eh26]; exact z_so h25_q8 (Ne.symm (z_ne h23_m h23_q8 rfl))
  have h26_q9 : h26.1 q9 = some (aJ 20 (fun _ => 0)) := by rw [eh26]; exact z_so h25_q9 (Ne.symm (z_ne h25_m h25_q9 rfl))
  refine v_blk g [.aload_n 0, .bipush 20] (pc' := 116) (lv' := [(0, .ref m)]) (st' := [.int (20 : Int32), .ref m]) (by decide +kernel) rfl rfl ?_
  refine v_newI g 20 rfl (Nat.le_of_ble_eq_true rfl) ac_int (zcsk 10 10576 1 20 h26_c.1 h26_c.2 (Nat.le_of_ble_eq_true rfl) (Nat.le_of_ble_eq_true rfl)) (by decide +kernel) (fun q10 hq10 => ?_)
  have fq10 : ∀ y, h.1 q10 = some y → False := fun y hy => by
    have e1 : q10 ≠ m := fun e => by rw [e, h26_m] at hq10; cases hq10
    have e2 := (kp_h26) q10 y hy e1; rw [hq10] at e2; cases e2
  refine v_h (fun h27 eh27 => ?_)
  have kp_h27 : ∀ x y, h.1 x = some y → x ≠ m → h27.1 x = some y := fun x y hx hm9 => by rw [eh27]; exact z_no ((kp_h26) x y hx hm9) hq10
  have h27_c : h27.2.1 = h.2.1 + 11 ∧ h27.2.2 = h.2.2 + 10596 := zcn eh27 h26_c
  have h27_m : h27.1 m = some (oB 8 [.ref q0, .ref q1, .ref q2, .ref q3, .int 0, .int 0, .int 0, .ref q4, .ref q5, .ref q6, .ref q7, .int 0, .int (30 : Int32), .int (1 : Int32), .ref q8, .int 0, .int 0, .long 0, .long 0, .ref q9, .null, .int 0, .int 0, .null, .null, .null, .null, .null, .null, .int 0, .null, .int 0, .long 0, .long 0, .null, .null, .int 0, .null, .null, .null, .int 0, .int 0, .int 0, .int 0]) := by rw [eh27]; exact z_no h26_m hq10
  have h27_q0 : h27.1 q0 = some (aI 14 (fun _ => 0)) := by rw [eh27]; exact z_no h26_q0 hq10
  have h27_q1 : h27.1 q1 = some (aI 14 (fun _ => 0)) := by rw [eh27]; exact z_no h26_q1 hq10
  have h27_q2 : h27.1 q2 = some (aI 4 (upd (upd (upd (upd (fun _ => 0) 0 (2 : Int32)) 1 (3 : Int32)) 2 (4 : Int32)) 3 (6 : Int32))) := by rw [eh27]; exact z_no h26_q2 hq10
  have h27_q3 : h27.1 q3 = some (aI 200 (fun _ => 0)) := by rw [eh27]; exact z_no h26_q3 hq10
  have h27_q4 : h27.1 q4 = some (aI 10240 (fun _ => 0)) := by rw [eh27]; exact z_no h26_q4 hq10
  have h27_q5 : h27.1 q5 = some (aI 20 (fun _ => 0)) := by rw [eh27]; exact z_no h26_q5 hq10
  have h27_q6 : h27.1 q6 = some (aI 20 (fun _ => 0)) := by rw [eh27]; exact z_no h26_q6 hq10
  have h27_q7 : h27.1 q7 = some (aZ 20 (fun _ => 0)) := by rw [eh27]; exact z_no h26_q7 hq10
  have h27_q8 : h27.1 q8 = some (aJ 24 (fun _ => 0)) := by rw [eh27]; exact z_no h26_q8 hq10
  have h27_q9 : h27.1 q9 = some (aJ 20 (fun _ => 0)) := by rw [eh27]; exact z_no h26_q9 hq10
  have h27_q10 : h27.1 q10 = some (aI 20 (fun _ => 0)) := by rw [eh27]; exact z_n_self _ _ _ _
  have nd11 := z_ndc nd10 (List.forall_mem_cons.mpr ⟨⟨_, h26_q9⟩, (List.forall_mem_cons.mpr ⟨⟨_, h26_q8⟩, (List.forall_mem_cons.mpr ⟨⟨_, h26_q7⟩, (List.forall_mem_cons.mpr ⟨⟨_, h26_q6⟩, (List.forall_mem_cons.mpr ⟨⟨_, h26_q5⟩, (List.forall_mem_cons.mpr ⟨⟨_, h26_q4⟩, (List.forall_mem_cons.mpr ⟨⟨_, h26_q3⟩, (List.forall_mem_cons.mpr ⟨⟨_, h26_q2⟩, (List.forall_mem_cons.mpr ⟨⟨_, h26_q1⟩, (List.forall_mem_cons.mpr ⟨⟨_, h26_q0⟩, (fun x hx => absurd hx List.not_mem_nil)⟩)⟩)⟩)⟩)⟩)⟩)⟩)⟩)⟩)⟩) hq10
  refine v_putF g (fs' := [.ref q0, .ref q1, .ref q2, .ref q3, .int 0, .int 0, .int 0, .ref q4, .ref q5, .ref q6, .ref q7, .int 0, .int (30 : Int32), .int (1 : Int32), .ref q8, .int 0, .int 0, .long 0, .long 0, .ref q9, .ref q10, .int 0, .int 0, .null, .null, .null, .null, .null, .null, .int 0, .null, .int 0, .long 0, .long 0, .null, .null, .int 0, .null, .null, .null, .int 0, .int 0, .int 0, .int 0]) h27_m fl_X8_49 rfl rfl rfl rfl (Nat.le_of_ble_eq_true rfl) rfl (by decide +kernel) ?_
  refine v_h (fun h28 eh28 => ?_)
  have kp_h28 : ∀ x y, h.1 x = some y → x ≠ m → h28.1 x = some y := fun x y hx hm9 => by rw [eh28]; exact z_so ((kp_h27) x y hx hm9) hm9
  have h28_c : h28.2.1 = h.2.1 + 11 ∧ h28.2.2 = h.2.2 + 10596 := zcs eh28 h27_c
  have h28_m : h28.1 m = some (oB 8 [.ref q0, .ref q1, .ref q2, .ref q3, .int 0, .int 0, .int 0, .ref q4, .ref q5, .ref q6, .ref q7, .int 0, .int (30 : Int32), .int (1 : Int32), .ref q8, .int 0, .int 0, .long 0, .long 0, .ref q9, .ref q10, .int 0, .int 0, .null, .null, .null, .null, .null, .null, .int 0, .null, .int 0, .long 0, .long 0, .null, .null, .int 0, .null, .null, .null, .int 0, .int 0, .int 0, .int 0]) := by rw [eh28]; exact z_s_self _ _ _
  have h28_q0 : h28.1 q0 = some (aI 14 (fun _ => 0)) := by rw [eh28]; exact z_so h27_q0 (Ne.symm (z_ne h1_m h1_q0 rfl))
  have h28_q1 : h28.1 q1 = some (aI 14 (fun _ => 0)) := by rw [eh28]; exact z_so h27_q1 (Ne.symm (z_ne h3_m h3_q1 rfl))
  have h28_q2 : h28.1 q2 = some (aI 4 (upd (upd (upd (upd (fun _ => 0) 0 (2 : Int32)) 1 (3 : Int32)) 2 (4 : Int32)) 3 (6 : Int32))) := by rw [eh28]; exact z_so h27_q2 (Ne.symm (z_ne h5_m h5_q2 rfl))
  have h28_q3 : h28.1 q3 = some (aI 200 (fun _ => 0)) := by rw [eh28]; exact z_so h27_q3 (Ne.symm (z_ne h11_m h11_q3 rfl))
  have h28_q4 : h28.1 q4 = some (aI 10240 (fun _ => 0)) := by rw [eh28]; exact z_so h27_q4 (Ne.symm (z_ne h13_m h13_q4 rfl))
  have h28_q5 : h28.1 q5 = some (aI 20 (fun _ => 0)) := by rw [eh28]; exact z_so h27_q5 (Ne.symm (z_ne h15_m h15_q5 rfl))
  have h28_q6 : h28.1 q6 = some (aI 20 (fun _ => 0)) := by rw [eh28]; exact z_so h27_q6 (Ne.symm (z_ne h17_m h17_q6 rfl))
  have h28_q7 : h28.1 q7 = some (aZ 20 (fun _ => 0)) := by rw [eh28]; exact z_so h27_q7 (Ne.symm (z_ne h19_m h19_q7 rfl))
  have h28_q8 : h28.1 q8 = some (aJ 24 (fun _ => 0)) := by rw [eh28]; exact z_so h27_q8 (Ne.symm (z_ne h23_m h23_q8 rfl))
  have h28_q9 : h28.1 q9 = some (aJ 20 (fun _ => 0)) := by rw [eh28]; exact z_so h27_q9 (Ne.symm (z_ne h25_m h25_q9 rfl))
  have h28_q10 : h28.1 q10 = some (aI 20 (fun _ => 0)) := by rw [eh28]; exact z_so h27_q10 (Ne.symm (z_ne h27_m h27_q10 rfl))
  refine v_blk g [.aload_n 0, .bipush 14] (pc' := 124) (lv' := [(0, .ref m)]) (st' := [.int (14 : Int32), .ref m]) (by decide +kernel) rfl rfl ?_
  refine v_newI g 14 rfl (Nat.le_of_ble_eq_true rfl) ac_int (zcsk 11 10596 1 14 h28_c.1 h28_c.2 (Nat.le_of_ble_eq_true rfl) (Nat.le_of_ble_eq_true rfl)) (by decide +kernel) (fun q11 hq11 => ?_)
  have fq11 : ∀ y, h.1 q11 = some y → False := fun y hy => by
    have e1 : q11 ≠ m := fun e => by rw [e, h28_m] at hq11; cases hq11
    have e2 := (kp_h28) q11 y hy e1; rw [hq11] at e2; cases e2
  refine v_h (fun h29 eh29 => ?_)
  have kp_h29 : ∀ x y, h.1 x = some y → x ≠ m → h29.1 x = some y := fun x y hx hm9 => by rw [eh29]; exact z_no ((kp_h28) x y hx hm9) hq11
  have h29_c : h29.2.1 = h.2.1 + 12 ∧ h29.2.2 = h.2.2 + 10610 := zcn eh29 h28_c
  have h29_m : h29.1 m = some (oB 8 [.ref q0, .ref q1, .ref q2, .ref q3, .int 0, .int 0, .int 0, .ref q4, .ref q5, .ref q6, .ref q7, .int 0, .int (30 : Int32), .int (1 : Int32), .ref q8, .int 0, .int 0, .long 0, .long 0, .ref q9, .ref q10, .int 0, .int 0, .null, .null, .null, .null, .null, .null, .int 0, .null, .int 0, .long 0, .long 0, .null, .null, .int 0, .null, .null, .null, .int 0, .int 0, .int 0, .int 0]) := by rw [eh29]; exact z_no h28_m hq11
  have h29_q0 : h29.1 q0 = some (aI 14 (fun _ => 0)) := by rw [eh29]; exact z_no h28_q0 hq11
  have h29_q1 : h29.1 q1 = some (aI 14 (fun _ => 0)) := by rw [eh29]; exact z_no h28_q1 hq11
  have h29_q2 : h29.1 q2 = some (aI 4 (upd (upd (upd (upd (fun _ => 0) 0 (2 : Int32)) 1 (3 : Int32)) 2 (4 : Int32)) 3 (6 : Int32))) := by rw [eh29]; exact z_no h28_q2 hq11
  have h29_q3 : h29.1 q3 = some (aI 200 (fun _ => 0)) := by rw [eh29]; exact z_no h28_q3 hq11
  have h29_q4 : h29.1 q4 = some (aI 10240 (fun _ => 0)) := by rw [eh29]; exact z_no h28_q4 hq11
  have h29_q5 : h29.1 q5 = some (aI 20 (fun _ => 0)) := by rw [eh29]; exact z_no h28_q5 hq11
  have h29_q6 : h29.1 q6 = some (aI 20 (fun _ => 0)) := by rw [eh29]; exact z_no h28_q6 hq11
  have h29_q7 : h29.1 q7 = some (aZ 20 (fun _ => 0)) := by rw [eh29]; exact z_no h28_q7 hq11
  have h29_q8 : h29.1 q8 = some (aJ 24 (fun _ => 0)) := by rw [eh29]; exact z_no h28_q8 hq11
  have h29_q9 : h29.1 q9 = some (aJ 20 (fun _ => 0)) := by rw [eh29]; exact z_no h28_q9 hq11
  have h29_q10 : h29.1 q10 = some (aI 20 (fun _ => 0)) := by rw [eh29]; exact z_no h28_q10 hq11
  have h29_q11 : h29.1 q11 = some (aI 14 (fun _ => 0)) := by rw [eh29]; exact z_n_self _ _ _ _
  have nd12 := z_ndc nd11 (List.forall_mem_cons.mpr ⟨⟨_, h28_q10⟩, (List.forall_mem_cons.mpr ⟨⟨_, h28_q9⟩, (List.forall_mem_cons.mpr ⟨⟨_, h28_q8⟩, (List.forall_mem_cons.mpr ⟨⟨_, h28_q7⟩, (List.forall_mem_cons.mpr ⟨⟨_, h28_q6⟩, (List.forall_mem_cons.mpr ⟨⟨_, h28_q5⟩, (List.forall_mem_cons.mpr ⟨⟨_, h28_q4⟩, (List.forall_mem_cons.mpr ⟨⟨_, h28_q3⟩, (List.forall_mem_cons.mpr ⟨⟨_, h28_q2⟩, (List.forall_mem_cons.mpr ⟨⟨_, h28_q1⟩, (List.forall_mem_cons.mpr ⟨⟨_, h28_q0⟩, (fun x hx => absurd hx List.not_mem_nil)⟩)⟩)⟩)⟩)⟩)⟩)⟩)⟩)⟩)⟩)⟩) hq11
  refine v_putF g (fs' := [.ref q0, .ref q1, .ref q2, .ref q3, .int 0, .int 0, .int 0, .ref q4, .ref q5, .ref q6, .ref q7, .int 0, .int (30 : Int32), .int (1 : Int32), .ref q8, .int 0, .int 0, .long 0, .long 0, .ref q9, .ref q10, .int 0, .int 0, .ref q11, .null, .null, .null, .null, .null, .int 0, .null, .int 0, .long 0, .long 0, .null, .null, .int 0, .null, .null, .null, .int 0, .int 0, .int 0, .int 0]) h29_m fl_X8_52 rfl rfl rfl rfl (Nat.le_of_ble_eq_true rfl) rfl (by decide +kernel) ?_
  refine v_h (fun h30 eh30 => ?_)
  have kp_h30 : ∀ x y, h.1 x = some y → x ≠ m → h30.1 x = some y := fun x y hx hm9 => by rw [eh30]; exact z_so ((kp_h29) x y hx hm9) hm9
  have h30_c : h30.2.1 = h.2.1 + 12 ∧ h30.2.2 = h.2.2 + 10610 := zcs eh30 h29_c
  have h30_m : h30.1 m = some (oB 8 [.ref q0, .ref q1, .ref q2, .ref q3, .int 0, .int 0, .int 0, .ref q4, .ref q5, .ref q6, .ref q7, .int 0, .int (30 : Int32), .int (1 : Int32), .ref q8, .int 0, .int 0, .long 0, .long 0, .ref q9, .ref q10, .int 0, .int 0, .ref q11, .null, .null, .null, .null, .null, .int 0, .null, .int 0, .long 0, .long 0, .null, .null, .int 0, .null, .null, .null, .int 0, .int 0, .int 0, .int 0]) := by rw [eh30]; exact z_s_self _ _ _
  have h30_q0 : h30.1 q0 = some (aI 14 (fun _ => 0)) := by rw [eh30]; exact z_so h29_q0 (Ne.symm (z_ne h1_m h1_q0 rfl))
  have h30_q1 : h30.1 q1 = some (aI 14 (fun _ => 0)) := by rw [eh30]; exact z_so h29_q1 (Ne.symm (z_ne h3_m h3_q1 rfl))
  have h30_q2 : h30.1 q2 = some (aI 4 (upd (upd (upd (upd (fun _ => 0) 0 (2 : Int32)) 1 (3 : Int32)) 2 (4 : Int32)) 3 (6 : Int32))) := by rw [eh30]; exact z_so h29_q2 (Ne.symm (z_ne h5_m h5_q2 rfl))
  have h30_q3 : h30.1 q3 = some (aI 200 (fun _ => 0)) := by rw [eh30]; exact z_so h29_q3 (Ne.symm (z_ne h11_m h11_q3 rfl))
  have h30_q4 : h30.1 q4 = some (aI 10240 (fun _ => 0)) := by rw [eh30]; exact z_so h29_q4 (Ne.symm (z_ne h13_m h13_q4 rfl))
  have h30_q5 : h30.1 q5 = some (aI 20 (fun _ => 0)) := by rw [eh30]; exact z_so h29_q5 (Ne.symm (z_ne h15_m h15_q5 rfl))
  have h30_q6 : h30.1 q6 = some (aI 20 (fun _ => 0)) := by rw [eh30]; exact z_so h29_q6 (Ne.symm (z_ne h17_m h17_q6 rfl))
  have h30_q7 : h30.1 q7 = some (aZ 20 (fun _ => 0)) := by rw [eh30]; exact z_so h29_q7 (Ne.symm (z_ne h19_m h19_q7 rfl))
  have h30_q8 : h30.1 q8 = some (aJ 24 (fun _ => 0)) := by rw [eh30]; exact z_so h29_q8 (Ne.symm (z_ne h23_m h23_q8 rfl))
  have h30_q9 : h30.1 q9 = some (aJ 20 (fun _ => 0)) := by rw [eh30]; exact z_so h29_q9 (Ne.symm (z_ne h25_m h25_q9 rfl))
  have h30_q10 : h30.1 q10 = some (aI 20 (fun _ => 0)) := by rw [eh30]; exact z_so h29_q10 (Ne.symm (z_ne h27_m h27_q10 rfl))
  have h30_q11 : h30.1 q11 = some (aI 14 (fun _ => 0)) := by rw [eh30]; exact z_so h29_q11 (Ne.symm (z_ne h29_m h29_q11 rfl))
  refine v_blk g [.aload_n 0, .bipush 14] (pc' := 132) (lv' := [(0, .ref m)]) (st' := [.int (14 : Int32), .ref m]) (by decide +kernel) rfl rfl ?_
  refine v_newI g 14 rfl (Nat.le_of_ble_eq_true rfl) ac_int (zcsk 12 10610 1 14 h30_c.1 h30_c.2 (Nat.le_of_ble_eq_true rfl) (Nat.le_of_ble_eq_true rfl)) (by decide +kernel) (fun q12 hq12 => ?_)
  have fq12 : ∀ y, h.1 q12 = some y → False := fun y hy => by
    have e1 : q12 ≠ m := fun e => by rw [e, h30_m] at hq12; cases hq12
    have e2 := (kp_h30) q12 y hy e1; rw [hq12] at e2; cases e2
  refine v_h (fun h31 eh31 => ?_)
  have kp_h31 : ∀ x y, h.1 x = some y → x ≠ m → h31.1 x = some y := fun x y hx hm9 => by rw [eh31]; exact z_no ((kp_h30) x y hx hm9) hq12
  have h31_c : h31.2.1 = h.2.1 + 13 ∧ h31.2.2 = h.2.2 + 10624 := zcn eh31 h30_c
  have h31_m : h31.1 m = some (oB 8 [.ref q0, .ref q1, .ref q2, .ref q3, .int 0, .int 0, .int 0, .ref q4, .ref q5, .ref q6, .ref q7, .int 0, .int (30 : Int32), .int (1 : Int32), .ref q8, .int 0, .int 0, .long 0, .long 0, .ref q9, .ref q10, .int 0, .int 0, .ref q11, .null, .null, .null, .null, .null, .int 0, .null, .int 0, .long 0, .long 0, .null, .null, .int 0, .null, .null, .null, .int 0, .int 0, .int 0, .int 0]) := by rw [eh31]; exact z_no h30_m hq12
  have h31_q0 : h31.1 q0 = some (aI 14 (fun _ => 0)) := by rw [eh31]; exact z_no h30_q0 hq12
  have h31_q1 : h31.1 q1 = some (aI 14 (fun _ => 0)) := by rw [eh31]; exact z_no h30_q1 hq12
  have h31_q2 : h31.1 q2 = some (aI 4 (upd (upd (upd (upd (fun _ => 0) 0 (2 : Int32)) 1 (3 : Int32)) 2 (4 : Int32)) 3 (6 : Int32))) := by rw [eh31]; exact z_no h30_q2 hq12
  have h31_q3 : h31.1 q3 = some (aI 200 (fun _ => 0)) := by rw [eh31]; exact z_no h30_q3 hq12
  have h31_q4 : h31.1 q4 = some (aI 10240 (fun _ => 0)) := by rw [eh31]; exact z_no h30_q4 hq12
  have h31_q5 : h31.1 q5 = some (aI 20 (fun _ => 0)) := by rw [eh31]; exact z_no h30_q5 hq12
  have h31_q6 : h31.1 q6 = some (aI 20 (fun _ => 0)) := by rw [eh31]; exact z_no h30_q6 hq12
  have h31_q7 : h31.1 q7 = some (aZ 20 (fun _ => 0)) := by rw [eh31]; exact z_no h30_q7 hq12
  have h31_q8 : h31.1 q8 = some (aJ 24 (fun _ => 0)) := by rw [eh31]; exact z_no h30_q8 hq12
  have h31_q9 : h31.1 q9 = some (aJ 20 (fun _ => 0)) := by rw [eh31]; exact z_no h30_q9 hq12
  have h31_q10 : h31.1 q10 = some (aI 20 (fun _ => 0)) := by rw [eh31]; exact z_no h30_q10 hq12
  have h31_q11 : h31.1 q11 = some (aI 14 (fun _ => 0)) := by rw [eh31]; exact z_no h30_q11 hq12
  have h31_q12 : h31.1 q12 = some (aI 14 (fun _ => 0)) := by rw [eh31]; exact z_n_self _ _ _ _
  have nd13 := z_ndc nd12 (List.forall_mem_cons.mpr ⟨⟨_, h30_q11⟩, (List.forall_mem_cons.mpr ⟨⟨_, h30_q10⟩, (List.forall_mem_cons.mpr ⟨⟨_, h30_q9⟩, (List.forall_mem_cons.mpr ⟨⟨_, h30_q8⟩, (List.forall_mem_cons.mpr ⟨⟨_, h30_q7⟩, (List.forall_mem_cons.mpr ⟨⟨_, h30_q6⟩, (List.forall_mem_cons.mpr ⟨⟨_, h30_q5⟩, (List.forall_mem_cons.mpr ⟨⟨_, h30_q4⟩, (List.forall_mem_cons.mpr ⟨⟨_, h30_q3⟩, (List.forall_mem_cons.mpr ⟨⟨_, h30_q2⟩, (List.forall_mem_cons.mpr ⟨⟨_, h30_q1⟩, (List.forall_mem_cons.mpr ⟨⟨_, h30_q0⟩, (fun x hx => absurd hx List.not_mem_nil)⟩)⟩)⟩)⟩)⟩)⟩)⟩)⟩)⟩)⟩)⟩)⟩) hq12
  refine v_putF g (fs' := [.ref q0, .ref q1, .ref q2, .ref q3, .int 0, .int 0, .int 0, .ref q4, .ref q5, .ref q6, .ref q7, .int 0, .int (30 : Int32), .int (1 : Int32), .ref q8, .int 0, .int 0, .long 0, .long 0, .ref q9, .ref q10, .int 0, .int 0, .ref q11, .ref q12, .null, .null, .null, .null, .int 0, .null, .int 0, .long 0, .long 0, .null, .null, .int 0, .null, .null, .null, .int 0, .int 0, .int 0, .int 0]) h31_m fl_X8_55 rfl rfl rfl rfl (Nat.le_of_ble_eq_true rfl) rfl (by decide +kernel) ?_
  refine v_h (fun h32 eh32 => ?_)
  have kp_h32 : ∀ x y, h.1 x = some y → x ≠ m → h32.1 x = some y := fun x y hx hm9 => by rw [eh32]; exact z_so ((kp_h31) x y hx hm9) hm9
  have h32_c : h32.2.1 = h.2.1 + 13 ∧ h32.2.2 = h.2.2 + 10624 := zcs eh32 h31_c
  have h32_m : h32.1 m = some (oB 8 [.ref q0, .ref q1, .ref q2, .ref q3, .int 0, .int 0, .int 0, .ref q4, .ref q5, .ref q6, .ref q7, .int 0, .int (30 : Int32), .int (1 : Int32), .ref q8, .int 0, .int 0, .long 0, .long 0, .ref q9, .ref q10, .int 0, .int 0, .ref q11, .ref q12, .null, .null, .null, .null, .int 0, .null, .int 0, .long 0, .long 0, .null, .null, .int 0, .null, .null, .null, .int 0, .int 0, .int 0, .int 0]) := by rw [eh32]; exact z_s_self _ _ _
  have h32_q0 : h32.1 q0 = some (aI 14 (fun _ => 0)) := by rw [eh32]; exact z_so h31_q0 (Ne.symm (z_ne h1_m h1_q0 rfl))
  have h32_q1 : h32.1 q1 = some (aI 14 (fun _ => 0)) := by rw [eh32]; exact z_so h31_q1 (Ne.symm (z_ne h3_m h3_q1 rfl))
  have h32_q2 : h32.1 q2 = some (aI 4 (upd (upd (upd (upd (fun _ => 0) 0 (2 : Int32)) 1 (3 : Int32)) 2 (4 : Int32)) 3 (6 : Int32))) := by rw [eh32]; exact z_so h31_q2 (Ne.symm (z_ne h5_m h5_q2 rfl))
  have h32_q3 : h32.1 q3 = some (aI 200 (fun _ => 0)) := by rw [eh32]; exact z_so h31_q3 (Ne.symm (z_ne h11_m h11_q3 rfl))
  have h32_q4 : h32.1 q4 = some (aI 10240 (fun _ => 0)) := by rw [eh32]; exact z_so h31_q4 (Ne.symm (z_ne h13_m h13_q4 rfl))
  have h32_q5 : h32.1 q5 = some (aI 20 (fun _ => 0)) := by rw [eh32]; exact z_so h31_q5 (Ne.symm (z_ne h15_m h15_q5 rfl))
  have h32_q6 : h32.1 q6 = some (aI 20 (fun _ => 0)) := by rw [eh32]; exact z_so h31_q6 (Ne.symm (z_ne h17_m h17_q6 rfl))
  have h32_q7 : h32.1 q7 = some (aZ 20 (fun _ => 0)) := by rw [eh32]; exact z_so h31_q7 (Ne.symm (z_ne h19_m h19_q7 rfl))
  have h32_q8 : h32.1 q8 = some (aJ 24 (fun _ => 0)) := by rw [eh32]; exact z_so h31_q8 (Ne.symm (z_ne h23_m h23_q8 rfl))
  have h32_q9 : h32.1 q9 = some (aJ 20 (fun _ => 0)) := by rw [eh32]; exact z_so h31_q9 (Ne.symm (z_ne h25_m h25_q9 rfl))
  have h32_q10 : h32.1 q10 = some (aI 20 (fun _ => 0)) := by rw [eh32]; exact z_so h31_q10 (Ne.symm (z_ne h27_m h27_q10 rfl))
  have h32_q11 : h32.1 q11 = some (aI 14 (fun _ => 0)) := by rw [eh32]; exact z_so h31_q11 (Ne.symm (z_ne h29_m h29_q11 rfl))
  have h32_q12 : h32.1 q12 = some (aI 14 (fun _ => 0)) := by rw [eh32]; exact z_so h31_q12 (Ne.symm (z_ne h31_m h31_q12 rfl))
  refine v_blk g [.aload_n 0, .sipush 10240] (pc' := 141) (lv' := [(0, .ref m)]) (st' := [.int (10240 : Int32), .ref m]) (by decide +kernel) rfl rfl ?_
  refine v_newI g 10240 rfl (Nat.le_of_ble_eq_true rfl) ac_int (zcsk 13 10624 1 10240 h32_c.1 h32_c.2 (Nat.le_of_ble_eq_true rfl) (Nat.le_of_ble_eq_true rfl)) (by decide +kernel) (fun q13 hq13 => ?_)
  have fq13 : ∀ y, h.1 q13 = some y → False := fun y hy => by
    have e1 : q13 ≠ m := fun e => by rw [e, h32_m] at hq13; cases hq13
    have e2 := (kp_h32) q13 y hy e1; rw [hq13] at e2; cases e2
  refine v_h (fun h33 eh33 => ?_)
  have kp_h33 : ∀ x y, h.1 x = some y → x ≠ m → h33.1 x = some y := fun x y hx hm9 => by rw [eh33]; exact z_no ((kp_h32) x y hx hm9) hq13
  have h33_c : h33.2.1 = h.2.1 + 14 ∧ h33.2.2 = h.2.2 + 20864 := zcn eh33 h32_c
  have h33_m : h33.1 m = some (oB 8 [.ref q0, .ref q1, .ref q2, .ref q3, .int 0, .int 0, .int 0, .ref q4, .ref q5, .ref q6, .ref q7, .int 0, .int (30 : Int32), .int (1 : Int32), .ref q8, .int 0, .int 0, .long 0, .long 0, .ref q9, .ref q10, .int 0, .int 0, .ref q11, .ref q12, .null, .null, .null, .null, .int 0, .null, .int 0, .long 0, .long 0, .null, .null, .int 0, .null, .null, .null, .int 0, .int 0, .int 0, .int 0]) := by rw [eh33]; exact z_no h32_m hq13
  have h33_q0 : h33.1 q0 = some (aI 14 (fun _ => 0)) := by rw [eh33]; exact z_no h32_q0 hq13
  have h33_q1 : h33.1 q1 = some (aI 14 (fun _ => 0)) := by rw [eh33]; exact z_no h32_q1 hq13
  have h33_q2 : h33.1 q2 = some (aI 4 (upd (upd (upd (upd (fun _ => 0) 0 (2 : Int32)) 1 (3 : Int32)) 2 (4 : Int32)) 3 (6 : Int32))) := by rw [eh33]; exact z_no h32_q2 hq13
  have h33_q3 : h33.1 q3 = some (aI 200 (fun _ => 0)) := by rw [eh33]; exact z_no h32_q3 hq13
  have h33_q4 : h33.1 q4 = some (aI 10240 (fun _ => 0)) := by rw [eh33]; exact z_no h32_q4 hq13
  have h33_q5 : h33.1 q5 = some (aI 20 (fun _ => 0)) := by rw [eh33]; exact z_no h32_q5 hq13
  have h33_q6 : h33.1 q6 = some (aI 20 (fun _ => 0)) := by rw [eh33]; exact z_no h32_q6 hq13
  have h33_q7 : h33.1 q7 = some (aZ 20 (fun _ => 0)) := by rw [eh33]; exact z_no h32_q7 hq13
  have h33_q8 : h33.1 q8 = some (aJ 24 (fun _ => 0)) := by rw [eh33]; exact z_no h32_q8 hq13
  have h33_q9 : h33.1 q9 = some (aJ 20 (fun _ => 0)) := by rw [eh33]; exact z_no h32_q9 hq13
  have h33_q10 : h33.1 q10 = some (aI 20 (fun _ => 0)) := by rw [eh33]; exact z_no h32_q10 hq13
  have h33_q11 : h33.1 q11 = some (aI 14 (fun _ => 0)) := by rw [eh33]; exact z_no h32_q11 hq13
  have h33_q12 : h33.1 q12 = some (aI 14 (fun _ => 0)) := by rw [eh33]; exact z_no h32_q12 hq13
  have h33_q13 : h33.1 q13 = some (aI 10240 (fun _ => 0)) := by rw [eh33]; exact z_n_self _ _ _ _
  have nd14 := z_ndc nd13 (List.forall_mem_cons.mpr ⟨⟨_, h32_q12⟩, (List.forall_mem_cons.mpr ⟨⟨_, h32_q11⟩, (List.forall_mem_cons.mpr ⟨⟨_, h32_q10⟩, (List.forall_mem_cons.mpr ⟨⟨_, h32_q9⟩, (List.forall_mem_cons.mpr ⟨⟨_, h32_q8⟩, (List.forall_mem_cons.mpr ⟨⟨_, h32_q7⟩, (List.forall_mem_cons.mpr ⟨⟨_, h32_q6⟩, (List.forall_mem_cons.mpr ⟨⟨_, h32_q5⟩, (List.forall_mem_cons.mpr ⟨⟨_, h32_q4⟩, (List.forall_mem_cons.mpr ⟨⟨_, h32_q3⟩, (List.forall_mem_cons.mpr ⟨⟨_, h32_q2⟩, (List.forall_mem_cons.mpr ⟨⟨_, h32_q1⟩, (List.forall_mem_cons.mpr ⟨⟨_, h32_q0⟩, (fun x hx => absurd hx List.not_mem_nil)⟩)⟩)⟩)⟩)⟩)⟩)⟩)⟩)⟩)⟩)⟩)⟩)⟩) hq13
  refine v_putF g (fs' := [.ref q0, .ref q1, .ref q2, .ref q3, .int 0, .int 0, .int 0, .ref q4, .ref q5, .ref q6, .ref q7, .int 0, .int (30 : Int32), .int (1 : Int32), .ref q8, .int 0, .int 0, .long 0, .long 0, .ref q9, .ref q10, .int 0, .int 0, .ref q11, .ref q12, .ref q13, .null, .null, .null, .int 0, .null, .int 0, .long 0, .long 0, .null, .null, .int 0, .null, .null, .null, .int 0, .int 0, .int 0, .int 0]) h33_m fl_X8_58 rfl rfl rfl rfl (Nat.le_of_ble_eq_true rfl) rfl (by decide +kernel) ?_
  refine v_h (fun h34 eh34 => ?_)
  have kp_h34 : ∀ x y, h.1 x = some y → x ≠ m → h34.1 x = some y := fun x y hx hm9 => by rw [eh34]; exact z_so ((kp_h33) x y hx hm9) hm9
  have h34_c : h34.2.1 = h.2.1 + 14 ∧ h34.2.2 = h.2.2 + 20864 := zcs eh34 h33_c
  have h34_m : h34.1 m = some (oB 8 [.ref q0, .ref q1, .ref q2, .ref q3, .int 0, .int 0, .int 0, .ref q4, .ref q5, .ref q6, .ref q7, .int 0, .int (30 : Int32), .int (1 : Int32), .ref q8, .int 0, .int 0, .long 0, .long 0, .ref q9, .ref q10, .int 0, .int 0, .ref q11, .ref q12, .ref q13, .null, .null, .null, .int 0, .null, .int 0, .long 0, .long 0, .null, .null, .int 0, .null, .null, .null, .int 0, .int 0, .int 0, .int 0]) := by rw [eh34]; exact z_s_self _ _ _
  have h34_q0 : h34.1 q0 = some (aI 14 (fun _ => 0)) := by rw [eh34]; exact z_so h33_q0 (Ne.symm (z_ne h1_m h1_q0 rfl))
  have h34_q1 : h34.1 q1 = some (aI 14 (fun _ => 0)) := by rw [eh34]; exact z_so h33_q1 (Ne.symm (z_ne h3_m h3_q1 rfl))
  have h34_q2 : h34.1 q2 = some (aI 4 (upd (upd (upd (upd (fun _ => 0) 0 (2 : Int32)) 1 (3 : Int32)) 2 (4 : Int32)) 3 (6 : Int32))) := by rw [eh34]; exact z_so h33_q2 (Ne.symm (z_ne h5_m h5_q2 rfl))
  have h34_q3 : h34.1 q3 = some (aI 200 (fun _ => 0)) := by rw [eh34]; exact z_so h33_q3 (Ne.symm (z_ne h11_m h11_q3 rfl))
  have h34_q4 : h34.1 q4 = some (aI 10240 (fun _ => 0)) := by rw [eh34]; exact z_so h33_q4 (Ne.symm (z_ne h13_m h13_q4 rfl))
  have h34_q5 : h34.1 q5 = some (aI 20 (fun _ => 0)) := by rw [eh34]; exact z_so h33_q5 (Ne.symm (z_ne h15_m h15_q5 rfl))
  have h34_q6 : h34.1 q6 = some (aI 20 (fun _ => 0)) := by rw [eh34]; exact z_so h33_q6 (Ne.symm (z_ne h17_m h17_q6 rfl))
  have h34_q7 : h34.1 q7 = some (aZ 20 (fun _ => 0)) := by rw [eh34]; exact z_so h33_q7 (Ne.symm (z_ne h19_m h19_q7 rfl))
  have h34_q8 : h34.1 q8 = some (aJ 24 (fun _ => 0)) := by rw [eh34]; exact z_so h33_q8 (Ne.symm (z_ne h23_m h23_q8 rfl))
  have h34_q9 : h34.1 q9 = some (aJ 20 (fun _ => 0)) := by rw [eh34]; exact z_so h33_q9 (Ne.symm (z_ne h25_m h25_q9 rfl))
  have h34_q10 : h34.1 q10 = some (aI 20 (fun _ => 0)) := by rw [eh34]; exact z_so h33_q10 (Ne.symm (z_ne h27_m h27_q10 rfl))
  have h34_q11 : h34.1 q11 = some (aI 14 (fun _ => 0)) := by rw [eh34]; exact z_so h33_q11 (Ne.symm (z_ne h29_m h29_q11 rfl))
  have h34_q12 : h34.1 q12 = some (aI 14 (fun _ => 0)) := by rw [eh34]; exact z_so h33_q12 (Ne.symm (z_ne h31_m h31_q12 rfl))
  have h34_q13 : h34.1 q13 = some (aI 10240 (fun _ => 0)) := by rw [eh34]; exact z_so h33_q13 (Ne.symm (z_ne h33_m h33_q13 rfl))
  refine v_blk g [.aload_n 0, .bipush 20] (pc' := 149) (lv' := [(0, .ref m)]) (st' := [.int (20 : Int32), .ref m]) (by decide +kernel) rfl rfl ?_
  refine v_newI g 20 rfl (Nat.le_of_ble_eq_true rfl) ac_int (zcsk 14 20864 1 20 h34_c.1 h34_c.2 (Nat.le_of_ble_eq_true rfl) (Nat.le_of_ble_eq_true rfl)) (by decide +kernel) (fun q14 hq14 => ?_)
  have fq14 : ∀ y, h.1 q14 = some y → False := fun y hy => by
    have e1 : q14 ≠ m := fun e => by rw [e, h34_m] at hq14; cases hq14
    have e2 := (kp_h34) q14 y hy e1; rw [hq14] at e2; cases e2
  refine v_h (fun h35 eh35 => ?_)
  have kp_h35 : ∀ x y, h.1 x = some y → x ≠ m → h35.1 x = some y := fun x y hx hm9 => by rw [eh35]; exact z_no ((kp_h34) x y hx hm9) hq14
  have h35_c : h35.2.1 = h.2.1 + 15 ∧ h35.2.2 = h.2.2 + 20884 := zcn eh35 h34_c
  have h35_m : h35.1 m = some (oB 8 [.ref q0, .ref q1, .ref q2, .ref q3, .int 0, .int 0, .int 0, .ref q4, .ref q5, .ref q6, .ref q7, .int 0, .int (30 : Int32), .int (1 : Int32), .ref q8, .int 0, .int 0, .long 0, .long 0, .ref q9, .ref q10, .int 0, .int 0, .ref q11, .ref q12, .ref q13, .null, .null, .null, .int 0, .null, .int 0, .long 0, .long 0, .null, .null, .int 0, .null, .null, .null, .int 0, .int 0, .int 0, .int 0]) := by rw [eh35]; exact z_no h34_m hq14
  have h35_q0 : h35.1 q0 = some (aI 14 (fun _ => 0)) := by rw [eh35]; exact z_no h34_q0 hq14
  have h35_q1 : h35.1 q1 = some (aI 14 (fun _ => 0)) := by rw [eh35]; exact z_no h34_q1 hq14
  have h35_q2 : h35.1 q2 = some (aI 4 (upd (upd (upd (upd (fun _ => 0) 0 (2 : Int32)) 1 (3 : Int32)) 2 (4 : Int32)) 3 (6 : Int32))) := by rw [eh35]; exact z_no h34_q2 hq14
  have h35_q3 : h35.1 q3 = some (aI 200 (fun _ => 0)) := by rw [eh35]; exact z_no h34_q3 hq14
  have h35_q4 : h35.1 q4 = some (aI 10240 (fun _ => 0)) := by rw [eh35]; exact z_no h34_q4 hq14
  have h35_q5 : h35.1 q5 = some (aI 20 (fun _ => 0)) := by rw [eh35]; exact z_no h34_q5 hq14
  have h35_q6 : h35.1 q6 = some (aI 20 (fun _ => 0)) := by rw [eh35]; exact z_no h34_q6 hq14
  have h35_q7 : h35.1 q7 = some (aZ 20 (fun _ => 0)) := by rw [eh35]; exact z_no h34_q7 hq14
  have h35_q8 : h35.1 q8 = some (aJ 24 (fun _ => 0)) := by rw [eh35]; exact z_no h34_q8 hq14
  have h35_q9 : h35.1 q9 = some (aJ 20 (fun _ => 0)) := by rw [eh35]; exact z_no h34_q9 hq14
  have h35_q10 : h35.1 q10 = some (aI 20 (fun _ => 0)) := by rw [eh35]; exact z_no h34_q10 hq14
  have h35_q11 : h35.1 q11 = some (aI 14 (fun _ => 0)) := by rw [eh35]; exact z_no h34_q11 hq14
  have h35_q12 : h35.1 q12 = some (aI 14 (fun _ => 0)) := by rw [eh35]; exact z_no h34_q12 hq14
  have h35_q13 : h35.1 q13 = some (aI 10240 (fun _ => 0)) := by rw [eh35]; exact z_no h34_q13 hq14
  have h35_q14 : h35.1 q14 = some (aI 20 (fun _ => 0)) := by rw [eh35]; exact z_n_self _ _ _ _
  have nd15 := z_ndc nd14 (List.forall_mem_cons.mpr ⟨⟨_, h34_q13⟩, (List.forall_mem_cons.mpr ⟨⟨_, h34_q12⟩, (List.forall_mem_cons.mpr ⟨⟨_, h34_q11⟩, (List.forall_mem_cons.mpr ⟨⟨_, h34_q10⟩, (List.forall_mem_cons.mpr ⟨⟨_, h34_q9⟩, (List.forall_mem_cons.mpr ⟨⟨_, h34_q8⟩, (List.forall_mem_cons.mpr ⟨⟨_, h34_q7⟩, (List.forall_mem_cons.mpr ⟨⟨_, h34_q6⟩, (List.forall_mem_cons.mpr ⟨⟨_, h34_q5⟩, (List.forall_mem_cons.mpr ⟨⟨_, h34_q4⟩, (List.forall_mem_cons.mpr ⟨⟨_, h34_q3⟩, (List.forall_mem_cons.mpr ⟨⟨_, h34_q2⟩, (List.forall_mem_cons.mpr ⟨⟨_, h34_q1⟩, (List.forall_mem_cons.mpr ⟨⟨_, h34_q0⟩, (fun x hx => absurd hx List.not_mem_nil)⟩)⟩)⟩)⟩)⟩)⟩)⟩)⟩)⟩)⟩)⟩)⟩)⟩)⟩) hq14
  refine v_putF g (fs' := [.ref q0, .ref q1, .ref q2, .ref q3, .int 0, .int 0, .int 0, .ref q4, .ref q5, .ref q6, .ref q7, .int 0, .int (30 : Int32), .int (1 : Int32), .ref q8, .int 0, .int 0, .long 0, .long 0, .ref q9, .ref q10, .int 0, .int 0, .ref q11, .ref q12, .ref q13, .ref q14, .null, .null, .int 0, .null, .int 0, .long 0, .long 0, .null, .null, .int 0, .null, .null, .null, .int 0, .int 0, .int 0, .int 0]) h35_m fl_X8_61 rfl rfl rfl rfl (Nat.le_of_ble_eq_true rfl) rfl (by decide +kernel) ?_
  refine v_h (fun h36 eh36 => ?_)
  have kp_h36 : ∀ x y, h.1 x = some y → x ≠ m → h36.1 x = some y := fun x y hx hm9 => by rw [eh36]; exact z_so ((kp_h35) x y hx hm9) hm9
  have h36_c : h36.2.1 = h.2.1 + 15 ∧ h36.2.2 = h.2.2 + 20884 := zcs eh36 h35_c
  have h36_m : h36.1 m = some (oB 8 [.ref q0, .ref q1, .ref q2, .ref q3, .int 0, .int 0, .int 0, .ref q4, .ref q5, .ref q6, .ref q7, .int 0, .int (30 : Int32), .int (1 : Int32), .ref q8, .int 0, .int 0, .long 0, .long 0, .ref q9, .ref q10, .int 0, .int 0, .ref q11, .ref q12, .ref q13, .ref q14, .null, .null, .int 0, .null, .int 0, .long 0, .long 0, .null, .null, .int 0, .null, .null, .null, .int 0, .int 0, .int 0, .int 0]) := by rw [eh36]; exact z_s_self _ _ _
  have h36_q0 : h36.1 q0 = some (aI 14 (fun _ => 0)) := by rw [eh36]; exact z_so h35_q0 (Ne.symm (z_ne h1_m h1_q0 rfl))
  have h36_q1 : h36.1 q1 = some (aI 14 (fun _ => 0)) := by rw [eh36]; exact z_so h35_q1 (Ne.symm (z_ne h3_m h3_q1 rfl))
  have h36_q2 : h36.1 q2 = some (aI 4 (upd (upd (upd (upd (fun _ => 0) 0 (2 : Int32)) 1 (3 : Int32)) 2 (4 : Int32)) 3 (6 : Int32))) := by rw [eh36]; exact z_so h35_q2 (Ne.symm (z_ne h5_m h5_q2 rfl))
  have h36_q3 : h36.1 q3 = some (aI 200 (fun _ => 0)) := by rw [eh36]; exact z_so h35_q3 (Ne.symm (z_ne h11_m h11_q3 rfl))
  have h36_q4 : h36.1 q4 = some (aI 10240 (fun _ => 0)) := by rw [eh36]; exact z_so h35_q4 (Ne.symm (z_ne h13_m h13_q4 rfl))
  have h36_q5 : h36.1 q5 = some (aI 20 (fun _ => 0)) := by rw [eh36]; exact z_so h35_q5 (Ne.symm (z_ne h15_m h15_q5 rfl))
  have h36_q6 : h36.1 q6 = some (aI 20 (fun _ => 0)) := by rw [eh36]; exact z_so h35_q6 (Ne.symm (z_ne h17_m h17_q6 rfl))
  have h36_q7 : h36.1 q7 = some (aZ 20 (fun _ => 0)) := by rw [eh36]; exact z_so h35_q7 (Ne.symm (z_ne h19_m h19_q7 rfl))
  have h36_q8 : h36.1 q8 = some (aJ 24 (fun _ => 0)) := by rw [eh36]; exact z_so h35_q8 (Ne.symm (z_ne h23_m h23_q8 rfl))
  have h36_q9 : h36.1 q9 = some (aJ 20 (fun _ => 0)) := by rw [eh36]; exact z_so h35_q9 (Ne.symm (z_ne h25_m h25_q9 rfl))
  have h36_q10 : h36.1 q10 = some (aI 20 (fun _ => 0)) := by rw [eh36]; exact z_so h35_q10 (Ne.symm (z_ne h27_m h27_q10 rfl))
  have h36_q11 : h36.1 q11 = some (aI 14 (fun _ => 0)) := by rw [eh36]; exact z_so h35_q11 (Ne.symm (z_ne h29_m h29_q11 rfl))
  have h36_q12 : h36.1 q12 = some (aI 14 (fun _ => 0)) := by rw [eh36]; exact z_so h35_q12 (Ne.symm (z_ne h31_m h31_q12 rfl))
  have h36_q13 : h36.1 q13 = some (aI 10240 (fun _ => 0)) := by rw [eh36]; exact z_so h35_q13 (Ne.symm (z_ne h33_m h33_q13 rfl))
  have h36_q14 : h36.1 q14 = some (aI 20 (fun _ => 0)) := by rw [eh36]; exact z_so h35_q14 (Ne.symm (z_ne h35_m h35_q14 rfl))
  refine v_blk g [.aload_n 0, .bipush 20] (pc' := 157) (lv' := [(0, .ref m)]) (st' := [.int (20 : Int32), .ref m]) (by decide +kernel) rfl rfl ?_
  refine v_newI g 20 rfl (Nat.le_of_ble_eq_true rfl) ac_int (zcsk 15 20884 1 20 h36_c.1 h36_c.2 (Nat.le_of_ble_eq_true rfl) (Nat.le_of_ble_eq_true rfl)) (by decide +kernel) (fun q15 hq15 => ?_)
  have fq15 : ∀ y, h.1 q15 = some y → False := fun y hy => by
    have e1 : q15 ≠ m := fun e => by rw [e, h36_m] at hq15; cases hq15
    have e2 := (kp_h36) q15 y hy e1; rw [hq15] at e2; cases e2
  refine v_h (fun h37 eh37 => ?_)
  have kp_h37 : ∀ x y, h.1 x = some y → x ≠ m → h37.1 x = some y := fun x y hx hm9 => by rw [eh37]; exact z_no ((kp_h36) x y hx hm9) hq15
  have h37_c : h37.2.1 = h.2.1 + 16 ∧ h37.2.2 = h.2.2 + 20904 := zcn eh37 h36_c
  have h37_m : h37.1 m = some (oB 8 [.ref q0, .ref q1, .ref q2, .ref q3, .int 0, .int 0, .int 0, .ref q4, .ref q5, .ref q6, .ref q7, .int 0, .int (30 : Int32), .int (1 : Int32), .ref q8, .int 0, .int 0, .long 0, .long 0, .ref q9, .ref q10, .int 0, .int 0, .ref q11, .ref q12, .ref q13, .ref q14, .null, .null, .int 0, .null, .int 0, .long 0, .long 0, .null, .null, .int 0, .null, .null, .null, .int 0, .int 0, .int 0, .int 0]) := by rw [eh37]; exact z_no h36_m hq15
  have h37_q0 : h37.1 q0 = some (aI 14 (fun _ => 0)) := by rw [eh37]; exact z_no h36_q0 hq15
  have h37_q1 : h37.1 q1 = some (aI 14 (fun _ => 0)) := by rw [eh37]; exact z_no h36_q1 hq15
  have h37_q2 : h37.1 q2 = some (aI 4 (upd (upd (upd (upd (fun _ => 0) 0 (2 : Int32)) 1 (3 : Int32)) 2 (4 : Int32)) 3 (6 : Int32))) := by rw [eh37]; exact z_no h36_q2 hq15
  have h37_q3 : h37.1 q3 = some (aI 200 (fun _ => 0)) := by rw [eh37]; exact z_no h36_q3 hq15
  have h37_q4 : h37.1 q4 = some (aI 10240 (fun _ => 0)) := by rw [eh37]; exact z_no h36_q4 hq15
  have h37_q5 : h37.1 q5 = some (aI 20 (fun _ => 0)) := by rw [eh37]; exact z_no h36_q5 hq15
  have h37_q6 : h37.1 q6 = some (aI 20 (fun _ => 0)) := by rw [eh37]; exact z_no h36_q6 hq15
  have h37_q7 : h37.1 q7 = some (aZ 20 (fun _ => 0)) := by rw [eh37]; exact z_no h36_q7 hq15
  have h37_q8 : h37.1 q8 = some (aJ 24 (fun _ => 0)) := by rw [eh37]; exact z_no h36_q8 hq15
  have h37_q9 : h37.1 q9 = some (aJ 20 (fun _ => 0)) := by rw [eh37]; exact z_no h36_q9 hq15
  have h37_q10 : h37.1 q10 = some (aI 20 (fun _ => 0)) := by rw [eh37]; exact z_no h36_q10 hq15
  have h37_q11 : h37.1 q11 = some (aI 14 (fun _ => 0)) := by rw [eh37]; exact z_no h36_q11 hq15
  have h37_q12 : h37.1 q12 = some (aI 14 (fun _ => 0)) := by rw [eh37]; exact z_no h36_q12 hq15
  have h37_q13 : h37.1 q13 = some (aI 10240 (fun _ => 0)) := by rw [eh37]; exact z_no h36_q13 hq15
  have h37_q14 : h37.1 q14 = some (aI 20 (fun _ => 0)) := by rw [eh37]; exact z_no h36_q14 hq15
  have h37_q15 : h37.1 q15 = some (aI 20 (fun _ => 0)) := by rw [eh37]; exact z_n_self _ _ _ _
  have nd16 := z_ndc nd15 (List.forall_mem_cons.mpr ⟨⟨_, h36_q14⟩, (List.forall_mem_cons.mpr ⟨⟨_, h36_q13⟩, (List.forall_mem_cons.mpr ⟨⟨_, h36_q12⟩, (List.forall_mem_cons.mpr ⟨⟨_, h36_q11⟩, (List.forall_mem_cons.mpr ⟨⟨_, h36_q10⟩, (List.forall_mem_cons.mpr ⟨⟨_, h36_q9⟩, (List.forall_mem_cons.mpr ⟨⟨_, h36_q8⟩, (List.forall_mem_cons.mpr ⟨⟨_, h36_q7⟩, (List.forall_mem_cons.mpr ⟨⟨_, h36_q6⟩, (List.forall_mem_cons.mpr ⟨⟨_, h36_q5⟩, (List.forall_mem_cons.mpr ⟨⟨_, h36_q4⟩, (List.forall_mem_cons.mpr ⟨⟨_, h36_q3⟩, (List.forall_mem_cons.mpr ⟨⟨_, h36_q2⟩, (List.forall_mem_cons.mpr ⟨⟨_, h36_q1⟩, (List.forall_mem_cons.mpr ⟨⟨_, h36_q0⟩, (fun x hx => absurd hx List.not_mem_nil)⟩)⟩)⟩)⟩)⟩)⟩)⟩)⟩)⟩)⟩)⟩)⟩)⟩)⟩)⟩) hq15
  refine v_putF g (fs' := [.ref q0, .ref q1, .ref q2, .ref q3, .int 0, .int 0, .int 0, .ref q4, .ref q5, .ref q6, .ref q7, .int 0, .int (30 : Int32), .int (1 : Int32), .ref q8, .int 0, .int 0, .long 0, .long 0, .ref q9, .ref q10, .int 0, .int 0, .ref q11, .ref q12, .ref q13, .ref q14, .ref q15, .null, .int 0, .null, .int 0, .long 0, .long 0, .null, .null, .int 0, .null, .null, .null, .int 0, .int 0, .int 0, .int 0]) h37_m fl_X8_64 rfl rfl rfl rfl (Nat.le_of_ble_eq_true rfl) rfl (by decide +kernel) ?_
  refine v_h (fun h38 eh38 => ?_)
  have kp_h38 : ∀ x y, h.1 x = some y → x ≠ m → h38.1 x = some y := fun x y hx hm9 => by rw [eh38]; exact z_so ((kp_h37) x y hx hm9) hm9
  have h38_c : h38.2.1 = h.2.1 + 16 ∧ h38.2.2 = h.2.2 + 20904 := zcs eh38 h37_c
  have h38_m : h38.1 m = some (oB 8 [.ref q0, .ref q1, .ref q2, .ref q3, .int 0, .int 0, .int 0, .ref q4, .ref q5, .ref q6, .ref q7, .int 0, .int (30 : Int32), .int (1 : Int32), .ref q8, .int 0, .int 0, .long 0, .long 0, .ref q9, .ref q10, .int 0, .int 0, .ref q11, .ref q12, .ref q13, .ref q14, .ref q15, .null, .int 0, .null, .int 0, .long 0, .long 0, .null, .null, .int 0, .null, .null, .null, .int 0, .int 0, .int 0, .int 0]) := by rw [eh38]; exact z_s_self _ _ _
  have h38_q0 : h38.1 q0 = some (aI 14 (fun _ => 0)) := by rw [eh38]; exact z_so h37_q0 (Ne.symm (z_ne h1_m h1_q0 rfl))
  have h38_q1 : h38.1 q1 = some (aI 14 (fun _ => 0)) := by rw [eh38]; exact z_so h37_q1 (Ne.symm (z_ne h3_m h3_q1 rfl))
  have h38_q2 : h38.1 q2 = some (aI 4 (upd (upd (upd (upd (fun _ => 0) 0 (2 : Int32)) 1 (3 : Int32)) 2 (4 : Int32)) 3 (6 : Int32))) := by rw [eh38]; exact z_so h37_q2 (Ne.symm (z_ne h5_m h5_q2 rfl))
  have h38_q3 : h38.1 q3 = some (aI 200 (fun _ => 0)) := by rw [eh38]; exact z_so h37_q3 (Ne.symm (z_ne h11_m h11_q3 rfl))
  have h38_q4 : h38.1 q4 = some (aI 10240 (fun _ => 0)) := by rw [eh38]; exact z_so h37_q4 (Ne.symm (z_ne h13_m h13_q4 rfl))
  have h38_q5 : h38.1 q5 = some (aI 20 (fun _ => 0)) := by rw [eh38]; exact z_so h37_q5 (Ne.symm (z_ne h15_m h15_q5 rfl))
  have h38_q6 : h38.1 q6 = some (aI 20 (fun _ => 0)) := by rw [eh38]; exact z_so h37_q6 (Ne.symm (z_ne h17_m h17_q6 rfl))
  have h38_q7 : h38.1 q7 = some (aZ 20 (fun _ => 0)) := by rw [eh38]; exact z_so h37_q7 (Ne.symm (z_ne h19_m h19_q7 rfl))
  have h38_q8 : h38.1 q8 = some (aJ 24 (fun _ => 0)) := by rw [eh38]; exact z_so h37_q8 (Ne.symm (z_ne h23_m h23_q8 rfl))
  have h38_q9 : h38.1 q9 = some (aJ 20 (fun _ => 0)) := by rw [eh38]; exact z_so h37_q9 (Ne.symm (z_ne h25_m h25_q9 rfl))
  have h38_q10 : h38.1 q10 = some (aI 20 (fun _ => 0)) := by rw [eh38]; exact z_so h37_q10 (Ne.symm (z_ne h27_m h27_q10 rfl))
  have h38_q11 : h38.1 q11 = some (aI 14 (fun _ => 0)) := by rw [eh38]; exact z_so h37_q11 (Ne.symm (z_ne h29_m h29_q11 rfl))
  have h38_q12 : h38.1 q12 = some (aI 14 (fun _ => 0)) := by rw [eh38]; exact z_so h37_q12 (Ne.symm (z_ne h31_m h31_q12 rfl))
  have h38_q13 : h38.1 q13 = some (aI 10240 (fun _ => 0)) := by rw [eh38]; exact z_so h37_q13 (Ne.symm (z_ne h33_m h33_q13 rfl))
  have h38_q14 : h38.1 q14 = some (aI 20 (fun _ => 0)) := by rw [eh38]; exact z_so h37_q14 (Ne.symm (z_ne h35_m h35_q14 rfl))
  have h38_q15 : h38.1 q15 = some (aI 20 (fun _ => 0)) := by rw [eh38]; exact z_so h37_q15 (Ne.symm (z_ne h37_m h37_q15 rfl))
  refine v_blk g [.aload_n 0, .bipush 20] (pc' := 165) (lv' := [(0, .ref m)]) (st' := [.int (20 : Int32), .ref m]) (by decide +kernel) rfl rfl ?_
  refine v_newZ g 20 rfl (Nat.le_of_ble_eq_true rfl) ac_boolean (zcsk 16 20904 1 20 h38_c.1 h38_c.2 (Nat.le_of_ble_eq_true rfl) (Nat.le_of_ble_eq_true rfl)) (by decide +kernel) (fun q16 hq16 => ?_)
  have fq16 : ∀ y, h.1 q16 = some y → False := fun y hy => by
    have e1 : q16 ≠ m := fun e => by rw [e, h38_m] at hq16; cases hq16
    have e2 := (kp_h38) q16 y hy e1; rw [hq16] at e2; cases e2
  refine v_h (fun h39 eh39 => ?_)
  have kp_h39 : ∀ x y, h.1 x = some y → x ≠ m → h39.1 x = some y := fun x y hx hm9 => by rw [eh39]; exact z_no ((kp_h38) x y hx hm9) hq16
  have h39_c : h39.2.1 = h.2.1 + 17 ∧ h39.2.2 = h.2.2 + 20924 := zcn eh39 h38_c
  have h39_m : h39.1 m = some (oB 8 [.ref q0, .ref q1, .ref q2, .ref q3, .int 0, .int 0, .int 0, .ref q4, .ref q5, .ref q6, .ref q7, .int 0, .int (30 : Int32), .int (1 : Int32), .ref q8, .int 0, .int 0, .long 0, .long 0, .ref q9, .ref q10, .int 0, .int 0, .ref q11, .ref q12, .ref q13, .ref q14, .ref q15, .null, .int 0, .null, .int 0, .long 0, .long 0, .null, .null, .int 0, .null, .null, .null, .int 0, .int 0, .int 0, .int 0]) := by rw [eh39]; exact z_no h38_m hq16
  have h39_q0 : h39.1 q0 = some (aI 14 (fun _ => 0)) := by rw [eh39]; exact z_no h38_q0 hq16
  have h39_q1 : h39.1 q1 = some (aI 14 (fun _ => 0)) := by rw [eh39]; exact z_no h38_q1 hq16
  have h39_q2 : h39.1 q2 = some (aI 4 (upd (upd (upd (upd (fun _ => 0) 0 (2 : Int32)) 1 (3 : Int32)) 2 (4 : Int32)) 3 (6 : Int32))) := by rw [eh39]; exact z_no h38_q2 hq16
  have h39_q3 : h39.1 q3 = some (aI 200 (fun _ => 0)) := by rw [eh39]; exact z_no h38_q3 hq16
  have h39_q4 : h39.1 q4 = some (aI 10240 (fun _ => 0)) := by rw [eh39]; exact z_no h38_q4 hq16
  have h39_q5 : h39.1 q5 = some (aI 20 (fun _ => 0)) := by rw [eh39]; exact z_no h38_q5 hq16
  have h39_q6 : h39.1 q6 = some (aI 20 (fun _ => 0)) := by rw [eh39]; exact z_no h38_q6 hq16
  have h39_q7 : h39.1 q7 = some (aZ 20 (fun _ => 0)) := by rw [eh39]; exact z_no h38_q7 hq16
  have h39_q8 : h39.1 q8 = some (aJ 24 (fun _ => 0)) := by rw [eh39]; exact z_no h38_q8 hq16
  have h39_q9 : h39.1 q9 = some (aJ 20 (fun _ => 0)) := by rw [eh39]; exact z_no h38_q9 hq16
  have h39_q10 : h39.1 q10 = some (aI 20 (fun _ => 0)) := by rw [eh39]; exact z_no h38_q10 hq16
  have h39_q11 : h39.1 q11 = some (aI 14 (fun _ => 0)) := by rw [eh39]; exact z_no h38_q11 hq16
  have h39_q12 : h39.1 q12 = some (aI 14 (fun _ => 0)) := by rw [eh39]; exact z_no h38_q12 hq16
  have h39_q13 : h39.1 q13 = some (aI 10240 (fun _ => 0)) := by rw [eh39]; exact z_no h38_q13 hq16
  have h39_q14 : h39.1 q14 = some (aI 20 (fun _ => 0)) := by rw [eh39]; exact z_no h38_q14 hq16
  have h39_q15 : h39.1 q15 = some (aI 20 (fun _ => 0)) := by rw [eh39]; exact z_no h38_q15 hq16
  have h39_q16 : h39.1 q16 = some (aZ 20 (fun _ => 0)) := by rw [eh39]; exact z_n_self _ _ _ _
  have nd17 := z_ndc nd16 (List.forall_mem_cons.mpr ⟨⟨_, h38_q15⟩, (List.forall_mem_cons.mpr ⟨⟨_, h38_q14⟩, (List.forall_mem_cons.mpr ⟨⟨_, h38_q13⟩, (List.forall_mem_cons.mpr ⟨⟨_, h38_q12⟩, (List.forall_mem_cons.mpr ⟨⟨_, h38_q11⟩, (List.forall_mem_cons.mpr ⟨⟨_, h38_q10⟩, (List.forall_mem_cons.mpr ⟨⟨_, h38_q9⟩, (List.forall_mem_cons.mpr ⟨⟨_, h38_q8⟩, (List.forall_mem_cons.mpr ⟨⟨_, h38_q7⟩, (List.forall_mem_cons.mpr ⟨⟨_, h38_q6⟩, (List.forall_mem_cons.mpr ⟨⟨_, h38_q5⟩, (List.forall_mem_cons.mpr ⟨⟨_, h38_q4⟩, (List.forall_mem_cons.mpr ⟨⟨_, h38_q3⟩, (List.forall_mem_cons.mpr ⟨⟨_, h38_q2⟩, (List.forall_mem_cons.mpr ⟨⟨_, h38_q1⟩, (List.forall_mem_cons.mpr ⟨⟨_, h38_q0⟩, (fun x hx => absurd hx List.not_mem_nil)⟩)⟩)⟩)⟩)⟩)⟩)⟩)⟩)⟩)⟩)⟩)⟩)⟩)⟩)⟩)⟩) hq16
  refine v_putF g (fs' := [.ref q0, .ref q1, .ref q2, .ref q3, .int 0, .int 0, .int 0, .ref q4, .ref q5, .ref q6, .ref q7, .int 0, .int (30 : Int32), .int (1 : Int32), .ref q8, .int 0, .int 0, .long 0, .long 0, .ref q9, .ref q10, .int 0, .int 0, .ref q11, .ref q12, .ref q13, .ref q14, .ref q15, .ref q16, .int 0, .null, .int 0, .long 0, .long 0, .null, .null, .int 0, .null, .null, .null, .int 0, .int 0, .int 0, .int 0]) h39_m fl_X8_67 rfl rfl rfl rfl (Nat.le_of_ble_eq_true rfl) rfl (by decide +kernel) ?_
  refine v_h (fun h40 eh40 => ?_)
  have kp_h40 : ∀ x y, h.1 x = some y → x ≠ m → h40.1 x = some y := fun x y hx hm9 => by rw [eh40]; exact z_so ((kp_h39) x y hx hm9) hm9
  have h40_c : h40.2.1 = h.2.1 + 17 ∧ h40.2.2 = h.2.2 + 20924 := zcs eh40 h39_c
  have h40_m : h40.1 m = some (oB 8 [.ref q0, .ref q1, .ref q2, .ref q3, .int 0, .int 0, .int 0, .ref q4, .ref q5, .ref q6, .ref q7, .int 0, .int (30 : Int32), .int (1 : Int32), .ref q8, .int 0, .int 0, .long 0, .long 0, .ref q9, .ref q10, .int 0, .int 0, .ref q11, .ref q12, .ref q13, .ref q14, .ref q15, .ref q16, .int 0, .null, .int 0, .long 0, .long 0, .null, .null, .int 0, .null, .null, .null, .int 0, .int 0, .int 0, .int 0]) := by rw [eh40]; exact z_s_self _ _ _
  have h40_q0 : h40.1 q0 = some (aI 14 (fun _ => 0)) := by rw [eh40]; exact z_so h39_q0 (Ne.symm (z_ne h1_m h1_q0 rfl))
  have h40_q1 : h40.1 q1 = some (aI 14 (fun _ => 0)) := by rw [eh40]; exact z_so h39_q1 (Ne.symm (z_ne h3_m h3_q1 rfl))
  have h40_q2 : h40.1 q2 = some (aI 4 (upd (upd (upd (upd (fun _ => 0) 0 (2 : Int32)) 1 (3 : Int32)) 2 (4 : Int32)) 3 (6 : Int32))) := by rw [eh40]; exact z_so h39_q2 (Ne.symm (z_ne h5_m h5_q2 rfl))
  have h40_q3 : h40.1 q3 = some (aI 200 (fun _ => 0)) := by rw [eh40]; exact z_so h39_q3 (Ne.symm (z_ne h11_m h11_q3 rfl))
  have h40_q4 : h40.1 q4 = some (aI 10240 (fun _ => 0)) := by rw [eh40]; exact z_so h39_q4 (Ne.symm (z_ne h13_m h13_q4 rfl))
  have h40_q5 : h40.1 q5 = some (aI 20 (fun _ => 0)) := by rw [eh40]; exact z_so h39_q5 (Ne.symm (z_ne h15_m h15_q5 rfl))
  have h40_q6 : h40.1 q6 = some (aI 20 (fun _ => 0)) := by rw [eh40]; exact z_so h39_q6 (Ne.symm (z_ne h17_m h17_q6 rfl))
  have h40_q7 : h40.1 q7 = some (aZ 20 (fun _ => 0)) := by rw [eh40]; exact z_so h39_q7 (Ne.symm (z_ne h19_m h19_q7 rfl))
  have h40_q8 : h40.1 q8 = some (aJ 24 (fun _ => 0)) := by rw [eh40]; exact z_so h39_q8 (Ne.symm (z_ne h23_m h23_q8 rfl))
  have h40_q9 : h40.1 q9 = some (aJ 20 (fun _ => 0)) := by rw [eh40]; exact z_so h39_q9 (Ne.symm (z_ne h25_m h25_q9 rfl))
  have h40_q10 : h40.1 q10 = some (aI 20 (fun _ => 0)) := by rw [eh40]; exact z_so h39_q10 (Ne.symm (z_ne h27_m h27_q10 rfl))
  have h40_q11 : h40.1 q11 = some (aI 14 (fun _ => 0)) := by rw [eh40]; exact z_so h39_q11 (Ne.symm (z_ne h29_m h29_q11 rfl))
  have h40_q12 : h40.1 q12 = some (aI 14 (fun _ => 0)) := by rw [eh40]; exact z_so h39_q12 (Ne.symm (z_ne h31_m h31_q12 rfl))
  have h40_q13 : h40.1 q13 = some (aI 10240 (fun _ => 0)) := by rw [eh40]; exact z_so h39_q13 (Ne.symm (z_ne h33_m h33_q13 rfl))
  have h40_q14 : h40.1 q14 = some (aI 20 (fun _ => 0)) := by rw [eh40]; exact z_so h39_q14 (Ne.symm (z_ne h35_m h35_q14 rfl))
  have h40_q15 : h40.1 q15 = some (aI 20 (fun _ => 0)) := by rw [eh40]; exact z_so h39_q15 (Ne.symm (z_ne h37_m h37_q15 rfl))
  have h40_q16 : h40.1 q16 = some (aZ 20 (fun _ => 0)) := by rw [eh40]; exact z_so h39_q16 (Ne.symm (z_ne h39_m h39_q16 rfl))
  refine v_blk g [.aload_n 0, .bipush 24] (pc' := 173) (lv' := [(0, .ref m)]) (st' := [.int (24 : Int32), .ref m]) (by decide +kernel) rfl rfl ?_
  refine v_newJ g 24 rfl (Nat.le_of_ble_eq_true rfl) ac_long (zcsk 17 20924 1 24 h40_c.1 h40_c.2 (Nat.le_of_ble_eq_true rfl) (Nat.le_of_ble_eq_true rfl)) (by decide +kernel) (fun q17 hq17 => ?_)
  have fq17 : ∀ y, h.1 q17 = some y → False := fun y hy => by
    have e1 : q17 ≠ m := fun e => by rw [e, h40_m] at hq17; cases hq17
    have e2 := (kp_h40) q17 y hy e1; rw [hq17] at e2; cases e2
  refine v_h (fun h41 eh41 => ?_)
  have kp_h41 : ∀ x y, h.1 x = some y → x ≠ m → h41.1 x = some y := fun x y hx hm9 => by rw [eh41]; exact z_no ((kp_h40) x y hx hm9) hq17
  have h41_c : h41.2.1 = h.2.1 + 18 ∧ h41.2.2 = h.2.2 + 20948 := zcn eh41 h40_c
  have h41_m : h41.1 m = some (oB 8 [.ref q0, .ref q1, .ref q2, .ref q3, .int 0, .int 0, .int 0, .ref q4, .ref q5, .ref q6, .ref q7, .int 0, .int (30 : Int32), .int (1 : Int32), .ref q8, .int 0, .int 0, .long 0, .long 0, .ref q9, .ref q10, .int 0, .int 0, .ref q11, .ref q12, .ref q13, .ref q14, .ref q15, .ref q16, .int 0, .null, .int 0, .long 0, .long 0, .null, .null, .int 0, .null, .null, .null, .int 0, .int 0, .int 0, .int 0]) := by rw [eh41]; exact z_no h40_m hq17
  have h41_q0 : h41.1 q0 = some (aI 14 (fun _ => 0)) := by rw [eh41]; exact z_no h40_q0 hq17
  have h41_q1 : h41.1 q1 = some (aI 14 (fun _ => 0)) := by rw [eh41]; exact z_no h40_q1 hq17
  have h41_q2 : h41.1 q2 = some (aI 4 (upd (upd (upd (upd (fun _ => 0) 0 (2 : Int32)) 1 (3 : Int32)) 2 (4 : Int32)) 3 (6 : Int32))) := by rw [eh41]; exact z_no h40_q2 hq17
  have h41_q3 : h41.1 q3 = some (aI 200 (fun _ => 0)) := by rw [eh41]; exact z_no h40_q3 hq17
  have h41_q4 : h41.1 q4 = some (aI 10240 (fun _ => 0)) := by rw [eh41]; exact z_no h40_q4 hq17
  have h41_q5 : h41.1 q5 = some (aI 20 (fun _ => 0)) := by rw [eh41]; exact z_no h40_q5 hq17
  have h41_q6 : h41.1 q6 = some (aI 20 (fun _ => 0)) := by rw [eh41]; exact z_no h40_q6 hq17
  have h41_q7 : h41.1 q7 = some (aZ 20 (fun _ => 0)) := by rw [eh41]; exact z_no h40_q7 hq17
  have h41_q8 : h41.1 q8 = some (aJ 24 (fun _ => 0)) := by rw [eh41]; exact z_no h40_q8 hq17
  have h41_q9 : h41.1 q9 = some (aJ 20 (fun _ => 0)) := by rw [eh41]; exact z_no h40_q9 hq17
  have h41_q10 : h41.1 q10 = some (aI 20 (fun _ => 0)) := by rw [eh41]; exact z_no h40_q10 hq17
  have h41_q11 : h41.1 q11 = some (aI 14 (fun _ => 0)) := by rw [eh41]; exact z_no h40_q11 hq17
  have h41_q12 : h41.1 q12 = some (aI 14 (fun _ => 0)) := by rw [eh41]; exact z_no h40_q12 hq17
  have h41_q13 : h41.1 q13 = some (aI 10240 (fun _ => 0)) := by rw [eh41]; exact z_no h40_q13 hq17
  have h41_q14 : h41.1 q14 = some (aI 20 (fun _ => 0)) := by rw [eh41]; exact z_no h40_q14 hq17
  have h41_q15 : h41.1 q15 = some (aI 20 (fun _ => 0)) := by rw [eh41]; exact z_no h40_q15 hq17
  have h41_q16 : h41.1 q16 = some (aZ 20 (fun _ => 0)) := by rw [eh41]; exact z_no h40_q16 hq17
  have h41_q17 : h41.1 q17 = some (aJ 24 (fun _ => 0)) := by rw [eh41]; exact z_n_self _ _ _ _
  have nd18 := z_ndc nd17 (List.forall_mem_cons.mpr ⟨⟨_, h40_q16⟩, (List.forall_mem_cons.mpr ⟨⟨_, h40_q15⟩, (List.forall_mem_cons.mpr ⟨⟨_, h40_q14⟩, (List.forall_mem_cons.mpr ⟨⟨_, h40_q13⟩, (List.forall_mem_cons.mpr ⟨⟨_, h40_q12⟩, (List.forall_mem_cons.mpr ⟨⟨_, h40_q11⟩, (List.forall_mem_cons.mpr ⟨⟨_, h40_q10⟩, (List.forall_mem_cons.mpr ⟨⟨_, h40_q9⟩, (List.forall_mem_cons.mpr ⟨⟨_, h40_q8⟩, (List.forall_mem_cons.mpr ⟨⟨_, h40_q7⟩, (List.forall_mem_cons.mpr ⟨⟨_, h40_q6⟩, (List.forall_mem_cons.mpr ⟨⟨_, h40_q5⟩, (List.forall_mem_cons.mpr ⟨⟨_, h40_q4⟩, (List.forall_mem_cons.mpr ⟨⟨_, h40_q3⟩, (List.forall_mem_cons.mpr ⟨⟨_, h40_q2⟩, (List.forall_mem_cons.mpr ⟨⟨_, h40_q1⟩, (List.forall_mem_cons.mpr ⟨⟨_, h40_q0⟩, (fun x hx => absurd hx List.not_mem_nil)⟩)⟩)⟩)⟩)⟩)⟩)⟩)⟩)⟩)⟩)⟩)⟩)⟩)⟩)⟩)⟩)⟩) hq17
  refine v_putF g (fs' := [.ref q0, .ref q1, .ref q2, .ref q3, .int 0, .int 0, .int 0, .ref q4, .ref q5, .ref q6, .ref q7, .int 0, .int (30 : Int32), .int (1 : Int32), .ref q8, .int 0, .int 0, .long 0, .long 0, .ref q9, .ref q10, .int 0, .int 0, .ref q11, .ref q12, .ref q13, .ref q14, .ref q15, .ref q16, .int 0, .ref q17, .int 0, .long 0, .long 0, .null, .null, .int 0, .null, .null, .null, .int 0, .int 0, .int 0, .int 0]) h41_m fl_X8_70 rfl rfl rfl rfl (Nat.le_of_ble_eq_true rfl) rfl (by decide +kernel) ?_
  refine v_h (fun h42 eh42 => ?_)
  have kp_h42 : ∀ x y, h.1 x = some y → x ≠ m → h42.1 x = some y := fun x y hx hm9 => by rw [eh42]; exact z_so ((kp_h41) x y hx hm9) hm9
  have h42_c : h42.2.1 = h.2.1 + 18 ∧ h42.2.2 = h.2.2 + 20948 := zcs eh42 h41_c
  have h42_m : h42.1 m = some (oB 8 [.ref q0, .ref q1, .ref q2, .ref q3, .int 0, .int 0, .int 0, .ref q4, .ref q5, .ref q6, .ref q7, .int 0, .int (30 : Int32), .int (1 : Int32), .ref q8, .int 0, .int 0, .long 0, .long 0, .ref q9, .ref q10, .int 0, .int 0, .ref q11, .ref q12, .ref q13, .ref q14, .ref q15, .ref q16, .int 0, .ref q17, .int 0, .long 0, .long 0, .null, .null, .int 0, .null, .null, .null, .int 0, .int 0, .int 0, .int 0]) := by rw [eh42]; exact z_s_self _ _ _
  have h42_q0 : h42.1 q0 = some (aI 14 (fun _ => 0)) := by rw [eh42]; exact z_so h41_q0 (Ne.symm (z_ne h1_m h1_q0 rfl))
  have h42_q1 : h42.1 q1 = some (aI 14 (fun _ => 0)) := by rw [eh42]; exact z_so h41_q1 (Ne.symm (z_ne h3_m h3_q1 rfl))
  have h42_q2 : h42.1 q2 = some (aI 4 (upd (upd (upd (upd (fun _ => 0) 0 (2 : Int32)) 1 (3 : Int32)) 2 (4 : Int32)) 3 (6 : Int32))) := by rw [eh42]; exact z_so h41_q2 (Ne.symm (z_ne h5_m h5_q2 rfl))
  have h42_q3 : h42.1 q3 = some (aI 200 (fun _ => 0)) := by rw [eh42]; exact z_so h41_q3 (Ne.symm (z_ne h11_m h11_q3 rfl))
  have h42_q4 : h42.1 q4 = some (aI 10240 (fun _ => 0)) := by rw [eh42]; exact z_so h41_q4 (Ne.symm (z_ne h13_m h13_q4 rfl))
  have h42_q5 : h42.1 q5 = some (aI 20 (fun _ => 0)) := by rw [eh42]; exact z_so h41_q5 (Ne.symm (z_ne h15_m h15_q5 rfl))
  have h42_q6 : h42.1 q6 = some (aI 20 (fun _ => 0)) := by rw [eh42]; exact z_so h41_q6 (Ne.symm (z_ne h17_m h17_q6 rfl))
  have h42_q7 : h42.1 q7 = some (aZ 20 (fun _ => 0)) := by rw [eh42]; exact z_so h41_q7 (Ne.symm (z_ne h19_m h19_q7 rfl))
  have h42_q8 : h42.1 q8 = some (aJ 24 (fun _ => 0)) := by rw [eh42]; exact z_so h41_q8 (Ne.symm (z_ne h23_m h23_q8 rfl))
  have h42_q9 : h42.1 q9 = some (aJ 20 (fun _ => 0)) := by rw [eh42]; exact z_so h41_q9 (Ne.symm (z_ne h25_m h25_q9 rfl))
  have h42_q10 : h42.1 q10 = some (aI 20 (fun _ => 0)) := by rw [eh42]; exact z_so h41_q10 (Ne.symm (z_ne h27_m h27_q10 rfl))
  have h42_q11 : h42.1 q11 = some (aI 14 (fun _ => 0)) := by rw [eh42]; exact z_so h41_q11 (Ne.symm (z_ne h29_m h29_q11 rfl))
  have h42_q12 : h42.1 q12 = some (aI 14 (fun _ => 0)) := by rw [eh42]; exact z_so h41_q12 (Ne.symm (z_ne h31_m h31_q12 rfl))
  have h42_q13 : h42.1 q13 = some (aI 10240 (fun _ => 0)) := by rw [eh42]; exact z_so h41_q13 (Ne.symm (z_ne h33_m h33_q13 rfl))
  have h42_q14 : h42.1 q14 = some (aI 20 (fun _ => 0)) := by rw [eh42]; exact z_so h41_q14 (Ne.symm (z_ne h35_m h35_q14 rfl))
  have h42_q15 : h42.1 q15 = some (aI 20 (fun _ => 0)) := by rw [eh42]; exact z_so h41_q15 (Ne.symm (z_ne h37_m h37_q15 rfl))
  have h42_q16 : h42.1 q16 = some (aZ 20 (fun _ => 0)) := by rw [eh42]; exact z_so h41_q16 (Ne.symm (z_ne h39_m h39_q16 rfl))
  have h42_q17 : h42.1 q17 = some (aJ 24 (fun _ => 0)) := by rw [eh42]; exact z_so h41_q17 (Ne.symm (z_ne h41_m h41_q17 rfl))
  refine v_blk g [.aload_n 0, .bipush 20] (pc' := 181) (lv' := [(0, .ref m)]) (st' := [.int (20 : Int32), .ref m]) (by decide +kernel) rfl rfl ?_
  refine v_newJ g 20 rfl (Nat.le_of_ble_eq_true rfl) ac_long (zcsk 18 20948 1 20 h42_c.1 h42_c.2 (Nat.le_of_ble_eq_true rfl) (Nat.le_of_ble_eq_true rfl)) (by decide +kernel) (fun q18 hq18 => ?_)
  have fq18 : ∀ y, h.1 q18 = some y → False := fun y hy => by
    have e1 : q18 ≠ m := fun e => by rw [e, h42_m] at hq18; cases hq18
    have e2 := (kp_h42) q18 y hy e1; rw [hq18] at e2; cases e2
  refine v_h (fun h43 eh43 => ?_)
  have kp_h43 : ∀ x y, h.1 x = some y → x ≠ m → h43.1 x = some y := fun x y hx hm9 => by rw [eh43]; exact z_no ((kp_h42) x y hx hm9) hq18
  have h43_c : h43.2.1 = h.2.1 + 19 ∧ h43.2.2 = h.2.2 + 20968 := zcn eh43 h42_c
  have h43_m : h43.1 m = some (oB 8 [.ref q0, .ref q1, .ref q2, .ref q3, .int 0, .int 0, .int 0, .ref q4, .ref q5, .ref q6, .ref q7, .int 0, .int (30 : Int32), .int (1 : Int32), .ref q8, .int 0, .int 0, .long 0, .long 0, .ref q9, .ref q10, .int 0, .int 0, .ref q11, .ref q12, .ref q13, .ref q14, .ref q15, .ref q16, .int 0, .ref q17, .int 0, .long 0, .long 0, .null, .null, .int 0, .null, .null, .null, .int 0, .int 0, .int 0, .int 0]) := by rw [eh43]; exact z_no h42_m hq18
  have h43_q0 : h43.1 q0 = some (aI 14 (fun _ => 0)) := by rw [eh43]; exact z_no h42_q0 hq18
  have h43_q1 : h43.1 q1 = some (aI 14 (fun _ => 0)) := by rw [eh43]; exact z_no h42_q1 hq18
  have h43_q2 : h43.1 q2 = some (aI 4 (upd (upd (upd (upd (fun _ => 0) 0 (2 : Int32)) 1 (3 : Int32)) 2 (4 : Int32)) 3 (6 : Int32))) := by rw [eh43]; exact z_no h42_q2 hq18
  have h43_q3 : h43.1 q3 = some (aI 200 (fun _ => 0)) := by rw [eh43]; exact z_no h42_q3 hq18
  have h43_q4 : h43.1 q4 = some (aI 10240 (fun _ => 0)) := by rw [eh43]; exact z_no h42_q4 hq18
  have h43_q5 : h43.1 q5 = some (aI 20 (fun _ => 0)) := by rw [eh43]; exact z_no h42_q5 hq18
  have h43_q6 : h43.1 q6 = some (aI 20 (fun _ => 0)) := by rw [eh43]; exact z_no h42_q6 hq18
  have h43_q7 : h43.1 q7 = some (aZ 20 (fun _ => 0)) := by rw [eh43]; exact z_no h42_q7 hq18
  have h43_q8 : h43.1 q8 = some (aJ 24 (fun _ => 0)) := by rw [eh43]; exact z_no h42_q8 hq18
  have h43_q9 : h43.1 q9 = some (aJ 20 (fun _ => 0)) := by rw [eh43]; exact z_no h42_q9 hq18
  have h43_q10 : h43.1 q10 = some (aI 20 (fun _ => 0)) := by rw [eh43]; exact z_no h42_q10 hq18
  have h43_q11 : h43.1 q11 = some (aI 14 (fun _ => 0)) := by rw [eh43]; exact z_no h42_q11 hq18
  have h43_q12 : h43.1 q12 = some (aI 14 (fun _ => 0)) := by rw [eh43]; exact z_no h42_q12 hq18
  have h43_q13 : h43.1 q13 = some (aI 10240 (fun _ => 0)) := by rw [eh43]; exact z_no h42_q13 hq18
  have h43_q14 : h43.1 q14 = some (aI 20 (fun _ => 0)) := by rw [eh43]; exact z_no h42_q14 hq18
  have h43_q15 : h43.1 q15 = some (aI 20 (fun _ => 0)) := by rw [eh43]; exact z_no h42_q15 hq18
  have h43_q16 : h43.1 q16 = some (aZ 20 (fun _ => 0)) := by rw [eh43]; exact z_no h42_q16 hq18
  have h43_q17 : h43.1 q17 = some (aJ 24 (fun _ => 0)) := by rw [eh43]; exact z_no h42_q17 hq18
  have h43_q18 : h43.1 q18 = some (aJ 20 (fun _ => 0)) := by rw [eh43]; exact z_n_self _ _ _ _
  have nd19 := z_ndc nd18 (List.forall_mem_cons.mpr ⟨⟨_, h42_q17⟩, (List.forall_mem_cons.mpr ⟨⟨_, h42_q16⟩, (List.forall_mem_cons.mpr ⟨⟨_, h42_q15⟩, (List.forall_mem_cons.mpr ⟨⟨_, h42_q14⟩, (List.forall_mem_cons.mpr ⟨⟨_, h42_q13⟩, (List.forall_mem_cons.mpr ⟨⟨_, h42_q12⟩, (List.forall_mem_cons.mpr ⟨⟨_, h42_q11⟩, (List.forall_mem_cons.mpr ⟨⟨_, h42_q10⟩, (List.forall_mem_cons.mpr ⟨⟨_, h42_q9⟩, (List.forall_mem_cons.mpr ⟨⟨_, h42_q8⟩, (List.forall_mem_cons.mpr ⟨⟨_, h42_q7⟩, (List.forall_mem_cons.mpr ⟨⟨_, h42_q6⟩, (List.forall_mem_cons.mpr ⟨⟨_, h42_q5⟩, (List.forall_mem_cons.mpr ⟨⟨_, h42_q4⟩, (List.forall_mem_cons.mpr ⟨⟨_, h42_q3⟩, (List.forall_mem_cons.mpr ⟨⟨_, h42_q2⟩, (List.forall_mem_cons.mpr ⟨⟨_, h42_q1⟩, (List.forall_mem_cons.mpr ⟨⟨_, h42_q0⟩, (fun x hx => absurd hx List.not_mem_nil)⟩)⟩)⟩)⟩)⟩)⟩)⟩)⟩)⟩)⟩)⟩)⟩)⟩)⟩)⟩)⟩)⟩)⟩) hq18
  refine v_putF g (fs' := [.ref q0, .ref q1, .ref q2, .ref q3, .int 0, .int 0, .int 0, .ref q4, .ref q5, .ref q6, .ref q7, .int 0, .int (30 : Int32), .int (1 : Int32), .ref q8, .int 0, .int 0, .long 0, .long 0, .ref q9, .ref q10, .int 0, .int 0, .ref q11, .ref q12, .ref q13, .ref q14, .ref q15, .ref q16, .int 0, .ref q17, .int 0, .long 0, .long 0, .ref q18, .null, .int 0, .null, .null, .null, .int 0, .int 0, .int 0, .int 0]) h43_m fl_X8_73 rfl rfl rfl rfl (Nat.le_of_ble_eq_true rfl) rfl (by decide +kernel) ?_
  refine v_h (fun h44 eh44 => ?_)
  have kp_h44 : ∀ x y, h.1 x = some y → x ≠ m → h44.1 x = some y := fun x y hx hm9 => by rw [eh44]; exact z_so ((kp_h43) x y hx hm9) hm9
  have h44_c : h44.2.1 = h.2.1 + 19 ∧ h44.2.2 = h.2.2 + 20968 := zcs eh44 h43_c
  have h44_m : h44.1 m = some (oB 8 [.ref q0, .ref q1, .ref q2, .ref q3, .int 0, .int 0, .int 0, .ref q4, .ref q5, .ref q6, .ref q7, .int 0, .int (30 : Int32), .int (1 : Int32), .ref q8, .int 0, .int 0, .long 0, .long 0, .ref q9, .ref q10, .int 0, .int 0, .ref q11, .ref q12, .ref q13, .ref q14, .ref q15, .ref q16, .int 0, .ref q17, .int 0, .long 0, .long 0, .ref q18, .null, .int 0, .null, .null, .null, .int 0, .int 0, .int 0, .int 0]) := by rw [eh44]; exact z_s_self _ _ _
  have h44_q0 : h44.1 q0 = some (aI 14 (fun _ => 0)) := by rw [eh44]; exact z_so h43_q0 (Ne.symm (z_ne h1_m h1_q0 rfl))
  have h44_q1 : h44.1 q1 = some (aI 14 (fun _ => 0)) := by rw [eh44]; exact z_so h43_q1 (Ne.symm (z_ne h3_m h3_q1 rfl))
  have h44_q2 : h44.1 q2 = some (aI 4 (upd (upd (upd (upd (fun _ => 0) 0 (2 : Int32)) 1 (3 : Int32)) 2 (4 : Int32)) 3 (6 : Int32))) := by rw [eh44]; exact z_so h43_q2 (Ne.symm (z_ne h5_m h5_q2 rfl))
  have h44_q3 : h44.1 q3 = some (aI 200 (fun _ => 0)) := by rw [eh44]; exact z_so h43_q3 (Ne.symm (z_ne h11_m h11_q3 rfl))
  have h44_q4 : h44.1 q4 = some (aI 10240 (fun _ => 0)) := by rw [eh44]; exact z_so h43_q4 (Ne.symm (z_ne h13_m h13_q4 rfl))
  have h44_q5 : h44.1 q5 = some (aI 20 (fun _ => 0)) := by rw [eh44]; exact z_so h43_q5 (Ne.symm (z_ne h15_m h15_q5 rfl))
  have h44_q6 : h44.1 q6 = some (aI 20 (fun _ => 0)) := by rw [eh44]; exact z_so h43_q6 (Ne.symm (z_ne h17_m h17_q6 rfl))
  have h44_q7 : h44.1 q7 = some (aZ 20 (fun _ => 0)) := by rw [eh44]; exact z_so h43_q7 (Ne.symm (z_ne h19_m h19_q7 rfl))
  have h44_q8 : h44.1 q8 = some (aJ 24 (fun _ => 0)) := by rw [eh44]; exact z_so h43_q8 (Ne.symm (z_ne h23_m h23_q8 rfl))
  have h44_q9 : h44.1 q9 = some (aJ 20 (fun _ => 0)) := by rw [eh44]; exact z_so h43_q9 (Ne.symm (z_ne h25_m h25_q9 rfl))
  have h44_q10 : h44.1 q10 = some (aI 20 (fun _ => 0)) := by rw [eh44]; exact z_so h43_q10 (Ne.symm (z_ne h27_m h27_q10 rfl))
  have h44_q11 : h44.1 q11 = some (aI 14 (fun _ => 0)) := by rw [eh44]; exact z_so h43_q11 (Ne.symm (z_ne h29_m h29_q11 rfl))
  have h44_q12 : h44.1 q12 = some (aI 14 (fun _ => 0)) := by rw [eh44]; exact z_so h43_q12 (Ne.symm (z_ne h31_m h31_q12 rfl))
  have h44_q13 : h44.1 q13 = some (aI 10240 (fun _ => 0)) := by rw [eh44]; exact z_so h43_q13 (Ne.symm (z_ne h33_m h33_q13 rfl))
  have h44_q14 : h44.1 q14 = some (aI 20 (fun _ => 0)) := by rw [eh44]; exact z_so h43_q14 (Ne.symm (z_ne h35_m h35_q14 rfl))
  have h44_q15 : h44.1 q15 = some (aI 20 (fun _ => 0)) := by rw [eh44]; exact z_so h43_q15 (Ne.symm (z_ne h37_m h37_q15 rfl))
  have h44_q16 : h44.1 q16 = some (aZ 20 (fun _ => 0)) := by rw [eh44]; exact z_so h43_q16 (Ne.symm (z_ne h39_m h39_q16 rfl))
  have h44_q17 : h44.1 q17 = some (aJ 24 (fun _ => 0)) := by rw [eh44]; exact z_so h43_q17 (Ne.symm (z_ne h41_m h41_q17 rfl))
  have h44_q18 : h44.1 q18 = some (aJ 20 (fun _ => 0)) := by rw [eh44]; exact z_so h43_q18 (Ne.symm (z_ne h43_m h43_q18 rfl))
  refine v_blk g [.aload_n 0, .bipush 20] (pc' := 189) (lv' := [(0, .ref m)]) (st' := [.int (20 : Int32), .ref m]) (by decide +kernel) rfl rfl ?_
  refine v_newI g 20 rfl (Nat.le_of_ble_eq_true rfl) ac_int (zcsk 19 20968 1 20 h44_c.1 h44_c.2 (Nat.le_of_ble_eq_true rfl) (Nat.le_of_ble_eq_true rfl)) (by decide +kernel) (fun q19 hq19 => ?_)
  have fq19 : ∀ y, h.1 q19 = some y → False := fun y hy => by
    have e1 : q19 ≠ m := fun e => by rw [e, h44_m] at hq19; cases hq19
    have e2 := (kp_h44) q19 y hy e1; rw [hq19] at e2; cases e2
  refine v_h (fun h45 eh45 => ?_)
  have kp_h45 : ∀ x y, h.1 x = some y → x ≠ m → h45.1 x = some y := fun x y hx hm9 => by rw [eh45]; exact z_no ((kp_h44) x y hx hm9) hq19
  have h45_c : h45.2.1 = h.2.1 + 20 ∧ h45.2.2 = h.2.2 + 20988 := zcn eh45 h44_c
  have h45_m : h45.1 m = some (oB 8 [.ref q0, .ref q1, .ref q2, .ref q3, .int 0, .int 0, .int 0, .ref q4, .ref q5, .ref q6, .ref q7, .int 0, .int (30 : Int32), .int (1 : Int32), .ref q8, .int 0, .int 0, .long 0, .long 0, .ref q9, .ref q10, .int 0, .int 0, .ref q11, .ref q12, .ref q13, .ref q14, .ref q15, .ref q16, .int 0, .ref q17, .int 0, .long 0, .long 0, .ref q18, .null, .int 0, .null, .null, .null, .int 0, .int 0, .int 0, .int 0]) := by rw [eh45]; exact z_no h44_m hq19
  have h45_q0 : h45.1 q0 = some (aI 14 (fun _ => 0)) := by rw [eh45]; exact z_no h44_q0 hq19
  have h45_q1 : h45.1 q1 = some (aI 14 (fun _ => 0)) := by rw [eh45]; exact z_no h44_q1 hq19
  have h45_q2 : h45.1 q2 = some (aI 4 (upd (upd (upd (upd (fun _ => 0) 0 (2 : Int32)) 1 (3 : Int32)) 2 (4 : Int32)) 3 (6 : Int32))) := by rw [eh45]; exact z_no h44_q2 hq19
  have h45_q3 : h45.1 q3 = some (aI 200 (fun _ => 0)) := by rw [eh45]; exact z_no h44_q3 hq19
  have h45_q4 : h45.1 q4 = some (aI 10240 (fun _ => 0)) := by rw [eh45]; exact z_no h44_q4 hq19
  have h45_q5 : h45.1 q5 = some (aI 20 (fun _ => 0)) := by rw [eh45]; exact z_no h44_q5 hq19
  have h45_q6 : h45.1 q6 = some (aI 20 (fun _ => 0)) := by rw [eh45]; exact z_no h44_q6 hq19
  have h45_q7 : h45.1 q7 = some (aZ 20 (fun _ => 0)) := by rw [eh45]; exact z_no h44_q7 hq19
  have h45_q8 : h45.1 q8 = some (aJ 24 (fun _ => 0)) := by rw [eh45]; exact z_no h44_q8 hq19
  have h45_q9 : h45.1 q9 = some (aJ 20 (fun _ => 0)) := by rw [eh45]; exact z_no h44_q9 hq19
  have h45_q10 : h45.1 q10 = some (aI 20 (fun _ => 0)) := by rw [eh45]; exact z_no h44_q10 hq19
  have h45_q11 : h45.1 q11 = some (aI 14 (fun _ => 0)) := by rw [eh45]; exact z_no h44_q11 hq19
  have h45_q12 : h45.1 q12 = some (aI 14 (fun _ => 0)) := by rw [eh45]; exact z_no h44_q12 hq19
  have h45_q13 : h45.1 q13 = some (aI 10240 (fun _ => 0)) := by rw [eh45]; exact z_no h44_q13 hq19
  have h45_q14 : h45.1 q14 = some (aI 20 (fun _ => 0)) := by rw [eh45]; exact z_no h44_q14 hq19
  have h45_q15 : h45.1 q15 = some (aI 20 (fun _ => 0)) := by rw [eh45]; exact z_no h44_q15 hq19
  have h45_q16 : h45.1 q16 = some (aZ 20 (fun _ => 0)) := by rw [eh45]; exact z_no h44_q16 hq19
  have h45_q17 : h45.1 q17 = some (aJ 24 (fun _ => 0)) := by rw [eh45]; exact z_no h44_q17 hq19
  have h45_q18 : h45.1 q18 = some (aJ 20 (fun _ => 0)) := by rw [eh45]; exact z_no h44_q18 hq19
  have h45_q19 : h45.1 q19 = some (aI 20 (fun _ => 0)) := by rw [eh45]; exact z_n_self _ _ _ _
  have nd20 := z_ndc nd19 (List.forall_mem_cons.mpr ⟨⟨_, h44_q18⟩, (List.forall_mem_cons.mpr ⟨⟨_, h44_q17⟩, (List.forall_mem_cons.mpr ⟨⟨_, h44_q16⟩, (List.forall_mem_cons.mpr ⟨⟨_, h44_q15⟩, (List.forall_mem_cons.mpr ⟨⟨_, h44_q14⟩, (List.forall_mem_cons.mpr ⟨⟨_, h44_q13⟩, (List.forall_mem_cons.mpr ⟨⟨_, h44_q12⟩, (List.forall_mem_cons.mpr ⟨⟨_, h44_q11⟩, (List.forall_mem_cons.mpr ⟨⟨_, h44_q10⟩, (List.forall_mem_cons.mpr ⟨⟨_, h44_q9⟩, (List.forall_mem_cons.mpr ⟨⟨_, h44_q8⟩, (List.forall_mem_cons.mpr ⟨⟨_, h44_q7⟩, (List.forall_mem_cons.mpr ⟨⟨_, h44_q6⟩, (List.forall_mem_cons.mpr ⟨⟨_, h44_q5⟩, (List.forall_mem_cons.mpr ⟨⟨_, h44_q4⟩, (List.forall_mem_cons.mpr ⟨⟨_, h44_q3⟩, (List.forall_mem_cons.mpr ⟨⟨_, h44_q2⟩, (List.forall_mem_cons.mpr ⟨⟨_, h44_q1⟩, (List.forall_mem_cons.mpr ⟨⟨_, h44_q0⟩, (fun x hx => absurd hx List.not_mem_nil)⟩)⟩)⟩)⟩)⟩)⟩)⟩)⟩)⟩)⟩)⟩)⟩)⟩)⟩)⟩)⟩)⟩)⟩)⟩) hq19
  refine v_putF g (fs' := [.ref q0, .ref q1, .ref q2, .ref q3, .int 0, .int 0, .int 0, .ref q4, .ref q5, .ref q6, .ref q7, .int 0, .int (30 : Int32), .int (1 : Int32), .ref q8, .int 0, .int 0, .long 0, .long 0, .ref q9, .ref q10, .int 0, .int 0, .ref q11, .ref q12, .ref q13, .ref q14, .ref q15, .ref q16, .int 0, .ref q17, .int 0, .long 0, .long 0, .ref q18, .ref q19, .int 0, .null, .null, .null, .int 0, .int 0, .int 0, .int 0]) h45_m fl_X8_76 rfl rfl rfl rfl (Nat.le_of_ble_eq_true rfl) rfl (by decide +kernel) ?_
  refine v_h (fun h46 eh46 => ?_)
  have kp_h46 : ∀ x y, h.1 x = some y → x ≠ m → h46.1 x = some y := fun x y hx hm9 => by rw [eh46]; exact z_so ((kp_h45) x y hx hm9) hm9
  have h46_c : h46.2.1 = h.2.1 + 20 ∧ h46.2.2 = h.2.2 + 20988 := zcs eh46 h45_c
  have h46_m : h46.1 m = some (oB 8 [.ref q0, .ref q1, .ref q2, .ref q3, .int 0, .int 0, .int 0, .ref q4, .ref q5, .ref q6, .ref q7, .int 0, .int (30 : Int32), .int (1 : Int32), .ref q8, .int 0, .int 0, .long 0, .long 0, .ref q9, .ref q10, .int 0, .int 0, .ref q11, .ref q12, .ref q13, .ref q14, .ref q15, .ref q16, .int 0, .ref q17, .int 0, .long 0, .long 0, .ref q18, .ref q19, .int 0, .null, .null, .null, .int 0, .int 0, .int 0, .int 0]) := by rw [eh46]; exact z_s_self _ _ _
  have h46_q0 : h46.1 q0 = some (aI 14 (fun _ => 0)) := by rw [eh46]; exact z_so h45_q0 (Ne.symm (z_ne h1_m h1_q0 rfl))
  have h46_q1 : h46.1 q1 = some (aI 14 (fun _ => 0)) := by rw [eh46]; exact z_so h45_q1 (Ne.symm (z_ne h3_m h3_q1 rfl))
  have h46_q2 : h46.1 q2 = some (aI 4 (upd (upd (upd (upd (fun _ => 0) 0 (2 : Int32)) 1 (3 : Int32)) 2 (4 : Int32)) 3 (6 : Int32))) := by rw [eh46]; exact z_so h45_q2 (Ne.symm (z_ne h5_m h5_q2 rfl))
  have h46_q3 : h46.1 q3 = some (aI 200 (fun _ => 0)) := by rw [eh46]; exact z_so h45_q3 (Ne.symm (z_ne h11_m h11_q3 rfl))
  have h46_q4 : h46.1 q4 = some (aI 10240 (fun _ => 0)) := by rw [eh46]; exact z_so h45_q4 (Ne.symm (z_ne h13_m h13_q4 rfl))
  have h46_q5 : h46.1 q5 = some (aI 20 (fun _ => 0)) := by rw [eh46]; exact z_so h45_q5 (Ne.symm (z_ne h15_m h15_q5 rfl))
  have h46_q6 : h46.1 q6 = some (aI 20 (fun _ => 0)) := by rw [eh46]; exact z_so h45_q6 (Ne.symm (z_ne h17_m h17_q6 rfl))
  have h46_q7 : h46.1 q7 = some (aZ 20 (fun _ => 0)) := by rw [eh46]; exact z_so h45_q7 (Ne.symm (z_ne h19_m h19_q7 rfl))
  have h46_q8 : h46.1 q8 = some (aJ 24 (fun _ => 0)) := by rw [eh46]; exact z_so h45_q8 (Ne.symm (z_ne h23_m h23_q8 rfl))
  have h46_q9 : h46.1 q9 = some (aJ 20 (fun _ => 0)) := by rw [eh46]; exact z_so h45_q9 (Ne.symm (z_ne h25_m h25_q9 rfl))
  have h46_q10 : h46.1 q10 = some (aI 20 (fun _ => 0)) := by rw [eh46]; exact z_so h45_q10 (Ne.symm (z_ne h27_m h27_q10 rfl))
  have h46_q11 : h46.1 q11 = some (aI 14 (fun _ => 0)) := by rw [eh46]; exact z_so h45_q11 (Ne.symm (z_ne h29_m h29_q11 rfl))
  have h46_q12 : h46.1 q12 = some (aI 14 (fun _ => 0)) := by rw [eh46]; exact z_so h45_q12 (Ne.symm (z_ne h31_m h31_q12 rfl))
  have h46_q13 : h46.1 q13 = some (aI 10240 (fun _ => 0)) := by rw [eh46]; exact z_so h45_q13 (Ne.symm (z_ne h33_m h33_q13 rfl))
  have h46_q14 : h46.1 q14 = some (aI 20 (fun _ => 0)) := by rw [eh46]; exact z_so h45_q14 (Ne.symm (z_ne h35_m h35_q14 rfl))
  have h46_q15 : h46.1 q15 = some (aI 20 (fun _ => 0)) := by rw [eh46]; exact z_so h45_q15 (Ne.symm (z_ne h37_m h37_q15 rfl))
  have h46_q16 : h46.1 q16 = some (aZ 20 (fun _ => 0)) := by rw [eh46]; exact z_so h45_q16 (Ne.symm (z_ne h39_m h39_q16 rfl))
  have h46_q17 : h46.1 q17 = some (aJ 24 (fun _ => 0)) := by rw [eh46]; exact z_so h45_q17 (Ne.symm (z_ne h41_m h41_q17 rfl))
  have h46_q18 : h46.1 q18 = some (aJ 20 (fun _ => 0)) := by rw [eh46]; exact z_so h45_q18 (Ne.symm (z_ne h43_m h43_q18 rfl))
  have h46_q19 : h46.1 q19 = some (aI 20 (fun _ => 0)) := by rw [eh46]; exact z_so h45_q19 (Ne.symm (z_ne h45_m h45_q19 rfl))
  refine v_blk g [.aload_n 0] (pc' := 195) (lv' := [(0, .ref m)]) (st' := [.ref m]) (by decide +kernel) rfl rfl ?_
  refine v_ldc g kc_X8_79 (by decide +kernel) ?_
  refine v_newZ g 262144 rfl (Nat.le_of_ble_eq_true rfl) ac_boolean (zcsk 20 20988 1 262144 h46_c.1 h46_c.2 (Nat.le_of_ble_eq_true rfl) (Nat.le_of_ble_eq_true rfl)) (by decide +kernel) (fun q20 hq20 => ?_)
  have fq20 : ∀ y, h.1 q20 = some y → False := fun y hy => by
    have e1 : q20 ≠ m := fun e => by rw [e, h46_m] at hq20; cases hq20
    have e2 := (kp_h46) q20 y hy e1; rw [hq20] at e2; cases e2
  refine v_h (fun h47 eh47 => ?_)
  have kp_h47 : ∀ x y, h.1 x = some y → x ≠ m → h47.1 x = some y := fun x y hx hm9 => by rw [eh47]; exact z_no ((kp_h46) x y hx hm9) hq20
  have h47_c : h47.2.1 = h.2.1 + 21 ∧ h47.2.2 = h.2.2 + 283132 := zcn eh47 h46_c
  have h47_m : h47.1 m = some (oB 8 [.ref q0, .ref q1, .ref q2, .ref q3, .int 0, .int 0, .int 0, .ref q4, .ref q5, .ref q6, .ref q7, .int 0, .int (30 : Int32), .int (1 : Int32), .ref q8, .int 0, .int 0, .long 0, .long 0, .ref q9, .ref q10, .int 0, .int 0, .ref q11, .ref q12, .ref q13, .ref q14, .ref q15, .ref q16, .int 0, .ref q17, .int 0, .long 0, .long 0, .ref q18, .ref q19, .int 0, .null, .null, .null, .int 0, .int 0, .int 0, .int 0]) := by rw [eh47]; exact z_no h46_m hq20
  have h47_q0 : h47.1 q0 = some (aI 14 (fun _ => 0)) := by rw [eh47]; exact z_no h46_q0 hq20
  have h47_q1 : h47.1 q1 = some (aI 14 (fun _ => 0)) := by rw [eh47]; exact z_no h46_q1 hq20
  have h47_q2 : h47.1 q2 = some (aI 4 (upd (upd (upd (upd (fun _ => 0) 0 (2 : Int32)) 1 (3 : Int32)) 2 (4 : Int32)) 3 (6 : Int32))) := by rw [eh47]; exact z_no h46_q2 hq20
  have h47_q3 : h47.1 q3 = some (aI 200 (fun _ => 0)) := by rw [eh47]; exact z_no h46_q3 hq20
  have h47_q4 : h47.1 q4 = some (aI 10240 (fun _ => 0)) := by rw [eh47]; exact z_no h46_q4 hq20
  have h47_q5 : h47.1 q5 = some (aI 20 (fun _ => 0)) := by rw [eh47]; exact z_no h46_q5 hq20
  have h47_q6 : h47.1 q6 = some (aI 20 (fun _ => 0)) := by rw [eh47]; exact z_no h46_q6 hq20
  have h47_q7 : h47.1 q7 = some (aZ 20 (fun _ => 0)) := by rw [eh47]; exact z_no h46_q7 hq20
  have h47_q8 : h47.1 q8 = some (aJ 24 (fun _ => 0)) := by rw [eh47]; exact z_no h46_q8 hq20
  have h47_q9 : h47.1 q9 = some (aJ 20 (fun _ => 0)) := by rw [eh47]; exact z_no h46_q9 hq20
  have h47_q10 : h47.1 q10 = some (aI 20 (fun _ => 0)) := by rw [eh47]; exact z_no h46_q10 hq20
  have h47_q11 : h47.1 q11 = some (aI 14 (fun _ => 0)) := by rw [eh47]; exact z_no h46_q11 hq20
  have h47_q12 : h47.1 q12 = some (aI 14 (fun _ => 0)) := by rw [eh47]; exact z_no h46_q12 hq20
  have h47_q13 : h47.1 q13 = some (aI 10240 (fun _ => 0)) := by rw [eh47]; exact z_no h46_q13 hq20
  have h47_q14 : h47.1 q14 = some (aI 20 (fun _ => 0)) := by rw [eh47]; exact z_no h46_q14 hq20
  have h47_q15 : h47.1 q15 = some (aI 20 (fun _ => 0)) := by rw [eh47]; exact z_no h46_q15 hq20
  have h47_q16 : h47.1 q16 = some (aZ 20 (fun _ => 0)) := by rw [eh47]; exact z_no h46_q16 hq20
  have h47_q17 : h47.1 q17 = some (aJ 24 (fun _ => 0)) := by rw [eh47]; exact z_no h46_q17 hq20
  have h47_q18 : h47.1 q18 = some (aJ 20 (fun _ => 0)) := by rw [eh47]; exact z_no h46_q18 hq20
  have h47_q19 : h47.1 q19 = some (aI 20 (fun _ => 0)) := by rw [eh47]; exact z_no h46_q19 hq20
  have h47_q20 : h47.1 q20 = some (aZ 262144 (fun _ => 0)) := by rw [eh47]; exact z_n_self _ _ _ _
  have nd21 := z_ndc nd20 (List.forall_mem_cons.mpr ⟨⟨_, h46_q19⟩, (List.forall_mem_cons.mpr ⟨⟨_, h46_q18⟩, (List.forall_mem_cons.mpr ⟨⟨_, h46_q17⟩, (List.forall_mem_cons.mpr ⟨⟨_, h46_q16⟩, (List.forall_mem_cons.mpr ⟨⟨_, h46_q15⟩, (List.forall_mem_cons.mpr ⟨⟨_, h46_q14⟩, (List.forall_mem_cons.mpr ⟨⟨_, h46_q13⟩, (List.forall_mem_cons.mpr ⟨⟨_, h46_q12⟩, (List.forall_mem_cons.mpr ⟨⟨_, h46_q11⟩, (List.forall_mem_cons.mpr ⟨⟨_, h46_q10⟩, (List.forall_mem_cons.mpr ⟨⟨_, h46_q9⟩, (List.forall_mem_cons.mpr ⟨⟨_, h46_q8⟩, (List.forall_mem_cons.mpr ⟨⟨_, h46_q7⟩, (List.forall_mem_cons.mpr ⟨⟨_, h46_q6⟩, (List.forall_mem_cons.mpr ⟨⟨_, h46_q5⟩, (List.forall_mem_cons.mpr ⟨⟨_, h46_q4⟩, (List.forall_mem_cons.mpr ⟨⟨_, h46_q3⟩, (List.forall_mem_cons.mpr ⟨⟨_, h46_q2⟩, (List.forall_mem_cons.mpr ⟨⟨_, h46_q1⟩, (List.forall_mem_cons.mpr ⟨⟨_, h46_q0⟩, (fun x hx => absurd hx List.not_mem_nil)⟩)⟩)⟩)⟩)⟩)⟩)⟩)⟩)⟩)⟩)⟩)⟩)⟩)⟩)⟩)⟩)⟩)⟩)⟩)⟩) hq20
  refine v_putF g (fs' := [.ref q0, .ref q1, .ref q2, .ref q3, .int 0, .int 0, .int 0, .ref q4, .ref q5, .ref q6, .ref q7, .int 0, .int (30 : Int32), .int (1 : Int32), .ref q8, .int 0, .int 0, .long 0, .long 0, .ref q9, .ref q10, .int 0, .int 0, .ref q11, .ref q12, .ref q13, .ref q14, .ref q15, .ref q16, .int 0, .ref q17, .int 0, .long 0, .long 0, .ref q18, .ref q19, .int 0, .ref q20, .null, .null, .int 0, .int 0, .int 0, .int 0]) h47_m fl_X8_80 rfl rfl rfl rfl (Nat.le_of_ble_eq_true rfl) rfl (by decide +kernel) ?_
  refine v_h (fun h48 eh48 => ?_)
  have kp_h48 : ∀ x y, h.1 x = some y → x ≠ m → h48.1 x = some y := fun x y hx hm9 => by rw [eh48]; exact z_so ((kp_h47) x y hx hm9) hm9
  have h48_c : h48.2.1 = h.2.1 + 21 ∧ h48.2.2 = h.2.2 + 283132 := zcs eh48 h47_c
  have h48_m : h48.1 m = some (oB 8 [.ref q0, .ref q1, .ref q2, .ref q3, .int 0, .int 0, .int 0, .ref q4, .ref q5, .ref q6, .ref q7, .int 0, .int (30 : Int32), .int (1 : Int32), .ref q8, .int 0, .int 0, .long 0, .long 0, .ref q9, .ref q10, .int 0, .int 0, .ref q11, .ref q12, .ref q13, .ref q14, .ref q15, .ref q16, .int 0, .ref q17, .int 0, .long 0, .long 0, .ref q18, .ref q19, .int 0, .ref q20, .null, .null, .int 0, .int 0, .int 0, .int 0]) := by rw [eh48]; exact z_s_self _ _ _
  have h48_q0 : h48.1 q0 = some (aI 14 (fun _ => 0)) := by rw [eh48]; exact z_so h47_q0 (Ne.symm (z_ne h1_m h1_q0 rfl))
  have h48_q1 : h48.1 q1 = some (aI 14 (fun _ => 0)) := by rw [eh48]; exact z_so h47_q1 (Ne.symm (z_ne h3_m h3_q1 rfl))
  have h48_q2 : h48.1 q2 = some (aI 4 (upd (upd (upd (upd (fun _ => 0) 0 (2 : Int32)) 1 (3 : Int32)) 2 (4 : Int32)) 3 (6 : Int32))) := by rw [eh48]; exact z_so h47_q2 (Ne.symm (z_ne h5_m h5_q2 rfl))
  have h48_q3 : h48.1 q3 = some (aI 200 (fun _ => 0)) := by rw [eh48]; exact z_so h47_q3 (Ne.symm (z_ne h11_m h11_q3 rfl))
  have h48_q4 : h48.1 q4 = some (aI 10240 (fun _ => 0)) := by rw [eh48]; exact z_so h47_q4 (Ne.symm (z_ne h13_m h13_q4 rfl))
  have h48_q5 : h48.1 q5 = some (aI 20 (fun _ => 0)) := by rw [eh48]; exact z_so h47_q5 (Ne.symm (z_ne h15_m h15_q5 rfl))
  have h48_q6 : h48.1 q6 = some (aI 20 (fun _ => 0)) := by rw [eh48]; exact z_so h47_q6 (Ne.symm (z_ne h17_m h17_q6 rfl))
  have h48_q7 : h48.1 q7 = some (aZ 20 (fun _ => 0)) := by rw [eh48]; exact z_so h47_q7 (Ne.symm (z_ne h19_m h19_q7 rfl))
  have h48_q8 : h48.1 q8 = some (aJ 24 (fun _ => 0)) := by rw [eh48]; exact z_so h47_q8 (Ne.symm (z_ne h23_m h23_q8 rfl))
  have h48_q9 : h48.1 q9 = some (aJ 20 (fun _ => 0)) := by rw [eh48]; exact z_so h47_q9 (Ne.symm (z_ne h25_m h25_q9 rfl))
  have h48_q10 : h48.1 q10 = some (aI 20 (fun _ => 0)) := by rw [eh48]; exact z_so h47_q10 (Ne.symm (z_ne h27_m h27_q10 rfl))
  have h48_q11 : h48.1 q11 = some (aI 14 (fun _ => 0)) := by rw [eh48]; exact z_so h47_q11 (Ne.symm (z_ne h29_m h29_q11 rfl))
  have h48_q12 : h48.1 q12 = some (aI 14 (fun _ => 0)) := by rw [eh48]; exact z_so h47_q12 (Ne.symm (z_ne h31_m h31_q12 rfl))
  have h48_q13 : h48.1 q13 = some (aI 10240 (fun _ => 0)) := by rw [eh48]; exact z_so h47_q13 (Ne.symm (z_ne h33_m h33_q13 rfl))
  have h48_q14 : h48.1 q14 = some (aI 20 (fun _ => 0)) := by rw [eh48]; exact z_so h47_q14 (Ne.symm (z_ne h35_m h35_q14 rfl))
  have h48_q15 : h48.1 q15 = some (aI 20 (fun _ => 0)) := by rw [eh48]; exact z_so h47_q15 (Ne.symm (z_ne h37_m h37_q15 rfl))
  have h48_q16 : h48.1 q16 = some (aZ 20 (fun _ => 0)) := by rw [eh48]; exact z_so h47_q16 (Ne.symm (z_ne h39_m h39_q16 rfl))
  have h48_q17 : h48.1 q17 = some (aJ 24 (fun _ => 0)) := by rw [eh48]; exact z_so h47_q17 (Ne.symm (z_ne h41_m h41_q17 rfl))
  have h48_q18 : h48.1 q18 = some (aJ 20 (fun _ => 0)) := by rw [eh48]; exact z_so h47_q18 (Ne.symm (z_ne h43_m h43_q18 rfl))
  have h48_q19 : h48.1 q19 = some (aI 20 (fun _ => 0)) := by rw [eh48]; exact z_so h47_q19 (Ne.symm (z_ne h45_m h45_q19 rfl))
  have h48_q20 : h48.1 q20 = some (aZ 262144 (fun _ => 0)) := by rw [eh48]; exact z_so h47_q20 (Ne.symm (z_ne h47_m h47_q20 rfl))
  refine v_blk g [.aload_n 0, .sipush 16384] (pc' := 206) (lv' := [(0, .ref m)]) (st' := [.int (16384 : Int32), .ref m]) (by decide +kernel) rfl rfl ?_
  refine v_newI g 16384 rfl (Nat.le_of_ble_eq_true rfl) ac_int (zcsk 21 283132 1 16384 h48_c.1 h48_c.2 (Nat.le_of_ble_eq_true rfl) (Nat.le_of_ble_eq_true rfl)) (by decide +kernel) (fun q21 hq21 => ?_)
  have fq21 : ∀ y, h.1 q21 = some y → False := fun y hy => by
    have e1 : q21 ≠ m := fun e => by rw [e, h48_m] at hq21; cases hq21
    have e2 := (kp_h48) q21 y hy e1; rw [hq21] at e2; cases e2
  refine v_h (fun h49 eh49 => ?_)
  have kp_h49 : ∀ x y, h.1 x = some y → x ≠ m → h49.1 x = some y := fun x y hx hm9 => by rw [eh49]; exact z_no ((kp_h48) x y hx hm9) hq21
  have h49_c : h49.2.1 = h.2.1 + 22 ∧ h49.2.2 = h.2.2 + 299516 := zcn eh49 h48_c
  have h49_m : h49.1 m = some (oB 8 [.ref q0, .ref q1, .ref q2, .ref q3, .int 0, .int 0, .int 0, .ref q4, .ref q5, .ref q6, .ref q7, .int 0, .int (30 : Int32), .int (1 : Int32), .ref q8, .int 0, .int 0, .long 0, .long 0, .ref q9, .ref q10, .int 0, .int 0, .ref q11, .ref q12, .ref q13, .ref q14, .ref q15, .ref q16, .int 0, .ref q17, .int 0, .long 0, .long 0, .ref q18, .ref q19, .int 0, .ref q20, .null, .null, .int 0, .int 0, .int 0, .int 0]) := by rw [eh49]; exact z_no h48_m hq21
  have h49_q0 : h49.1 q0 = some (aI 14 (fun _ => 0)) := by rw [eh49]; exact z_no h48_q0 hq21
  have h49_q1 : h49.1 q1 = some (aI 14 (fun _ => 0)) := by rw [eh49]; exact z_no h48_q1 hq21
  have h49_q2 : h49.1 q2 = some (aI 4 (upd (upd (upd (upd (fun _ => 0) 0 (2 : Int32)) 1 (3 : Int32)) 2 (4 : Int32)) 3 (6 : Int32))) := by rw [eh49]; exact z_no h48_q2 hq21
  have h49_q3 : h49.1 q3 = some (aI 200 (fun _ => 0)) := by rw [eh49]; exact z_no h48_q3 hq21
  have h49_q4 : h49.1 q4 = some (aI 10240 (fun _ => 0)) := by rw [eh49]; exact z_no h48_q4 hq21
  have h49_q5 : h49.1 q5 = some (aI 20 (fun _ => 0)) := by rw [eh49]; exact z_no h48_q5 hq21
  have h49_q6 : h49.1 q6 = some (aI 20 (fun _ => 0)) := by rw [eh49]; exact z_no h48_q6 hq21
  have h49_q7 : h49.1 q7 = some (aZ 20 (fun _ => 0)) := by rw [eh49]; exact z_no h48_q7 hq21
  have h49_q8 : h49.1 q8 = some (aJ 24 (fun _ => 0)) := by rw [eh49]; exact z_no h48_q8 hq21
  have h49_q9 : h49.1 q9 = some (aJ 20 (fun _ => 0)) := by rw [eh49]; exact z_no h48_q9 hq21
  have h49_q10 : h49.1 q10 = some (aI 20 (fun _ => 0)) := by rw [eh49]; exact z_no h48_q10 hq21
  have h49_q11 : h49.1 q11 = some (aI 14 (fun _ => 0)) := by rw [eh49]; exact z_no h48_q11 hq21
  have h49_q12 : h49.1 q12 = some (aI 14 (fun _ => 0)) := by rw [eh49]; exact z_no h48_q12 hq21
  have h49_q13 : h49.1 q13 = some (aI 10240 (fun _ => 0)) := by rw [eh49]; exact z_no h48_q13 hq21
  have h49_q14 : h49.1 q14 = some (aI 20 (fun _ => 0)) := by rw [eh49]; exact z_no h48_q14 hq21
  have h49_q15 : h49.1 q15 = some (aI 20 (fun _ => 0)) := by rw [eh49]; exact z_no h48_q15 hq21
  have h49_q16 : h49.1 q16 = some (aZ 20 (fun _ => 0)) := by rw [eh49]; exact z_no h48_q16 hq21
  have h49_q17 : h49.1 q17 = some (aJ 24 (fun _ => 0)) := by rw [eh49]; exact z_no h48_q17 hq21
  have h49_q18 : h49.1 q18 = some (aJ 20 (fun _ => 0)) := by rw [eh49]; exact z_no h48_q18 hq21
  have h49_q19 : h49.1 q19 = some (aI 20 (fun _ => 0)) := by rw [eh49]; exact z_no h48_q19 hq21
  have h49_q20 : h49.1 q20 = some (aZ 262144 (fun _ => 0)) := by rw [eh49]; exact z_no h48_q20 hq21
  have h49_q21 : h49.1 q21 = some (aI 16384 (fun _ => 0)) := by rw [eh49]; exact z_n_self _ _ _ _
  have nd22 := z_ndc nd21 (List.forall_mem_cons.mpr ⟨⟨_, h48_q20⟩, (List.forall_mem_cons.mpr ⟨⟨_, h48_q19⟩, (List.forall_mem_cons.mpr ⟨⟨_, h48_q18⟩, (List.forall_mem_cons.mpr ⟨⟨_, h48_q17⟩, (List.forall_mem_cons.mpr ⟨⟨_, h48_q16⟩, (List.forall_mem_cons.mpr ⟨⟨_, h48_q15⟩, (List.forall_mem_cons.mpr ⟨⟨_, h48_q14⟩, (List.forall_mem_cons.mpr ⟨⟨_, h48_q13⟩, (List.forall_mem_cons.mpr ⟨⟨_, h48_q12⟩, (List.forall_mem_cons.mpr ⟨⟨_, h48_q11⟩, (List.forall_mem_cons.mpr ⟨⟨_, h48_q10⟩, (List.forall_mem_cons.mpr ⟨⟨_, h48_q9⟩, (List.forall_mem_cons.mpr ⟨⟨_, h48_q8⟩, (List.forall_mem_cons.mpr ⟨⟨_, h48_q7⟩, (List.forall_mem_cons.mpr ⟨⟨_, h48_q6⟩, (List.forall_mem_cons.mpr ⟨⟨_, h48_q5⟩, (List.forall_mem_cons.mpr ⟨⟨_, h48_q4⟩, (List.forall_mem_cons.mpr ⟨⟨_, h48_q3⟩, (List.forall_mem_cons.mpr ⟨⟨_, h48_q2⟩, (List.forall_mem_cons.mpr ⟨⟨_, h48_q1⟩, (List.forall_mem_cons.mpr ⟨⟨_, h48_q0⟩, (fun x hx => absurd hx List.not_mem_nil)⟩)⟩)⟩)⟩)⟩)⟩)⟩)⟩)⟩)⟩)⟩)⟩)⟩)⟩)⟩)⟩)⟩)⟩)⟩)⟩)⟩) hq21
  refine v_putF g (fs' := [.ref q0, .ref q1, .ref q2, .ref q3, .int 0, .int 0, .int 0, .ref q4, .ref q5, .ref q6, .ref q7, .int 0, .int (30 : Int32), .int (1 : Int32), .ref q8, .int 0, .int 0, .long 0, .long 0, .ref q9, .ref q10, .int 0, .int 0, .ref q11, .ref q12, .ref q13, .ref q14, .ref q15, .ref q16, .int 0, .ref q17, .int 0, .long 0, .long 0, .ref q18, .ref q19, .int 0, .ref q20, .ref q21, .null, .int 0, .int 0, .int 0, .int 0]) h49_m fl_X8_83 rfl rfl rfl rfl (Nat.le_of_ble_eq_true rfl) rfl (by decide +kernel) ?_
  refine v_h (fun h50 eh50 => ?_)
  have kp_h50 : ∀ x y, h.1 x = some y → x ≠ m → h50.1 x = some y := fun x y hx hm9 => by rw [eh50]; exact z_so ((kp_h49) x y hx hm9) hm9
  have h50_c : h50.2.1 = h.2.1 + 22 ∧ h50.2.2 = h.2.2 + 299516 := zcs eh50 h49_c
  have h50_m : h50.1 m = some (oB 8 [.ref q0, .ref q1, .ref q2, .ref q3, .int 0, .int 0, .int 0, .ref q4, .ref q5, .ref q6, .ref q7, .int 0, .int (30 : Int32), .int (1 : Int32), .ref q8, .int 0, .int 0, .long 0, .long 0, .ref q9, .ref q10, .int 0, .int 0, .ref q11, .ref q12, .ref q13, .ref q14, .ref q15, .ref q16, .int 0, .ref q17, .int 0, .long 0, .long 0, .ref q18, .ref q19, .int 0, .ref q20, .ref q21, .null, .int 0, .int 0, .int 0, .int 0]) := by rw [eh50]; exact z_s_self _ _ _
  have h50_q0 : h50.1 q0 = some (aI 14 (fun _ => 0)) := by rw [eh50]; exact z_so h49_q0 (Ne.symm (z_ne h1_m h1_q0 rfl))
  have h50_q1 : h50.1 q1 = some (aI 14 (fun _ => 0)) := by rw [eh50]; exact z_so h49_q1 (Ne.symm (z_ne h3_m h3_q1 rfl))
  have h50_q2 : h50.1 q2 = some (aI 4 (upd (upd (upd (upd (fun _ => 0) 0 (2 : Int32)) 1 (3 : Int32)) 2 (4 : Int32)) 3 (6 : Int32))) := by rw [eh50]; exact z_so h49_q2 (Ne.symm (z_ne h5_m h5_q2 rfl))
  have h50_q3 : h50.1 q3 = some (aI 200 (fun _ => 0)) := by rw [eh50]; exact z_so h49_q3 (Ne.symm (z_ne h11_m h11_q3 rfl))
  have h50_q4 : h50.1 q4 = some (aI 10240 (fun _ => 0)) := by rw [eh50]; exact z_so h49_q4 (Ne.symm (z_ne h13_m h13_q4 rfl))
  have h50_q5 : h50.1 q5 = some (aI 20 (fun _ => 0)) := by rw [eh50]; exact z_so h49_q5 (Ne.symm (z_ne h15_m h15_q5 rfl))
  have h50_q6 : h50.1 q6 = some (aI 20 (fun _ => 0)) := by rw [eh50]; exact z_so h49_q6 (Ne.symm (z_ne h17_m h17_q6 rfl))
  have h50_q7 : h50.1 q7 = some (aZ 20 (fun _ => 0)) := by rw [eh50]; exact z_so h49_q7 (Ne.symm (z_ne h19_m h19_q7 rfl))
  have h50_q8 : h50.1 q8 = some (aJ 24 (fun _ => 0)) := by rw [eh50]; exact z_so h49_q8 (Ne.symm (z_ne h23_m h23_q8 rfl))
  have h50_q9 : h50.1 q9 = some (aJ 20 (fun _ => 0)) := by rw [eh50]; exact z_so h49_q9 (Ne.symm (z_ne h25_m h25_q9 rfl))
  have h50_q10 : h50.1 q10 = some (aI 20 (fun _ => 0)) := by rw [eh50]; exact z_so h49_q10 (Ne.symm (z_ne h27_m h27_q10 rfl))
  have h50_q11 : h50.1 q11 = some (aI 14 (fun _ => 0)) := by rw [eh50]; exact z_so h49_q11 (Ne.symm (z_ne h29_m h29_q11 rfl))
  have h50_q12 : h50.1 q12 = some (aI 14 (fun _ => 0)) := by rw [eh50]; exact z_so h49_q12 (Ne.symm (z_ne h31_m h31_q12 rfl))
  have h50_q13 : h50.1 q13 = some (aI 10240 (fun _ => 0)) := by rw [eh50]; exact z_so h49_q13 (Ne.symm (z_ne h33_m h33_q13 rfl))
  have h50_q14 : h50.1 q14 = some (aI 20 (fun _ => 0)) := by rw [eh50]; exact z_so h49_q14 (Ne.symm (z_ne h35_m h35_q14 rfl))
  have h50_q15 : h50.1 q15 = some (aI 20 (fun _ => 0)) := by rw [eh50]; exact z_so h49_q15 (Ne.symm (z_ne h37_m h37_q15 rfl))
  have h50_q16 : h50.1 q16 = some (aZ 20 (fun _ => 0)) := by rw [eh50]; exact z_so h49_q16 (Ne.symm (z_ne h39_m h39_q16 rfl))
  have h50_q17 : h50.1 q17 = some (aJ 24 (fun _ => 0)) := by rw [eh50]; exact z_so h49_q17 (Ne.symm (z_ne h41_m h41_q17 rfl))
  have h50_q18 : h50.1 q18 = some (aJ 20 (fun _ => 0)) := by rw [eh50]; exact z_so h49_q18 (Ne.symm (z_ne h43_m h43_q18 rfl))
  have h50_q19 : h50.1 q19 = some (aI 20 (fun _ => 0)) := by rw [eh50]; exact z_so h49_q19 (Ne.symm (z_ne h45_m h45_q19 rfl))
  have h50_q20 : h50.1 q20 = some (aZ 262144 (fun _ => 0)) := by rw [eh50]; exact z_so h49_q20 (Ne.symm (z_ne h47_m h47_q20 rfl))
  have h50_q21 : h50.1 q21 = some (aI 16384 (fun _ => 0)) := by rw [eh50]; exact z_so h49_q21 (Ne.symm (z_ne h49_m h49_q21 rfl))
  refine v_blk g [.aload_n 0, .sipush 16384] (pc' := 215) (lv' := [(0, .ref m)]) (st' := [.int (16384 : Int32), .ref m]) (by decide +kernel) rfl rfl ?_
  refine v_newI g 16384 rfl (Nat.le_of_ble_eq_true rfl) ac_int (zcsk 22 299516 1 16384 h50_c.1 h50_c.2 (Nat.le_of_ble_eq_true rfl) (Nat.le_of_ble_eq_true rfl)) (by decide +kernel) (fun q22 hq22 => ?_)
  have fq22 : ∀ y, h.1 q22 = some y → False := fun y hy => by
    have e1 : q22 ≠ m := fun e => by rw [e, h50_m] at hq22; cases hq22
    have e2 := (kp_h50) q22 y hy e1; rw [hq22] at e2; cases e2
  refine v_h (fun h51 eh51 => ?_)
  have kp_h51 : ∀ x y, h.1 x = some y → x ≠ m → h51.1 x = some y := fun x y hx hm9 => by rw [eh51]; exact z_no ((kp_h50) x y hx hm9) hq22
  have h51_c : h51.2.1 = h.2.1 + 23 ∧ h51.2.2 = h.2.2 + 315900 := zcn eh51 h50_c
  have h51_m : h51.1 m = some (oB 8 [.ref q0, .ref q1, .ref q2, .ref q3, .int 0, .int 0, .int 0, .ref q4, .ref q5, .ref q6, .ref q7, .int 0, .int (30 : Int32), .int (1 : Int32), .ref q8, .int 0, .int 0, .long 0, .long 0, .ref q9, .ref q10, .int 0, .int 0, .ref q11, .ref q12, .ref q13, .ref q14, .ref q15, .ref q16, .int 0, .ref q17, .int 0, .long 0, .long 0, .ref q18, .ref q19, .int 0, .ref q20, .ref q21, .null, .int 0, .int 0, .int 0, .int 0]) := by rw [eh51]; exact z_no h50_m hq22
  have h51_q0 : h51.1 q0 = some (aI 14 (fun _ => 0)) := by rw [eh51]; exact z_no h50_q0 hq22
  have h51_q1 : h51.1 q1 = some (aI 14 (fun _ => 0)) := by rw [eh51]; exact z_no h50_q1 hq22
  have h51_q2 : h51.1 q2 = some (aI 4 (upd (upd (upd (upd (fun _ => 0) 0 (2 : Int32)) 1 (3 : Int32)) 2 (4 : Int32)) 3 (6 : Int32))) := by rw [eh51]; exact z_no h50_q2 hq22
  have h51_q3 : h51.1 q3 = some (aI 200 (fun _ => 0)) := by rw [eh51]; exact z_no h50_q3 hq22
  have h51_q4 : h51.1 q4 = some (aI 10240 (fun _ => 0)) := by rw [eh51]; exact z_no h50_q4 hq22
  have h51_q5 : h51.1 q5 = some (aI 20 (fun _ => 0)) := by rw [eh51]; exact z_no h50_q5 hq22
  have h51_q6 : h51.1 q6 = some (aI 20 (fun _ => 0)) := by rw [eh51]; exact z_no h50_q6 hq22
  have h51_q7 : h51.1 q7 = some (aZ 20 (fun _ => 0)) := by rw [eh51]; exact z_no h50_q7 hq22
  have h51_q8 : h51.1 q8 = some (aJ 24 (fun _ => 0)) := by rw [eh51]; exact z_no h50_q8 hq22
  have h51_q9 : h51.1 q9 = some (aJ 20 (fun _ => 0)) := by rw [eh51]; exact z_no h50_q9 hq22
  have h51_q10 : h51.1 q10 = some (aI 20 (fun _ => 0)) := by rw [eh51]; exact z_no h50_q10 hq22
  have h51_q11 : h51.1 q11 = some (aI 14 (fun _ => 0)) := by rw [eh51]; exact z_no h50_q11 hq22
  have h51_q12 : h51.1 q12 = some (aI 14 (fun _ => 0)) := by rw [eh51]; exact z_no h50_q12 hq22
  have h51_q13 : h51.1 q13 = some (aI 10240 (fun _ => 0)) := by rw [eh51]; exact z_no h50_q13 hq22
  have h51_q14 : h51.1 q14 = some (aI 20 (fun _ => 0)) := by rw [eh51]; exact z_no h50_q14 hq22
  have h51_q15 : h51.1 q15 = some (aI 20 (fun _ => 0)) := by rw [eh51]; exact z_no h50_q15 hq22
  have h51_q16 : h51.1 q16 = some (aZ 20 (fun _ => 0)) := by rw [eh51]; exact z_no h50_q16 hq22
  have h51_q17 : h51.1 q17 = some (aJ 24 (fun _ => 0)) := by rw [eh51]; exact z_no h50_q17 hq22
  have h51_q18 : h51.1 q18 = some (aJ 20 (fun _ => 0)) := by rw [eh51]; exact z_no h50_q18 hq22
  have h51_q19 : h51.1 q19 = some (aI 20 (fun _ => 0)) := by rw [eh51]; exact z_no h50_q19 hq22
  have h51_q20 : h51.1 q20 = some (aZ 262144 (fun _ => 0)) := by rw [eh51]; exact z_no h50_q20 hq22
  have h51_q21 : h51.1 q21 = some (aI 16384 (fun _ => 0)) := by rw [eh51]; exact z_no h50_q21 hq22
  have h51_q22 : h51.1 q22 = some (aI 16384 (fun _ => 0)) := by rw [eh51]; exact z_n_self _ _ _ _
  have nd23 := z_ndc nd22 (List.forall_mem_cons.mpr ⟨⟨_, h50_q21⟩, (List.forall_mem_cons.mpr ⟨⟨_, h50_q20⟩, (List.forall_mem_cons.mpr ⟨⟨_, h50_q19⟩, (List.forall_mem_cons.mpr ⟨⟨_, h50_q18⟩, (List.forall_mem_cons.mpr ⟨⟨_, h50_q17⟩, (List.forall_mem_cons.mpr ⟨⟨_, h50_q16⟩, (List.forall_mem_cons.mpr ⟨⟨_, h50_q15⟩, (List.forall_mem_cons.mpr ⟨⟨_, h50_q14⟩, (List.forall_mem_cons.mpr ⟨⟨_, h50_q13⟩, (List.forall_mem_cons.mpr ⟨⟨_, h50_q12⟩, (List.forall_mem_cons.mpr ⟨⟨_, h50_q11⟩, (List.forall_mem_cons.mpr ⟨⟨_, h50_q10⟩, (List.forall_mem_cons.mpr ⟨⟨_, h50_q9⟩, (List.forall_mem_cons.mpr ⟨⟨_, h50_q8⟩, (List.forall_mem_cons.mpr ⟨⟨_, h50_q7⟩, (List.forall_mem_cons.mpr ⟨⟨_, h50_q6⟩, (List.forall_mem_cons.mpr ⟨⟨_, h50_q5⟩, (List.forall_mem_cons.mpr ⟨⟨_, h50_q4⟩, (List.forall_mem_cons.mpr ⟨⟨_, h50_q3⟩, (List.forall_mem_cons.mpr ⟨⟨_, h50_q2⟩, (List.forall_mem_cons.mpr ⟨⟨_, h50_q1⟩, (List.forall_mem_cons.mpr ⟨⟨_, h50_q0⟩, (fun x hx => absurd hx List.not_mem_nil)⟩)⟩)⟩)⟩)⟩)⟩)⟩)⟩)⟩)⟩)⟩)⟩)⟩)⟩)⟩)⟩)⟩)⟩)⟩)⟩)⟩)⟩) hq22
  refine v_putF g (fs' := [.ref q0, .ref q1, .ref q2, .ref q3, .int 0, .int 0, .int 0, .ref q4, .ref q5, .ref q6, .ref q7, .int 0, .int (30 : Int32), .int (1 : Int32), .ref q8, .int 0, .int 0, .long 0, .long 0, .ref q9, .ref q10, .int 0, .int 0, .ref q11, .ref q12, .ref q13, .ref q14, .ref q15, .ref q16, .int 0, .ref q17, .int 0, .long 0, .long 0, .ref q18, .ref q19, .int 0, .ref q20, .ref q21, .ref q22, .int 0, .int 0, .int 0, .int 0]) h51_m fl_X8_86 rfl rfl rfl rfl (Nat.le_of_ble_eq_true rfl) rfl (by decide +kernel) ?_
  refine v_h (fun h52 eh52 => ?_)
  have kp_h52 : ∀ x y, h.1 x = some y → x ≠ m → h52.1 x = some y := fun x y hx hm9 => by rw [eh52]; exact z_so ((kp_h51) x y hx hm9) hm9
  have h52_c : h52.2.1 = h.2.1 + 23 ∧ h52.2.2 = h.2.2 + 315900 := zcs eh52 h51_c
  have h52_m : h52.1 m = some (oB 8 [.ref q0, .ref q1, .ref q2, .ref q3, .int 0, .int 0, .int 0, .ref q4, .ref q5, .ref q6, .ref q7, .int 0, .int (30 : Int32), .int (1 : Int32), .ref q8, .int 0, .int 0, .long 0, .long 0, .ref q9, .ref q10, .int 0, .int 0, .ref q11, .ref q12, .ref q13, .ref q14, .ref q15, .ref q16, .int 0, .ref q17, .int 0, .long 0, .long 0, .ref q18, .ref q19, .int 0, .ref q20, .ref q21, .ref q22, .int 0, .int 0, .int 0, .int 0]) := by rw [eh52]; exact z_s_self _ _ _
  have h52_q0 : h52.1 q0 = some (aI 14 (fun _ => 0)) := by rw [eh52]; exact z_so h51_q0 (Ne.symm (z_ne h1_m h1_q0 rfl))
  have h52_q1 : h52.1 q1 = some (aI 14 (fun _ => 0)) := by rw [eh52]; exact z_so h51_q1 (Ne.symm (z_ne h3_m h3_q1 rfl))
  have h52_q2 : h52.1 q2 = some (aI 4 (upd (upd (upd (upd (fun _ => 0) 0 (2 : Int32)) 1 (3 : Int32)) 2 (4 : Int32)) 3 (6 : Int32))) := by rw [eh52]; exact z_so h51_q2 (Ne.symm (z_ne h5_m h5_q2 rfl))
  have h52_q3 : h52.1 q3 = some (aI 200 (fun _ => 0)) := by rw [eh52]; exact z_so h51_q3 (Ne.symm (z_ne h11_m h11_q3 rfl))
  have h52_q4 : h52.1 q4 = some (aI 10240 (fun _ => 0)) := by rw [eh52]; exact z_so h51_q4 (Ne.symm (z_ne h13_m h13_q4 rfl))
  have h52_q5 : h52.1 q5 = some (aI 20 (fun _ => 0)) := by rw [eh52]; exact z_so h51_q5 (Ne.symm (z_ne h15_m h15_q5 rfl))
  have h52_q6 : h52.1 q6 = some (aI 20 (fun _ => 0)) := by rw [eh52]; exact z_so h51_q6 (Ne.symm (z_ne h17_m h17_q6 rfl))
  have h52_q7 : h52.1 q7 = some (aZ 20 (fun _ => 0)) := by rw [eh52]; exact z_so h51_q7 (Ne.symm (z_ne h19_m h19_q7 rfl))
  have h52_q8 : h52.1 q8 = some (aJ 24 (fun _ => 0)) := by rw [eh52]; exact z_so h51_q8 (Ne.symm (z_ne h23_m h23_q8 rfl))
  have h52_q9 : h52.1 q9 = some (aJ 20 (fun _ => 0)) := by rw [eh52]; exact z_so h51_q9 (Ne.symm (z_ne h25_m h25_q9 rfl))
  have h52_q10 : h52.1 q10 = some (aI 20 (fun _ => 0)) := by rw [eh52]; exact z_so h51_q10 (Ne.symm (z_ne h27_m h27_q10 rfl))
  have h52_q11 : h52.1 q11 = some (aI 14 (fun _ => 0)) := by rw [eh52]; exact z_so h51_q11 (Ne.symm (z_ne h29_m h29_q11 rfl))
  have h52_q12 : h52.1 q12 = some (aI 14 (fun _ => 0)) := by rw [eh52]; exact z_so h51_q12 (Ne.symm (z_ne h31_m h31_q12 rfl))
  have h52_q13 : h52.1 q13 = some (aI 10240 (fun _ => 0)) := by rw [eh52]; exact z_so h51_q13 (Ne.symm (z_ne h33_m h33_q13 rfl))
  have h52_q14 : h52.1 q14 = some (aI 20 (fun _ => 0)) := by rw [eh52]; exact z_so h51_q14 (Ne.symm (z_ne h35_m h35_q14 rfl))
  have h52_q15 : h52.1 q15 = some (aI 20 (fun _ => 0)) := by rw [eh52]; exact z_so h51_q15 (Ne.symm (z_ne h37_m h37_q15 rfl))
  have h52_q16 : h52.1 q16 = some (aZ 20 (fun _ => 0)) := by rw [eh52]; exact z_so h51_q16 (Ne.symm (z_ne h39_m h39_q16 rfl))
  have h52_q17 : h52.1 q17 = some (aJ 24 (fun _ => 0)) := by rw [eh52]; exact z_so h51_q17 (Ne.symm (z_ne h41_m h41_q17 rfl))
  have h52_q18 : h52.1 q18 = some (aJ 20 (fun _ => 0)) := by rw [eh52]; exact z_so h51_q18 (Ne.symm (z_ne h43_m h43_q18 rfl))
  have h52_q19 : h52.1 q19 = some (aI 20 (fun _ => 0)) := by rw [eh52]; exact z_so h51_q19 (Ne.symm (z_ne h45_m h45_q19 rfl))
  have h52_q20 : h52.1 q20 = some (aZ 262144 (fun _ => 0)) := by rw [eh52]; exact z_so h51_q20 (Ne.symm (z_ne h47_m h47_q20 rfl))
  have h52_q21 : h52.1 q21 = some (aI 16384 (fun _ => 0)) := by rw [eh52]; exact z_so h51_q21 (Ne.symm (z_ne h49_m h49_q21 rfl))
  have h52_q22 : h52.1 q22 = some (aI 16384 (fun _ => 0)) := by rw [eh52]; exact z_so h51_q22 (Ne.symm (z_ne h51_m h51_q22 rfl))
  refine v_blk g [.iconst 0, .istore_n 1] (pc' := 222) (lv' := [(1, .int (0 : Int32)), (0, .ref m)]) (st' := []) (by decide +kernel) rfl rfl ?_
  have nd := nd23
  obtain ⟨R, eR⟩ : ∃ R : Nat → Nat, R = (fun k => [q22, q21, q20, q19, q18, q17, q16, q15, q14, q13, q12, q11, q10, q9, q8, q7, q6, q5, q4, q3, q2, q1, q0].getD (22 - k) 0) := ⟨_, rfl⟩
  have r0 : R 0 = q0 := by rw [eR]; rfl
  have r1 : R 1 = q1 := by rw [eR]; rfl
  have r2 : R 2 = q2 := by rw [eR]; rfl
  have r3 : R 3 = q3 := by rw [eR]; rfl
  have r4 : R 4 = q4 := by rw [eR]; rfl
  have r5 : R 5 = q5 := by rw [eR]; rfl
  have r6 : R 6 = q6 := by rw [eR]; rfl
  have r7 : R 7 = q7 := by rw [eR]; rfl
  have r8 : R 8 = q8 := by rw [eR]; rfl
  have r9 : R 9 = q9 := by rw [eR]; rfl
  have r10 : R 10 = q10 := by rw [eR]; rfl
  have r11 : R 11 = q11 := by rw [eR]; rfl
  have r12 : R 12 = q12 := by rw [eR]; rfl
  have r13 : R 13 = q13 := by rw [eR]; rfl
  have r14 : R 14 = q14 := by rw [eR]; rfl
  have r15 : R 15 = q15 := by rw [eR]; rfl
  have r16 : R 16 = q16 := by rw [eR]; rfl
  have r17 : R 17 = q17 := by rw [eR]; rfl
  have r18 : R 18 = q18 := by rw [eR]; rfl
  have r19 : R 19 = q19 := by rw [eR]; rfl
  have r20 : R 20 = q20 := by rw [eR]; rfl
  have r21 : R 21 = q21 := by rw [eR]; rfl
  have r22 : R 22 = q22 := by rw [eR]; rfl
  have hR : ∀ i j, i < 23 → j < 23 → i ≠ j → R i ≠ R j := fun i j hi hj hij => by rw [eR]; exact nd_get nd (by simp only [List.length_cons, List.length_nil]; omega) (by simp only [List.length_cons, List.length_nil]; omega) (by omega)
  have M : MC h52 h52 m R (oM R 0 0 0 0 30 1 0 0 0 0 0 0 0 0 0 0 0 0 0 0 0) (fun _ => 0) (fun _ => 0) (upd (upd (upd (upd (fun _ => 0) 0 2) 1 3) 2 4) 3 6) (fun _ => 0) (fun _ => 0) (fun _ => 0) (fun _ => 0) (fun _ => 0) (fun _ => 0) (fun _ => 0) (fun _ => 0) (fun _ => 0) (fun _ => 0) (fun _ => 0) (fun _ => 0) (fun _ => 0) (fun _ => 0) (fun _ => 0) (fun _ => 0) (fun _ => 0) (fun _ => 0) (fun _ => 0) (fun _ => 0) := by
    refine ⟨?_, ?_, ?_, ?_, ?_, ?_, ?_, ?_, ?_, ?_, ?_, ?_, ?_, ?_, ?_, ?_, ?_, ?_, ?_, ?_, ?_, ?_, ?_, ?_, ?_, hR, fun x _ _ => rfl, rfl⟩
    · show h52.1 m = some (oB 8 (oMl R _ _ _ _ _ _ _ _ _ _ _ _ _ _ _ _ _ _ _ _ _)); simp only [oMl, r0, r1, r2, r3, r4, r5, r6, r7, r8, r9, r10, r11, r12, r13, r14, r15, r16, r17, r18, r19, r20, r21, r22]; exact h52_m
    · rw [r0]; exact h52_q0
    · rw [r1]; exact h52_q1
    · rw [r2]; exact h52_q2
    · rw [r3]; exact h52_q3
    · rw [r4]; exact h52_q4
    · rw [r5]; exact h52_q5
    · rw [r6]; exact h52_q6
    · rw [r7]; exact h52_q7
    · rw [r8]; exact h52_q8
    · rw [r9]; exact h52_q9
    · rw [r10]; exact h52_q10
    · rw [r11]; exact h52_q11
    · rw [r12]; exact h52_q12
    · rw [r13]; exact h52_q13
    · rw [r14]; exact h52_q14
    · rw [r15]; exact h52_q15
    · rw [r16]; exact h52_q16
    · rw [r17]; exact h52_q17
    · rw [r18]; exact h52_q18
    · rw [r19]; exact h52_q19
    · rw [r20]; exact h52_q20
    · rw [r21]; exact h52_q21
    · rw [r22]; exact h52_q22
    · intro k hk e
      have e9 : ∃ y, h52.1 (R k) = some (.inl y) := by
        have : k = 0 ∨ k = 1 ∨ k = 2 ∨ k = 3 ∨ k = 4 ∨ k = 5 ∨ k = 6 ∨ k = 7 ∨ k = 8 ∨ k = 9 ∨ k = 10 ∨ k = 11 ∨ k = 12 ∨ k = 13 ∨ k = 14 ∨ k = 15 ∨ k = 16 ∨ k = 17 ∨ k = 18 ∨ k = 19 ∨ k = 20 ∨ k = 21 ∨ k = 22 := by omega
        rcases this with rfl | rfl | rfl | rfl | rfl | rfl | rfl | rfl | rfl | rfl | rfl | rfl | rfl | rfl | rfl | rfl | rfl | rfl | rfl | rfl | rfl | rfl | rfl
        · rw [r0]; exact ⟨_, h52_q0⟩
        · rw [r1]; exact ⟨_, h52_q1⟩
        · rw [r2]; exact ⟨_, h52_q2⟩
        · rw [r3]; exact ⟨_, h52_q3⟩
        · rw [r4]; exact ⟨_, h52_q4⟩
        · rw [r5]; exact ⟨_, h52_q5⟩
        · rw [r6]; exact ⟨_, h52_q6⟩
        · rw [r7]; exact ⟨_, h52_q7⟩
        · rw [r8]; exact ⟨_, h52_q8⟩
        · rw [r9]; exact ⟨_, h52_q9⟩
        · rw [r10]; exact ⟨_, h52_q10⟩
        · rw [r11]; exact ⟨_, h52_q11⟩
        · rw [r12]; exact ⟨_, h52_q12⟩
        · rw [r13]; exact ⟨_, h52_q13⟩
        · rw [r14]; exact ⟨_, h52_q14⟩
        · rw [r15]; exact ⟨_, h52_q15⟩
        · rw [r16]; exact ⟨_, h52_q16⟩
        · rw [r17]; exact ⟨_, h52_q17⟩
        · rw [r18]; exact ⟨_, h52_q18⟩
        · rw [r19]; exact ⟨_, h52_q19⟩
        · rw [r20]; exact ⟨_, h52_q20⟩
        · rw [r21]; exact ⟨_, h52_q21⟩
        · rw [r22]; exact ⟨_, h52_q22⟩
      obtain ⟨y, hy⟩ := e9; rw [e, h52_m] at hy; cases hy
  have nf : ∀ k, k < 23 → h.1 (R k) = none := by
    intro k hk
    cases hy : h.1 (R k) with
    | none => rfl
    | some y =>
      have : k = 0 ∨ k = 1 ∨ k = 2 ∨ k = 3 ∨ k = 4 ∨ k = 5 ∨ k = 6 ∨ k = 7 ∨ k = 8 ∨ k = 9 ∨ k = 10 ∨ k = 11 ∨ k = 12 ∨ k = 13 ∨ k = 14 ∨ k = 15 ∨ k = 16 ∨ k = 17 ∨ k = 18 ∨ k = 19 ∨ k = 20 ∨ k = 21 ∨ k = 22 := by omega
      rcases this with rfl | rfl | rfl | rfl | rfl | rfl | rfl | rfl | rfl | rfl | rfl | rfl | rfl | rfl | rfl | rfl | rfl | rfl | rfl | rfl | rfl | rfl | rfl
      · rw [r0] at hy; exact (fq0 y hy).elim
      · rw [r1] at hy; exact (fq1 y hy).elim
      · rw [r2] at hy; exact (fq2 y hy).elim
      · rw [r3] at hy; exact (fq3 y hy).elim
      · rw [r4] at hy; exact (fq4 y hy).elim
      · rw [r5] at hy; exact (fq5 y hy).elim
      · rw [r6] at hy; exact (fq6 y hy).elim
      · rw [r7] at hy; exact (fq7 y hy).elim
      · rw [r8] at hy; exact (fq8 y hy).elim
      · rw [r9] at hy; exact (fq9 y hy).elim
      · rw [r10] at hy; exact (fq10 y hy).elim
      · rw [r11] at hy; exact (fq11 y hy).elim
      · rw [r12] at hy; exact (fq12 y hy).elim
      · rw [r13] at hy; exact (fq13 y hy).elim
      · rw [r14] at hy; exact (fq14 y hy).elim
      · rw [r15] at hy; exact (fq15 y hy).elim
      · rw [r16] at hy; exact (fq16 y hy).elim
      · rw [r17] at hy; exact (fq17 y hy).elim
      · rw [r18] at hy; exact (fq18 y hy).elim
      · rw [r19] at hy; exact (fq19 y hy).elim
      · rw [r20] at hy; exact (fq20 y hy).elim
      · rw [r21] at hy; exact (fq21 y hy).elim
      · rw [r22] at hy; exact (fq22 y hy).elim
  have key : ∀ i, i ≤ 14 → ∀ g9 : zH, MC h52 g9 m R (oM R 0 0 0 0 30 1 0 0 0 0 0 0 0 0 0 0 0 0 0 0 0) (mx (fun _ => (-1 : Int32)) (fun _ => 0) i) (mx (fun _ => (-1 : Int32)) (fun _ => 0) i) (upd (upd (upd (upd (fun _ => 0) 0 2) 1 3) 2 4) 3 6) (fun _ => 0) (fun _ => 0) (fun _ => 0) (fun _ => 0) (fun _ => 0) (fun _ => 0) (fun _ => 0) (fun _ => 0) (fun _ => 0) (fun _ => 0) (fun _ => 0) (fun _ => 0) (fun _ => 0) (fun _ => 0) (fun _ => 0) (fun _ => 0) (fun _ => 0) (fun _ => 0) (fun _ => 0) (fun _ => 0) → zV F X g9 222 [(1, .int (nI i)), (0, .ref m)] [] := by
    refine z_up (P := fun i => ∀ g9 : zH, MC h52 g9 m R (oM R 0 0 0 0 30 1 0 0 0 0 0 0 0 0 0 0 0 0 0 0 0) (mx (fun _ => (-1 : Int32)) (fun _ => 0) i) (mx (fun _ => (-1 : Int32)) (fun _ => 0) i) (upd (upd (upd (upd (fun _ => 0) 0 2) 1 3) 2 4) 3 6) (fun _ => 0) (fun _ => 0) (fun _ => 0) (fun _ => 0) (fun _ => 0) (fun _ => 0) (fun _ => 0) (fun _ => 0) (fun _ => 0) (fun _ => 0) (fun _ => 0) (fun _ => 0) (fun _ => 0) (fun _ => 0) (fun _ => 0) (fun _ => 0) (fun _ => 0) (fun _ => 0) (fun _ => 0) (fun _ => 0) → zV F X g9 222 [(1, .int (nI i)), (0, .ref m)] []) 14 ?_ ?_
    · intro g9 M9
      refine v_blk g [.iload_n 1, .bipush 14] (pc' := 225) (lv' := [(1, .int (nI 14)), (0, .ref m)]) (st' := [.int (14 : Int32), .int (nI 14)]) (by decide +kernel) rfl rfl ?_
      refine v_icmp_ge g (off := 23) (tgt := 248) (by decide +kernel) (by decide) (fun _ => ?_) (fun c => absurd c (fun q => q (by decide)))
      have g9c := M9.c
      obtain ⟨cc1, cc2⟩ := h52_c
      exact v_vret g z rfl (by decide +kernel) ⟨rfl, R, M9.re, nf, ⟨by rw [g9c]; exact cc1, by rw [g9c]; exact cc2⟩, fun x y hx hm9 => by rw [M9.x hm9 (fun k hk e => by rw [e, nf k hk] at hx; cases hx)]; exact kp_h52 x y hx hm9⟩ ⟨by rw [g9c, cc1]; exact Nat.le_refl _, by rw [g9c, cc2]; exact Nat.le_refl _⟩
    · intro i hi ih g9 M9
      refine v_blk g [.iload_n 1, .bipush 14] (pc' := 225) (lv' := [(1, .int (nI i)), (0, .ref m)]) (st' := [.int (14 : Int32), .int (nI i)]) (by decide +kernel) rfl rfl ?_
      refine v_icmp_ge g (off := 23) (tgt := 248) (by decide +kernel) (by decide) (fun c => absurd c (nI_ge (b := 14) hi (by decide))) (fun _ => ?_)
      refine v_blk g [.aload_n 0] (pc' := 229) (lv' := [(1, .int (nI i)), (0, .ref m)]) (st' := [.ref m]) (by decide +kernel) rfl rfl ?_
      refine v_get g M9.o fl_X8_9 rfl (by decide +kernel) ?_
      refine v_blk g [.iload_n 1, .iconst (-1)] (pc' := 234) (lv' := [(1, .int (nI i)), (0, .ref m)]) (st' := [.int (-1 : Int32), .int (nI i), .ref (R 0)]) (by decide +kernel) rfl rfl ?_
      refine v_iast g M9.k0 i rfl hi (Nat.le_of_ble_eq_true rfl) (by decide +kernel) ?_
      refine v_h (fun u1 eu1 => ?_)
      have M_u1 : MC h52 u1 m R (oM R 0 0 0 0 30 1 0 0 0 0 0 0 0 0 0 0 0 0 0 0 0) (upd (mx (fun _ => (-1 : Int32)) (fun _ => 0) i) i (-1 : Int32)) (mx (fun _ => (-1 : Int32)) (fun _ => 0) i) (upd (upd (upd (upd (fun _ => 0) 0 2) 1 3) 2 4) 3 6) (fun _ => 0) (fun _ => 0) (fun _ => 0) (fun _ => 0) (fun _ => 0) (fun _ => 0) (fun _ => 0) (fun _ => 0) (fun _ => 0) (fun _ => 0) (fun _ => 0) (fun _ => 0) (fun _ => 0) (fun _ => 0) (fun _ => 0) (fun _ => 0) (fun _ => 0) (fun _ => 0) (fun _ => 0) (fun _ => 0) := by rw [eu1]; exact M9.s0 _
      refine v_blk g [.aload_n 0] (pc' := 236) (lv' := [(1, .int (nI i)), (0, .ref m)]) (st' := [.ref m]) (by decide +kernel) rfl rfl ?_
      refine v_get g M_u1.o fl_X8_13 rfl (by decide +kernel) ?_
      refine v_blk g [.iload_n 1, .iconst (-1)] (pc' := 241) (lv' := [(1, .int (nI i)), (0, .ref m)]) (st' := [.int (-1 : Int32), .int (nI i), .ref (R 1)]) (by decide +kernel) rfl rfl ?_
      refine v_iast g M_u1.k1 i rfl hi (Nat.le_of_ble_eq_true rfl) (by decide +kernel) ?_
      refine v_h (fun u2 eu2 => ?_)
      have M_u2 : MC h52 u2 m R (oM R 0 0 0 0 30 1 0 0 0 0 0 0 0 0 0 0 0 0 0 0 0) (upd (mx (fun _ => (-1 : Int32)) (fun _ => 0) i) i (-1 : Int32)) (upd (mx (fun _ => (-1 : Int32)) (fun _ => 0) i) i (-1 : Int32)) (upd (upd (upd (upd (fun _ => 0) 0 2) 1 3) 2 4) 3 6) (fun _ => 0) (fun _ => 0) (fun _ => 0) (fun _ => 0) (fun _ => 0) (fun _ => 0) (fun _ => 0) (fun _ => 0) (fun _ => 0) (fun _ => 0) (fun _ => 0) (fun _ => 0) (fun _ => 0) (fun _ => 0) (fun _ => 0) (fun _ => 0) (fun _ => 0) (fun _ => 0) (fun _ => 0) (fun _ => 0) := by rw [eu2]; exact M_u1.s1 _
      refine v_blk g [.iinc 1 1] (pc' := 245) (lv' := [(1, .int ((nI i) + (1 : Int32))), (0, .ref m)]) (st' := []) (by decide +kernel) rfl rfl ?_
      refine v_goto g (off := -23) (tgt := 222) (by decide +kernel) (by decide) ?_
      refine v_lv [0, 1] (lv' := [(1, .int ((nI i) + (1 : Int32))), (0, .ref m)]) rfl ?_
      exact v_eq (by rw [nI_1]) rfl (ih _ (by rw [← mx_I (fun _ => (-1 : Int32)) (fun _ => 0) i]; exact M_u2))
  exact key 0 (by omega) _ (by rw [mx_0]; exact M)
