/-! the reference: tape, signs -/
theorem sh_bt8 (v : Int32) {s s2 : Int32} (n : Nat) (hn : n ≤ 24) (hs : s = nI n) (hs2 : s2 = nI n) : (v >>> (s &&& (31 : Int32))) &&& (255 : Int32) = bt8 v s2 := by
  subst hs; subst hs2
  apply b_ext
  intro i hi
  unfold bt8
  rw [b_and, b_and, b_255, b_sshr n (by omega) v hi, b_ushr n (by omega)]
  by_cases h8 : i < 8
  · rw [if_pos (by omega)]
  · simp [h8]
def ap20 (B : Nat → Int32) (n : Nat) (a b c d e : Int32) : Nat → Int32 := ap4 (ap4 (ap4 (ap4 (ap4 B n a) (n + 4) b) (n + 8) c) (n + 12) d) (n + 16) e

set_option maxRecDepth 100000 in
set_option maxHeartbeats 4000000 in
theorem m_lay {F : zF} {h : zH} {m : Nat} {R : Nat → Nat} {fk fp cn ha un dm wk pm cu ct dt pt hg th at9 sz : Int32} {hl pd hlt pdt : Int64} {n : Nat} (hm : h.1 m = some (oM R (nI n) fk fp cn ha un dm wk hl pd pm cu ct dt hlt pdt pt hg th at9 sz)) {B : Nat → Int32} (k3 : h.1 (R 3) = some (aI 200 B)) (v : Int32) (hn : n + 4 ≤ 200) : zMet F yX8_lay cX8_lay 3 none { frames := 1, cells := 0, slots := 0, locals := 30 } [.ref m, .int v] h (zP (z_s (z_s h (R 3) (aI 200 (ap4 B n v))) m (oM R (nI (n + 4)) fk fp cn ha un dm wk hl pd pm cu ct dt hlt pdt pt hg th at9 sz)) none) := by
  refine zMet_of (lv := [(0, .ref m), (1, .int v)]) (by decide) (by simp [lg_sl, Value.category]) rfl ?_
  intro X g z
  refine v_blk g [.bipush 24, .istore_n 2] (pc' := 3) (lv' := [(2, .int (24 : Int32)), (0, .ref m), (1, .int v)]) (st' := []) (by decide +kernel) rfl rfl ?_
  refine v_blk g [.iload_n 2] (pc' := 4) (lv' := [(2, .int (24 : Int32)), (0, .ref m), (1, .int v)]) (st' := [.int (24 : Int32)]) (by decide +kernel) rfl rfl ?_
  refine v_if_lt g (off := 35) (tgt := 39) (by decide +kernel) (by decide) (fun c => absurd c (by decide)) (fun _ => ?_)
  refine v_blk g [.aload_n 0] (pc' := 8) (lv' := [(2, .int (24 : Int32)), (0, .ref m), (1, .int v)]) (st' := [.ref m]) (by decide +kernel) rfl rfl ?_
  refine v_get g hm fl_X8_19 rfl (by decide +kernel) ?_
  refine v_blk g [.aload_n 0] (pc' := 12) (lv' := [(2, .int (24 : Int32)), (0, .ref m), (1, .int v)]) (st' := [.ref m, .ref (R 3)]) (by decide +kernel) rfl rfl ?_
  refine v_get g hm fl_X8_110 rfl (by decide +kernel) ?_
  refine v_blk g [.iload_n 1, .iload_n 2, .ishr, .sipush 255, .iand] (pc' := 22) (lv' := [(2, .int (24 : Int32)), (0, .ref m), (1, .int v)]) (st' := [.int ((v >>> ((24 : Int32) &&& (31 : Int32))) &&& (255 : Int32)), .int (nI n), .ref (R 3)]) (by decide +kernel) rfl rfl ?_
  refine v_ti (z := bt8 v 24) (sh_bt8 v 24 (by decide) (by decide) (by decide)) ?_
  refine v_iast g k3 n rfl (by omega) (Nat.le_of_ble_eq_true rfl) (by decide +kernel) ?_
  refine v_h (fun h1 eh1 => ?_)
  have h1_c : h1.2.1 = h.2.1 + 0 ∧ h1.2.2 = h.2.2 + 0 := zcs eh1 ⟨rfl, rfl⟩
  have h1_m : h1.1 m = some (oM R (nI n) fk fp cn ha un dm wk hl pd pm cu ct dt hlt pdt pt hg th at9 sz) := by rw [eh1]; exact z_so hm (z_ne hm k3 rfl)
  have h1_R3 : h1.1 (R 3) = some (aI 200 (upd B n (bt8 v 24))) := by rw [eh1]; exact z_s_self _ _ _
  refine v_blk g [.aload_n 0, .dup] (pc' := 25) (lv' := [(2, .int (24 : Int32)), (0, .ref m), (1, .int v)]) (st' := [.ref m, .ref m]) (by decide +kernel) rfl rfl ?_
  refine v_get g h1_m fl_X8_110 rfl (by decide +kernel) ?_
  refine v_blk g [.iconst 1, .iadd] (pc' := 30) (lv' := [(2, .int (24 : Int32)), (0, .ref m), (1, .int v)]) (st' := [.int ((nI n) + (1 : Int32)), .ref m]) (by decide +kernel) rfl rfl ?_
  refine v_ti (z := nI (n + 1)) (nI_1 n) ?_
  refine v_put g (fs' := oMl R (nI (n + 1)) fk fp cn ha un dm wk hl pd pm cu ct dt hlt pdt pt hg th at9 sz) h1_m fl_X8_110 rfl rfl (Nat.le_of_ble_eq_true rfl) rfl (by decide +kernel) ?_
  refine v_h (fun h2 eh2 => ?_)
  have h2_c : h2.2.1 = h.2.1 + 0 ∧ h2.2.2 = h.2.2 + 0 := zcs eh2 h1_c
  have h2_m : h2.1 m = some (oM R (nI (n + 1)) fk fp cn ha un dm wk hl pd pm cu ct dt hlt pdt pt hg th at9 sz) := by rw [eh2]; exact z_s_self _ _ _
  have h2_R3 : h2.1 (R 3) = some (aI 200 (upd B n (bt8 v 24))) := by rw [eh2]; exact z_so h1_R3 (Ne.symm (z_ne hm k3 rfl))
  refine v_blk g [.iinc 2 (-8)] (pc' := 36) (lv' := [(2, .int ((24 : Int32) + (-8 : Int32))), (0, .ref m), (1, .int v)]) (st' := []) (by decide +kernel) rfl rfl ?_
  refine v_goto g (off := -33) (tgt := 3) (by decide +kernel) (by decide) ?_
  refine v_blk g [.iload_n 2] (pc' := 4) (lv' := [(2, .int ((24 : Int32) + (-8 : Int32))), (0, .ref m), (1, .int v)]) (st' := [.int ((24 : Int32) + (-8 : Int32))]) (by decide +kernel) rfl rfl ?_
  refine v_if_lt g (off := 35) (tgt := 39) (by decide +kernel) (by decide) (fun c => absurd c (by decide)) (fun _ => ?_)
  refine v_blk g [.aload_n 0] (pc' := 8) (lv' := [(2, .int ((24 : Int32) + (-8 : Int32))), (0, .ref m), (1, .int v)]) (st' := [.ref m]) (by decide +kernel) rfl rfl ?_
  refine v_get g h2_m fl_X8_19 rfl (by decide +kernel) ?_
  refine v_blk g [.aload_n 0] (pc' := 12) (lv' := [(2, .int ((24 : Int32) + (-8 : Int32))), (0, .ref m), (1, .int v)]) (st' := [.ref m, .ref (R 3)]) (by decide +kernel) rfl rfl ?_
  refine v_get g h2_m fl_X8_110 rfl (by decide +kernel) ?_
  refine v_blk g [.iload_n 1, .iload_n 2, .ishr, .sipush 255, .iand] (pc' := 22) (lv' := [(2, .int ((24 : Int32) + (-8 : Int32))), (0, .ref m), (1, .int v)]) (st' := [.int ((v >>> (((24 : Int32) + (-8 : Int32)) &&& (31 : Int32))) &&& (255 : Int32)), .int (nI (n + 1)), .ref (R 3)]) (by decide +kernel) rfl rfl ?_
  refine v_ti (z := bt8 v 16) (sh_bt8 v 16 (by decide) (by decide) (by decide)) ?_
  refine v_iast g h2_R3 (n + 1) rfl (by omega) (Nat.le_of_ble_eq_true rfl) (by decide +kernel) ?_
  refine v_h (fun h3 eh3 => ?_)
  have h3_c : h3.2.1 = h.2.1 + 0 ∧ h3.2.2 = h.2.2 + 0 := zcs eh3 h2_c
  have h3_m : h3.1 m = some (oM R (nI (n + 1)) fk fp cn ha un dm wk hl pd pm cu ct dt hlt pdt pt hg th at9 sz) := by rw [eh3]; exact z_so h2_m (z_ne hm k3 rfl)
  have h3_R3 : h3.1 (R 3) = some (aI 200 (upd (upd B n (bt8 v 24)) (n + 1) (bt8 v 16))) := by rw [eh3]; exact z_s_self _ _ _
  refine v_blk g [.aload_n 0, .dup] (pc' := 25) (lv' := [(2, .int ((24 : Int32) + (-8 : Int32))), (0, .ref m), (1, .int v)]) (st' := [.ref m, .ref m]) (by decide +kernel) rfl rfl ?_
  refine v_get g h3_m fl_X8_110 rfl (by decide +kernel) ?_
  refine v_blk g [.iconst 1, .iadd] (pc' := 30) (lv' := [(2, .int ((24 : Int32) + (-8 : Int32))), (0, .ref m), (1, .int v)]) (st' := [.int ((nI (n + 1)) + (1 : Int32)), .ref m]) (by decide +kernel) rfl rfl ?_
  refine v_ti (z := nI (n + 2)) (nI_1 (n + 1)) ?_
  refine v_put g (fs' := oMl R (nI (n + 2)) fk fp cn ha un dm wk hl pd pm cu ct dt hlt pdt pt hg th at9 sz) h3_m fl_X8_110 rfl rfl (Nat.le_of_ble_eq_true rfl) rfl (by decide +kernel) ?_
  refine v_h (fun h4 eh4 => ?_)
  have h4_c : h4.2.1 = h.2.1 + 0 ∧ h4.2.2 = h.2.2 + 0 := zcs eh4 h3_c
  have h4_m : h4.1 m = some (oM R (nI (n + 2)) fk fp cn ha un dm wk hl pd pm cu ct dt hlt pdt pt hg th at9 sz) := by rw [eh4]; exact z_s_self _ _ _
  have h4_R3 : h4.1 (R 3) = some (aI 200 (upd (upd B n (bt8 v 24)) (n + 1) (bt8 v 16))) := by rw [eh4]; exact z_so h3_R3 (Ne.symm (z_ne hm k3 rfl))
  refine v_blk g [.iinc 2 (-8)] (pc' := 36) (lv' := [(2, .int (((24 : Int32) + (-8 : Int32)) + (-8 : Int32))), (0, .ref m), (1, .int v)]) (st' := []) (by decide +kernel) rfl rfl ?_
  refine v_goto g (off := -33) (tgt := 3) (by decide +kernel) (by decide) ?_
  refine v_blk g [.iload_n 2] (pc' := 4) (lv' := [(2, .int (((24 : Int32) + (-8 : Int32)) + (-8 : Int32))), (0, .ref m), (1, .int v)]) (st' := [.int (((24 : Int32) + (-8 : Int32)) + (-8 : Int32))]) (by decide +kernel) rfl rfl ?_
  refine v_if_lt g (off := 35) (tgt := 39) (by decide +kernel) (by decide) (fun c => absurd c (by decide)) (fun _ => ?_)
  refine v_blk g [.aload_n 0] (pc' := 8) (lv' := [(2, .int (((24 : Int32) + (-8 : Int32)) + (-8 : Int32))), (0, .ref m), (1, .int v)]) (st' := [.ref m]) (by decide +kernel) rfl rfl ?_
  refine v_get g h4_m fl_X8_19 rfl (by decide +kernel) ?_
  refine v_blk g [.aload_n 0] (pc' := 12) (lv' := [(2, .int (((24 : Int32) + (-8 : Int32)) + (-8 : Int32))), (0, .ref m), (1, .int v)]) (st' := [.ref m, .ref (R 3)]) (by decide +kernel) rfl rfl ?_
  refine v_get g h4_m fl_X8_110 rfl (by decide +kernel) ?_
  refine v_blk g [.iload_n 1, .iload_n 2, .ishr, .sipush 255, .iand] (pc' := 22) (lv' := [(2, .int (((24 : Int32) + (-8 : Int32)) + (-8 : Int32))), (0, .ref m), (1, .int v)]) (st' := [.int ((v >>> ((((24 : Int32) + (-8 : Int32)) + (-8 : Int32)) &&& (31 : Int32))) &&& (255 : Int32)), .int (nI (n + 2)), .ref (R 3)]) (by decide +kernel) rfl rfl ?_
  refine v_ti (z := bt8 v 8) (sh_bt8 v 8 (by decide) (by decide) (by decide)) ?_
  refine v_iast g h4_R3 (n + 2) rfl (by omega) (Nat.le_of_ble_eq_true rfl) (by decide +kernel) ?_
  refine v_h (fun h5 eh5 => ?_)
  have h5_c : h5.2.1 = h.2.1 + 0 ∧ h5.2.2 = h.2.2 + 0 := zcs eh5 h4_c
  have h5_m : h5.1 m = some (oM R (nI (n + 2)) fk fp cn ha un dm wk hl pd pm cu ct dt hlt pdt pt hg th at9 sz) := by rw [eh5]; exact z_so h4_m (z_ne hm k3 rfl)
  have h5_R3 : h5.1 (R 3) = some (aI 200 (upd (upd (upd B n (bt8 v 24)) (n + 1) (bt8 v 16)) (n + 2) (bt8 v 8))) := by rw [eh5]; exact z_s_self _ _ _
  refine v_blk g [.aload_n 0, .dup] (pc' := 25) (lv' := [(2, .int (((24 : Int32) + (-8 : Int32)) + (-8 : Int32))), (0, .ref m), (1, .int v)]) (st' := [.ref m, .ref m]) (by decide +kernel) rfl rfl ?_
  refine v_get g h5_m fl_X8_110 rfl (by decide +kernel) ?_
  refine v_blk g [.iconst 1, .iadd] (pc' := 30) (lv' := [(2, .int (((24 : Int32) + (-8 : Int32)) + (-8 : Int32))), (0, .ref m), (1, .int v)]) (st' := [.int ((nI (n + 2)) + (1 : Int32)), .ref m]) (by decide +kernel) rfl rfl ?_
  refine v_ti (z := nI (n + 3)) (nI_1 (n + 2)) ?_
  refine v_put g (fs' := oMl R (nI (n + 3)) fk fp cn ha un dm wk hl pd pm cu ct dt hlt pdt pt hg th at9 sz) h5_m fl_X8_110 rfl rfl (Nat.le_of_ble_eq_true rfl) rfl (by decide +kernel) ?_
  refine v_h (fun h6 eh6 => ?_)
  have h6_c : h6.2.1 = h.2.1 + 0 ∧ h6.2.2 = h.2.2 + 0 := zcs eh6 h5_c
  have h6_m : h6.1 m = some (oM R (nI (n + 3)) fk fp cn ha un dm wk hl pd pm cu ct dt hlt pdt pt hg th at9 sz) := by rw [eh6]; exact z_s_self _ _ _
  have h6_R3 : h6.1 (R 3) = some (aI 200 (upd (upd (upd B n (bt8 v 24)) (n + 1) (bt8 v 16)) (n + 2) (bt8 v 8))) := by rw [eh6]; exact z_so h5_R3 (Ne.symm (z_ne hm k3 rfl))
  refine v_blk g [.iinc 2 (-8)] (pc' := 36) (lv' := [(2, .int ((((24 : Int32) + (-8 : Int32)) + (-8 : Int32)) + (-8 : Int32))), (0, .ref m), (1, .int v)]) (st' := []) (by decide +kernel) rfl rfl ?_
  refine v_goto g (off := -33) (tgt := 3) (by decide +kernel) (by decide) ?_
  refine v_blk g [.iload_n 2] (pc' := 4) (lv' := [(2, .int ((((24 : Int32) + (-8 : Int32)) + (-8 : Int32)) + (-8 : Int32))), (0, .ref m), (1, .int v)]) (st' := [.int ((((24 : Int32) + (-8 : Int32)) + (-8 : Int32)) + (-8 : Int32))]) (by decide +kernel) rfl rfl ?_
  refine v_if_lt g (off := 35) (tgt := 39) (by decide +kernel) (by decide) (fun c => absurd c (by decide)) (fun _ => ?_)
  refine v_blk g [.aload_n 0] (pc' := 8) (lv' := [(2, .int ((((24 : Int32) + (-8 : Int32)) + (-8 : Int32)) + (-8 : Int32))), (0, .ref m), (1, .int v)]) (st' := [.ref m]) (by decide +kernel) rfl rfl ?_
  refine v_get g h6_m fl_X8_19 rfl (by decide +kernel) ?_
  refine v_blk g [.aload_n 0] (pc' := 12) (lv' := [(2, .int ((((24 : Int32) + (-8 : Int32)) + (-8 : Int32)) + (-8 : Int32))), (0, .ref m), (1, .int v)]) (st' := [.ref m, .ref (R 3)]) (by decide +kernel) rfl rfl ?_
  refine v_get g h6_m fl_X8_110 rfl (by decide +kernel) ?_
  refine v_blk g [.iload_n 1, .iload_n 2, .ishr, .sipush 255, .iand] (pc' := 22) (lv' := [(2, .int ((((24 : Int32) + (-8 : Int32)) + (-8 : Int32)) + (-8 : Int32))), (0, .ref m), (1, .int v)]) (st' := [.int ((v >>> (((((24 : Int32) + (-8 : Int32)) + (-8 : Int32)) + (-8 : Int32)) &&& (31 : Int32))) &&& (255 : Int32)), .int (nI (n + 3)), .ref (R 3)]) (by decide +kernel) rfl rfl ?_
  refine v_ti (z := bt8 v 0) (sh_bt8 v 0 (by decide) (by decide) (by decide)) ?_
  refine v_iast g h6_R3 (n + 3) rfl (by omega) (Nat.le_of_ble_eq_true rfl) (by decide +kernel) ?_
  refine v_h (fun h7 eh7 => ?_)
  have h7_c : h7.2.1 = h.2.1 + 0 ∧ h7.2.2 = h.2.2 + 0 := zcs eh7 h6_c
  have h7_m : h7.1 m = some (oM R (nI (n + 3)) fk fp cn ha un dm wk hl pd pm cu ct dt hlt pdt pt hg th at9 sz) := by rw [eh7]; exact z_so h6_m (z_ne hm k3 rfl)
  have h7_R3 : h7.1 (R 3) = some (aI 200 (upd (upd (upd (upd B n (bt8 v 24)) (n + 1) (bt8 v 16)) (n + 2) (bt8 v 8)) (n + 3) (bt8 v 0))) := by rw [eh7]; exact z_s_self _ _ _
  refine v_blk g [.aload_n 0, .dup] (pc' := 25) (lv' := [(2, .int ((((24 : Int32) + (-8 : Int32)) + (-8 : Int32)) + (-8 : Int32))), (0, .ref m), (1, .int v)]) (st' := [.ref m, .ref m]) (by decide +kernel) rfl rfl ?_
  refine v_get g h7_m fl_X8_110 rfl (by decide +kernel) ?_
  refine v_blk g [.iconst 1, .iadd] (pc' := 30) (lv' := [(2, .int ((((24 : Int32) + (-8 : Int32)) + (-8 : Int32)) + (-8 : Int32))), (0, .ref m), (1, .int v)]) (st' := [.int ((nI (n + 3)) + (1 : Int32)), .ref m]) (by decide +kernel) rfl rfl ?_
  refine v_ti (z := nI (n + 4)) (nI_1 (n + 3)) ?_
  refine v_put g (fs' := oMl R (nI (n + 4)) fk fp cn ha un dm wk hl pd pm cu ct dt hlt pdt pt hg th at9 sz) h7_m fl_X8_110 rfl rfl (Nat.le_of_ble_eq_true rfl) rfl (by decide +kernel) ?_
  refine v_h (fun h8 eh8 => ?_)
  have h8_c : h8.2.1 = h.2.1 + 0 ∧ h8.2.2 = h.2.2 + 0 := zcs eh8 h7_c
  have h8_m : h8.1 m = some (oM R (nI (n + 4)) fk fp cn ha un dm wk hl pd pm cu ct dt hlt pdt pt hg th at9 sz) := by rw [eh8]; exact z_s_self _ _ _
  have h8_R3 : h8.1 (R 3) = some (aI 200 (upd (upd (upd (upd B n (bt8 v 24)) (n + 1) (bt8 v 16)) (n + 2) (bt8 v 8)) (n + 3) (bt8 v 0))) := by rw [eh8]; exact z_so h7_R3 (Ne.symm (z_ne hm k3 rfl))
  refine v_blk g [.iinc 2 (-8)] (pc' := 36) (lv' := [(2, .int (((((24 : Int32) + (-8 : Int32)) + (-8 : Int32)) + (-8 : Int32)) + (-8 : Int32))), (0, .ref m), (1, .int v)]) (st' := []) (by decide +kernel) rfl rfl ?_
  refine v_goto g (off := -33) (tgt := 3) (by decide +kernel) (by decide) ?_
  refine v_blk g [.iload_n 2] (pc' := 4) (lv' := [(2, .int (((((24 : Int32) + (-8 : Int32)) + (-8 : Int32)) + (-8 : Int32)) + (-8 : Int32))), (0, .ref m), (1, .int v)]) (st' := [.int (((((24 : Int32) + (-8 : Int32)) + (-8 : Int32)) + (-8 : Int32)) + (-8 : Int32))]) (by decide +kernel) rfl rfl ?_
  refine v_if_lt g (off := 35) (tgt := 39) (by decide +kernel) (by decide) (fun _ => ?_) (fun c => absurd c (by decide))
  exact v_vret g z rfl (by decide +kernel) ⟨rfl, by rw [eh8, eh7, eh6, eh5, eh4, eh3, eh2, eh1]; simp only [z_s2 _ _ _ _ (z_ne k3 hm rfl)]; rfl⟩ (zcrn 0 0 h8_c.1 h8_c.2 (Nat.le_of_ble_eq_true rfl) (Nat.le_of_ble_eq_true rfl))
