set_option maxRecDepth 100000 in
set_option maxHeartbeats 4000000 in
theorem m_end {F : zF} {h : zH} {m : Nat} {R : Nat → Nat} {fk fp cn ha un dm wk pm cu ct dt pt hg th at9 sz : Int32} {hl pd hlt pdt : Int64} {n : Nat} (hm : h.1 m = some (oM R (nI n) fk fp cn ha un dm wk hl pd pm cu ct dt hlt pdt pt hg th at9 sz)) (v : Int32) : zMet F yX8_end cX8_end 2 (some .boolean) { frames := 1, cells := 0, slots := 0, locals := 30 } [.ref m, .int v] h (zP (if x_cut n v = 0 then z_s h m (oM R (nI n) fk fp cn ha un dm wk hl pd pm cu ct dt hlt pdt pt hg 0 at9 sz) else z_s h m (oM R v fk fp cn ha un dm wk hl pd pm cu ct dt hlt pdt pt hg 0 at9 sz)) (some (.int (x_cut n v)))) := by
  refine zMet_of (lv := [(0, .ref m), (1, .int v)]) (by decide) (by simp [lg_sl, Value.category]) rfl ?_
  intro X g z
  refine v_blk g [.aload_n 0, .iconst 0] (pc' := 2) (lv' := [(0, .ref m), (1, .int v)]) (st' := [.int (0 : Int32), .ref m]) (by decide +kernel) rfl rfl ?_
  refine v_put g (fs' := oMl R (nI n) fk fp cn ha un dm wk hl pd pm cu ct dt hlt pdt pt hg (0 : Int32) at9 sz) hm fl_X8_89 rfl rfl (Nat.le_of_ble_eq_true rfl) rfl (by decide +kernel) ?_
  refine v_h (fun h1 eh1 => ?_)
  have h1_c : h1.2.1 = h.2.1 + 0 ∧ h1.2.2 = h.2.2 + 0 := zcs eh1 ⟨rfl, rfl⟩
  have h1_m : h1.1 m = some (oM R (nI n) fk fp cn ha un dm wk hl pd pm cu ct dt hlt pdt pt hg (0 : Int32) at9 sz) := by rw [eh1]; exact z_s_self _ _ _
  refine v_blk g [.iload_n 1] (pc' := 6) (lv' := [(0, .ref m), (1, .int v)]) (st' := [.int v]) (by decide +kernel) rfl rfl ?_
  refine v_if_lt g (off := 11) (tgt := 17) (by decide +kernel) (by decide) (fun c0 => ?_) (fun c0 => ?_)
  · refine v_blk g [.iconst 0] (pc' := 18) (lv' := [(0, .ref m), (1, .int v)]) (st' := [.int (0 : Int32)]) (by decide +kernel) rfl rfl ?_
    exact v_zret g z rfl (by decide) (by decide +kernel) ⟨by rw [x_cut, if_pos c0], by rw [x_cut, if_pos c0, if_pos rfl, eh1]⟩ (zcrn 0 0 h1_c.1 h1_c.2 (Nat.le_of_ble_eq_true rfl) (Nat.le_of_ble_eq_true rfl))
  · refine v_blk g [.iload_n 1, .aload_n 0] (pc' := 11) (lv' := [(0, .ref m), (1, .int v)]) (st' := [.ref m, .int v]) (by decide +kernel) rfl rfl ?_
    refine v_get g h1_m fl_X8_110 rfl (by decide +kernel) ?_
    refine v_icmp_le g (off := 5) (tgt := 19) (by decide +kernel) (by decide) (fun c1 => ?_) (fun c1 => ?_)
    · refine v_blk g [.aload_n 0, .iload_n 1] (pc' := 21) (lv' := [(0, .ref m), (1, .int v)]) (st' := [.int v, .ref m]) (by decide +kernel) rfl rfl ?_
      refine v_put g (fs' := oMl R v fk fp cn ha un dm wk hl pd pm cu ct dt hlt pdt pt hg (0 : Int32) at9 sz) h1_m fl_X8_110 rfl rfl (Nat.le_of_ble_eq_true rfl) rfl (by decide +kernel) ?_
      refine v_h (fun h2 eh2 => ?_)
      have h2_c : h2.2.1 = h.2.1 + 0 ∧ h2.2.2 = h.2.2 + 0 := zcs eh2 h1_c
      have h2_m : h2.1 m = some (oM R v fk fp cn ha un dm wk hl pd pm cu ct dt hlt pdt pt hg (0 : Int32) at9 sz) := by rw [eh2]; exact z_s_self _ _ _
      refine v_blk g [.iconst 1] (pc' := 25) (lv' := [(0, .ref m), (1, .int v)]) (st' := [.int (1 : Int32)]) (by decide +kernel) rfl rfl ?_
      exact v_zret g z rfl (by decide) (by decide +kernel) ⟨by rw [x_cut, if_neg c0, if_pos c1], by rw [x_cut, if_neg c0, if_pos c1, if_neg (by decide), eh2, eh1, z_ss]⟩ (zcrn 0 0 h2_c.1 h2_c.2 (Nat.le_of_ble_eq_true rfl) (Nat.le_of_ble_eq_true rfl))
    · refine v_blk g [.iconst 0] (pc' := 18) (lv' := [(0, .ref m), (1, .int v)]) (st' := [.int (0 : Int32)]) (by decide +kernel) rfl rfl ?_
      exact v_zret g z rfl (by decide) (by decide +kernel) ⟨by rw [x_cut, if_neg c0, if_neg c1], by rw [x_cut, if_neg c0, if_neg c1, if_pos rfl, eh1]⟩ (zcrn 0 0 h1_c.1 h1_c.2 (Nat.le_of_ble_eq_true rfl) (Nat.le_of_ble_eq_true rfl))

set_option maxRecDepth 100000 in
set_option maxHeartbeats 4000000 in
theorem m_here {F : zF} {h : zH} {m : Nat} {R : Nat → Nat} {tp fk fp cn ha un dm wk pm cu ct dt pt hg th : Int32} {hl pd hlt pdt : Int64} {n p : Nat} (hm : h.1 m = some (oM R tp fk fp cn ha un dm wk hl pd pm cu ct dt hlt pdt pt hg th (nI p) (nI n))) {B : Nat → Int32} (k3 : h.1 (R 3) = some (aI 200 B)) (hn : n ≤ 200) (hp : p ≤ 1000) : zMet F yX8_here cX8_here 1 (some .int) { frames := 1, cells := 0, slots := 0, locals := 30 } [.ref m] h (zP h (some (.int (txt B n p)))) := by
  refine zMet_of (lv := [(0, .ref m)]) (by decide) (by simp [lg_sl, Value.category]) rfl ?_
  intro X g z
  refine v_blk g [.aload_n 0] (pc' := 1) (lv' := [(0, .ref m)]) (st' := [.ref m]) (by decide +kernel) rfl rfl ?_
  refine v_get g hm fl_X8_117 rfl (by decide +kernel) ?_
  refine v_blk g [.aload_n 0] (pc' := 5) (lv' := [(0, .ref m)]) (st' := [.ref m, .int (nI p)]) (by decide +kernel) rfl rfl ?_
  refine v_get g hm fl_X8_120 rfl (by decide +kernel) ?_
  refine v_icmp_ge g (off := 15) (tgt := 23) (by decide +kernel) (by decide) (fun c => ?_) (fun c => ?_)
  · have c0 : ¬ p < n := fun q => nI_ge q (by omega) c
    refine v_blk g [.iconst (-1)] (pc' := 24) (lv' := [(0, .ref m)]) (st' := [.int (-1 : Int32)]) (by decide +kernel) rfl rfl ?_
    exact v_iret g z rfl (by decide +kernel) ⟨by rw [txt, if_neg c0], rfl⟩ (zcrn 0 0 rfl rfl (Nat.le_of_ble_eq_true rfl) (Nat.le_of_ble_eq_true rfl))
  · have c0 : p < n := Classical.byContradiction (fun q => c (nI_le (by omega) (by omega)))
    refine v_blk g [.aload_n 0] (pc' := 12) (lv' := [(0, .ref m)]) (st' := [.ref m]) (by decide +kernel) rfl rfl ?_
    refine v_get g hm fl_X8_19 rfl (by decide +kernel) ?_
    refine v_blk g [.aload_n 0] (pc' := 16) (lv' := [(0, .ref m)]) (st' := [.ref m, .ref (R 3)]) (by decide +kernel) rfl rfl ?_
    refine v_get g hm fl_X8_117 rfl (by decide +kernel) ?_
    refine v_iald g k3 p rfl (by omega) (Nat.le_of_ble_eq_true rfl) (by decide +kernel) ?_
    refine v_goto g (off := 4) (tgt := 24) (by decide +kernel) (by decide) ?_
    exact v_iret g z rfl (by decide +kernel) ⟨by rw [txt, if_pos c0], rfl⟩ (zcrn 0 0 rfl rfl (Nat.le_of_ble_eq_true rfl) (Nat.le_of_ble_eq_true rfl))

set_option maxRecDepth 100000 in
set_option maxHeartbeats 4000000 in
theorem m_isDigit {F : zF} {h : zH} {m : Nat} {R : Nat → Nat} {tp fk fp cn ha un dm wk pm cu ct dt pt hg th : Int32} {hl pd hlt pdt : Int64} {n p : Nat} (hm : h.1 m = some (oM R tp fk fp cn ha un dm wk hl pd pm cu ct dt hlt pdt pt hg th (nI p) (nI n))) {B : Nat → Int32} (k3 : h.1 (R 3) = some (aI 200 B)) (hn : n ≤ 200) (hp : p ≤ 1000) : zMet F yX8_isDigit cX8_isDigit 1 (some .boolean) { frames := 2, cells := 0, slots := 0, locals := 60 } [.ref m] h (zP h (some (.int (x_digit (txt B n p))))) := by
  refine zMet_of (lv := [(0, .ref m)]) (by decide) (by simp [lg_sl, Value.category]) rfl ?_
  intro X g z
  refine v_blk g [.aload_n 0] (pc' := 1) (lv' := [(0, .ref m)]) (st' := [.ref m]) (by decide +kernel) rfl rfl ?_
  refine v_callVp g (rest := []) (m_here hm k3 hn hp) cl_X8_123 hm rfl rfl (Nat.le_of_ble_eq_true rfl) (by decide +kernel) ⟨Nat.le_of_ble_eq_true rfl, Nat.le_of_ble_eq_true rfl⟩ (zcsn 0 0 rfl rfl (Nat.le_of_ble_eq_true rfl) (Nat.le_of_ble_eq_true rfl)) ?_
  show zV F X h 4 [(0, .ref m)] [.int (txt B n p)]
  refine v_blk g [.bipush 48] (pc' := 6) (lv' := [(0, .ref m)]) (st' := [.int (48 : Int32), .int (txt B n p)]) (by decide +kernel) rfl rfl ?_
  refine v_icmp_lt g (off := 16) (tgt := 22) (by decide +kernel) (by decide) (fun c0 => ?_) (fun c0 => ?_)
  · refine v_blk g [.iconst 0] (pc' := 23) (lv' := [(0, .ref m)]) (st' := [.int (0 : Int32)]) (by decide +kernel) rfl rfl ?_
    exact v_zret g z rfl (by decide) (by decide +kernel) ⟨by rw [x_digit, if_pos c0], rfl⟩ (zcrn 0 0 rfl rfl (Nat.le_of_ble_eq_true rfl) (Nat.le_of_ble_eq_true rfl))
  · refine v_blk g [.aload_n 0] (pc' := 10) (lv' := [(0, .ref m)]) (st' := [.ref m]) (by decide +kernel) rfl rfl ?_
    refine v_callVp g (rest := []) (m_here hm k3 hn hp) cl_X8_123 hm rfl rfl (Nat.le_of_ble_eq_true rfl) (by decide +kernel) ⟨Nat.le_of_ble_eq_true rfl, Nat.le_of_ble_eq_true rfl⟩ (zcsn 0 0 rfl rfl (Nat.le_of_ble_eq_true rfl) (Nat.le_of_ble_eq_true rfl)) ?_
    show zV F X h 13 [(0, .ref m)] [.int (txt B n p)]
    refine v_blk g [.bipush 57] (pc' := 15) (lv' := [(0, .ref m)]) (st' := [.int (57 : Int32), .int (txt B n p)]) (by decide +kernel) rfl rfl ?_
    refine v_icmp_gt g (off := 7) (tgt := 22) (by decide +kernel) (by decide) (fun c1 => ?_) (fun c1 => ?_)
    · refine v_blk g [.iconst 0] (pc' := 23) (lv' := [(0, .ref m)]) (st' := [.int (0 : Int32)]) (by decide +kernel) rfl rfl ?_
      exact v_zret g z rfl (by decide) (by decide +kernel) ⟨by rw [x_digit, if_neg c0, if_pos c1], rfl⟩ (zcrn 0 0 rfl rfl (Nat.le_of_ble_eq_true rfl) (Nat.le_of_ble_eq_true rfl))
    · refine v_blk g [.iconst 1] (pc' := 19) (lv' := [(0, .ref m)]) (st' := [.int (1 : Int32)]) (by decide +kernel) rfl rfl ?_
      refine v_goto g (off := 4) (tgt := 23) (by decide +kernel) (by decide) ?_
      exact v_zret g z rfl (by decide) (by decide +kernel) ⟨by rw [x_digit, if_neg c0, if_neg c1], rfl⟩ (zcrn 0 0 rfl rfl (Nat.le_of_ble_eq_true rfl) (Nat.le_of_ble_eq_true rfl))

set_option maxRecDepth 100000 in
set_option maxHeartbeats 4000000 in
theorem m_fails {F : zF} {h : zH} {m : Nat} {R : Nat → Nat} {tp fp cn ha un dm wk pm cu ct dt pt hg th at9 sz : Int32} {hl pd hlt pdt : Int64} (hm : h.1 m = some (oM R tp 0 fp cn ha un dm wk hl pd pm cu ct dt hlt pdt pt hg th at9 sz)) (kd pl : Int32) : zMet F yX8_fails cX8_fails 3 (some .boolean) { frames := 1, cells := 0, slots := 0, locals := 30 } [.ref m, .int kd, .int pl] h (zP (z_s h m (oM R tp kd pl cn ha un dm wk hl pd pm cu ct dt hlt pdt pt hg th at9 sz)) (some (.int 0))) := by
  refine zMet_of (lv := [(0, .ref m), (1, .int kd), (2, .int pl)]) (by decide) (by simp [lg_sl, Value.category]) rfl ?_
  intro X g z
  refine v_blk g [.aload_n 0] (pc' := 1) (lv' := [(0, .ref m), (1, .int kd), (2, .int pl)]) (st' := [.ref m]) (by decide +kernel) rfl rfl ?_
  refine v_get g hm fl_X8_127 rfl (by decide +kernel) ?_
  refine v_if_ne g (off := 13) (tgt := 17) (by decide +kernel) (by decide) (fun c => absurd c (fun q => q rfl)) (fun _ => ?_)
  refine v_blk g [.aload_n 0, .iload_n 1] (pc' := 9) (lv' := [(0, .ref m), (1, .int kd), (2, .int pl)]) (st' := [.int kd, .ref m]) (by decide +kernel) rfl rfl ?_
  refine v_put g (fs' := oMl R tp kd fp cn ha un dm wk hl pd pm cu ct dt hlt pdt pt hg th at9 sz) hm fl_X8_127 rfl rfl (Nat.le_of_ble_eq_true rfl) rfl (by decide +kernel) ?_
  refine v_h (fun h1 eh1 => ?_)
  have h1_c : h1.2.1 = h.2.1 + 0 ∧ h1.2.2 = h.2.2 + 0 := zcs eh1 ⟨rfl, rfl⟩
  have h1_m : h1.1 m = some (oM R tp kd fp cn ha un dm wk hl pd pm cu ct dt hlt pdt pt hg th at9 sz) := by rw [eh1]; exact z_s_self _ _ _
  refine v_blk g [.aload_n 0, .iload_n 2] (pc' := 14) (lv' := [(0, .ref m), (1, .int kd), (2, .int pl)]) (st' := [.int pl, .ref m]) (by decide +kernel) rfl rfl ?_
  refine v_put g (fs' := oMl R tp kd pl cn ha un dm wk hl pd pm cu ct dt hlt pdt pt hg th at9 sz) h1_m fl_X8_130 rfl rfl (Nat.le_of_ble_eq_true rfl) rfl (by decide +kernel) ?_
  refine v_h (fun h2 eh2 => ?_)
  have h2_c : h2.2.1 = h.2.1 + 0 ∧ h2.2.2 = h.2.2 + 0 := zcs eh2 h1_c
  have h2_m : h2.1 m = some (oM R tp kd pl cn ha un dm wk hl pd pm cu ct dt hlt pdt pt hg th at9 sz) := by rw [eh2]; exact z_s_self _ _ _
  refine v_blk g [.iconst 0] (pc' := 18) (lv' := [(0, .ref m), (1, .int kd), (2, .int pl)]) (st' := [.int (0 : Int32)]) (by decide +kernel) rfl rfl ?_
  exact v_zret g z rfl (by decide) (by decide +kernel) ⟨rfl, by rw [eh2, eh1, z_ss]⟩ (zcrn 0 0 h2_c.1 h2_c.2 (Nat.le_of_ble_eq_true rfl) (Nat.le_of_ble_eq_true rfl))

theorem num1x {d : Nat} (hd : d < 10) : (10 : Int32) * (0 : Int32) + nI (48 + d) - (48 : Int32) = nI d := by
  rw [Int32.mul_comm]; exact num1 hd
theorem num2x {d d2 : Nat} (hd : d < 10) (hd2 : d2 < 10) : (10 : Int32) * ((10 : Int32) * (0 : Int32) + nI (48 + d) - (48 : Int32)) + nI (48 + d2) - (48 : Int32) = nI (10 * d + d2) := by
  rw [num1x hd, Int32.mul_comm]; exact num2 hd hd2

set_option maxRecDepth 100000 in
set_option maxHeartbeats 4000000 in
theorem m_number {F : zF} {h : zH} {m : Nat} {R : Nat → Nat} {tp fk fp cn ha un dm wk pm cu ct dt pt hg th : Int32} {hl pd hlt pdt : Int64} {n p : Nat} (hm : h.1 m = some (oM R tp fk fp cn ha un dm wk hl pd pm cu ct dt hlt pdt pt hg th (nI p) (nI n))) {B : Nat → Int32} (k3 : h.1 (R 3) = some (aI 200 B)) (hn : n ≤ 200) (hp : p ≤ 1000) (hd : ¬ dg (txt B n) p = 0) : zMet F yX8_number cX8_number 3 (some .int) { frames := 3, cells := 0, slots := 0, locals := 90 } [.ref m] h (zP (z_s h m (oM R tp fk fp cn ha un dm wk hl pd pm cu ct dt hlt pdt pt hg th (nI (p + dg (txt B n) p)) (nI n))) (some (.int (nI (numv (txt B n) p))))) := by
  refine zMet_of (lv := [(0, .ref m)]) (by decide) (by simp [lg_sl, Value.category]) rfl ?_
  intro X g z
  have d0 : ¬ x_digit (txt B n p) = 0 := fun q => hd (by rw [dg, if_pos q])
  obtain ⟨d, hd10, ed, ed2⟩ := dig_is d0
  have hpn := dig_in d0
  refine v_blk g [.iconst 0, .istore_n 1, .iconst 0, .istore_n 2] (pc' := 4) (lv' := [(2, .int (0 : Int32)), (1, .int (0 : Int32)), (0, .ref m)]) (st' := []) (by decide +kernel) rfl rfl ?_
  refine v_blk g [.iload_n 2, .iconst 2] (pc' := 6) (lv' := [(2, .int (0 : Int32)), (1, .int (0 : Int32)), (0, .ref m)]) (st' := [.int (2 : Int32), .int (0 : Int32)]) (by decide +kernel) rfl rfl ?_
  refine v_icmp_ge g (off := 39) (tgt := 45) (by decide +kernel) (by decide) (fun c => absurd c (by decide)) (fun _ => ?_)
  refine v_blk g [.aload_n 0] (pc' := 10) (lv' := [(2, .int (0 : Int32)), (1, .int (0 : Int32)), (0, .ref m)]) (st' := [.ref m]) (by decide +kernel) rfl rfl ?_
  refine v_callVp g (rest := []) (m_isDigit hm k3 hn hp) cl_X8_133 hm rfl rfl (Nat.le_of_ble_eq_true rfl) (by decide +kernel) ⟨Nat.le_of_ble_eq_true rfl, Nat.le_of_ble_eq_true rfl⟩ (zcsn 0 0 rfl rfl (Nat.le_of_ble_eq_true rfl) (Nat.le_of_ble_eq_true rfl)) ?_
  show zV F X h 13 [(2, .int (0 : Int32)), (1, .int (0 : Int32)), (0, .ref m)] [.int (x_digit (txt B n p))]
  refine v_if_eq g (off := 32) (tgt := 45) (by decide +kernel) (by decide) (fun c => absurd c d0) (fun _ => ?_)
  refine v_blk g [.bipush 10, .iload_n 1, .imul, .aload_n 0] (pc' := 21) (lv' := [(2, .int (0 : Int32)), (1, .int (0 : Int32)), (0, .ref m)]) (st' := [.ref m, .int ((10 : Int32) * (0 : Int32))]) (by decide +kernel) rfl rfl ?_
  refine v_callVp g (rest := [.int ((10 : Int32) * (0 : Int32))]) (m_here hm k3 hn hp) cl_X8_123 hm rfl rfl (Nat.le_of_ble_eq_true rfl) (by decide +kernel) ⟨Nat.le_of_ble_eq_true rfl, Nat.le_of_ble_eq_true rfl⟩ (zcsn 0 0 rfl rfl (Nat.le_of_ble_eq_true rfl) (Nat.le_of_ble_eq_true rfl)) ?_
  show zV F X h 24 [(2, .int (0 : Int32)), (1, .int (0 : Int32)), (0, .ref m)] [.int (txt B n p), .int ((10 : Int32) * (0 : Int32))]
  refine v_ti (z := nI (48 + d)) (ed) ?_
  refine v_blk g [.iadd, .bipush 48, .isub, .istore_n 1, .aload_n 0, .dup] (pc' := 31) (lv' := [(1, .int ((((10 : Int32) * (0 : Int32)) + (nI (48 + d))) - (48 : Int32))), (2, .int (0 : Int32)), (0, .ref m)]) (st' := [.ref m, .ref m]) (by decide +kernel) rfl rfl ?_
  refine v_get g hm fl_X8_117 rfl (by decide +kernel) ?_
  refine v_blk g [.iconst 1, .iadd] (pc' := 36) (lv' := [(1, .int ((((10 : Int32) * (0 : Int32)) + (nI (48 + d))) - (48 : Int32))), (2, .int (0 : Int32)), (0, .ref m)]) (st' := [.int ((nI p) + (1 : Int32)), .ref m]) (by decide +kernel) rfl rfl ?_
  refine v_ti (z := nI (p + 1)) (nI_1 p) ?_
  refine v_put g (fs' := oMl R tp fk fp cn ha un dm wk hl pd pm cu ct dt hlt pdt pt hg th (nI (p + 1)) (nI n)) hm fl_X8_117 rfl rfl (Nat.le_of_ble_eq_true rfl) rfl (by decide +kernel) ?_
  refine v_h (fun h1 eh1 => ?_)
  have h1_c : h1.2.1 = h.2.1 + 0 ∧ h1.2.2 = h.2.2 + 0 := zcs eh1 ⟨rfl, rfl⟩
  have h1_m : h1.1 m = some (oM R tp fk fp cn ha un dm wk hl pd pm cu ct dt hlt pdt pt hg th (nI (p + 1)) (nI n)) := by rw [eh1]; exact z_s_self _ _ _
  have h1_R3 : h1.1 (R 3) = some (aI 200 B) := by rw [eh1]; exact z_so k3 (Ne.symm (z_ne hm k3 rfl))
  refine v_blk g [.iinc 2 1] (pc' := 42) (lv' := [(2, .int ((0 : Int32) + (1 : Int32))), (1, .int ((((10 : Int32) * (0 : Int32)) + (nI (48 + d))) - (48 : Int32))), (0, .ref m)]) (st' := []) (by decide +kernel) rfl rfl ?_
  refine v_goto g (off := -38) (tgt := 4) (by decide +kernel) (by decide) ?_
  refine v_blk g [.iload_n 2, .iconst 2] (pc' := 6) (lv' := [(2, .int ((0 : Int32) + (1 : Int32))), (1, .int ((((10 : Int32) * (0 : Int32)) + (nI (48 + d))) - (48 : Int32))), (0, .ref m)]) (st' := [.int (2 : Int32), .int ((0 : Int32) + (1 : Int32))]) (by decide +kernel) rfl rfl ?_
  refine v_icmp_ge g (off := 39) (tgt := 45) (by decide +kernel) (by decide) (fun c => absurd c (by decide)) (fun _ => ?_)
  refine v_blk g [.aload_n 0] (pc' := 10) (lv' := [(2, .int ((0 : Int32) + (1 : Int32))), (1, .int ((((10 : Int32) * (0 : Int32)) + (nI (48 + d))) - (48 : Int32))), (0, .ref m)]) (st' := [.ref m]) (by decide +kernel) rfl rfl ?_
  refine v_callVp g (rest := []) (m_isDigit h1_m h1_R3 hn (by omega)) cl_X8_133 h1_m rfl rfl (Nat.le_of_ble_eq_true rfl) (by decide +kernel) ⟨Nat.le_of_ble_eq_true rfl, Nat.le_of_ble_eq_true rfl⟩ (zcsn 0 0 h1_c.1 h1_c.2 (Nat.le_of_ble_eq_true rfl) (Nat.le_of_ble_eq_true rfl)) ?_
  show zV F X h1 13 [(2, .int ((0 : Int32) + (1 : Int32))), (1, .int ((((10 : Int32) * (0 : Int32)) + (nI (48 + d))) - (48 : Int32))), (0, .ref m)] [.int (x_digit (txt B n (p + 1)))]
  refine v_if_eq g (off := 32) (tgt := 45) (by decide +kernel) (by decide) (fun c => ?_) (fun c => ?_)
  · have e1 : dg (txt B n) p = 1 := by rw [dg, if_neg d0, if_pos c]
    refine v_blk g [.iload_n 1] (pc' := 46) (lv' := [(2, .int ((0 : Int32) + (1 : Int32))), (1, .int ((((10 : Int32) * (0 : Int32)) + (nI (48 + d))) - (48 : Int32))), (0, .ref m)]) (st' := [.int ((((10 : Int32) * (0 : Int32)) + (nI (48 + d))) - (48 : Int32))]) (by decide +kernel) rfl rfl ?_
    refine v_ti (z := nI (numv (txt B n) p)) (by rw [numv, if_neg (by omega), dgv, ed2]; exact num1x hd10) ?_
    exact v_iret g z rfl (by decide +kernel) ⟨rfl, by rw [eh1, e1]⟩ (zcrn 0 0 h1_c.1 h1_c.2 (Nat.le_of_ble_eq_true rfl) (Nat.le_of_ble_eq_true rfl))
  · have e2 : dg (txt B n) p = 2 := by rw [dg, if_neg d0, if_neg c]
    obtain ⟨d2, hd2, edd, edd2⟩ := dig_is c
    refine v_blk g [.bipush 10, .iload_n 1, .imul, .aload_n 0] (pc' := 21) (lv' := [(2, .int ((0 : Int32) + (1 : Int32))), (1, .int ((((10 : Int32) * (0 : Int32)) + (nI (48 + d))) - (48 : Int32))), (0, .ref m)]) (st' := [.ref m, .int ((10 : Int32) * ((((10 : Int32) * (0 : Int32)) + (nI (48 + d))) - (48 : Int32)))]) (by decide +kernel) rfl rfl ?_
    refine v_callVp g (rest := [.int ((10 : Int32) * ((((10 : Int32) * (0 : Int32)) + (nI (48 + d))) - (48 : Int32)))]) (m_here h1_m h1_R3 hn (by omega)) cl_X8_123 h1_m rfl rfl (Nat.le_of_ble_eq_true rfl) (by decide +kernel) ⟨Nat.le_of_ble_eq_true rfl, Nat.le_of_ble_eq_true rfl⟩ (zcsn 0 0 h1_c.1 h1_c.2 (Nat.le_of_ble_eq_true rfl) (Nat.le_of_ble_eq_true rfl)) ?_
    show zV F X h1 24 [(2, .int ((0 : Int32) + (1 : Int32))), (1, .int ((((10 : Int32) * (0 : Int32)) + (nI (48 + d))) - (48 : Int32))), (0, .ref m)] [.int (txt B n (p + 1)), .int ((10 : Int32) * ((((10 : Int32) * (0 : Int32)) + (nI (48 + d))) - (48 : Int32)))]
    refine v_ti (z := nI (48 + d2)) (edd) ?_
    refine v_blk g [.iadd, .bipush 48, .isub, .istore_n 1, .aload_n 0, .dup] (pc' := 31) (lv' := [(1, .int ((((10 : Int32) * ((((10 : Int32) * (0 : Int32)) + (nI (48 + d))) - (48 : Int32))) + (nI (48 + d2))) - (48 : Int32))), (2, .int ((0 : Int32) + (1 : Int32))), (0, .ref m)]) (st' := [.ref m, .ref m]) (by decide +kernel) rfl rfl ?_
    refine v_get g h1_m fl_X8_117 rfl (by decide +kernel) ?_
    refine v_blk g [.iconst 1, .iadd] (pc' := 36) (lv' := [(1, .int ((((10 : Int32) * ((((10 : Int32) * (0 : Int32)) + (nI (48 + d))) - (48 : Int32))) + (nI (48 + d2))) - (48 : Int32))), (2, .int ((0 : Int32) + (1 : Int32))), (0, .ref m)]) (st' := [.int ((nI (p + 1)) + (1 : Int32)), .ref m]) (by decide +kernel) rfl rfl ?_
    refine v_ti (z := nI (p + 2)) (nI_1 (p + 1)) ?_
    refine v_put g (fs' := oMl R tp fk fp cn ha un dm wk hl pd pm cu ct dt hlt pdt pt hg th (nI (p + 2)) (nI n)) h1_m fl_X8_117 rfl rfl (Nat.le_of_ble_eq_true rfl) rfl (by decide +kernel) ?_
    refine v_h (fun h2 eh2 => ?_)
    have h2_c : h2.2.1 = h.2.1 + 0 ∧ h2.2.2 = h.2.2 + 0 := zcs eh2 h1_c
    have h2_m : h2.1 m = some (oM R tp fk fp cn ha un dm wk hl pd pm cu ct dt hlt pdt pt hg th (nI (p + 2)) (nI n)) := by rw [eh2]; exact z_s_self _ _ _
    have h2_R3 : h2.1 (R 3) = some (aI 200 B) := by rw [eh2]; exact z_so h1_R3 (Ne.symm (z_ne hm k3 rfl))
    refine v_blk g [.iinc 2 1] (pc' := 42) (lv' := [(2, .int (((0 : Int32) + (1 : Int32)) + (1 : Int32))), (1, .int ((((10 : Int32) * ((((10 : Int32) * (0 : Int32)) + (nI (48 + d))) - (48 : Int32))) + (nI (48 + d2))) - (48 : Int32))), (0, .ref m)]) (st' := []) (by decide +kernel) rfl rfl ?_
    refine v_goto g (off := -38) (tgt := 4) (by decide +kernel) (by decide) ?_
    refine v_blk g [.iload_n 2, .iconst 2] (pc' := 6) (lv' := [(2, .int (((0 : Int32) + (1 : Int32)) + (1 : Int32))), (1, .int ((((10 : Int32) * ((((10 : Int32) * (0 : Int32)) + (nI (48 + d))) - (48 : Int32))) + (nI (48 + d2))) - (48 : Int32))), (0, .ref m)]) (st' := [.int (2 : Int32), .int (((0 : Int32) + (1 : Int32)) + (1 : Int32))]) (by decide +kernel) rfl rfl ?_
    refine v_icmp_ge g (off := 39) (tgt := 45) (by decide +kernel) (by decide) (fun _ => ?_) (fun c => absurd c (fun q => q (by decide)))
    refine v_blk g [.iload_n 1] (pc' := 46) (lv' := [(2, .int (((0 : Int32) + (1 : Int32)) + (1 : Int32))), (1, .int ((((10 : Int32) * ((((10 : Int32) * (0 : Int32)) + (nI (48 + d))) - (48 : Int32))) + (nI (48 + d2))) - (48 : Int32))), (0, .ref m)]) (st' := [.int ((((10 : Int32) * ((((10 : Int32) * (0 : Int32)) + (nI (48 + d))) - (48 : Int32))) + (nI (48 + d2))) - (48 : Int32))]) (by decide +kernel) rfl rfl ?_
    refine v_ti (z := nI (numv (txt B n) p)) (by rw [numv, if_pos e2, dgv, dgv, ed2, edd2]; exact num2x hd10 hd2) ?_
    exact v_iret g z rfl (by decide +kernel) ⟨rfl, by rw [eh2, eh1, e2, z_ss]⟩ (zcrn 0 0 h2_c.1 h2_c.2 (Nat.le_of_ble_eq_true rfl) (Nat.le_of_ble_eq_true rfl))
