set_option maxRecDepth 100000 in
set_option maxHeartbeats 4000000 in
theorem m_divided {F : zF} {h : zH} {m : Nat} {R : Nat → Nat} {tp fk fp cn ha un wk pm cu ct dt pt hg th at9 sz : Int32} {hl pd hlt pdt : Int64} {d : Nat} (hm : h.1 m = some (oM R tp fk fp cn ha un (nI d) wk hl pd pm cu ct dt hlt pdt pt hg th at9 sz)) {DV : Nat → Int64} (k8 : h.1 (R 8) = some (aJ 24 DV)) (hd4 : d ≤ 4) (e x : Int32) : zMet F yX8_divided cX8_divided 3 (some .long) { frames := 2, cells := 0, slots := 0, locals := 60 } [.ref m, .int e, .int x] h (zP (z_s h m (oM R tp fk fp cn ha un (nI d) wk hl pd pm cu ct dt hlt pdt pt hg 0 at9 sz)) (some (.long (if ¬ x_C d e = 0 ∧ ¬ x_isIn x 0 5 = 0 then DV (6 * e.toNatClampNeg + x.toNatClampNeg) else -1)))) := by
  refine zMet_of (lv := [(0, .ref m), (1, .int e), (2, .int x)]) (by decide) (by simp [lg_sl, Value.category]) rfl ?_
  intro X g z
  refine v_blk g [.aload_n 0, .iconst 0] (pc' := 2) (lv' := [(0, .ref m), (1, .int e), (2, .int x)]) (st' := [.int (0 : Int32), .ref m]) (by decide +kernel) rfl rfl ?_
  refine v_put g (fs' := oMl R tp fk fp cn ha un (nI d) wk hl pd pm cu ct dt hlt pdt pt hg (0 : Int32) at9 sz) hm fl_X8_89 rfl rfl (Nat.le_of_ble_eq_true rfl) rfl (by decide +kernel) ?_
  refine v_h (fun h1 eh1 => ?_)
  have h1_c : h1.2.1 = h.2.1 + 0 ∧ h1.2.2 = h.2.2 + 0 := zcs eh1 ⟨rfl, rfl⟩
  have h1_m : h1.1 m = some (oM R tp fk fp cn ha un (nI d) wk hl pd pm cu ct dt hlt pdt pt hg (0 : Int32) at9 sz) := by rw [eh1]; exact z_s_self _ _ _
  have h1_R8 : h1.1 (R 8) = some (aJ 24 DV) := by rw [eh1]; exact z_so k8 (Ne.symm (z_ne hm k8 rfl))
  refine v_blk g [.iload_n 1, .i2l, .lconst 0, .aload_n 0] (pc' := 9) (lv' := [(0, .ref m), (1, .int e), (2, .int x)]) (st' := [.ref m, .long (0 : Int64), .long e.toInt64]) (by decide +kernel) rfl rfl ?_
  refine v_get g h1_m fl_X8_212 rfl (by decide +kernel) ?_
  refine v_blk g [.iconst 1, .isub, .i2l] (pc' := 15) (lv' := [(0, .ref m), (1, .int e), (2, .int x)]) (st' := [.long (((nI d) - (1 : Int32)).toInt64), .long (0 : Int64), .long e.toInt64]) (by decide +kernel) rfl rfl ?_
  refine v_callSp g (rest := []) (m_in _ _ _) cl_X8_94 rfl (Nat.le_of_ble_eq_true rfl) (by decide +kernel) ⟨Nat.le_of_ble_eq_true rfl, Nat.le_of_ble_eq_true rfl⟩ (zcsn 0 0 h1_c.1 h1_c.2 (Nat.le_of_ble_eq_true rfl) (Nat.le_of_ble_eq_true rfl)) ?_
  show zV F X h1 18 [(0, .ref m), (1, .int e), (2, .int x)] [.int (x_in e.toInt64 (0 : Int64) (nI d - (1 : Int32)).toInt64)]
  refine v_ti (z := x_C d e) ((in_eq e 0 (nI d - 1) rfl rfl).trans (x_C_eq (by omega) e)) ?_
  refine v_if_eq g (off := 29) (tgt := 47) (by decide +kernel) (by decide) (fun c0 => ?_) (fun c0 => ?_)
  · refine v_ldc2 g kc_X8_100 (by decide +kernel) ?_
    exact v_lret g z rfl (by decide +kernel) ⟨by rw [if_neg (fun q => q.1 c0)], by rw [eh1]⟩ (zcrn 0 0 h1_c.1 h1_c.2 (Nat.le_of_ble_eq_true rfl) (Nat.le_of_ble_eq_true rfl))
  · refine v_blk g [.iload_n 2, .i2l, .lconst 0] (pc' := 24) (lv' := [(0, .ref m), (1, .int e), (2, .int x)]) (st' := [.long (0 : Int64), .long x.toInt64]) (by decide +kernel) rfl rfl ?_
    refine v_ldc2 g kc_X8_268 (by decide +kernel) ?_
    refine v_callSp g (rest := []) (m_in _ _ _) cl_X8_94 rfl (Nat.le_of_ble_eq_true rfl) (by decide +kernel) ⟨Nat.le_of_ble_eq_true rfl, Nat.le_of_ble_eq_true rfl⟩ (zcsn 0 0 h1_c.1 h1_c.2 (Nat.le_of_ble_eq_true rfl) (Nat.le_of_ble_eq_true rfl)) ?_
    show zV F X h1 30 [(0, .ref m), (1, .int e), (2, .int x)] [.int (x_in x.toInt64 (0 : Int64) (5 : Int64))]
    refine v_ti (z := x_isIn x (0) (5)) (in_eq x (0) (5) rfl rfl) ?_
    refine v_if_eq g (off := 17) (tgt := 47) (by decide +kernel) (by decide) (fun c1 => ?_) (fun c1 => ?_)
    · refine v_ldc2 g kc_X8_100 (by decide +kernel) ?_
      exact v_lret g z rfl (by decide +kernel) ⟨by rw [if_neg (fun q => q.2 c1)], by rw [eh1]⟩ (zcrn 0 0 h1_c.1 h1_c.2 (Nat.le_of_ble_eq_true rfl) (Nat.le_of_ble_eq_true rfl))
    · obtain ⟨k, hk, rfl⟩ := x_C_k (by omega) c0
      have ek : (nI k).toNatClampNeg = k := nI_clamp (by omega)
      obtain ⟨t, ht, rfl⟩ := isIn_k (N := 5) (by decide) c1
      have et : (nI t).toNatClampNeg = t := nI_clamp (by omega)
      refine v_blk g [.aload_n 0] (pc' := 34) (lv' := [(0, .ref m), (1, .int (nI k)), (2, .int (nI t))]) (st' := [.ref m]) (by decide +kernel) rfl rfl ?_
      refine v_get g h1_m fl_X8_42 rfl (by decide +kernel) ?_
      refine v_blk g [.bipush 6, .iload_n 1, .imul, .iload_n 2, .iadd] (pc' := 43) (lv' := [(0, .ref m), (1, .int (nI k)), (2, .int (nI t))]) (st' := [.int (((6 : Int32) * (nI k)) + (nI t)), .ref (R 8)]) (by decide +kernel) rfl rfl ?_
      refine v_lald g h1_R8 (6 * k + t) (by rw [show (6 : Int32) = nI 6 from rfl, pk_mul, nI_add]) (by omega) (Nat.le_of_ble_eq_true rfl) (by decide +kernel) ?_
      refine v_goto g (off := 6) (tgt := 50) (by decide +kernel) (by decide) ?_
      exact v_lret g z rfl (by decide +kernel) ⟨by rw [if_pos ⟨c0, c1⟩, ek, et], by rw [eh1]⟩ (zcrn 0 0 h1_c.1 h1_c.2 (Nat.le_of_ble_eq_true rfl) (Nat.le_of_ble_eq_true rfl))

def x_prz (Z : Nat → Int64) (P : Nat → Int32) (n : Nat) (c x : Int32) : Int64 := if x_C n c = 0 then -1 else if x_isIn x (-1) (P c.toNatClampNeg - 1) = 0 then -1 else if x = -1 then Z c.toNatClampNeg else if 0 < x then Z c.toNatClampNeg / (P c.toNatClampNeg).toInt64 else Z c.toNatClampNeg - Z c.toNatClampNeg / (P c.toNatClampNeg).toInt64 * (P c.toNatClampNeg - 1).toInt64

set_option maxRecDepth 100000 in
set_option maxHeartbeats 4000000 in
theorem m_prize {F : zF} {h : zH} {m : Nat} {R : Nat → Nat} {tp fk fp cn ha un dm wk cu ct dt pt hg th at9 sz : Int32} {hl pd hlt pdt : Int64} {n : Nat} (hm : h.1 m = some (oM R tp fk fp cn ha un dm wk hl pd (nI n) cu ct dt hlt pdt pt hg th at9 sz)) {Z : Nat → Int64} (k9 : h.1 (R 9) = some (aJ 20 Z)) {P : Nat → Int32} (k10 : h.1 (R 10) = some (aI 20 P)) (hn : n ≤ 20) (hP : ∀ q, q < n → ¬ P q = 0) (c x : Int32) : zMet F yX8_prize cX8_prize 7 (some .long) { frames := 2, cells := 0, slots := 0, locals := 60 } [.ref m, .int c, .int x] h (zP (z_s h m (oM R tp fk fp cn ha un dm wk hl pd (nI n) cu ct dt hlt pdt pt hg 0 at9 sz)) (some (.long (x_prz Z P n c x)))) := by
  refine zMet_of (lv := [(0, .ref m), (1, .int c), (2, .int x)]) (by decide) (by simp [lg_sl, Value.category]) rfl ?_
  intro X g z
  refine v_blk g [.aload_n 0, .iconst 0] (pc' := 2) (lv' := [(0, .ref m), (1, .int c), (2, .int x)]) (st' := [.int (0 : Int32), .ref m]) (by decide +kernel) rfl rfl ?_
  refine v_put g (fs' := oMl R tp fk fp cn ha un dm wk hl pd (nI n) cu ct dt hlt pdt pt hg (0 : Int32) at9 sz) hm fl_X8_89 rfl rfl (Nat.le_of_ble_eq_true rfl) rfl (by decide +kernel) ?_
  refine v_h (fun h1 eh1 => ?_)
  have h1_c : h1.2.1 = h.2.1 + 0 ∧ h1.2.2 = h.2.2 + 0 := zcs eh1 ⟨rfl, rfl⟩
  have h1_m : h1.1 m = some (oM R tp fk fp cn ha un dm wk hl pd (nI n) cu ct dt hlt pdt pt hg (0 : Int32) at9 sz) := by rw [eh1]; exact z_s_self _ _ _
  have h1_R9 : h1.1 (R 9) = some (aJ 20 Z) := by rw [eh1]; exact z_so k9 (Ne.symm (z_ne hm k9 rfl))
  have h1_R10 : h1.1 (R 10) = some (aI 20 P) := by rw [eh1]; exact z_so k10 (Ne.symm (z_ne hm k10 rfl))
  refine v_blk g [.iload_n 1, .i2l, .lconst 0, .aload_n 0] (pc' := 9) (lv' := [(0, .ref m), (1, .int c), (2, .int x)]) (st' := [.ref m, .long (0 : Int64), .long c.toInt64]) (by decide +kernel) rfl rfl ?_
  refine v_get g h1_m fl_X8_249 rfl (by decide +kernel) ?_
  refine v_blk g [.iconst 1, .isub, .i2l] (pc' := 15) (lv' := [(0, .ref m), (1, .int c), (2, .int x)]) (st' := [.long (((nI n) - (1 : Int32)).toInt64), .long (0 : Int64), .long c.toInt64]) (by decide +kernel) rfl rfl ?_
  refine v_callSp g (rest := []) (m_in _ _ _) cl_X8_94 rfl (Nat.le_of_ble_eq_true rfl) (by decide +kernel) ⟨Nat.le_of_ble_eq_true rfl, Nat.le_of_ble_eq_true rfl⟩ (zcsn 0 0 h1_c.1 h1_c.2 (Nat.le_of_ble_eq_true rfl) (Nat.le_of_ble_eq_true rfl)) ?_
  show zV F X h1 18 [(0, .ref m), (1, .int c), (2, .int x)] [.int (x_in c.toInt64 (0 : Int64) (nI n - (1 : Int32)).toInt64)]
  refine v_ti (z := x_C n c) ((in_eq c 0 (nI n - 1) rfl rfl).trans (x_C_eq (by omega) c)) ?_
  refine v_if_eq g (off := 23) (tgt := 41) (by decide +kernel) (by decide) (fun c0 => ?_) (fun c0 => ?_)
  · refine v_ldc2 g kc_X8_100 (by decide +kernel) ?_
    exact v_lret g z rfl (by decide +kernel) ⟨by rw [x_prz, if_pos c0], by rw [eh1]⟩ (zcrn 0 0 h1_c.1 h1_c.2 (Nat.le_of_ble_eq_true rfl) (Nat.le_of_ble_eq_true rfl))
  · obtain ⟨k, hk, rfl⟩ := x_C_k (by omega) c0
    have ek : (nI k).toNatClampNeg = k := nI_clamp (by omega)
    refine v_blk g [.iload_n 2, .i2l] (pc' := 23) (lv' := [(0, .ref m), (1, .int (nI k)), (2, .int x)]) (st' := [.long x.toInt64]) (by decide +kernel) rfl rfl ?_
    refine v_ldc2 g kc_X8_100 (by decide +kernel) ?_
    refine v_blk g [.aload_n 0] (pc' := 27) (lv' := [(0, .ref m), (1, .int (nI k)), (2, .int x)]) (st' := [.ref m, .long (-1 : Int64), .long x.toInt64]) (by decide +kernel) rfl rfl ?_
    refine v_get g h1_m fl_X8_49 rfl (by decide +kernel) ?_
    refine v_blk g [.iload_n 1] (pc' := 31) (lv' := [(0, .ref m), (1, .int (nI k)), (2, .int x)]) (st' := [.int (nI k), .ref (R 10), .long (-1 : Int64), .long x.toInt64]) (by decide +kernel) rfl rfl ?_
    refine v_iald g h1_R10 k rfl (by omega) (Nat.le_of_ble_eq_true rfl) (by decide +kernel) ?_
    refine v_blk g [.iconst 1, .isub, .i2l] (pc' := 35) (lv' := [(0, .ref m), (1, .int (nI k)), (2, .int x)]) (st' := [.long (((P k) - (1 : Int32)).toInt64), .long (-1 : Int64), .long x.toInt64]) (by decide +kernel) rfl rfl ?_
    refine v_callSp g (rest := []) (m_in _ _ _) cl_X8_94 rfl (Nat.le_of_ble_eq_true rfl) (by decide +kernel) ⟨Nat.le_of_ble_eq_true rfl, Nat.le_of_ble_eq_true rfl⟩ (zcsn 0 0 h1_c.1 h1_c.2 (Nat.le_of_ble_eq_true rfl) (Nat.le_of_ble_eq_true rfl)) ?_
    show zV F X h1 38 [(0, .ref m), (1, .int (nI k)), (2, .int x)] [.int (x_in x.toInt64 (-1 : Int64) (P k - (1 : Int32)).toInt64)]
    refine v_ti (z := x_isIn x (-1) (P k - 1)) (in_eq x (-1) (P k - 1) rfl rfl) ?_
    refine v_if_ne g (off := 7) (tgt := 45) (by decide +kernel) (by decide) (fun c1 => ?_) (fun c1 => ?_)
    · have hz : ¬ (P k).toInt64 = 0 := fun q => hP k hk ((fa_wide_eq _ 0).mp q)
      refine v_blk g [.aload_n 0] (pc' := 46) (lv' := [(0, .ref m), (1, .int (nI k)), (2, .int x)]) (st' := [.ref m]) (by decide +kernel) rfl rfl ?_
      refine v_get g h1_m fl_X8_46 rfl (by decide +kernel) ?_
      refine v_blk g [.iload_n 1] (pc' := 50) (lv' := [(0, .ref m), (1, .int (nI k)), (2, .int x)]) (st' := [.int (nI k), .ref (R 9)]) (by decide +kernel) rfl rfl ?_
      refine v_lald g h1_R9 k rfl (by omega) (Nat.le_of_ble_eq_true rfl) (by decide +kernel) ?_
      refine v_blk g [.lstore_n 3, .lload_n 3, .aload_n 0] (pc' := 54) (lv' := [(3, .long (Z k)), (0, .ref m), (1, .int (nI k)), (2, .int x)]) (st' := [.ref m, .long (Z k)]) (by decide +kernel) rfl rfl ?_
      refine v_get g h1_m fl_X8_49 rfl (by decide +kernel) ?_
      refine v_blk g [.iload_n 1] (pc' := 58) (lv' := [(3, .long (Z k)), (0, .ref m), (1, .int (nI k)), (2, .int x)]) (st' := [.int (nI k), .ref (R 10), .long (Z k)]) (by decide +kernel) rfl rfl ?_
      refine v_iald g h1_R10 k rfl (by omega) (Nat.le_of_ble_eq_true rfl) (by decide +kernel) ?_
      refine v_blk g [.i2l] (pc' := 60) (lv' := [(3, .long (Z k)), (0, .ref m), (1, .int (nI k)), (2, .int x)]) (st' := [.long ((P k).toInt64), .long (Z k)]) (by decide +kernel) rfl rfl ?_
      refine v_ldiv g (by decide +kernel) hz ?_
      refine v_blk g [.lstore 5, .iload_n 2, .iconst (-1)] (pc' := 65) (lv' := [(5, .long ((Z k) / ((P k).toInt64))), (3, .long (Z k)), (0, .ref m), (1, .int (nI k)), (2, .int x)]) (st' := [.int (-1 : Int32), .int x]) (by decide +kernel) rfl rfl ?_
      refine v_icmp_ne g (off := 7) (tgt := 72) (by decide +kernel) (by decide) (fun c2 => ?_) (fun c2 => ?_)
      · refine v_blk g [.iload_n 2] (pc' := 73) (lv' := [(5, .long ((Z k) / ((P k).toInt64))), (3, .long (Z k)), (0, .ref m), (1, .int (nI k)), (2, .int x)]) (st' := [.int x]) (by decide +kernel) rfl rfl ?_
        refine v_if_le g (off := 8) (tgt := 81) (by decide +kernel) (by decide) (fun c3 => ?_) (fun c3 => ?_)
        · refine v_blk g [.lload_n 3, .lload 5, .aload_n 0] (pc' := 85) (lv' := [(5, .long ((Z k) / ((P k).toInt64))), (3, .long (Z k)), (0, .ref m), (1, .int (nI k)), (2, .int x)]) (st' := [.ref m, .long ((Z k) / ((P k).toInt64)), .long (Z k)]) (by decide +kernel) rfl rfl ?_
          refine v_get g h1_m fl_X8_49 rfl (by decide +kernel) ?_
          refine v_blk g [.iload_n 1] (pc' := 89) (lv' := [(5, .long ((Z k) / ((P k).toInt64))), (3, .long (Z k)), (0, .ref m), (1, .int (nI k)), (2, .int x)]) (st' := [.int (nI k), .ref (R 10), .long ((Z k) / ((P k).toInt64)), .long (Z k)]) (by decide +kernel) rfl rfl ?_
          refine v_iald g h1_R10 k rfl (by omega) (Nat.le_of_ble_eq_true rfl) (by decide +kernel) ?_
          refine v_blk g [.iconst 1, .isub, .i2l, .lmul, .lsub] (pc' := 95) (lv' := [(5, .long ((Z k) / ((P k).toInt64))), (3, .long (Z k)), (0, .ref m), (1, .int (nI k)), (2, .int x)]) (st' := [.long ((Z k) - (((Z k) / ((P k).toInt64)) * (((P k) - (1 : Int32)).toInt64)))]) (by decide +kernel) rfl rfl ?_
          exact v_lret g z rfl (by decide +kernel) ⟨by rw [x_prz, if_neg c0, ek, if_neg c1, if_neg c2, if_neg (fun q => by rw [fa_lt] at q; rw [fa_le] at c3; omega)], by rw [eh1]⟩ (zcrn 0 0 h1_c.1 h1_c.2 (Nat.le_of_ble_eq_true rfl) (Nat.le_of_ble_eq_true rfl))
        · refine v_blk g [.lload 5] (pc' := 78) (lv' := [(5, .long ((Z k) / ((P k).toInt64))), (3, .long (Z k)), (0, .ref m), (1, .int (nI k)), (2, .int x)]) (st' := [.long ((Z k) / ((P k).toInt64))]) (by decide +kernel) rfl rfl ?_
          refine v_goto g (off := 17) (tgt := 95) (by decide +kernel) (by decide) ?_
          exact v_lret g z rfl (by decide +kernel) ⟨by rw [x_prz, if_neg c0, ek, if_neg c1, if_neg c2, if_pos (fa_of_nle c3)], by rw [eh1]⟩ (zcrn 0 0 h1_c.1 h1_c.2 (Nat.le_of_ble_eq_true rfl) (Nat.le_of_ble_eq_true rfl))
      · refine v_blk g [.lload_n 3] (pc' := 69) (lv' := [(5, .long ((Z k) / ((P k).toInt64))), (3, .long (Z k)), (0, .ref m), (1, .int (nI k)), (2, .int x)]) (st' := [.long (Z k)]) (by decide +kernel) rfl rfl ?_
        refine v_goto g (off := 26) (tgt := 95) (by decide +kernel) (by decide) ?_
        exact v_lret g z rfl (by decide +kernel) ⟨by rw [x_prz, if_neg c0, ek, if_neg c1, if_pos c2], by rw [eh1]⟩ (zcrn 0 0 h1_c.1 h1_c.2 (Nat.le_of_ble_eq_true rfl) (Nat.le_of_ble_eq_true rfl))
    · refine v_ldc2 g kc_X8_100 (by decide +kernel) ?_
      exact v_lret g z rfl (by decide +kernel) ⟨by rw [x_prz, if_neg c0, ek, if_pos c1], by rw [eh1]⟩ (zcrn 0 0 h1_c.1 h1_c.2 (Nat.le_of_ble_eq_true rfl) (Nat.le_of_ble_eq_true rfl))
