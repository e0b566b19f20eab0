set_option maxRecDepth 100000 in
set_option maxHeartbeats 4000000 in
theorem m_line {F : zF} {h : zH} {m : Nat} {R : Nat → Nat} {tp fk fp ha un dm wk pm cu ct dt pt hg th at9 sz : Int32} {hl pd hlt pdt : Int64} {n : Nat} (hm : h.1 m = some (oM R tp fk fp (nI n) ha un dm wk hl pd pm cu ct dt hlt pdt pt hg th at9 sz)) {LN : Nat → Int32} (k4 : h.1 (R 4) = some (aI 10240 LN)) (hn : n ≤ 20) (v x : Int32) : zMet F yX8_line cX8_line 5 (some .int) { frames := 3, cells := 0, slots := 0, locals := 90 } [.ref m, .int v, .int x] h (zP (z_s h m (oM R tp fk fp (nI n) ha un dm wk hl pd pm cu ct dt hlt pdt pt hg 0 at9 sz)) (some (.int (if x_C n v = 0 then -1 else s_line (hs9 LN v.toNatClampNeg) x)))) := by
  refine zMet_of (lv := [(0, .ref m), (1, .int v), (2, .int x)]) (by decide) (by simp [lg_sl, Value.category]) rfl ?_
  intro X g z
  refine v_blk g [.aload_n 0, .iconst 0] (pc' := 2) (lv' := [(0, .ref m), (1, .int v), (2, .int x)]) (st' := [.int (0 : Int32), .ref m]) (by decide +kernel) rfl rfl ?_
  refine v_put g (fs' := oMl R tp fk fp (nI n) ha un dm wk hl pd pm cu ct dt hlt pdt pt hg (0 : Int32) at9 sz) hm fl_X8_89 rfl rfl (Nat.le_of_ble_eq_true rfl) rfl (by decide +kernel) ?_
  refine v_h (fun h1 eh1 => ?_)
  have h1_c : h1.2.1 = h.2.1 + 0 ∧ h1.2.2 = h.2.2 + 0 := zcs eh1 ⟨rfl, rfl⟩
  have h1_m : h1.1 m = some (oM R tp fk fp (nI n) ha un dm wk hl pd pm cu ct dt hlt pdt pt hg (0 : Int32) at9 sz) := by rw [eh1]; exact z_s_self _ _ _
  have h1_R4 : h1.1 (R 4) = some (aI 10240 LN) := by rw [eh1]; exact z_so k4 (Ne.symm (z_ne hm k4 rfl))
  refine v_blk g [.aload_n 0, .iload_n 1] (pc' := 7) (lv' := [(0, .ref m), (1, .int v), (2, .int x)]) (st' := [.int v, .ref m]) (by decide +kernel) rfl rfl ?_
  refine v_callVp g (rest := []) (m_isCoupon h1_m (by omega) v) cl_X8_183 h1_m rfl rfl (Nat.le_of_ble_eq_true rfl) (by decide +kernel) ⟨Nat.le_of_ble_eq_true rfl, Nat.le_of_ble_eq_true rfl⟩ (zcsn 0 0 h1_c.1 h1_c.2 (Nat.le_of_ble_eq_true rfl) (Nat.le_of_ble_eq_true rfl)) ?_
  show zV F X h1 10 [(0, .ref m), (1, .int v), (2, .int x)] [.int (x_C n v)]
  refine v_if_eq g (off := 7) (tgt := 17) (by decide +kernel) (by decide) (fun c0 => ?_) (fun c0 => ?_)
  · refine v_blk g [.iconst (-1)] (pc' := 18) (lv' := [(0, .ref m), (1, .int v), (2, .int x)]) (st' := [.int (-1 : Int32)]) (by decide +kernel) rfl rfl ?_
    exact v_iret g z rfl (by decide +kernel) ⟨by rw [if_pos c0], by rw [eh1]⟩ (zcrn 0 0 h1_c.1 h1_c.2 (Nat.le_of_ble_eq_true rfl) (Nat.le_of_ble_eq_true rfl))
  · refine v_blk g [.iload_n 2] (pc' := 14) (lv' := [(0, .ref m), (1, .int v), (2, .int x)]) (st' := [.int x]) (by decide +kernel) rfl rfl ?_
    refine v_if_ge g (off := 5) (tgt := 19) (by decide +kernel) (by decide) (fun c1 => ?_) (fun c1 => ?_)
    · obtain ⟨k, hk, rfl⟩ := x_C_k (by omega) c0
      have ek : (nI k).toNatClampNeg = k := nI_clamp (by omega)
      obtain ⟨j, hj, rfl⟩ := nI_of (x := x) (fun q => absurd c1 (by rw [fa_le]; rw [fa_lt] at q; omega))
      have ej : (nI j).toNatClampNeg = j := nI_clamp hj
      have kn := fb_ct_le (hs9 LN k)
      refine v_blk g [.iload_n 2, .istore_n 3, .iconst 0, .istore 4] (pc' := 24) (lv' := [(4, .int (0 : Int32)), (3, .int (nI j)), (0, .ref m), (1, .int (nI k)), (2, .int (nI j))]) (st' := []) (by decide +kernel) rfl rfl ?_
      have key : ∀ i, i ≤ 16384 → fb_ct (hs9 LN k) i ≤ j → zV F X h1 24 [(4, .int (nI i)), (3, .int (nI (j - fb_ct (hs9 LN k) i))), (0, .ref m), (1, .int (nI k)), (2, .int (nI j))] [] := by
        refine z_up (P := fun i => fb_ct (hs9 LN k) i ≤ j → zV F X h1 24 [(4, .int (nI i)), (3, .int (nI (j - fb_ct (hs9 LN k) i))), (0, .ref m), (1, .int (nI k)), (2, .int (nI j))] []) 16384 ?_ ?_
        · intro hpre
          refine v_blk g [.iload 4, .sipush 16384] (pc' := 29) (lv' := [(4, .int (nI 16384)), (3, .int (nI (j - fb_ct (hs9 LN k) 16384))), (0, .ref m), (1, .int (nI k)), (2, .int (nI j))]) (st' := [.int (16384 : Int32), .int (nI 16384)]) (by decide +kernel) rfl rfl ?_
          refine v_icmp_ge g (off := 32) (tgt := 61) (by decide +kernel) (by decide) (fun _ => ?_) (fun c => absurd c (fun q => q (by decide)))
          refine v_blk g [.iconst (-1)] (pc' := 62) (lv' := [(4, .int (nI 16384)), (3, .int (nI (j - fb_ct (hs9 LN k) 16384))), (0, .ref m), (1, .int (nI k)), (2, .int (nI j))]) (st' := [.int (-1 : Int32)]) (by decide +kernel) rfl rfl ?_
          exact v_iret g z rfl (by decide +kernel) ⟨by rw [if_neg c0, ek, s_line, if_neg (nI_pos hj), ej, nth_none hpre, if_neg (by omega)], by rw [eh1]⟩ (zcrn 0 0 h1_c.1 h1_c.2 (Nat.le_of_ble_eq_true rfl) (Nat.le_of_ble_eq_true rfl))
        · intro i hi ih hpre
          refine v_blk g [.iload 4, .sipush 16384] (pc' := 29) (lv' := [(4, .int (nI i)), (3, .int (nI (j - fb_ct (hs9 LN k) i))), (0, .ref m), (1, .int (nI k)), (2, .int (nI j))]) (st' := [.int (16384 : Int32), .int (nI i)]) (by decide +kernel) rfl rfl ?_
          refine v_icmp_ge g (off := 32) (tgt := 61) (by decide +kernel) (by decide) (fun c => absurd c (nI_ge (b := 16384) hi (by decide))) (fun _ => ?_)
          refine v_blk g [.aload_n 0, .iload_n 1, .iload 4] (pc' := 36) (lv' := [(4, .int (nI i)), (3, .int (nI (j - fb_ct (hs9 LN k) i))), (0, .ref m), (1, .int (nI k)), (2, .int (nI j))]) (st' := [.int (nI i), .int (nI k), .ref m]) (by decide +kernel) rfl rfl ?_
          refine v_callVp g (rest := []) (m_has h1_m h1_R4 (by omega : k < 20) (by omega)) cl_X8_180 h1_m rfl rfl (Nat.le_of_ble_eq_true rfl) (by decide +kernel) ⟨Nat.le_of_ble_eq_true rfl, Nat.le_of_ble_eq_true rfl⟩ (zcsn 0 0 h1_c.1 h1_c.2 (Nat.le_of_ble_eq_true rfl) (Nat.le_of_ble_eq_true rfl)) ?_
          show zV F X h1 39 [(4, .int (nI i)), (3, .int (nI (j - fb_ct (hs9 LN k) i))), (0, .ref m), (1, .int (nI k)), (2, .int (nI j))] [.int (b01 (hs9 LN k i))]
          refine v_if_ne g (off := 6) (tgt := 45) (by decide +kernel) (by decide) (fun c2 => ?_) (fun c2 => ?_)
          · refine v_blk g [.iload_n 3] (pc' := 46) (lv' := [(4, .int (nI i)), (3, .int (nI (j - fb_ct (hs9 LN k) i))), (0, .ref m), (1, .int (nI k)), (2, .int (nI j))]) (st' := [.int (nI (j - fb_ct (hs9 LN k) i))]) (by decide +kernel) rfl rfl ?_
            refine v_if_ne g (off := 6) (tgt := 52) (by decide +kernel) (by decide) (fun c3 => ?_) (fun c3 => ?_)
            · have c5 : fb_ct (hs9 LN k) i < j := Classical.byContradiction (fun q => c3 (by rw [show j - fb_ct (hs9 LN k) i = 0 by omega]; rfl))
              refine v_blk g [.iinc 3 (-1), .iinc 4 1] (pc' := 58) (lv' := [(4, .int ((nI i) + (1 : Int32))), (3, .int ((nI (j - fb_ct (hs9 LN k) i)) + (-1 : Int32))), (0, .ref m), (1, .int (nI k)), (2, .int (nI j))]) (st' := []) (by decide +kernel) rfl rfl ?_
              refine v_goto g (off := -34) (tgt := 24) (by decide +kernel) (by decide) ?_
              refine v_lv [0, 1, 2, 3, 4] (lv' := [(4, .int ((nI i) + (1 : Int32))), (3, .int ((nI (j - fb_ct (hs9 LN k) i)) + (-1 : Int32))), (0, .ref m), (1, .int (nI k)), (2, .int (nI j))]) rfl ?_
              exact v_eq (by rw [nI_1, fb_ct_succ, b01_1.mp c2, if_pos rfl, show j - fb_ct (hs9 LN k) i = (j - (fb_ct (hs9 LN k) i + 1)) + 1 by omega, pk_m1]) rfl (ih (by rw [fb_ct_succ, b01_1.mp c2, if_pos rfl]; omega))
            · have c5 : fb_ct (hs9 LN k) i = j := by have := (nI_eq (a := j - fb_ct (hs9 LN k) i) (b := 0) (by omega) (by decide)).mp c3; omega
              refine v_blk g [.iload 4] (pc' := 51) (lv' := [(4, .int (nI i)), (3, .int (nI (j - fb_ct (hs9 LN k) i))), (0, .ref m), (1, .int (nI k)), (2, .int (nI j))]) (st' := [.int (nI i)]) (by decide +kernel) rfl rfl ?_
              exact v_iret g z rfl (by decide +kernel) ⟨by rw [if_neg c0, ek, s_line, if_neg (nI_pos hj), ej, ← c5, nth_is hi (b01_1.mp c2), if_pos hi], by rw [eh1]⟩ (zcrn 0 0 h1_c.1 h1_c.2 (Nat.le_of_ble_eq_true rfl) (Nat.le_of_ble_eq_true rfl))
          · refine v_goto g (off := 13) (tgt := 55) (by decide +kernel) (by decide) ?_
            refine v_blk g [.iinc 4 1] (pc' := 58) (lv' := [(4, .int ((nI i) + (1 : Int32))), (3, .int (nI (j - fb_ct (hs9 LN k) i))), (0, .ref m), (1, .int (nI k)), (2, .int (nI j))]) (st' := []) (by decide +kernel) rfl rfl ?_
            refine v_goto g (off := -34) (tgt := 24) (by decide +kernel) (by decide) ?_
            refine v_lv [0, 1, 2, 3, 4] (lv' := [(4, .int ((nI i) + (1 : Int32))), (3, .int (nI (j - fb_ct (hs9 LN k) i))), (0, .ref m), (1, .int (nI k)), (2, .int (nI j))]) rfl ?_
            exact v_eq (by rw [nI_1, fb_ct_succ, b01_0.mp c2]; rfl) rfl (ih (by rw [fb_ct_succ, b01_0.mp c2]; exact hpre))
      exact key 0 (by omega) (Nat.zero_le _)
    · refine v_blk g [.iconst (-1)] (pc' := 18) (lv' := [(0, .ref m), (1, .int v), (2, .int x)]) (st' := [.int (-1 : Int32)]) (by decide +kernel) rfl rfl ?_
      exact v_iret g z rfl (by decide +kernel) ⟨by rw [if_neg c0, s_line, if_pos (fa_of_nle c1)], by rw [eh1]⟩ (zcrn 0 0 h1_c.1 h1_c.2 (Nat.le_of_ble_eq_true rfl) (Nat.le_of_ble_eq_true rfl))

set_option maxRecDepth 100000 in
set_option maxHeartbeats 4000000 in
theorem m_below {F : zF} {h : zH} {m : Nat} {R : Nat → Nat} {tp fk fp ha un dm wk pm cu ct dt pt hg th at9 sz : Int32} {hl pd hlt pdt : Int64} {n : Nat} (hm : h.1 m = some (oM R tp fk fp (nI n) ha un dm wk hl pd pm cu ct dt hlt pdt pt hg th at9 sz)) {LN : Nat → Int32} (k4 : h.1 (R 4) = some (aI 10240 LN)) (hn : n ≤ 20) (v x : Int32) : zMet F yX8_below cX8_below 3 (some .int) { frames := 3, cells := 0, slots := 0, locals := 90 } [.ref m, .int v, .int x] h (zP (z_s h m (oM R tp fk fp (nI n) ha un dm wk hl pd pm cu ct dt hlt pdt pt hg 0 at9 sz)) (some (.int (if ¬ x_C n v = 0 ∧ ¬ x_isIn x 0 16384 = 0 then nI (fb_ct (hs9 LN v.toNatClampNeg) x.toNatClampNeg) else -1)))) := by
  refine zMet_of (lv := [(0, .ref m), (1, .int v), (2, .int x)]) (by decide) (by simp [lg_sl, Value.category]) rfl ?_
  intro X g z
  refine v_blk g [.aload_n 0, .iconst 0] (pc' := 2) (lv' := [(0, .ref m), (1, .int v), (2, .int x)]) (st' := [.int (0 : Int32), .ref m]) (by decide +kernel) rfl rfl ?_
  refine v_put g (fs' := oMl R tp fk fp (nI n) ha un dm wk hl pd pm cu ct dt hlt pdt pt hg (0 : Int32) at9 sz) hm fl_X8_89 rfl rfl (Nat.le_of_ble_eq_true rfl) rfl (by decide +kernel) ?_
  refine v_h (fun h1 eh1 => ?_)
  have h1_c : h1.2.1 = h.2.1 + 0 ∧ h1.2.2 = h.2.2 + 0 := zcs eh1 ⟨rfl, rfl⟩
  have h1_m : h1.1 m = some (oM R tp fk fp (nI n) ha un dm wk hl pd pm cu ct dt hlt pdt pt hg (0 : Int32) at9 sz) := by rw [eh1]; exact z_s_self _ _ _
  have h1_R4 : h1.1 (R 4) = some (aI 10240 LN) := by rw [eh1]; exact z_so k4 (Ne.symm (z_ne hm k4 rfl))
  refine v_blk g [.aload_n 0, .iload_n 1] (pc' := 7) (lv' := [(0, .ref m), (1, .int v), (2, .int x)]) (st' := [.int v, .ref m]) (by decide +kernel) rfl rfl ?_
  refine v_callVp g (rest := []) (m_isCoupon h1_m (by omega) v) cl_X8_183 h1_m rfl rfl (Nat.le_of_ble_eq_true rfl) (by decide +kernel) ⟨Nat.le_of_ble_eq_true rfl, Nat.le_of_ble_eq_true rfl⟩ (zcsn 0 0 h1_c.1 h1_c.2 (Nat.le_of_ble_eq_true rfl) (Nat.le_of_ble_eq_true rfl)) ?_
  show zV F X h1 10 [(0, .ref m), (1, .int v), (2, .int x)] [.int (x_C n v)]
  refine v_if_eq g (off := 24) (tgt := 34) (by decide +kernel) (by decide) (fun c0 => ?_) (fun c0 => ?_)
  · refine v_blk g [.iconst (-1)] (pc' := 35) (lv' := [(0, .ref m), (1, .int v), (2, .int x)]) (st' := [.int (-1 : Int32)]) (by decide +kernel) rfl rfl ?_
    exact v_iret g z rfl (by decide +kernel) ⟨by rw [if_neg (fun q => q.1 c0)], by rw [eh1]⟩ (zcrn 0 0 h1_c.1 h1_c.2 (Nat.le_of_ble_eq_true rfl) (Nat.le_of_ble_eq_true rfl))
  · refine v_blk g [.iload_n 2, .i2l, .lconst 0] (pc' := 16) (lv' := [(0, .ref m), (1, .int v), (2, .int x)]) (st' := [.long (0 : Int64), .long x.toInt64]) (by decide +kernel) rfl rfl ?_
    refine v_ldc2 g kc_X8_192 (by decide +kernel) ?_
    refine v_callSp g (rest := []) (m_in _ _ _) cl_X8_94 rfl (Nat.le_of_ble_eq_true rfl) (by decide +kernel) ⟨Nat.le_of_ble_eq_true rfl, Nat.le_of_ble_eq_true rfl⟩ (zcsn 0 0 h1_c.1 h1_c.2 (Nat.le_of_ble_eq_true rfl) (Nat.le_of_ble_eq_true rfl)) ?_
    show zV F X h1 22 [(0, .ref m), (1, .int v), (2, .int x)] [.int (x_in x.toInt64 (0 : Int64) (16384 : Int64))]
    refine v_ti (z := x_isIn x (0) (16384)) (in_eq x (0) (16384) rfl rfl) ?_
    refine v_if_eq g (off := 12) (tgt := 34) (by decide +kernel) (by decide) (fun c1 => ?_) (fun c1 => ?_)
    · refine v_blk g [.iconst (-1)] (pc' := 35) (lv' := [(0, .ref m), (1, .int v), (2, .int x)]) (st' := [.int (-1 : Int32)]) (by decide +kernel) rfl rfl ?_
      exact v_iret g z rfl (by decide +kernel) ⟨by rw [if_neg (fun q => q.2 c1)], by rw [eh1]⟩ (zcrn 0 0 h1_c.1 h1_c.2 (Nat.le_of_ble_eq_true rfl) (Nat.le_of_ble_eq_true rfl))
    · obtain ⟨k, hk, rfl⟩ := x_C_k (by omega) c0
      have ek : (nI k).toNatClampNeg = k := nI_clamp (by omega)
      obtain ⟨j, hj, rfl⟩ := isIn_k (N := 16384) (by decide) c1
      have ej : (nI j).toNatClampNeg = j := nI_clamp (by omega)
      refine v_blk g [.aload_n 0, .iload_n 1, .iload_n 2] (pc' := 28) (lv' := [(0, .ref m), (1, .int (nI k)), (2, .int (nI j))]) (st' := [.int (nI j), .int (nI k), .ref m]) (by decide +kernel) rfl rfl ?_
      refine v_callVp g (rest := []) (m_below0 h1_m h1_R4 (by omega) hj) cl_X8_188 h1_m rfl rfl (Nat.le_of_ble_eq_true rfl) (by decide +kernel) ⟨Nat.le_of_ble_eq_true rfl, Nat.le_of_ble_eq_true rfl⟩ (zcsn 0 0 h1_c.1 h1_c.2 (Nat.le_of_ble_eq_true rfl) (Nat.le_of_ble_eq_true rfl)) ?_
      show zV F X h1 31 [(0, .ref m), (1, .int (nI k)), (2, .int (nI j))] [.int (nI (fb_ct (hs9 LN k) j))]
      refine v_goto g (off := 4) (tgt := 35) (by decide +kernel) (by decide) ?_
      exact v_iret g z rfl (by decide +kernel) ⟨by rw [if_pos ⟨c0, c1⟩, ek, ej], by rw [eh1]⟩ (zcrn 0 0 h1_c.1 h1_c.2 (Nat.le_of_ble_eq_true rfl) (Nat.le_of_ble_eq_true rfl))
