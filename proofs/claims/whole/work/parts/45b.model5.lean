set_option maxRecDepth 100000 in
set_option maxHeartbeats 4000000 in
theorem m_carried {F : zF} {h : zH} {m : Nat} {R : Nat → Nat} {tp fk fp cn ha un wk pm cu ct dt pt hg th at9 sz : Int32} {hl pd hlt pdt : Int64} {d : Nat} (hm : h.1 m = some (oM R tp fk fp cn ha un (nI d) wk hl pd pm cu ct dt hlt pdt pt hg th at9 sz)) {DV : Nat → Int64} (k8 : h.1 (R 8) = some (aJ 24 DV)) (hd4 : d ≤ 4) : zMet F yX8_carried cX8_carried 4 (some .long) { frames := 1, cells := 0, slots := 0, locals := 30 } [.ref m] h (zP h (some (.long (sumL (fun e => DV (6 * e + 3)) d)))) := by
  refine zMet_of (lv := [(0, .ref m)]) (by decide) (by simp [lg_sl, Value.category]) rfl ?_
  intro X g z
  refine v_blk g [.lconst 0, .lstore_n 1, .iconst 0, .istore_n 3] (pc' := 4) (lv' := [(3, .int (0 : Int32)), (1, .long (0 : Int64)), (0, .ref m)]) (st' := []) (by decide +kernel) rfl rfl ?_
  have key : ∀ i, i ≤ d → zV F X h 4 [(3, .int (nI i)), (1, .long (sumL (fun e => DV (6 * e + 3)) i)), (0, .ref m)] [] := by
    refine z_up (P := fun i => zV F X h 4 [(3, .int (nI i)), (1, .long (sumL (fun e => DV (6 * e + 3)) i)), (0, .ref m)] []) d ?_ ?_
    · refine v_blk g [.iload_n 3, .aload_n 0] (pc' := 6) (lv' := [(3, .int (nI d)), (1, .long (sumL (fun e => DV (6 * e + 3)) d)), (0, .ref m)]) (st' := [.ref m, .int (nI d)]) (by decide +kernel) rfl rfl ?_
      refine v_get g hm fl_X8_212 rfl (by decide +kernel) ?_
      refine v_icmp_ge g (off := 23) (tgt := 32) (by decide +kernel) (by decide) (fun _ => ?_) (fun c => absurd c (fun q => q (nI_le (Nat.le_refl _) (by omega))))
      refine v_blk g [.lload_n 1] (pc' := 33) (lv' := [(3, .int (nI d)), (1, .long (sumL (fun e => DV (6 * e + 3)) d)), (0, .ref m)]) (st' := [.long (sumL (fun e => DV (6 * e + 3)) d)]) (by decide +kernel) rfl rfl ?_
      exact v_lret g z rfl (by decide +kernel) ⟨rfl, rfl⟩ (zcrn 0 0 rfl rfl (Nat.le_of_ble_eq_true rfl) (Nat.le_of_ble_eq_true rfl))
    · intro i hi ih
      refine v_blk g [.iload_n 3, .aload_n 0] (pc' := 6) (lv' := [(3, .int (nI i)), (1, .long (sumL (fun e => DV (6 * e + 3)) i)), (0, .ref m)]) (st' := [.ref m, .int (nI i)]) (by decide +kernel) rfl rfl ?_
      refine v_get g hm fl_X8_212 rfl (by decide +kernel) ?_
      refine v_icmp_ge g (off := 23) (tgt := 32) (by decide +kernel) (by decide) (fun c => absurd c (nI_ge hi (by omega))) (fun _ => ?_)
      refine v_blk g [.lload_n 1, .aload_n 0] (pc' := 14) (lv' := [(3, .int (nI i)), (1, .long (sumL (fun e => DV (6 * e + 3)) i)), (0, .ref m)]) (st' := [.ref m, .long (sumL (fun e => DV (6 * e + 3)) i)]) (by decide +kernel) rfl rfl ?_
      refine v_get g hm fl_X8_42 rfl (by decide +kernel) ?_
      refine v_blk g [.bipush 6, .iload_n 3, .imul, .iconst 3, .iadd] (pc' := 23) (lv' := [(3, .int (nI i)), (1, .long (sumL (fun e => DV (6 * e + 3)) i)), (0, .ref m)]) (st' := [.int (((6 : Int32) * (nI i)) + (3 : Int32)), .ref (R 8), .long (sumL (fun e => DV (6 * e + 3)) i)]) (by decide +kernel) rfl rfl ?_
      refine v_lald g k8 (6 * i + 3) (by rw [show (6 : Int32) = nI 6 from rfl, pk_mul, show (3 : Int32) = nI 3 from rfl, nI_add]) (by omega) (Nat.le_of_ble_eq_true rfl) (by decide +kernel) ?_
      refine v_blk g [.ladd, .lstore_n 1, .iinc 3 1] (pc' := 29) (lv' := [(3, .int ((nI i) + (1 : Int32))), (1, .long ((sumL (fun e => DV (6 * e + 3)) i) + (DV (6 * i + 3)))), (0, .ref m)]) (st' := []) (by decide +kernel) rfl rfl ?_
      refine v_goto g (off := -25) (tgt := 4) (by decide +kernel) (by decide) ?_
      refine v_lv [0, 1, 2] (lv' := [(3, .int ((nI i) + (1 : Int32))), (1, .long ((sumL (fun e => DV (6 * e + 3)) i) + (DV (6 * i + 3)))), (0, .ref m)]) rfl ?_
      exact v_eq (by rw [nI_1]; rfl) rfl ih
  exact key 0 (by omega)

set_option maxRecDepth 100000 in
set_option maxHeartbeats 4000000 in
theorem m_repeal {F : zF} {h : zH} {m : Nat} {R : Nat → Nat} {tp fk fp cn ha un wk pm cu ct dt pt hg th at9 sz : Int32} {hl pd hlt pdt : Int64} {d : Nat} (hm : h.1 m = some (oM R tp fk fp cn ha un (nI d) wk hl pd pm cu ct dt hlt pdt pt hg th at9 sz)) {DV : Nat → Int64} (k8 : h.1 (R 8) = some (aJ 24 DV)) (hd4 : d ≤ 4) : zMet F yX8_repeal cX8_repeal 2 (some .int) { frames := 2, cells := 0, slots := 0, locals := 60 } [.ref m] h (zP (z_s h m (oM R tp fk fp cn ha un (nI 0) wk (hl + sumL (fun e => DV (6 * e + 3)) d) pd pm cu ct dt hlt pdt pt hg 0 at9 sz)) (some (.int (nI d)))) := by
  refine zMet_of (lv := [(0, .ref m)]) (by decide) (by simp [lg_sl, Value.category]) rfl ?_
  intro X g z
  refine v_blk g [.aload_n 0, .iconst 0] (pc' := 2) (lv' := [(0, .ref m)]) (st' := [.int (0 : Int32), .ref m]) (by decide +kernel) rfl rfl ?_
  refine v_put g (fs' := oMl R tp fk fp cn ha un (nI d) wk hl pd pm cu ct dt hlt pdt pt hg (0 : Int32) at9 sz) hm fl_X8_89 rfl rfl (Nat.le_of_ble_eq_true rfl) rfl (by decide +kernel) ?_
  refine v_h (fun h1 eh1 => ?_)
  have h1_c : h1.2.1 = h.2.1 + 0 ∧ h1.2.2 = h.2.2 + 0 := zcs eh1 ⟨rfl, rfl⟩
  have h1_m : h1.1 m = some (oM R tp fk fp cn ha un (nI d) wk hl pd pm cu ct dt hlt pdt pt hg (0 : Int32) at9 sz) := by rw [eh1]; exact z_s_self _ _ _
  have h1_R8 : h1.1 (R 8) = some (aJ 24 DV) := by rw [eh1]; exact z_so k8 (Ne.symm (z_ne hm k8 rfl))
  refine v_blk g [.aload_n 0] (pc' := 6) (lv' := [(0, .ref m)]) (st' := [.ref m]) (by decide +kernel) rfl rfl ?_
  refine v_get g h1_m fl_X8_212 rfl (by decide +kernel) ?_
  refine v_blk g [.istore_n 1, .aload_n 0, .dup] (pc' := 12) (lv' := [(1, .int (nI d)), (0, .ref m)]) (st' := [.ref m, .ref m]) (by decide +kernel) rfl rfl ?_
  refine v_get g h1_m fl_X8_219 rfl (by decide +kernel) ?_
  refine v_blk g [.aload_n 0] (pc' := 16) (lv' := [(1, .int (nI d)), (0, .ref m)]) (st' := [.ref m, .long hl, .ref m]) (by decide +kernel) rfl rfl ?_
  refine v_callVp g (rest := [.long hl, .ref m]) (m_carried h1_m h1_R8 hd4) cl_X8_223 h1_m rfl rfl (Nat.le_of_ble_eq_true rfl) (by decide +kernel) ⟨Nat.le_of_ble_eq_true rfl, Nat.le_of_ble_eq_true rfl⟩ (zcsn 0 0 h1_c.1 h1_c.2 (Nat.le_of_ble_eq_true rfl) (Nat.le_of_ble_eq_true rfl)) ?_
  show zV F X h1 19 [(1, .int (nI d)), (0, .ref m)] [.long (sumL (fun e => DV (6 * e + 3)) d), .long hl, .ref m]
  refine v_blk g [.ladd] (pc' := 20) (lv' := [(1, .int (nI d)), (0, .ref m)]) (st' := [.long (hl + (sumL (fun e => DV (6 * e + 3)) d)), .ref m]) (by decide +kernel) rfl rfl ?_
  refine v_put g (fs' := oMl R tp fk fp cn ha un (nI d) wk (hl + (sumL (fun e => DV (6 * e + 3)) d)) pd pm cu ct dt hlt pdt pt hg (0 : Int32) at9 sz) h1_m fl_X8_219 rfl rfl (Nat.le_of_ble_eq_true rfl) rfl (by decide +kernel) ?_
  refine v_h (fun h2 eh2 => ?_)
  have h2_c : h2.2.1 = h.2.1 + 0 ∧ h2.2.2 = h.2.2 + 0 := zcs eh2 h1_c
  have h2_m : h2.1 m = some (oM R tp fk fp cn ha un (nI d) wk (hl + (sumL (fun e => DV (6 * e + 3)) d)) pd pm cu ct dt hlt pdt pt hg (0 : Int32) at9 sz) := by rw [eh2]; exact z_s_self _ _ _
  have h2_R8 : h2.1 (R 8) = some (aJ 24 DV) := by rw [eh2]; exact z_so h1_R8 (Ne.symm (z_ne hm k8 rfl))
  refine v_blk g [.aload_n 0, .iconst 0] (pc' := 25) (lv' := [(1, .int (nI d)), (0, .ref m)]) (st' := [.int (0 : Int32), .ref m]) (by decide +kernel) rfl rfl ?_
  refine v_put g (fs' := oMl R tp fk fp cn ha un (0 : Int32) wk (hl + (sumL (fun e => DV (6 * e + 3)) d)) pd pm cu ct dt hlt pdt pt hg (0 : Int32) at9 sz) h2_m fl_X8_212 rfl rfl (Nat.le_of_ble_eq_true rfl) rfl (by decide +kernel) ?_
  refine v_h (fun h3 eh3 => ?_)
  have h3_c : h3.2.1 = h.2.1 + 0 ∧ h3.2.2 = h.2.2 + 0 := zcs eh3 h2_c
  have h3_m : h3.1 m = some (oM R tp fk fp cn ha un (0 : Int32) wk (hl + (sumL (fun e => DV (6 * e + 3)) d)) pd pm cu ct dt hlt pdt pt hg (0 : Int32) at9 sz) := by rw [eh3]; exact z_s_self _ _ _
  have h3_R8 : h3.1 (R 8) = some (aJ 24 DV) := by rw [eh3]; exact z_so h2_R8 (Ne.symm (z_ne hm k8 rfl))
  refine v_blk g [.iload_n 1] (pc' := 29) (lv' := [(1, .int (nI d)), (0, .ref m)]) (st' := [.int (nI d)]) (by decide +kernel) rfl rfl ?_
  exact v_iret g z rfl (by decide +kernel) ⟨rfl, by rw [eh3, eh2, eh1]; simp only [z_ss]; rfl⟩ (zcrn 0 0 h3_c.1 h3_c.2 (Nat.le_of_ble_eq_true rfl) (Nat.le_of_ble_eq_true rfl))

def stm (LN PR VD : Nat → Int32) (q : Nat) : Int64 := if VD q = 0 then (nI (fb_ct (hs9 LN q) 16384)).toInt64 * (PR q).toInt64 else 0

set_option maxRecDepth 100000 in
set_option maxHeartbeats 4000000 in
theorem m_stakes {F : zF} {h : zH} {m : Nat} {R : Nat → Nat} {tp fk fp ha un dm wk pm cu ct dt pt hg th at9 sz : Int32} {hl pd hlt pdt : Int64} {n : Nat} (hm : h.1 m = some (oM R tp fk fp (nI n) ha un dm wk hl pd pm cu ct dt hlt pdt pt hg th at9 sz)) {LN : Nat → Int32} (k4 : h.1 (R 4) = some (aI 10240 LN)) {PR : Nat → Int32} (k5 : h.1 (R 5) = some (aI 20 PR)) {VD : Nat → Int32} (k7 : h.1 (R 7) = some (aZ 20 VD)) (hn : n ≤ 20) : zMet F yX8_stakes cX8_stakes 4 (some .long) { frames := 3, cells := 0, slots := 0, locals := 90 } [.ref m] h (zP h (some (.long (sumL (stm LN PR VD) n)))) := by
  refine zMet_of (lv := [(0, .ref m)]) (by decide) (by simp [lg_sl, Value.category]) rfl ?_
  intro X g z
  refine v_blk g [.lconst 0, .lstore_n 1, .iconst 0, .istore_n 3] (pc' := 4) (lv' := [(3, .int (0 : Int32)), (1, .long (0 : Int64)), (0, .ref m)]) (st' := []) (by decide +kernel) rfl rfl ?_
  have key : ∀ i, i ≤ n → zV F X h 4 [(3, .int (nI i)), (1, .long (sumL (stm LN PR VD) i)), (0, .ref m)] [] := by
    refine z_up (P := fun i => zV F X h 4 [(3, .int (nI i)), (1, .long (sumL (stm LN PR VD) i)), (0, .ref m)] []) n ?_ ?_
    · refine v_blk g [.iload_n 3, .aload_n 0] (pc' := 6) (lv' := [(3, .int (nI n)), (1, .long (sumL (stm LN PR VD) n)), (0, .ref m)]) (st' := [.ref m, .int (nI n)]) (by decide +kernel) rfl rfl ?_
      refine v_get g hm fl_X8_177 rfl (by decide +kernel) ?_
      refine v_icmp_ge g (off := 38) (tgt := 47) (by decide +kernel) (by decide) (fun _ => ?_) (fun c => absurd c (fun q => q (nI_le (Nat.le_refl _) (by omega))))
      refine v_blk g [.lload_n 1] (pc' := 48) (lv' := [(3, .int (nI n)), (1, .long (sumL (stm LN PR VD) n)), (0, .ref m)]) (st' := [.long (sumL (stm LN PR VD) n)]) (by decide +kernel) rfl rfl ?_
      exact v_lret g z rfl (by decide +kernel) ⟨rfl, rfl⟩ (zcrn 0 0 rfl rfl (Nat.le_of_ble_eq_true rfl) (Nat.le_of_ble_eq_true rfl))
    · intro i hi ih
      refine v_blk g [.iload_n 3, .aload_n 0] (pc' := 6) (lv' := [(3, .int (nI i)), (1, .long (sumL (stm LN PR VD) i)), (0, .ref m)]) (st' := [.ref m, .int (nI i)]) (by decide +kernel) rfl rfl ?_
      refine v_get g hm fl_X8_177 rfl (by decide +kernel) ?_
      refine v_icmp_ge g (off := 38) (tgt := 47) (by decide +kernel) (by decide) (fun c => absurd c (nI_ge hi (by omega))) (fun _ => ?_)
      refine v_blk g [.aload_n 0] (pc' := 13) (lv' := [(3, .int (nI i)), (1, .long (sumL (stm LN PR VD) i)), (0, .ref m)]) (st' := [.ref m]) (by decide +kernel) rfl rfl ?_
      refine v_get g hm fl_X8_31 rfl (by decide +kernel) ?_
      refine v_blk g [.iload_n 3] (pc' := 17) (lv' := [(3, .int (nI i)), (1, .long (sumL (stm LN PR VD) i)), (0, .ref m)]) (st' := [.int (nI i), .ref (R 7)]) (by decide +kernel) rfl rfl ?_
      refine v_zald g k7 i rfl (by omega) (Nat.le_of_ble_eq_true rfl) (by decide +kernel) ?_
      refine v_if_ne g (off := 23) (tgt := 41) (by decide +kernel) (by decide) (fun c => ?_) (fun c => ?_)
      · refine v_blk g [.iinc 3 1] (pc' := 44) (lv' := [(3, .int ((nI i) + (1 : Int32))), (1, .long (sumL (stm LN PR VD) i)), (0, .ref m)]) (st' := []) (by decide +kernel) rfl rfl ?_
        refine v_goto g (off := -40) (tgt := 4) (by decide +kernel) (by decide) ?_
        refine v_lv [0, 1, 2] (lv' := [(3, .int ((nI i) + (1 : Int32))), (1, .long (sumL (stm LN PR VD) i)), (0, .ref m)]) rfl ?_
        exact v_eq (by rw [nI_1, show sumL (stm LN PR VD) (i + 1) = sumL (stm LN PR VD) i + stm LN PR VD i from rfl, stm, if_neg c, Int64.add_zero]) rfl ih
      · refine v_blk g [.lload_n 1, .aload_n 0, .iload_n 3, .sipush 16384] (pc' := 27) (lv' := [(3, .int (nI i)), (1, .long (sumL (stm LN PR VD) i)), (0, .ref m)]) (st' := [.int (16384 : Int32), .int (nI i), .ref m, .long (sumL (stm LN PR VD) i)]) (by decide +kernel) rfl rfl ?_
        refine v_callVp g (rest := [.long (sumL (stm LN PR VD) i)]) (m_below0 (N := 16384) hm k4 (by omega) (by decide)) cl_X8_188 hm rfl rfl (Nat.le_of_ble_eq_true rfl) (by decide +kernel) ⟨Nat.le_of_ble_eq_true rfl, Nat.le_of_ble_eq_true rfl⟩ (zcsn 0 0 rfl rfl (Nat.le_of_ble_eq_true rfl) (Nat.le_of_ble_eq_true rfl)) ?_
        show zV F X h 30 [(3, .int (nI i)), (1, .long (sumL (stm LN PR VD) i)), (0, .ref m)] [.int (nI (fb_ct (hs9 LN i) 16384)), .long (sumL (stm LN PR VD) i)]
        refine v_blk g [.i2l, .aload_n 0] (pc' := 32) (lv' := [(3, .int (nI i)), (1, .long (sumL (stm LN PR VD) i)), (0, .ref m)]) (st' := [.ref m, .long ((nI (fb_ct (hs9 LN i) 16384)).toInt64), .long (sumL (stm LN PR VD) i)]) (by decide +kernel) rfl rfl ?_
        refine v_get g hm fl_X8_25 rfl (by decide +kernel) ?_
        refine v_blk g [.iload_n 3] (pc' := 36) (lv' := [(3, .int (nI i)), (1, .long (sumL (stm LN PR VD) i)), (0, .ref m)]) (st' := [.int (nI i), .ref (R 5), .long ((nI (fb_ct (hs9 LN i) 16384)).toInt64), .long (sumL (stm LN PR VD) i)]) (by decide +kernel) rfl rfl ?_
        refine v_iald g k5 i rfl (by omega) (Nat.le_of_ble_eq_true rfl) (by decide +kernel) ?_
        refine v_blk g [.i2l, .lmul, .ladd, .lstore_n 1] (pc' := 41) (lv' := [(1, .long ((sumL (stm LN PR VD) i) + (((nI (fb_ct (hs9 LN i) 16384)).toInt64) * ((PR i).toInt64)))), (3, .int (nI i)), (0, .ref m)]) (st' := []) (by decide +kernel) rfl rfl ?_
        refine v_blk g [.iinc 3 1] (pc' := 44) (lv' := [(3, .int ((nI i) + (1 : Int32))), (1, .long ((sumL (stm LN PR VD) i) + (((nI (fb_ct (hs9 LN i) 16384)).toInt64) * ((PR i).toInt64)))), (0, .ref m)]) (st' := []) (by decide +kernel) rfl rfl ?_
        refine v_goto g (off := -40) (tgt := 4) (by decide +kernel) (by decide) ?_
        refine v_lv [0, 1, 2] (lv' := [(3, .int ((nI i) + (1 : Int32))), (1, .long ((sumL (stm LN PR VD) i) + (((nI (fb_ct (hs9 LN i) 16384)).toInt64) * ((PR i).toInt64)))), (0, .ref m)]) rfl ?_
        exact v_eq (by rw [nI_1, show sumL (stm LN PR VD) (i + 1) = sumL (stm LN PR VD) i + stm LN PR VD i from rfl, stm, if_pos c]) rfl ih
  exact key 0 (by omega)

set_option maxRecDepth 100000 in
set_option maxHeartbeats 4000000 in
theorem m_copyI {F : zF} {h : zH} {a b n : Nat} {f f2 : Nat → Int32} (ha : h.1 a = some (aI n f)) (hb : h.1 b = some (aI n f2)) (hne : a ≠ b) (hn : n ≤ 1000000) : zMet F yX8_copy cX8_copy 3 none { frames := 1, cells := 0, slots := 0, locals := 30 } [.ref a, .ref b] h (zP (z_s h b (aI n (mx f f2 n))) none) := by
  refine zMet_of (lv := [(0, .ref a), (1, .ref b)]) (by decide) (by simp [lg_sl, Value.category]) rfl ?_
  intro X g z
  refine v_blk g [.iconst 0, .istore_n 2] (pc' := 2) (lv' := [(2, .int (0 : Int32)), (0, .ref a), (1, .ref b)]) (st' := []) (by decide +kernel) rfl rfl ?_
  have key : ∀ i, i ≤ n → zV F X (z_s h b (aI n (mx f f2 i))) 2 [(2, .int (nI i)), (0, .ref a), (1, .ref b)] [] := by
    refine z_up (P := fun i => zV F X (z_s h b (aI n (mx f f2 i))) 2 [(2, .int (nI i)), (0, .ref a), (1, .ref b)] []) n ?_ ?_
    · refine v_blk g [.iload_n 2, .aload_n 1] (pc' := 4) (lv' := [(2, .int (nI n)), (0, .ref a), (1, .ref b)]) (st' := [.ref b, .int (nI n)]) (by decide +kernel) rfl rfl ?_
      refine v_alen g (z_s_self _ _ _) (by decide) (by decide +kernel) ?_
      refine v_icmp_ge g (off := 15) (tgt := 20) (by decide +kernel) (by decide) (fun _ => ?_) (fun c => absurd c (fun q => q (nI_le (Nat.le_refl _) (by omega))))
      exact v_vret g z rfl (by decide +kernel) ⟨rfl, rfl⟩ (zcrn 0 0 rfl rfl (Nat.le_of_ble_eq_true rfl) (Nat.le_of_ble_eq_true rfl))
    · intro i hi ih
      refine v_blk g [.iload_n 2, .aload_n 1] (pc' := 4) (lv' := [(2, .int (nI i)), (0, .ref a), (1, .ref b)]) (st' := [.ref b, .int (nI i)]) (by decide +kernel) rfl rfl ?_
      refine v_alen g (z_s_self _ _ _) (by decide) (by decide +kernel) ?_
      refine v_icmp_ge g (off := 15) (tgt := 20) (by decide +kernel) (by decide) (fun c => absurd c (nI_ge hi (by omega))) (fun _ => ?_)
      refine v_blk g [.aload_n 1, .iload_n 2, .aload_n 0, .iload_n 2] (pc' := 12) (lv' := [(2, .int (nI i)), (0, .ref a), (1, .ref b)]) (st' := [.int (nI i), .ref a, .int (nI i), .ref b]) (by decide +kernel) rfl rfl ?_
      refine v_iald g (z_so ha hne) i rfl hi hn (by decide +kernel) ?_
      refine v_iast g (z_s_self _ _ _) i rfl hi hn (by decide +kernel) ?_
      refine v_eqh (h' := z_s h b (aI n (mx f f2 (i + 1)))) (by rw [z_ss, mx_I]) ?_
      refine v_blk g [.iinc 2 1] (pc' := 17) (lv' := [(2, .int ((nI i) + (1 : Int32))), (0, .ref a), (1, .ref b)]) (st' := []) (by decide +kernel) rfl rfl ?_
      refine v_goto g (off := -15) (tgt := 2) (by decide +kernel) (by decide) ?_
      refine v_lv [0, 1, 2] (lv' := [(2, .int ((nI i) + (1 : Int32))), (0, .ref a), (1, .ref b)]) rfl ?_
      exact v_eq (by rw [nI_1]) rfl ih
  exact v_eqh (by rw [mx_0, z_sid hb]) (key 0 (by omega))

set_option maxRecDepth 100000 in
set_option maxHeartbeats 4000000 in
theorem m_copyJ {F : zF} {h : zH} {a b n : Nat} {f f2 : Nat → Int64} (ha : h.1 a = some (aJ n f)) (hb : h.1 b = some (aJ n f2)) (hne : a ≠ b) (hn : n ≤ 1000000) : zMet F yX8_copy_ cX8_copy_ 3 none { frames := 1, cells := 0, slots := 0, locals := 30 } [.ref a, .ref b] h (zP (z_s h b (aJ n (mx f f2 n))) none) := by
  refine zMet_of (lv := [(0, .ref a), (1, .ref b)]) (by decide) (by simp [lg_sl, Value.category]) rfl ?_
  intro X g z
  refine v_blk g [.iconst 0, .istore_n 2] (pc' := 2) (lv' := [(2, .int (0 : Int32)), (0, .ref a), (1, .ref b)]) (st' := []) (by decide +kernel) rfl rfl ?_
  have key : ∀ i, i ≤ n → zV F X (z_s h b (aJ n (mx f f2 i))) 2 [(2, .int (nI i)), (0, .ref a), (1, .ref b)] [] := by
    refine z_up (P := fun i => zV F X (z_s h b (aJ n (mx f f2 i))) 2 [(2, .int (nI i)), (0, .ref a), (1, .ref b)] []) n ?_ ?_
    · refine v_blk g [.iload_n 2, .aload_n 1] (pc' := 4) (lv' := [(2, .int (nI n)), (0, .ref a), (1, .ref b)]) (st' := [.ref b, .int (nI n)]) (by decide +kernel) rfl rfl ?_
      refine v_alen g (z_s_self _ _ _) (by decide) (by decide +kernel) ?_
      refine v_icmp_ge g (off := 15) (tgt := 20) (by decide +kernel) (by decide) (fun _ => ?_) (fun c => absurd c (fun q => q (nI_le (Nat.le_refl _) (by omega))))
      exact v_vret g z rfl (by decide +kernel) ⟨rfl, rfl⟩ (zcrn 0 0 rfl rfl (Nat.le_of_ble_eq_true rfl) (Nat.le_of_ble_eq_true rfl))
    · intro i hi ih
      refine v_blk g [.iload_n 2, .aload_n 1] (pc' := 4) (lv' := [(2, .int (nI i)), (0, .ref a), (1, .ref b)]) (st' := [.ref b, .int (nI i)]) (by decide +kernel) rfl rfl ?_
      refine v_alen g (z_s_self _ _ _) (by decide) (by decide +kernel) ?_
      refine v_icmp_ge g (off := 15) (tgt := 20) (by decide +kernel) (by decide) (fun c => absurd c (nI_ge hi (by omega))) (fun _ => ?_)
      refine v_blk g [.aload_n 1, .iload_n 2, .aload_n 0, .iload_n 2] (pc' := 12) (lv' := [(2, .int (nI i)), (0, .ref a), (1, .ref b)]) (st' := [.int (nI i), .ref a, .int (nI i), .ref b]) (by decide +kernel) rfl rfl ?_
      refine v_lald g (z_so ha hne) i rfl hi hn (by decide +kernel) ?_
      refine v_last g (z_s_self _ _ _) i rfl hi hn (by decide +kernel) ?_
      refine v_eqh (h' := z_s h b (aJ n (mx f f2 (i + 1)))) (by rw [z_ss, mx_J]) ?_
      refine v_blk g [.iinc 2 1] (pc' := 17) (lv' := [(2, .int ((nI i) + (1 : Int32))), (0, .ref a), (1, .ref b)]) (st' := []) (by decide +kernel) rfl rfl ?_
      refine v_goto g (off := -15) (tgt := 2) (by decide +kernel) (by decide) ?_
      refine v_lv [0, 1, 2] (lv' := [(2, .int ((nI i) + (1 : Int32))), (0, .ref a), (1, .ref b)]) rfl ?_
      exact v_eq (by rw [nI_1]) rfl ih
  exact v_eqh (by rw [mx_0, z_sid hb]) (key 0 (by omega))
