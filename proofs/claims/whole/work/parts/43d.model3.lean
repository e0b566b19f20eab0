def told9 (S : Nat → Bool) (pr pa vd w : Int32) : Int32 := if w = 0 then nI (fb_ct S 16384) else if w = 1 then nI (fb_ct S 16384) * pr else if w = 2 then (if vd = 0 then 0 else 1) else if w = 3 then pr else if w = 4 then pa else if w = 5 then nI (s_or S 16384) else nI (s_an S 16384)

set_option maxRecDepth 100000 in
set_option maxHeartbeats 4000000 in
theorem m_told {F : zF} {h : zH} {m : Nat} {R : Nat → Nat} {tp fk fp ha un dm wk pm cu ct dt pt hg th at9 sz : Int32} {hl pd hlt pdt : Int64} {n : Nat} (hm : h.1 m = some (oM R tp fk fp (nI n) ha un dm wk hl pd pm cu ct dt hlt pdt pt hg th at9 sz)) {LN : Nat → Int32} (k4 : h.1 (R 4) = some (aI 10240 LN)) {PR : Nat → Int32} (k5 : h.1 (R 5) = some (aI 20 PR)) {PA : Nat → Int32} (k6 : h.1 (R 6) = some (aI 20 PA)) {VD : Nat → Int32} (k7 : h.1 (R 7) = some (aZ 20 VD)) (hn : n ≤ 20) (v x : Int32) : zMet F yX8_told cX8_told 6 (some .int) { frames := 3, cells := 0, slots := 0, locals := 90 } [.ref m, .int v, .int x] h (zP (if ¬ x_C n v = 0 ∧ ¬ x_isIn x 0 6 = 0 then z_s h m (oM R tp fk fp (nI n) ha un dm wk hl pd pm cu ct dt hlt pdt pt hg 0 at9 sz) else z_s h m (oM R tp fk fp (nI n) ha un dm wk hl pd pm cu ct dt hlt pdt pt hg 1 at9 sz)) (some (.int (if ¬ x_C n v = 0 ∧ ¬ x_isIn x 0 6 = 0 then told9 (hs9 LN v.toNatClampNeg) (PR v.toNatClampNeg) (PA v.toNatClampNeg) (VD v.toNatClampNeg) x else 0)))) := by
  refine zMet_of (lv := [(0, .ref m), (1, .int v), (2, .int x)]) (by decide) (by simp [lg_sl, Value.category]) rfl ?_
  intro X g z
  refine v_blk g [.aload_n 0, .iconst 0] (pc' := 2) (lv' := [(0, .ref m), (1, .int v), (2, .int x)]) (st' := [.int (0 : Int32), .ref m]) (by decide +kernel) rfl rfl ?_
  refine v_put g (fs' := oMl R tp fk fp (nI n) ha un dm wk hl pd pm cu ct dt hlt pdt pt hg (0 : Int32) at9 sz) hm fl_X8_89 rfl rfl (Nat.le_of_ble_eq_true rfl) rfl (by decide +kernel) ?_
  refine v_h (fun h1 eh1 => ?_)
  have h1_c : h1.2.1 = h.2.1 + 0 ∧ h1.2.2 = h.2.2 + 0 := zcs eh1 ⟨rfl, rfl⟩
  have h1_m : h1.1 m = some (oM R tp fk fp (nI n) ha un dm wk hl pd pm cu ct dt hlt pdt pt hg (0 : Int32) at9 sz) := by rw [eh1]; exact z_s_self _ _ _
  have h1_R4 : h1.1 (R 4) = some (aI 10240 LN) := by rw [eh1]; exact z_so k4 (Ne.symm (z_ne hm k4 rfl))
  have h1_R5 : h1.1 (R 5) = some (aI 20 PR) := by rw [eh1]; exact z_so k5 (Ne.symm (z_ne hm k5 rfl))
  have h1_R6 : h1.1 (R 6) = some (aI 20 PA) := by rw [eh1]; exact z_so k6 (Ne.symm (z_ne hm k6 rfl))
  have h1_R7 : h1.1 (R 7) = some (aZ 20 VD) := by rw [eh1]; exact z_so k7 (Ne.symm (z_ne hm k7 rfl))
  refine v_blk g [.aload_n 0, .iload_n 1] (pc' := 7) (lv' := [(0, .ref m), (1, .int v), (2, .int x)]) (st' := [.int v, .ref m]) (by decide +kernel) rfl rfl ?_
  refine v_callVp g (rest := []) (m_isCoupon h1_m (by omega) v) cl_X8_183 h1_m rfl rfl (Nat.le_of_ble_eq_true rfl) (by decide +kernel) ⟨Nat.le_of_ble_eq_true rfl, Nat.le_of_ble_eq_true rfl⟩ (zcsn 0 0 h1_c.1 h1_c.2 (Nat.le_of_ble_eq_true rfl) (Nat.le_of_ble_eq_true rfl)) ?_
  show zV F X h1 10 [(0, .ref m), (1, .int v), (2, .int x)] [.int (x_C n v)]
  refine v_if_eq g (off := 15) (tgt := 25) (by decide +kernel) (by decide) (fun c0 => ?_) (fun c0 => ?_)
  · refine v_blk g [.aload_n 0, .iconst 1] (pc' := 27) (lv' := [(0, .ref m), (1, .int v), (2, .int x)]) (st' := [.int (1 : Int32), .ref m]) (by decide +kernel) rfl rfl ?_
    refine v_put g (fs' := oMl R tp fk fp (nI n) ha un dm wk hl pd pm cu ct dt hlt pdt pt hg (1 : Int32) at9 sz) h1_m fl_X8_89 rfl rfl (Nat.le_of_ble_eq_true rfl) rfl (by decide +kernel) ?_
    refine v_h (fun h2 eh2 => ?_)
    have h2_c : h2.2.1 = h.2.1 + 0 ∧ h2.2.2 = h.2.2 + 0 := zcs eh2 h1_c
    have h2_m : h2.1 m = some (oM R tp fk fp (nI n) ha un dm wk hl pd pm cu ct dt hlt pdt pt hg (1 : Int32) at9 sz) := by rw [eh2]; exact z_s_self _ _ _
    have h2_R4 : h2.1 (R 4) = some (aI 10240 LN) := by rw [eh2]; exact z_so h1_R4 (Ne.symm (z_ne hm k4 rfl))
    have h2_R5 : h2.1 (R 5) = some (aI 20 PR) := by rw [eh2]; exact z_so h1_R5 (Ne.symm (z_ne hm k5 rfl))
    have h2_R6 : h2.1 (R 6) = some (aI 20 PA) := by rw [eh2]; exact z_so h1_R6 (Ne.symm (z_ne hm k6 rfl))
    have h2_R7 : h2.1 (R 7) = some (aZ 20 VD) := by rw [eh2]; exact z_so h1_R7 (Ne.symm (z_ne hm k7 rfl))
    refine v_blk g [.iconst 0] (pc' := 31) (lv' := [(0, .ref m), (1, .int v), (2, .int x)]) (st' := [.int (0 : Int32)]) (by decide +kernel) rfl rfl ?_
    exact v_iret g z rfl (by decide +kernel) ⟨by rw [if_neg (fun q => q.1 c0)], by rw [if_neg (fun q => q.1 c0), eh2, eh1, z_ss]⟩ (zcrn 0 0 h2_c.1 h2_c.2 (Nat.le_of_ble_eq_true rfl) (Nat.le_of_ble_eq_true rfl))
  · refine v_blk g [.iload_n 2, .i2l, .lconst 0] (pc' := 16) (lv' := [(0, .ref m), (1, .int v), (2, .int x)]) (st' := [.long (0 : Int64), .long x.toInt64]) (by decide +kernel) rfl rfl ?_
    refine v_ldc2 g kc_X8_186 (by decide +kernel) ?_
    refine v_callSp g (rest := []) (m_in _ _ _) cl_X8_94 rfl (Nat.le_of_ble_eq_true rfl) (by decide +kernel) ⟨Nat.le_of_ble_eq_true rfl, Nat.le_of_ble_eq_true rfl⟩ (zcsn 0 0 h1_c.1 h1_c.2 (Nat.le_of_ble_eq_true rfl) (Nat.le_of_ble_eq_true rfl)) ?_
    show zV F X h1 22 [(0, .ref m), (1, .int v), (2, .int x)] [.int (x_in x.toInt64 (0 : Int64) (6 : Int64))]
    refine v_ti (z := x_isIn x (0) (6)) (in_eq x (0) (6) rfl rfl) ?_
    refine v_if_ne g (off := 10) (tgt := 32) (by decide +kernel) (by decide) (fun c1 => ?_) (fun c1 => ?_)
    · have c9 : ¬ x_C n v = 0 ∧ ¬ x_isIn x 0 6 = 0 := ⟨c0, c1⟩
      obtain ⟨k, hk, rfl⟩ := x_C_k (by omega) c0
      have ek : (nI k).toNatClampNeg = k := nI_clamp (by omega)
      obtain ⟨j, hj, rfl⟩ := isIn_k (N := 6) (by decide) c1
      refine v_blk g [.iconst 0, .istore_n 3, .sipush 16383, .istore 4, .iload_n 2] (pc' := 40) (lv' := [(4, .int (16383 : Int32)), (3, .int (0 : Int32)), (0, .ref m), (1, .int (nI k)), (2, .int (nI j))]) (st' := [.int (nI j)]) (by decide +kernel) rfl rfl ?_
      have hj7 : j = 0 ∨ j = 1 ∨ j = 2 ∨ j = 3 ∨ j = 4 ∨ 5 ≤ j := by omega
      rcases hj7 with rfl | rfl | rfl | rfl | rfl | h5
      · refine v_tabI g 0 (dflt := 90) (lo := 0) (hi := 4) (offs := #[36, 45, 61, 76, 83]) (len := 36) (off := 36) (tgt := 76) (by decide +kernel) (by decide) (by decide) rfl (by decide) ?_
        refine v_blk g [.aload_n 0, .iload_n 1, .sipush 16384] (pc' := 81) (lv' := [(4, .int (16383 : Int32)), (3, .int (0 : Int32)), (0, .ref m), (1, .int (nI k)), (2, .int (nI 0))]) (st' := [.int (16384 : Int32), .int (nI k), .ref m]) (by decide +kernel) rfl rfl ?_
        refine v_callVp g (rest := []) (m_below0 (N := 16384) h1_m h1_R4 (by omega) (by decide)) cl_X8_188 h1_m rfl rfl (Nat.le_of_ble_eq_true rfl) (by decide +kernel) ⟨Nat.le_of_ble_eq_true rfl, Nat.le_of_ble_eq_true rfl⟩ (zcsn 0 0 h1_c.1 h1_c.2 (Nat.le_of_ble_eq_true rfl) (Nat.le_of_ble_eq_true rfl)) ?_
        show zV F X h1 84 [(4, .int (16383 : Int32)), (3, .int (0 : Int32)), (0, .ref m), (1, .int (nI k)), (2, .int (nI 0))] [.int (nI (fb_ct (hs9 LN k) 16384))]
        exact v_iret g z rfl (by decide +kernel) ⟨by rw [if_pos c9, ek]; rfl, by rw [if_pos c9, eh1]⟩ (zcrn 0 0 h1_c.1 h1_c.2 (Nat.le_of_ble_eq_true rfl) (Nat.le_of_ble_eq_true rfl))
      · refine v_tabI g 1 (dflt := 90) (lo := 0) (hi := 4) (offs := #[36, 45, 61, 76, 83]) (len := 36) (off := 45) (tgt := 85) (by decide +kernel) (by decide) (by decide) rfl (by decide) ?_
        refine v_blk g [.aload_n 0, .iload_n 1, .sipush 16384] (pc' := 90) (lv' := [(4, .int (16383 : Int32)), (3, .int (0 : Int32)), (0, .ref m), (1, .int (nI k)), (2, .int (nI 1))]) (st' := [.int (16384 : Int32), .int (nI k), .ref m]) (by decide +kernel) rfl rfl ?_
        refine v_callVp g (rest := []) (m_below0 (N := 16384) h1_m h1_R4 (by omega) (by decide)) cl_X8_188 h1_m rfl rfl (Nat.le_of_ble_eq_true rfl) (by decide +kernel) ⟨Nat.le_of_ble_eq_true rfl, Nat.le_of_ble_eq_true rfl⟩ (zcsn 0 0 h1_c.1 h1_c.2 (Nat.le_of_ble_eq_true rfl) (Nat.le_of_ble_eq_true rfl)) ?_
        show zV F X h1 93 [(4, .int (16383 : Int32)), (3, .int (0 : Int32)), (0, .ref m), (1, .int (nI k)), (2, .int (nI 1))] [.int (nI (fb_ct (hs9 LN k) 16384))]
        refine v_blk g [.aload_n 0] (pc' := 94) (lv' := [(4, .int (16383 : Int32)), (3, .int (0 : Int32)), (0, .ref m), (1, .int (nI k)), (2, .int (nI 1))]) (st' := [.ref m, .int (nI (fb_ct (hs9 LN k) 16384))]) (by decide +kernel) rfl rfl ?_
        refine v_get g h1_m fl_X8_25 rfl (by decide +kernel) ?_
        refine v_blk g [.iload_n 1] (pc' := 98) (lv' := [(4, .int (16383 : Int32)), (3, .int (0 : Int32)), (0, .ref m), (1, .int (nI k)), (2, .int (nI 1))]) (st' := [.int (nI k), .ref (R 5), .int (nI (fb_ct (hs9 LN k) 16384))]) (by decide +kernel) rfl rfl ?_
        refine v_iald g h1_R5 k rfl (by omega) (Nat.le_of_ble_eq_true rfl) (by decide +kernel) ?_
        refine v_blk g [.imul] (pc' := 100) (lv' := [(4, .int (16383 : Int32)), (3, .int (0 : Int32)), (0, .ref m), (1, .int (nI k)), (2, .int (nI 1))]) (st' := [.int ((nI (fb_ct (hs9 LN k) 16384)) * (PR k))]) (by decide +kernel) rfl rfl ?_
        exact v_iret g z rfl (by decide +kernel) ⟨by rw [if_pos c9, ek]; rfl, by rw [if_pos c9, eh1]⟩ (zcrn 0 0 h1_c.1 h1_c.2 (Nat.le_of_ble_eq_true rfl) (Nat.le_of_ble_eq_true rfl))
      · refine v_tabI g 2 (dflt := 90) (lo := 0) (hi := 4) (offs := #[36, 45, 61, 76, 83]) (len := 36) (off := 61) (tgt := 101) (by decide +kernel) (by decide) (by decide) rfl (by decide) ?_
        refine v_blk g [.aload_n 0] (pc' := 102) (lv' := [(4, .int (16383 : Int32)), (3, .int (0 : Int32)), (0, .ref m), (1, .int (nI k)), (2, .int (nI 2))]) (st' := [.ref m]) (by decide +kernel) rfl rfl ?_
        refine v_get g h1_m fl_X8_31 rfl (by decide +kernel) ?_
        refine v_blk g [.iload_n 1] (pc' := 106) (lv' := [(4, .int (16383 : Int32)), (3, .int (0 : Int32)), (0, .ref m), (1, .int (nI k)), (2, .int (nI 2))]) (st' := [.int (nI k), .ref (R 7)]) (by decide +kernel) rfl rfl ?_
        refine v_zald g h1_R7 k rfl (by omega) (Nat.le_of_ble_eq_true rfl) (by decide +kernel) ?_
        refine v_if_eq g (off := 7) (tgt := 114) (by decide +kernel) (by decide) (fun c5 => ?_) (fun c5 => ?_)
        · refine v_blk g [.iconst 0] (pc' := 115) (lv' := [(4, .int (16383 : Int32)), (3, .int (0 : Int32)), (0, .ref m), (1, .int (nI k)), (2, .int (nI 2))]) (st' := [.int (0 : Int32)]) (by decide +kernel) rfl rfl ?_
          exact v_iret g z rfl (by decide +kernel) ⟨by rw [if_pos c9, ek, told9, if_neg (by decide), if_neg (by decide), if_pos (show nI 2 = 2 from rfl), if_pos c5], by rw [if_pos c9, eh1]⟩ (zcrn 0 0 h1_c.1 h1_c.2 (Nat.le_of_ble_eq_true rfl) (Nat.le_of_ble_eq_true rfl))
        · refine v_blk g [.iconst 1] (pc' := 111) (lv' := [(4, .int (16383 : Int32)), (3, .int (0 : Int32)), (0, .ref m), (1, .int (nI k)), (2, .int (nI 2))]) (st' := [.int (1 : Int32)]) (by decide +kernel) rfl rfl ?_
          refine v_goto g (off := 4) (tgt := 115) (by decide +kernel) (by decide) ?_
          exact v_iret g z rfl (by decide +kernel) ⟨by rw [if_pos c9, ek, told9, if_neg (by decide), if_neg (by decide), if_pos (show nI 2 = 2 from rfl), if_neg c5], by rw [if_pos c9, eh1]⟩ (zcrn 0 0 h1_c.1 h1_c.2 (Nat.le_of_ble_eq_true rfl) (Nat.le_of_ble_eq_true rfl))
      · refine v_tabI g 3 (dflt := 90) (lo := 0) (hi := 4) (offs := #[36, 45, 61, 76, 83]) (len := 36) (off := 76) (tgt := 116) (by decide +kernel) (by decide) (by decide) rfl (by decide) ?_
        refine v_blk g [.aload_n 0] (pc' := 117) (lv' := [(4, .int (16383 : Int32)), (3, .int (0 : Int32)), (0, .ref m), (1, .int (nI k)), (2, .int (nI 3))]) (st' := [.ref m]) (by decide +kernel) rfl rfl ?_
        refine v_get g h1_m fl_X8_25 rfl (by decide +kernel) ?_
        refine v_blk g [.iload_n 1] (pc' := 121) (lv' := [(4, .int (16383 : Int32)), (3, .int (0 : Int32)), (0, .ref m), (1, .int (nI k)), (2, .int (nI 3))]) (st' := [.int (nI k), .ref (R 5)]) (by decide +kernel) rfl rfl ?_
        refine v_iald g h1_R5 k rfl (by omega) (Nat.le_of_ble_eq_true rfl) (by decide +kernel) ?_
        exact v_iret g z rfl (by decide +kernel) ⟨by rw [if_pos c9, ek]; rfl, by rw [if_pos c9, eh1]⟩ (zcrn 0 0 h1_c.1 h1_c.2 (Nat.le_of_ble_eq_true rfl) (Nat.le_of_ble_eq_true rfl))
      · refine v_tabI g 4 (dflt := 90) (lo := 0) (hi := 4) (offs := #[36, 45, 61, 76, 83]) (len := 36) (off := 83) (tgt := 123) (by decide +kernel) (by decide) (by decide) rfl (by decide) ?_
        refine v_blk g [.aload_n 0] (pc' := 124) (lv' := [(4, .int (16383 : Int32)), (3, .int (0 : Int32)), (0, .ref m), (1, .int (nI k)), (2, .int (nI 4))]) (st' := [.ref m]) (by decide +kernel) rfl rfl ?_
        refine v_get g h1_m fl_X8_28 rfl (by decide +kernel) ?_
        refine v_blk g [.iload_n 1] (pc' := 128) (lv' := [(4, .int (16383 : Int32)), (3, .int (0 : Int32)), (0, .ref m), (1, .int (nI k)), (2, .int (nI 4))]) (st' := [.int (nI k), .ref (R 6)]) (by decide +kernel) rfl rfl ?_
        refine v_iald g h1_R6 k rfl (by omega) (Nat.le_of_ble_eq_true rfl) (by decide +kernel) ?_
        exact v_iret g z rfl (by decide +kernel) ⟨by rw [if_pos c9, ek]; rfl, by rw [if_pos c9, eh1]⟩ (zcrn 0 0 h1_c.1 h1_c.2 (Nat.le_of_ble_eq_true rfl) (Nat.le_of_ble_eq_true rfl))
      · have dj : ∀ t, t < 5 → ¬ nI j = nI t := fun t ht e => by have := (nI_eq (a := j) (b := t) (by omega) (by omega)).mp e; omega
        refine v_tabO g (dflt := 90) (lo := 0) (hi := 4) (offs := #[36, 45, 61, 76, 83]) (len := 36) (tgt := 130) (by decide +kernel) (Or.inr (by rw [nI_toInt (by omega)]; omega)) (by decide) ?_
        refine v_blk g [.iconst 0, .istore 5] (pc' := 133) (lv' := [(5, .int (0 : Int32)), (4, .int (16383 : Int32)), (3, .int (0 : Int32)), (0, .ref m), (1, .int (nI k)), (2, .int (nI j))]) (st' := []) (by decide +kernel) rfl rfl ?_
        have key : ∀ i, i ≤ 16384 → zV F X h1 133 [(5, .int (nI i)), (4, .int (nI (s_an (hs9 LN k) i))), (3, .int (nI (s_or (hs9 LN k) i))), (0, .ref m), (1, .int (nI k)), (2, .int (nI j))] [] := by
          refine z_up (P := fun i => zV F X h1 133 [(5, .int (nI i)), (4, .int (nI (s_an (hs9 LN k) i))), (3, .int (nI (s_or (hs9 LN k) i))), (0, .ref m), (1, .int (nI k)), (2, .int (nI j))] []) 16384 ?_ ?_
          · refine v_blk g [.iload 5, .sipush 16384] (pc' := 138) (lv' := [(5, .int (nI 16384)), (4, .int (nI (s_an (hs9 LN k) 16384))), (3, .int (nI (s_or (hs9 LN k) 16384))), (0, .ref m), (1, .int (nI k)), (2, .int (nI j))]) (st' := [.int (16384 : Int32), .int (nI 16384)]) (by decide +kernel) rfl rfl ?_
            refine v_icmp_ge g (off := 34) (tgt := 172) (by decide +kernel) (by decide) (fun _ => ?_) (fun c => absurd c (fun q => q (by decide)))
            refine v_blk g [.iload_n 2, .iconst 5] (pc' := 174) (lv' := [(5, .int (nI 16384)), (4, .int (nI (s_an (hs9 LN k) 16384))), (3, .int (nI (s_or (hs9 LN k) 16384))), (0, .ref m), (1, .int (nI k)), (2, .int (nI j))]) (st' := [.int (5 : Int32), .int (nI j)]) (by decide +kernel) rfl rfl ?_
            refine v_icmp_ne g (off := 7) (tgt := 181) (by decide +kernel) (by decide) (fun c5 => ?_) (fun c5 => ?_)
            · refine v_blk g [.iload 4] (pc' := 183) (lv' := [(5, .int (nI 16384)), (4, .int (nI (s_an (hs9 LN k) 16384))), (3, .int (nI (s_or (hs9 LN k) 16384))), (0, .ref m), (1, .int (nI k)), (2, .int (nI j))]) (st' := [.int (nI (s_an (hs9 LN k) 16384))]) (by decide +kernel) rfl rfl ?_
              exact v_iret g z rfl (by decide +kernel) ⟨by rw [if_pos c9, ek, told9, if_neg (show ¬ nI j = 0 from dj 0 (by decide)), if_neg (show ¬ nI j = 1 from dj 1 (by decide)), if_neg (show ¬ nI j = 2 from dj 2 (by decide)), if_neg (show ¬ nI j = 3 from dj 3 (by decide)), if_neg (show ¬ nI j = 4 from dj 4 (by decide)), if_neg c5], by rw [if_pos c9, eh1]⟩ (zcrn 0 0 h1_c.1 h1_c.2 (Nat.le_of_ble_eq_true rfl) (Nat.le_of_ble_eq_true rfl))
            · refine v_blk g [.iload_n 3] (pc' := 178) (lv' := [(5, .int (nI 16384)), (4, .int (nI (s_an (hs9 LN k) 16384))), (3, .int (nI (s_or (hs9 LN k) 16384))), (0, .ref m), (1, .int (nI k)), (2, .int (nI j))]) (st' := [.int (nI (s_or (hs9 LN k) 16384))]) (by decide +kernel) rfl rfl ?_
              refine v_goto g (off := 5) (tgt := 183) (by decide +kernel) (by decide) ?_
              exact v_iret g z rfl (by decide +kernel) ⟨by rw [if_pos c9, ek, told9, if_neg (show ¬ nI j = 0 from dj 0 (by decide)), if_neg (show ¬ nI j = 1 from dj 1 (by decide)), if_neg (show ¬ nI j = 2 from dj 2 (by decide)), if_neg (show ¬ nI j = 3 from dj 3 (by decide)), if_neg (show ¬ nI j = 4 from dj 4 (by decide)), if_pos c5], by rw [if_pos c9, eh1]⟩ (zcrn 0 0 h1_c.1 h1_c.2 (Nat.le_of_ble_eq_true rfl) (Nat.le_of_ble_eq_true rfl))
          · intro i hi ih
            refine v_blk g [.iload 5, .sipush 16384] (pc' := 138) (lv' := [(5, .int (nI i)), (4, .int (nI (s_an (hs9 LN k) i))), (3, .int (nI (s_or (hs9 LN k) i))), (0, .ref m), (1, .int (nI k)), (2, .int (nI j))]) (st' := [.int (16384 : Int32), .int (nI i)]) (by decide +kernel) rfl rfl ?_
            refine v_icmp_ge g (off := 34) (tgt := 172) (by decide +kernel) (by decide) (fun c => absurd c (nI_ge (b := 16384) hi (by decide))) (fun _ => ?_)
            refine v_blk g [.aload_n 0, .iload_n 1, .iload 5] (pc' := 145) (lv' := [(5, .int (nI i)), (4, .int (nI (s_an (hs9 LN k) i))), (3, .int (nI (s_or (hs9 LN k) i))), (0, .ref m), (1, .int (nI k)), (2, .int (nI j))]) (st' := [.int (nI i), .int (nI k), .ref m]) (by decide +kernel) rfl rfl ?_
            refine v_callVp g (rest := []) (m_has h1_m h1_R4 (by omega : k < 20) (by omega)) cl_X8_180 h1_m rfl rfl (Nat.le_of_ble_eq_true rfl) (by decide +kernel) ⟨Nat.le_of_ble_eq_true rfl, Nat.le_of_ble_eq_true rfl⟩ (zcsn 0 0 h1_c.1 h1_c.2 (Nat.le_of_ble_eq_true rfl) (Nat.le_of_ble_eq_true rfl)) ?_
            show zV F X h1 148 [(5, .int (nI i)), (4, .int (nI (s_an (hs9 LN k) i))), (3, .int (nI (s_or (hs9 LN k) i))), (0, .ref m), (1, .int (nI k)), (2, .int (nI j))] [.int (b01 (hs9 LN k i))]
            refine v_if_ne g (off := 6) (tgt := 154) (by decide +kernel) (by decide) (fun c2 => ?_) (fun c2 => ?_)
            · refine v_blk g [.iload_n 3, .iload 5, .ior, .istore_n 3, .iload 4, .iload 5, .iand, .istore 4, .iinc 5 1] (pc' := 169) (lv' := [(5, .int ((nI i) + (1 : Int32))), (4, .int ((nI (s_an (hs9 LN k) i)) &&& (nI i))), (3, .int ((nI (s_or (hs9 LN k) i)) ||| (nI i))), (0, .ref m), (1, .int (nI k)), (2, .int (nI j))]) (st' := []) (by decide +kernel) rfl rfl ?_
              refine v_goto g (off := -36) (tgt := 133) (by decide +kernel) (by decide) ?_
              refine v_lv [0, 1, 2, 3, 4, 5] (lv' := [(5, .int ((nI i) + (1 : Int32))), (4, .int ((nI (s_an (hs9 LN k) i)) &&& (nI i))), (3, .int ((nI (s_or (hs9 LN k) i)) ||| (nI i))), (0, .ref m), (1, .int (nI k)), (2, .int (nI j))]) rfl ?_
              exact v_eq (by rw [nI_1, fa_or, fa_and, s_or, s_an, if_pos (b01_1.mp c2), if_pos (b01_1.mp c2)]) rfl ih
            · refine v_goto g (off := 15) (tgt := 166) (by decide +kernel) (by decide) ?_
              refine v_blk g [.iinc 5 1] (pc' := 169) (lv' := [(5, .int ((nI i) + (1 : Int32))), (4, .int (nI (s_an (hs9 LN k) i))), (3, .int (nI (s_or (hs9 LN k) i))), (0, .ref m), (1, .int (nI k)), (2, .int (nI j))]) (st' := []) (by decide +kernel) rfl rfl ?_
              refine v_goto g (off := -36) (tgt := 133) (by decide +kernel) (by decide) ?_
              refine v_lv [0, 1, 2, 3, 4, 5] (lv' := [(5, .int ((nI i) + (1 : Int32))), (4, .int (nI (s_an (hs9 LN k) i))), (3, .int (nI (s_or (hs9 LN k) i))), (0, .ref m), (1, .int (nI k)), (2, .int (nI j))]) rfl ?_
              exact v_eq (by rw [nI_1, s_or, s_an, if_neg (fun q => by rw [b01_0.mp c2] at q; cases q), if_neg (fun q => by rw [b01_0.mp c2] at q; cases q)]) rfl ih
        exact key 0 (by omega)
    · refine v_blk g [.aload_n 0, .iconst 1] (pc' := 27) (lv' := [(0, .ref m), (1, .int v), (2, .int x)]) (st' := [.int (1 : Int32), .ref m]) (by decide +kernel) rfl rfl ?_
      refine v_put g (fs' := oMl R tp fk fp (nI n) ha un dm wk hl pd pm cu ct dt hlt pdt pt hg (1 : Int32) at9 sz) h1_m fl_X8_89 rfl rfl (Nat.le_of_ble_eq_true rfl) rfl (by decide +kernel) ?_
      refine v_h (fun h2 eh2 => ?_)
      have h2_c : h2.2.1 = h.2.1 + 0 ∧ h2.2.2 = h.2.2 + 0 := zcs eh2 h1_c
      have h2_m : h2.1 m = some (oM R tp fk fp (nI n) ha un dm wk hl pd pm cu ct dt hlt pdt pt hg (1 : Int32) at9 sz) := by rw [eh2]; exact z_s_self _ _ _
      have h2_R4 : h2.1 (R 4) = some (aI 10240 LN) := by rw [eh2]; exact z_so h1_R4 (Ne.symm (z_ne hm k4 rfl))
      have h2_R5 : h2.1 (R 5) = some (aI 20 PR) := by rw [eh2]; exact z_so h1_R5 (Ne.symm (z_ne hm k5 rfl))
      have h2_R6 : h2.1 (R 6) = some (aI 20 PA) := by rw [eh2]; exact z_so h1_R6 (Ne.symm (z_ne hm k6 rfl))
      have h2_R7 : h2.1 (R 7) = some (aZ 20 VD) := by rw [eh2]; exact z_so h1_R7 (Ne.symm (z_ne hm k7 rfl))
      refine v_blk g [.iconst 0] (pc' := 31) (lv' := [(0, .ref m), (1, .int v), (2, .int x)]) (st' := [.int (0 : Int32)]) (by decide +kernel) rfl rfl ?_
      exact v_iret g z rfl (by decide +kernel) ⟨by rw [if_neg (fun q => q.2 c1)], by rw [if_neg (fun q => q.2 c1), eh2, eh1, z_ss]⟩ (zcrn 0 0 h2_c.1 h2_c.2 (Nat.le_of_ble_eq_true rfl) (Nat.le_of_ble_eq_true rfl))
