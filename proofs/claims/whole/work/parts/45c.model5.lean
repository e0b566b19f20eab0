def cnt9 (wk : Int32) (ch dh : Nat) (st hm pm ca : Int64) (tp dec : Nat) (w : Int32) : Int64 := if w = 0 then wk.toInt64 else if w = 1 then (nI ch).toInt64 else if w = 2 then (nI dh).toInt64 else if w = 3 then st else if w = 4 then hm else if w = 5 then pm else if w = 6 then ca else if w = 7 then (nI tp).toInt64 else if w = 8 then (nI dec).toInt64 else -1
theorem ix_9 (v : Int32) : (v.toInt < 0 ∨ 8 < v.toInt) ∨ ∃ j, j < 9 ∧ v = nI j := by
  rcases pk_ix v (n := 9) (by decide) with q | q | ⟨k, q1, q2⟩
  · rw [fa_lt] at q; exact Or.inl (Or.inl q)
  · rw [fa_le, nI_toInt (by decide)] at q; exact Or.inl (Or.inr (by omega))
  · exact Or.inr ⟨k, q1, q2⟩

set_option maxRecDepth 100000 in
set_option maxHeartbeats 4000000 in
theorem m_count {F : zF} {h : zH} {m : Nat} {R : Nat → Nat} {fk fp ha un wk pm cu ct dt pt hg th at9 sz : Int32} {hl pd hlt pdt : Int64} {n d t : Nat} (hm : h.1 m = some (oM R (nI t) fk fp (nI n) ha un (nI d) wk hl pd pm cu ct dt hlt pdt pt hg th at9 sz)) {SC : Nat → Int32} (k0 : h.1 (R 0) = some (aI 14 SC)) {PN : Nat → Int32} (k1 : h.1 (R 1) = some (aI 14 PN)) {LN : Nat → Int32} (k4 : h.1 (R 4) = some (aI 10240 LN)) {PR : Nat → Int32} (k5 : h.1 (R 5) = some (aI 20 PR)) {VD : Nat → Int32} (k7 : h.1 (R 7) = some (aZ 20 VD)) {DV : Nat → Int64} (k8 : h.1 (R 8) = some (aJ 24 DV)) (hn : n ≤ 20) (hd4 : d ≤ 4) (v : Int32) : zMet F yX8_count_ cX8_count_ 5 (some .long) { frames := 4, cells := 0, slots := 0, locals := 120 } [.ref m, .int v] h (zP (z_s h m (oM R (nI t) fk fp (nI n) ha un (nI d) wk hl pd pm cu ct dt hlt pdt pt hg 0 at9 sz)) (some (.long (cnt9 wk n d (sumL (stm LN PR VD) n) hl pd (sumL (fun e => DV (6 * e + 3)) d) t (fb_ct (fun q => decide (¬ mo SC PN q = -1)) 14) v)))) := by
  refine zMet_of (lv := [(0, .ref m), (1, .int v)]) (by decide) (by simp [lg_sl, Value.category]) rfl ?_
  intro X g z
  refine v_blk g [.aload_n 0, .iconst 0] (pc' := 2) (lv' := [(0, .ref m), (1, .int v)]) (st' := [.int (0 : Int32), .ref m]) (by decide +kernel) rfl rfl ?_
  refine v_put g (fs' := oMl R (nI t) fk fp (nI n) ha un (nI d) wk hl pd pm cu ct dt hlt pdt pt hg (0 : Int32) at9 sz) hm fl_X8_89 rfl rfl (Nat.le_of_ble_eq_true rfl) rfl (by decide +kernel) ?_
  refine v_h (fun h1 eh1 => ?_)
  have h1_c : h1.2.1 = h.2.1 + 0 ∧ h1.2.2 = h.2.2 + 0 := zcs eh1 ⟨rfl, rfl⟩
  have h1_m : h1.1 m = some (oM R (nI t) fk fp (nI n) ha un (nI d) wk hl pd pm cu ct dt hlt pdt pt hg (0 : Int32) at9 sz) := by rw [eh1]; exact z_s_self _ _ _
  have h1_R0 : h1.1 (R 0) = some (aI 14 SC) := by rw [eh1]; exact z_so k0 (Ne.symm (z_ne hm k0 rfl))
  have h1_R1 : h1.1 (R 1) = some (aI 14 PN) := by rw [eh1]; exact z_so k1 (Ne.symm (z_ne hm k1 rfl))
  have h1_R4 : h1.1 (R 4) = some (aI 10240 LN) := by rw [eh1]; exact z_so k4 (Ne.symm (z_ne hm k4 rfl))
  have h1_R5 : h1.1 (R 5) = some (aI 20 PR) := by rw [eh1]; exact z_so k5 (Ne.symm (z_ne hm k5 rfl))
  have h1_R7 : h1.1 (R 7) = some (aZ 20 VD) := by rw [eh1]; exact z_so k7 (Ne.symm (z_ne hm k7 rfl))
  have h1_R8 : h1.1 (R 8) = some (aJ 24 DV) := by rw [eh1]; exact z_so k8 (Ne.symm (z_ne hm k8 rfl))
  refine v_blk g [.lconst 0, .lstore_n 2, .iload_n 1] (pc' := 8) (lv' := [(2, .long (0 : Int64)), (0, .ref m), (1, .int v)]) (st' := [.int v]) (by decide +kernel) rfl rfl ?_
  rcases ix_9 v with ho | ⟨j, hj, rfl⟩
  · refine v_tabO g (dflt := 128) (lo := 0) (hi := 8) (offs := #[52, 58, 64, 70, 75, 80, 85, 90, 96]) (len := 52) (tgt := 136) (by decide +kernel) ho (by decide) ?_
    refine v_ldc2 g kc_X8_100 (by decide +kernel) ?_
    have nn9 : ∀ t : Nat, t < 9 → ¬ v = nI t := fun t ht e => by rw [e, nI_toInt (by omega)] at ho; omega
    exact v_lret g z rfl (by decide +kernel) ⟨by rw [cnt9, if_neg (show ¬ v = 0 from nn9 0 (by decide)), if_neg (show ¬ v = 1 from nn9 1 (by decide)), if_neg (show ¬ v = 2 from nn9 2 (by decide)), if_neg (show ¬ v = 3 from nn9 3 (by decide)), if_neg (show ¬ v = 4 from nn9 4 (by decide)), if_neg (show ¬ v = 5 from nn9 5 (by decide)), if_neg (show ¬ v = 6 from nn9 6 (by decide)), if_neg (show ¬ v = 7 from nn9 7 (by decide)), if_neg (show ¬ v = 8 from nn9 8 (by decide))], by rw [eh1]⟩ (zcrn 0 0 h1_c.1 h1_c.2 (Nat.le_of_ble_eq_true rfl) (Nat.le_of_ble_eq_true rfl))
  · have hj9 : j = 0 ∨ j = 1 ∨ j = 2 ∨ j = 3 ∨ j = 4 ∨ j = 5 ∨ j = 6 ∨ j = 7 ∨ j = 8 := by omega
    rcases hj9 with rfl | rfl | rfl | rfl | rfl | rfl | rfl | rfl | rfl
    · refine v_tabI g 0 (dflt := 128) (lo := 0) (hi := 8) (offs := #[52, 58, 64, 70, 75, 80, 85, 90, 96]) (len := 52) (off := 52) (tgt := 60) (by decide +kernel) (by decide) (by decide) rfl (by decide) ?_
      refine v_blk g [.aload_n 0] (pc' := 61) (lv' := [(2, .long (0 : Int64)), (0, .ref m), (1, .int (nI 0))]) (st' := [.ref m]) (by decide +kernel) rfl rfl ?_
      refine v_get g h1_m fl_X8_265 rfl (by decide +kernel) ?_
      refine v_blk g [.i2l] (pc' := 65) (lv' := [(2, .long (0 : Int64)), (0, .ref m), (1, .int (nI 0))]) (st' := [.long wk.toInt64]) (by decide +kernel) rfl rfl ?_
      exact v_lret g z rfl (by decide +kernel) ⟨rfl, by rw [eh1]⟩ (zcrn 0 0 h1_c.1 h1_c.2 (Nat.le_of_ble_eq_true rfl) (Nat.le_of_ble_eq_true rfl))
    · refine v_tabI g 1 (dflt := 128) (lo := 0) (hi := 8) (offs := #[52, 58, 64, 70, 75, 80, 85, 90, 96]) (len := 52) (off := 58) (tgt := 66) (by decide +kernel) (by decide) (by decide) rfl (by decide) ?_
      refine v_blk g [.aload_n 0] (pc' := 67) (lv' := [(2, .long (0 : Int64)), (0, .ref m), (1, .int (nI 1))]) (st' := [.ref m]) (by decide +kernel) rfl rfl ?_
      refine v_get g h1_m fl_X8_177 rfl (by decide +kernel) ?_
      refine v_blk g [.i2l] (pc' := 71) (lv' := [(2, .long (0 : Int64)), (0, .ref m), (1, .int (nI 1))]) (st' := [.long ((nI n).toInt64)]) (by decide +kernel) rfl rfl ?_
      exact v_lret g z rfl (by decide +kernel) ⟨rfl, by rw [eh1]⟩ (zcrn 0 0 h1_c.1 h1_c.2 (Nat.le_of_ble_eq_true rfl) (Nat.le_of_ble_eq_true rfl))
    · refine v_tabI g 2 (dflt := 128) (lo := 0) (hi := 8) (offs := #[52, 58, 64, 70, 75, 80, 85, 90, 96]) (len := 52) (off := 64) (tgt := 72) (by decide +kernel) (by decide) (by decide) rfl (by decide) ?_
      refine v_blk g [.aload_n 0] (pc' := 73) (lv' := [(2, .long (0 : Int64)), (0, .ref m), (1, .int (nI 2))]) (st' := [.ref m]) (by decide +kernel) rfl rfl ?_
      refine v_get g h1_m fl_X8_212 rfl (by decide +kernel) ?_
      refine v_blk g [.i2l] (pc' := 77) (lv' := [(2, .long (0 : Int64)), (0, .ref m), (1, .int (nI 2))]) (st' := [.long ((nI d).toInt64)]) (by decide +kernel) rfl rfl ?_
      exact v_lret g z rfl (by decide +kernel) ⟨rfl, by rw [eh1]⟩ (zcrn 0 0 h1_c.1 h1_c.2 (Nat.le_of_ble_eq_true rfl) (Nat.le_of_ble_eq_true rfl))
    · refine v_tabI g 3 (dflt := 128) (lo := 0) (hi := 8) (offs := #[52, 58, 64, 70, 75, 80, 85, 90, 96]) (len := 52) (off := 70) (tgt := 78) (by decide +kernel) (by decide) (by decide) rfl (by decide) ?_
      refine v_blk g [.aload_n 0] (pc' := 79) (lv' := [(2, .long (0 : Int64)), (0, .ref m), (1, .int (nI 3))]) (st' := [.ref m]) (by decide +kernel) rfl rfl ?_
      refine v_callVp g (rest := []) (m_stakes h1_m h1_R4 h1_R5 h1_R7 hn) cl_X8_262 h1_m rfl rfl (Nat.le_of_ble_eq_true rfl) (by decide +kernel) ⟨Nat.le_of_ble_eq_true rfl, Nat.le_of_ble_eq_true rfl⟩ (zcsn 0 0 h1_c.1 h1_c.2 (Nat.le_of_ble_eq_true rfl) (Nat.le_of_ble_eq_true rfl)) ?_
      show zV F X h1 82 [(2, .long (0 : Int64)), (0, .ref m), (1, .int (nI 3))] [.long (sumL (stm LN PR VD) n)]
      exact v_lret g z rfl (by decide +kernel) ⟨rfl, by rw [eh1]⟩ (zcrn 0 0 h1_c.1 h1_c.2 (Nat.le_of_ble_eq_true rfl) (Nat.le_of_ble_eq_true rfl))
    · refine v_tabI g 4 (dflt := 128) (lo := 0) (hi := 8) (offs := #[52, 58, 64, 70, 75, 80, 85, 90, 96]) (len := 52) (off := 75) (tgt := 83) (by decide +kernel) (by decide) (by decide) rfl (by decide) ?_
      refine v_blk g [.aload_n 0] (pc' := 84) (lv' := [(2, .long (0 : Int64)), (0, .ref m), (1, .int (nI 4))]) (st' := [.ref m]) (by decide +kernel) rfl rfl ?_
      refine v_get g h1_m fl_X8_219 rfl (by decide +kernel) ?_
      exact v_lret g z rfl (by decide +kernel) ⟨rfl, by rw [eh1]⟩ (zcrn 0 0 h1_c.1 h1_c.2 (Nat.le_of_ble_eq_true rfl) (Nat.le_of_ble_eq_true rfl))
    · refine v_tabI g 5 (dflt := 128) (lo := 0) (hi := 8) (offs := #[52, 58, 64, 70, 75, 80, 85, 90, 96]) (len := 52) (off := 80) (tgt := 88) (by decide +kernel) (by decide) (by decide) rfl (by decide) ?_
      refine v_blk g [.aload_n 0] (pc' := 89) (lv' := [(2, .long (0 : Int64)), (0, .ref m), (1, .int (nI 5))]) (st' := [.ref m]) (by decide +kernel) rfl rfl ?_
      refine v_get g h1_m fl_X8_243 rfl (by decide +kernel) ?_
      exact v_lret g z rfl (by decide +kernel) ⟨rfl, by rw [eh1]⟩ (zcrn 0 0 h1_c.1 h1_c.2 (Nat.le_of_ble_eq_true rfl) (Nat.le_of_ble_eq_true rfl))
    · refine v_tabI g 6 (dflt := 128) (lo := 0) (hi := 8) (offs := #[52, 58, 64, 70, 75, 80, 85, 90, 96]) (len := 52) (off := 85) (tgt := 93) (by decide +kernel) (by decide) (by decide) rfl (by decide) ?_
      refine v_blk g [.aload_n 0] (pc' := 94) (lv' := [(2, .long (0 : Int64)), (0, .ref m), (1, .int (nI 6))]) (st' := [.ref m]) (by decide +kernel) rfl rfl ?_
      refine v_callVp g (rest := []) (m_carried h1_m h1_R8 hd4) cl_X8_223 h1_m rfl rfl (Nat.le_of_ble_eq_true rfl) (by decide +kernel) ⟨Nat.le_of_ble_eq_true rfl, Nat.le_of_ble_eq_true rfl⟩ (zcsn 0 0 h1_c.1 h1_c.2 (Nat.le_of_ble_eq_true rfl) (Nat.le_of_ble_eq_true rfl)) ?_
      show zV F X h1 97 [(2, .long (0 : Int64)), (0, .ref m), (1, .int (nI 6))] [.long (sumL (fun e => DV (6 * e + 3)) d)]
      exact v_lret g z rfl (by decide +kernel) ⟨rfl, by rw [eh1]⟩ (zcrn 0 0 h1_c.1 h1_c.2 (Nat.le_of_ble_eq_true rfl) (Nat.le_of_ble_eq_true rfl))
    · refine v_tabI g 7 (dflt := 128) (lo := 0) (hi := 8) (offs := #[52, 58, 64, 70, 75, 80, 85, 90, 96]) (len := 52) (off := 90) (tgt := 98) (by decide +kernel) (by decide) (by decide) rfl (by decide) ?_
      refine v_blk g [.aload_n 0] (pc' := 99) (lv' := [(2, .long (0 : Int64)), (0, .ref m), (1, .int (nI 7))]) (st' := [.ref m]) (by decide +kernel) rfl rfl ?_
      refine v_get g h1_m fl_X8_110 rfl (by decide +kernel) ?_
      refine v_blk g [.i2l] (pc' := 103) (lv' := [(2, .long (0 : Int64)), (0, .ref m), (1, .int (nI 7))]) (st' := [.long ((nI t).toInt64)]) (by decide +kernel) rfl rfl ?_
      exact v_lret g z rfl (by decide +kernel) ⟨rfl, by rw [eh1]⟩ (zcrn 0 0 h1_c.1 h1_c.2 (Nat.le_of_ble_eq_true rfl) (Nat.le_of_ble_eq_true rfl))
    · refine v_tabI g 8 (dflt := 128) (lo := 0) (hi := 8) (offs := #[52, 58, 64, 70, 75, 80, 85, 90, 96]) (len := 52) (off := 96) (tgt := 104) (by decide +kernel) (by decide) (by decide) rfl (by decide) ?_
      refine v_blk g [.iconst 0, .istore 4] (pc' := 107) (lv' := [(4, .int (0 : Int32)), (2, .long (0 : Int64)), (0, .ref m), (1, .int (nI 8))]) (st' := []) (by decide +kernel) rfl rfl ?_
      have key : ∀ i, i ≤ 14 → zV F X h1 107 [(4, .int (nI i)), (2, .long (lN (fb_ct (fun q => decide (¬ mo SC PN q = -1)) i))), (0, .ref m), (1, .int (nI 8))] [] := by
        refine z_up (P := fun i => zV F X h1 107 [(4, .int (nI i)), (2, .long (lN (fb_ct (fun q => decide (¬ mo SC PN q = -1)) i))), (0, .ref m), (1, .int (nI 8))] []) 14 ?_ ?_
        · refine v_blk g [.iload 4, .bipush 14] (pc' := 111) (lv' := [(4, .int (nI 14)), (2, .long (lN (fb_ct (fun q => decide (¬ mo SC PN q = -1)) 14))), (0, .ref m), (1, .int (nI 8))]) (st' := [.int (14 : Int32), .int (nI 14)]) (by decide +kernel) rfl rfl ?_
          refine v_icmp_ge g (off := 23) (tgt := 134) (by decide +kernel) (by decide) (fun _ => ?_) (fun c => absurd c (fun q => q (by decide)))
          refine v_blk g [.lload_n 2] (pc' := 135) (lv' := [(4, .int (nI 14)), (2, .long (lN (fb_ct (fun q => decide (¬ mo SC PN q = -1)) 14))), (0, .ref m), (1, .int (nI 8))]) (st' := [.long (lN (fb_ct (fun q => decide (¬ mo SC PN q = -1)) 14))]) (by decide +kernel) rfl rfl ?_
          refine v_tl (z := (nI (fb_ct (fun q => decide (¬ mo SC PN q = -1)) 14)).toInt64) ((nI_l (by have := fb_ct_le (fun q => decide (¬ mo SC PN q = -1)) 14; omega)).symm) ?_
          exact v_lret g z rfl (by decide +kernel) ⟨rfl, by rw [eh1]⟩ (zcrn 0 0 h1_c.1 h1_c.2 (Nat.le_of_ble_eq_true rfl) (Nat.le_of_ble_eq_true rfl))
        · intro i hi ih
          refine v_blk g [.iload 4, .bipush 14] (pc' := 111) (lv' := [(4, .int (nI i)), (2, .long (lN (fb_ct (fun q => decide (¬ mo SC PN q = -1)) i))), (0, .ref m), (1, .int (nI 8))]) (st' := [.int (14 : Int32), .int (nI i)]) (by decide +kernel) rfl rfl ?_
          refine v_icmp_ge g (off := 23) (tgt := 134) (by decide +kernel) (by decide) (fun c => absurd c (nI_ge (b := 14) hi (by decide))) (fun _ => ?_)
          refine v_blk g [.aload_n 0, .iload 4] (pc' := 117) (lv' := [(4, .int (nI i)), (2, .long (lN (fb_ct (fun q => decide (¬ mo SC PN q = -1)) i))), (0, .ref m), (1, .int (nI 8))]) (st' := [.int (nI i), .ref m]) (by decide +kernel) rfl rfl ?_
          refine v_callVp g (rest := []) (m_outcomeOf h1_m h1_R0 h1_R1 hi) cl_X8_104 h1_m rfl rfl (Nat.le_of_ble_eq_true rfl) (by decide +kernel) ⟨Nat.le_of_ble_eq_true rfl, Nat.le_of_ble_eq_true rfl⟩ (zcsn 0 0 h1_c.1 h1_c.2 (Nat.le_of_ble_eq_true rfl) (Nat.le_of_ble_eq_true rfl)) ?_
          show zV F X h1 120 [(4, .int (nI i)), (2, .long (lN (fb_ct (fun q => decide (¬ mo SC PN q = -1)) i))), (0, .ref m), (1, .int (nI 8))] [.int (mo SC PN i)]
          refine v_blk g [.iconst (-1)] (pc' := 121) (lv' := [(4, .int (nI i)), (2, .long (lN (fb_ct (fun q => decide (¬ mo SC PN q = -1)) i))), (0, .ref m), (1, .int (nI 8))]) (st' := [.int (-1 : Int32), .int (mo SC PN i)]) (by decide +kernel) rfl rfl ?_
          refine v_icmp_eq g (off := 7) (tgt := 128) (by decide +kernel) (by decide) (fun c => ?_) (fun c => ?_)
          · refine v_blk g [.iinc 4 1] (pc' := 131) (lv' := [(4, .int ((nI i) + (1 : Int32))), (2, .long (lN (fb_ct (fun q => decide (¬ mo SC PN q = -1)) i))), (0, .ref m), (1, .int (nI 8))]) (st' := []) (by decide +kernel) rfl rfl ?_
            refine v_goto g (off := -24) (tgt := 107) (by decide +kernel) (by decide) ?_
            refine v_lv [0, 1, 2, 3] (lv' := [(4, .int ((nI i) + (1 : Int32))), (2, .long (lN (fb_ct (fun q => decide (¬ mo SC PN q = -1)) i))), (0, .ref m), (1, .int (nI 8))]) rfl ?_
            exact v_eq (by rw [nI_1, fb_ct_succ, decide_eq_false (fun q => q c)]; rfl) rfl ih
          · refine v_blk g [.lload_n 2, .lconst 1, .ladd, .lstore_n 2] (pc' := 128) (lv' := [(2, .long ((lN (fb_ct (fun q => decide (¬ mo SC PN q = -1)) i)) + (1 : Int64))), (4, .int (nI i)), (0, .ref m), (1, .int (nI 8))]) (st' := []) (by decide +kernel) rfl rfl ?_
            refine v_blk g [.iinc 4 1] (pc' := 131) (lv' := [(4, .int ((nI i) + (1 : Int32))), (2, .long ((lN (fb_ct (fun q => decide (¬ mo SC PN q = -1)) i)) + (1 : Int64))), (0, .ref m), (1, .int (nI 8))]) (st' := []) (by decide +kernel) rfl rfl ?_
            refine v_goto g (off := -24) (tgt := 107) (by decide +kernel) (by decide) ?_
            refine v_lv [0, 1, 2, 3] (lv' := [(4, .int ((nI i) + (1 : Int32))), (2, .long ((lN (fb_ct (fun q => decide (¬ mo SC PN q = -1)) i)) + (1 : Int64))), (0, .ref m), (1, .int (nI 8))]) rfl ?_
            exact v_eq (by rw [nI_1, fb_ct_succ, decide_eq_true c, lN_1]; rfl) rfl ih
      exact key 0 (by omega)
