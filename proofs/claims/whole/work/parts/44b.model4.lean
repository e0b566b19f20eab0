def btw (S : Nat → Bool) (W : Nat → Nat) (L G : Int64) (n : Nat) : Bool := S n && decide (¬ x_in (nI (wt W n)).toInt64 L G = 0)
theorem wt_le {W : Nat → Nat} (hW : ∀ m, W m ≤ 9) (n : Nat) : wt W n ≤ 126 := wS_le hW 0 n 14

set_option maxRecDepth 100000 in
set_option maxHeartbeats 4000000 in
theorem m_between {F : zF} {h : zH} {m : Nat} {R : Nat → Nat} {tp fk fp cn ha un dm wk pm cu ct dt pt hg th at9 sz : Int32} {hl pd hlt pdt : Int64} (hm : h.1 m = some (oM R tp fk fp cn ha un dm wk hl pd pm cu ct dt hlt pdt pt hg th at9 sz)) {SC : Nat → Int32} (k0 : h.1 (R 0) = some (aI 14 SC)) {PN : Nat → Int32} (k1 : h.1 (R 1) = some (aI 14 PN)) {V : Nat → Int32} (k2 : h.1 (R 2) = some (aI 4 V)) {LN : Nat → Int32} (k4 : h.1 (R 4) = some (aI 10240 LN)) {v : Nat → Nat} {o : Nat} (hO : okO (mo SC PN)) (hV : nIs V v 4) {q : Nat} (hq : q < 20) (L G : Int64) : zMet F yX8_between cX8_between 9 (some .int) { frames := 3, cells := 0, slots := 0, locals := 90 } [.ref m, .int (nI q), .int (nI o), .long L, .long G] h (zP h (some (.int (nI (fb_ct (btw (hs9 LN q) (wO (mo SC PN) v o) L G) 16384))))) := by
  refine zMet_of (lv := [(0, .ref m), (1, .int (nI q)), (2, .int (nI o)), (3, .long L), (5, .long G)]) (by decide) (by simp [lg_sl, Value.category]) rfl ?_
  intro X g z
  refine v_blk g [.iconst 0, .istore 7, .iconst 0, .istore 8] (pc' := 6) (lv' := [(8, .int (0 : Int32)), (7, .int (0 : Int32)), (0, .ref m), (1, .int (nI q)), (2, .int (nI o)), (3, .long L), (5, .long G)]) (st' := []) (by decide +kernel) rfl rfl ?_
  have key : ∀ i, i ≤ 16384 → zV F X h 6 [(8, .int (nI i)), (7, .int (nI (fb_ct (btw (hs9 LN q) (wO (mo SC PN) v o) L G) i))), (0, .ref m), (1, .int (nI q)), (2, .int (nI o)), (3, .long L), (5, .long G)] [] := by
    refine z_up (P := fun i => zV F X h 6 [(8, .int (nI i)), (7, .int (nI (fb_ct (btw (hs9 LN q) (wO (mo SC PN) v o) L G) i))), (0, .ref m), (1, .int (nI q)), (2, .int (nI o)), (3, .long L), (5, .long G)] []) 16384 ?_ ?_
    · refine v_blk g [.iload 8, .sipush 16384] (pc' := 11) (lv' := [(8, .int (nI 16384)), (7, .int (nI (fb_ct (btw (hs9 LN q) (wO (mo SC PN) v o) L G) 16384))), (0, .ref m), (1, .int (nI q)), (2, .int (nI o)), (3, .long L), (5, .long G)]) (st' := [.int (16384 : Int32), .int (nI 16384)]) (by decide +kernel) rfl rfl ?_
      refine v_icmp_ge g (off := 39) (tgt := 50) (by decide +kernel) (by decide) (fun _ => ?_) (fun c => absurd c (fun q => q (by decide)))
      refine v_blk g [.iload 7] (pc' := 52) (lv' := [(8, .int (nI 16384)), (7, .int (nI (fb_ct (btw (hs9 LN q) (wO (mo SC PN) v o) L G) 16384))), (0, .ref m), (1, .int (nI q)), (2, .int (nI o)), (3, .long L), (5, .long G)]) (st' := [.int (nI (fb_ct (btw (hs9 LN q) (wO (mo SC PN) v o) L G) 16384))]) (by decide +kernel) rfl rfl ?_
      exact v_iret g z rfl (by decide +kernel) ⟨rfl, rfl⟩ (zcrn 0 0 rfl rfl (Nat.le_of_ble_eq_true rfl) (Nat.le_of_ble_eq_true rfl))
    · intro i hi ih
      refine v_blk g [.iload 8, .sipush 16384] (pc' := 11) (lv' := [(8, .int (nI i)), (7, .int (nI (fb_ct (btw (hs9 LN q) (wO (mo SC PN) v o) L G) i))), (0, .ref m), (1, .int (nI q)), (2, .int (nI o)), (3, .long L), (5, .long G)]) (st' := [.int (16384 : Int32), .int (nI i)]) (by decide +kernel) rfl rfl ?_
      refine v_icmp_ge g (off := 39) (tgt := 50) (by decide +kernel) (by decide) (fun c => absurd c (nI_ge (b := 16384) hi (by decide))) (fun _ => ?_)
      refine v_blk g [.aload_n 0, .iload_n 1, .iload 8] (pc' := 18) (lv' := [(8, .int (nI i)), (7, .int (nI (fb_ct (btw (hs9 LN q) (wO (mo SC PN) v o) L G) i))), (0, .ref m), (1, .int (nI q)), (2, .int (nI o)), (3, .long L), (5, .long G)]) (st' := [.int (nI i), .int (nI q), .ref m]) (by decide +kernel) rfl rfl ?_
      refine v_callVp g (rest := []) (m_has hm k4 hq hi) cl_X8_180 hm rfl rfl (Nat.le_of_ble_eq_true rfl) (by decide +kernel) ⟨Nat.le_of_ble_eq_true rfl, Nat.le_of_ble_eq_true rfl⟩ (zcsn 0 0 rfl rfl (Nat.le_of_ble_eq_true rfl) (Nat.le_of_ble_eq_true rfl)) ?_
      show zV F X h 21 [(8, .int (nI i)), (7, .int (nI (fb_ct (btw (hs9 LN q) (wO (mo SC PN) v o) L G) i))), (0, .ref m), (1, .int (nI q)), (2, .int (nI o)), (3, .long L), (5, .long G)] [.int (b01 (hs9 LN q i))]
      refine v_if_eq g (off := 23) (tgt := 44) (by decide +kernel) (by decide) (fun c => ?_) (fun c => ?_)
      · refine v_blk g [.iinc 8 1] (pc' := 47) (lv' := [(8, .int ((nI i) + (1 : Int32))), (7, .int (nI (fb_ct (btw (hs9 LN q) (wO (mo SC PN) v o) L G) i))), (0, .ref m), (1, .int (nI q)), (2, .int (nI o)), (3, .long L), (5, .long G)]) (st' := []) (by decide +kernel) rfl rfl ?_
        refine v_goto g (off := -41) (tgt := 6) (by decide +kernel) (by decide) ?_
        refine v_lv [0, 1, 2, 3, 4, 5, 6] (lv' := [(8, .int ((nI i) + (1 : Int32))), (7, .int (nI (fb_ct (btw (hs9 LN q) (wO (mo SC PN) v o) L G) i))), (0, .ref m), (1, .int (nI q)), (2, .int (nI o)), (3, .long L), (5, .long G)]) rfl ?_
        exact v_eq (by rw [nI_1, fb_ct_succ, btw, b01_0.mp c]; rfl) rfl ih
      · refine v_blk g [.aload_n 0, .iload 8, .iload_n 2] (pc' := 28) (lv' := [(8, .int (nI i)), (7, .int (nI (fb_ct (btw (hs9 LN q) (wO (mo SC PN) v o) L G) i))), (0, .ref m), (1, .int (nI q)), (2, .int (nI o)), (3, .long L), (5, .long G)]) (st' := [.int (nI o), .int (nI i), .ref m]) (by decide +kernel) rfl rfl ?_
        refine v_callVp g (rest := []) (m_pointsOf hm k0 k1 k2 hO hV hi) cl_X8_194 hm rfl rfl (Nat.le_of_ble_eq_true rfl) (by decide +kernel) ⟨Nat.le_of_ble_eq_true rfl, Nat.le_of_ble_eq_true rfl⟩ (zcsn 0 0 rfl rfl (Nat.le_of_ble_eq_true rfl) (Nat.le_of_ble_eq_true rfl)) ?_
        show zV F X h 31 [(8, .int (nI i)), (7, .int (nI (fb_ct (btw (hs9 LN q) (wO (mo SC PN) v o) L G) i))), (0, .ref m), (1, .int (nI q)), (2, .int (nI o)), (3, .long L), (5, .long G)] [.int (nI (wt (wO (mo SC PN) v o) i))]
        refine v_blk g [.i2l, .lload_n 3, .lload 5] (pc' := 35) (lv' := [(8, .int (nI i)), (7, .int (nI (fb_ct (btw (hs9 LN q) (wO (mo SC PN) v o) L G) i))), (0, .ref m), (1, .int (nI q)), (2, .int (nI o)), (3, .long L), (5, .long G)]) (st' := [.long G, .long L, .long ((nI (wt (wO (mo SC PN) v o) i)).toInt64)]) (by decide +kernel) rfl rfl ?_
        refine v_callSp g (rest := []) (m_in _ _ _) cl_X8_94 rfl (Nat.le_of_ble_eq_true rfl) (by decide +kernel) ⟨Nat.le_of_ble_eq_true rfl, Nat.le_of_ble_eq_true rfl⟩ (zcsn 0 0 rfl rfl (Nat.le_of_ble_eq_true rfl) (Nat.le_of_ble_eq_true rfl)) ?_
        show zV F X h 38 [(8, .int (nI i)), (7, .int (nI (fb_ct (btw (hs9 LN q) (wO (mo SC PN) v o) L G) i))), (0, .ref m), (1, .int (nI q)), (2, .int (nI o)), (3, .long L), (5, .long G)] [.int (x_in (nI (wt (wO (mo SC PN) v o) i)).toInt64 L G)]
        refine v_if_eq g (off := 6) (tgt := 44) (by decide +kernel) (by decide) (fun c2 => ?_) (fun c2 => ?_)
        · refine v_blk g [.iinc 8 1] (pc' := 47) (lv' := [(8, .int ((nI i) + (1 : Int32))), (7, .int (nI (fb_ct (btw (hs9 LN q) (wO (mo SC PN) v o) L G) i))), (0, .ref m), (1, .int (nI q)), (2, .int (nI o)), (3, .long L), (5, .long G)]) (st' := []) (by decide +kernel) rfl rfl ?_
          refine v_goto g (off := -41) (tgt := 6) (by decide +kernel) (by decide) ?_
          refine v_lv [0, 1, 2, 3, 4, 5, 6] (lv' := [(8, .int ((nI i) + (1 : Int32))), (7, .int (nI (fb_ct (btw (hs9 LN q) (wO (mo SC PN) v o) L G) i))), (0, .ref m), (1, .int (nI q)), (2, .int (nI o)), (3, .long L), (5, .long G)]) rfl ?_
          exact v_eq (by rw [nI_1, fb_ct_succ, btw, decide_eq_false (fun q => q c2), Bool.and_false]; rfl) rfl ih
        · refine v_blk g [.iinc 7 1] (pc' := 44) (lv' := [(7, .int ((nI (fb_ct (btw (hs9 LN q) (wO (mo SC PN) v o) L G) i)) + (1 : Int32))), (8, .int (nI i)), (0, .ref m), (1, .int (nI q)), (2, .int (nI o)), (3, .long L), (5, .long G)]) (st' := []) (by decide +kernel) rfl rfl ?_
          refine v_blk g [.iinc 8 1] (pc' := 47) (lv' := [(8, .int ((nI i) + (1 : Int32))), (7, .int ((nI (fb_ct (btw (hs9 LN q) (wO (mo SC PN) v o) L G) i)) + (1 : Int32))), (0, .ref m), (1, .int (nI q)), (2, .int (nI o)), (3, .long L), (5, .long G)]) (st' := []) (by decide +kernel) rfl rfl ?_
          refine v_goto g (off := -41) (tgt := 6) (by decide +kernel) (by decide) ?_
          refine v_lv [0, 1, 2, 3, 4, 5, 6] (lv' := [(8, .int ((nI i) + (1 : Int32))), (7, .int ((nI (fb_ct (btw (hs9 LN q) (wO (mo SC PN) v o) L G) i)) + (1 : Int32))), (0, .ref m), (1, .int (nI q)), (2, .int (nI o)), (3, .long L), (5, .long G)]) rfl ?_
          exact v_eq (by rw [nI_1, nI_1, fb_ct_succ, btw, decide_eq_true c2, b01_1.mp c]; rfl) rfl ih
  exact key 0 (by omega)

set_option maxRecDepth 100000 in
set_option maxHeartbeats 4000000 in
theorem m_greatest {F : zF} {h : zH} {m : Nat} {R : Nat → Nat} {tp fk fp cn ha un dm wk pm cu ct dt pt hg th at9 sz : Int32} {hl pd hlt pdt : Int64} (hm : h.1 m = some (oM R tp fk fp cn ha un dm wk hl pd pm cu ct dt hlt pdt pt hg th at9 sz)) {SC : Nat → Int32} (k0 : h.1 (R 0) = some (aI 14 SC)) {PN : Nat → Int32} (k1 : h.1 (R 1) = some (aI 14 PN)) {V : Nat → Int32} (k2 : h.1 (R 2) = some (aI 4 V)) {LN : Nat → Int32} (k4 : h.1 (R 4) = some (aI 10240 LN)) {v : Nat → Nat} {o : Nat} (hO : okO (mo SC PN)) (hV : nIs V v 4) {q : Nat} (hq : q < 20) (hv9 : ∀ k, v k ≤ 9) (ho : o ≤ 9) : zMet F yX8_greatest cX8_greatest 6 (some .int) { frames := 3, cells := 0, slots := 0, locals := 90 } [.ref m, .int (nI q), .int (nI o)] h (zP h (some (.int (Int32.ofInt (grt (hs9 LN q) (wO (mo SC PN) v o) 16384))))) := by
  refine zMet_of (lv := [(0, .ref m), (1, .int (nI q)), (2, .int (nI o))]) (by decide) (by simp [lg_sl, Value.category]) rfl ?_
  intro X g z
  refine v_blk g [.iconst (-1), .istore_n 3, .iconst 0, .istore 4] (pc' := 5) (lv' := [(4, .int (0 : Int32)), (3, .int (-1 : Int32)), (0, .ref m), (1, .int (nI q)), (2, .int (nI o))]) (st' := []) (by decide +kernel) rfl rfl ?_
  have hW := wO_le (O := mo SC PN) hv9 ho
  have key : ∀ i, i ≤ 16384 → zV F X h 5 [(4, .int (nI i)), (3, .int (Int32.ofInt (grt (hs9 LN q) (wO (mo SC PN) v o) i))), (0, .ref m), (1, .int (nI q)), (2, .int (nI o))] [] := by
    refine z_up (P := fun i => zV F X h 5 [(4, .int (nI i)), (3, .int (Int32.ofInt (grt (hs9 LN q) (wO (mo SC PN) v o) i))), (0, .ref m), (1, .int (nI q)), (2, .int (nI o))] []) 16384 ?_ ?_
    · refine v_blk g [.iload 4, .sipush 16384] (pc' := 10) (lv' := [(4, .int (nI 16384)), (3, .int (Int32.ofInt (grt (hs9 LN q) (wO (mo SC PN) v o) 16384))), (0, .ref m), (1, .int (nI q)), (2, .int (nI o))]) (st' := [.int (16384 : Int32), .int (nI 16384)]) (by decide +kernel) rfl rfl ?_
      refine v_icmp_ge g (off := 44) (tgt := 54) (by decide +kernel) (by decide) (fun _ => ?_) (fun c => absurd c (fun q => q (by decide)))
      refine v_blk g [.iload_n 3] (pc' := 55) (lv' := [(4, .int (nI 16384)), (3, .int (Int32.ofInt (grt (hs9 LN q) (wO (mo SC PN) v o) 16384))), (0, .ref m), (1, .int (nI q)), (2, .int (nI o))]) (st' := [.int (Int32.ofInt (grt (hs9 LN q) (wO (mo SC PN) v o) 16384))]) (by decide +kernel) rfl rfl ?_
      exact v_iret g z rfl (by decide +kernel) ⟨rfl, rfl⟩ (zcrn 0 0 rfl rfl (Nat.le_of_ble_eq_true rfl) (Nat.le_of_ble_eq_true rfl))
    · intro i hi ih
      have t1 := top_rng hW (grt_top (hs9 LN q) (wO (mo SC PN) v o) i)
      have t2 := wt_le hW i
      refine v_blk g [.iload 4, .sipush 16384] (pc' := 10) (lv' := [(4, .int (nI i)), (3, .int (Int32.ofInt (grt (hs9 LN q) (wO (mo SC PN) v o) i))), (0, .ref m), (1, .int (nI q)), (2, .int (nI o))]) (st' := [.int (16384 : Int32), .int (nI i)]) (by decide +kernel) rfl rfl ?_
      refine v_icmp_ge g (off := 44) (tgt := 54) (by decide +kernel) (by decide) (fun c => absurd c (nI_ge (b := 16384) hi (by decide))) (fun _ => ?_)
      refine v_blk g [.aload_n 0, .iload_n 1, .iload 4] (pc' := 17) (lv' := [(4, .int (nI i)), (3, .int (Int32.ofInt (grt (hs9 LN q) (wO (mo SC PN) v o) i))), (0, .ref m), (1, .int (nI q)), (2, .int (nI o))]) (st' := [.int (nI i), .int (nI q), .ref m]) (by decide +kernel) rfl rfl ?_
      refine v_callVp g (rest := []) (m_has hm k4 hq hi) cl_X8_180 hm rfl rfl (Nat.le_of_ble_eq_true rfl) (by decide +kernel) ⟨Nat.le_of_ble_eq_true rfl, Nat.le_of_ble_eq_true rfl⟩ (zcsn 0 0 rfl rfl (Nat.le_of_ble_eq_true rfl) (Nat.le_of_ble_eq_true rfl)) ?_
      show zV F X h 20 [(4, .int (nI i)), (3, .int (Int32.ofInt (grt (hs9 LN q) (wO (mo SC PN) v o) i))), (0, .ref m), (1, .int (nI q)), (2, .int (nI o))] [.int (b01 (hs9 LN q i))]
      refine v_if_ne g (off := 6) (tgt := 26) (by decide +kernel) (by decide) (fun c => ?_) (fun c => ?_)
      · refine v_blk g [.aload_n 0, .iload 4, .iload_n 2] (pc' := 30) (lv' := [(4, .int (nI i)), (3, .int (Int32.ofInt (grt (hs9 LN q) (wO (mo SC PN) v o) i))), (0, .ref m), (1, .int (nI q)), (2, .int (nI o))]) (st' := [.int (nI o), .int (nI i), .ref m]) (by decide +kernel) rfl rfl ?_
        refine v_callVp g (rest := []) (m_pointsOf hm k0 k1 k2 hO hV hi) cl_X8_194 hm rfl rfl (Nat.le_of_ble_eq_true rfl) (by decide +kernel) ⟨Nat.le_of_ble_eq_true rfl, Nat.le_of_ble_eq_true rfl⟩ (zcsn 0 0 rfl rfl (Nat.le_of_ble_eq_true rfl) (Nat.le_of_ble_eq_true rfl)) ?_
        show zV F X h 33 [(4, .int (nI i)), (3, .int (Int32.ofInt (grt (hs9 LN q) (wO (mo SC PN) v o) i))), (0, .ref m), (1, .int (nI q)), (2, .int (nI o))] [.int (nI (wt (wO (mo SC PN) v o) i))]
        refine v_blk g [.istore 5, .iload 5, .iload_n 3] (pc' := 38) (lv' := [(5, .int (nI (wt (wO (mo SC PN) v o) i))), (4, .int (nI i)), (3, .int (Int32.ofInt (grt (hs9 LN q) (wO (mo SC PN) v o) i))), (0, .ref m), (1, .int (nI q)), (2, .int (nI o))]) (st' := [.int (Int32.ofInt (grt (hs9 LN q) (wO (mo SC PN) v o) i)), .int (nI (wt (wO (mo SC PN) v o) i))]) (by decide +kernel) rfl rfl ?_
        refine v_icmp_le g (off := 8) (tgt := 46) (by decide +kernel) (by decide) (fun c2 => ?_) (fun c2 => ?_)
        · refine v_blk g [.iload_n 3, .istore_n 3, .iinc 4 1] (pc' := 51) (lv' := [(4, .int ((nI i) + (1 : Int32))), (3, .int (Int32.ofInt (grt (hs9 LN q) (wO (mo SC PN) v o) i))), (5, .int (nI (wt (wO (mo SC PN) v o) i))), (0, .ref m), (1, .int (nI q)), (2, .int (nI o))]) (st' := []) (by decide +kernel) rfl rfl ?_
          refine v_goto g (off := -46) (tgt := 5) (by decide +kernel) (by decide) ?_
          refine v_lv [0, 1, 3, 4, 5] (lv' := [(4, .int ((nI i) + (1 : Int32))), (3, .int (Int32.ofInt (grt (hs9 LN q) (wO (mo SC PN) v o) i))), (0, .ref m), (1, .int (nI q)), (2, .int (nI o))]) rfl ?_
          exact v_eq (by rw [nI_1, grt, if_pos (b01_1.mp c), if_neg (fun q => by have := (ofI_le (a := ((wt (wO (mo SC PN) v o) i : Nat) : Int)) ⟨by omega, by omega⟩ ⟨by omega, by omega⟩).mp c2; omega)]) rfl ih
        · refine v_blk g [.iload 5] (pc' := 43) (lv' := [(5, .int (nI (wt (wO (mo SC PN) v o) i))), (4, .int (nI i)), (3, .int (Int32.ofInt (grt (hs9 LN q) (wO (mo SC PN) v o) i))), (0, .ref m), (1, .int (nI q)), (2, .int (nI o))]) (st' := [.int (nI (wt (wO (mo SC PN) v o) i))]) (by decide +kernel) rfl rfl ?_
          refine v_goto g (off := 4) (tgt := 47) (by decide +kernel) (by decide) ?_
          refine v_blk g [.istore_n 3, .iinc 4 1] (pc' := 51) (lv' := [(4, .int ((nI i) + (1 : Int32))), (3, .int (nI (wt (wO (mo SC PN) v o) i))), (5, .int (nI (wt (wO (mo SC PN) v o) i))), (0, .ref m), (1, .int (nI q)), (2, .int (nI o))]) (st' := []) (by decide +kernel) rfl rfl ?_
          refine v_goto g (off := -46) (tgt := 5) (by decide +kernel) (by decide) ?_
          refine v_lv [0, 1, 3, 4, 5] (lv' := [(4, .int ((nI i) + (1 : Int32))), (3, .int (nI (wt (wO (mo SC PN) v o) i))), (0, .ref m), (1, .int (nI q)), (2, .int (nI o))]) rfl ?_
          exact v_eq (by rw [nI_1, grt, if_pos (b01_1.mp c), if_pos (Classical.byContradiction (fun q => c2 ((ofI_le (a := ((wt (wO (mo SC PN) v o) i : Nat) : Int)) ⟨by omega, by omega⟩ ⟨by omega, by omega⟩).mpr (by omega))))]; rfl) rfl ih
      · refine v_goto g (off := 25) (tgt := 48) (by decide +kernel) (by decide) ?_
        refine v_blk g [.iinc 4 1] (pc' := 51) (lv' := [(4, .int ((nI i) + (1 : Int32))), (3, .int (Int32.ofInt (grt (hs9 LN q) (wO (mo SC PN) v o) i))), (0, .ref m), (1, .int (nI q)), (2, .int (nI o))]) (st' := []) (by decide +kernel) rfl rfl ?_
        refine v_goto g (off := -46) (tgt := 5) (by decide +kernel) (by decide) ?_
        refine v_lv [0, 1, 2, 3, 4] (lv' := [(4, .int ((nI i) + (1 : Int32))), (3, .int (Int32.ofInt (grt (hs9 LN q) (wO (mo SC PN) v o) i))), (0, .ref m), (1, .int (nI q)), (2, .int (nI o))]) rfl ?_
        exact v_eq (by rw [nI_1, grt, if_neg (fun q => by rw [b01_0.mp c] at q; cases q)]) rfl ih
  exact key 0 (by omega)

set_option maxRecDepth 100000 in
set_option maxHeartbeats 4000000 in
theorem m_win {F : zF} {h : zH} {m : Nat} {R : Nat → Nat} {tp fk fp ha un dm wk pm cu ct dt pt hg th at9 sz : Int32} {hl pd hlt pdt : Int64} {n : Nat} (hm : h.1 m = some (oM R tp fk fp (nI n) ha un dm wk hl pd pm cu ct dt hlt pdt pt hg th at9 sz)) {SC : Nat → Int32} (k0 : h.1 (R 0) = some (aI 14 SC)) {PN : Nat → Int32} (k1 : h.1 (R 1) = some (aI 14 PN)) {V : Nat → Int32} (k2 : h.1 (R 2) = some (aI 4 V)) {LN : Nat → Int32} (k4 : h.1 (R 4) = some (aI 10240 LN)) {v : Nat → Nat} (hO : okO (mo SC PN)) (hV : nIs V v 4) (hv9 : ∀ k, v k ≤ 9) (hn : n ≤ 20) (c p : Int32) : zMet F yX8_win cX8_win 3 (some .int) { frames := 4, cells := 0, slots := 0, locals := 120 } [.ref m, .int c, .int p] h (zP (z_s h m (oM R tp fk fp (nI n) ha un dm wk hl pd pm cu ct dt hlt pdt pt hg 0 at9 sz)) (some (.int (if x_C n c = 0 then -1 else nI (fb_ct (btw (hs9 LN c.toNatClampNeg) (wO (mo SC PN) v 0) p.toInt64 p.toInt64) 16384))))) := by
  refine zMet_of (lv := [(0, .ref m), (1, .int c), (2, .int p)]) (by decide) (by simp [lg_sl, Value.category]) rfl ?_
  intro X g z
  refine v_blk g [.aload_n 0, .iconst 0] (pc' := 2) (lv' := [(0, .ref m), (1, .int c), (2, .int p)]) (st' := [.int (0 : Int32), .ref m]) (by decide +kernel) rfl rfl ?_
  refine v_put g (fs' := oMl R tp fk fp (nI n) ha un dm wk hl pd pm cu ct dt hlt pdt pt hg (0 : Int32) at9 sz) hm fl_X8_89 rfl rfl (Nat.le_of_ble_eq_true rfl) rfl (by decide +kernel) ?_
  refine v_h (fun h1 eh1 => ?_)
  have h1_c : h1.2.1 = h.2.1 + 0 ∧ h1.2.2 = h.2.2 + 0 := zcs eh1 ⟨rfl, rfl⟩
  have h1_m : h1.1 m = some (oM R tp fk fp (nI n) ha un dm wk hl pd pm cu ct dt hlt pdt pt hg (0 : Int32) at9 sz) := by rw [eh1]; exact z_s_self _ _ _
  have h1_R0 : h1.1 (R 0) = some (aI 14 SC) := by rw [eh1]; exact z_so k0 (Ne.symm (z_ne hm k0 rfl))
  have h1_R1 : h1.1 (R 1) = some (aI 14 PN) := by rw [eh1]; exact z_so k1 (Ne.symm (z_ne hm k1 rfl))
  have h1_R2 : h1.1 (R 2) = some (aI 4 V) := by rw [eh1]; exact z_so k2 (Ne.symm (z_ne hm k2 rfl))
  have h1_R4 : h1.1 (R 4) = some (aI 10240 LN) := by rw [eh1]; exact z_so k4 (Ne.symm (z_ne hm k4 rfl))
  refine v_blk g [.aload_n 0, .iload_n 1] (pc' := 7) (lv' := [(0, .ref m), (1, .int c), (2, .int p)]) (st' := [.int c, .ref m]) (by decide +kernel) rfl rfl ?_
  refine v_callVp g (rest := []) (m_isCoupon h1_m (by omega) c) cl_X8_183 h1_m rfl rfl (Nat.le_of_ble_eq_true rfl) (by decide +kernel) ⟨Nat.le_of_ble_eq_true rfl, Nat.le_of_ble_eq_true rfl⟩ (zcsn 0 0 h1_c.1 h1_c.2 (Nat.le_of_ble_eq_true rfl) (Nat.le_of_ble_eq_true rfl)) ?_
  show zV F X h1 10 [(0, .ref m), (1, .int c), (2, .int p)] [.int (x_C n c)]
  refine v_if_eq g (off := 16) (tgt := 26) (by decide +kernel) (by decide) (fun c0 => ?_) (fun c0 => ?_)
  · refine v_blk g [.iconst (-1)] (pc' := 27) (lv' := [(0, .ref m), (1, .int c), (2, .int p)]) (st' := [.int (-1 : Int32)]) (by decide +kernel) rfl rfl ?_
    exact v_iret g z rfl (by decide +kernel) ⟨by rw [if_pos c0], by rw [eh1]⟩ (zcrn 0 0 h1_c.1 h1_c.2 (Nat.le_of_ble_eq_true rfl) (Nat.le_of_ble_eq_true rfl))
  · obtain ⟨k, hk, rfl⟩ := x_C_k (by omega) c0
    have ek : (nI k).toNatClampNeg = k := nI_clamp (by omega)
    refine v_blk g [.aload_n 0, .iload_n 1, .iconst 0, .iload_n 2, .i2l, .iload_n 2, .i2l] (pc' := 20) (lv' := [(0, .ref m), (1, .int (nI k)), (2, .int p)]) (st' := [.long p.toInt64, .long p.toInt64, .int (0 : Int32), .int (nI k), .ref m]) (by decide +kernel) rfl rfl ?_
    refine v_callVp g (rest := []) (m_between (o := 0) h1_m h1_R0 h1_R1 h1_R2 h1_R4 hO hV (by omega) _ _) cl_X8_197 h1_m rfl rfl (Nat.le_of_ble_eq_true rfl) (by decide +kernel) ⟨Nat.le_of_ble_eq_true rfl, Nat.le_of_ble_eq_true rfl⟩ (zcsn 0 0 h1_c.1 h1_c.2 (Nat.le_of_ble_eq_true rfl) (Nat.le_of_ble_eq_true rfl)) ?_
    show zV F X h1 23 [(0, .ref m), (1, .int (nI k)), (2, .int p)] [.int (nI (fb_ct (btw (hs9 LN k) (wO (mo SC PN) v 0) p.toInt64 p.toInt64) 16384))]
    refine v_goto g (off := 4) (tgt := 27) (by decide +kernel) (by decide) ?_
    exact v_iret g z rfl (by decide +kernel) ⟨by rw [if_neg c0, ek], by rw [eh1]⟩ (zcrn 0 0 h1_c.1 h1_c.2 (Nat.le_of_ble_eq_true rfl) (Nat.le_of_ble_eq_true rfl))

set_option maxRecDepth 100000 in
set_option maxHeartbeats 4000000 in
theorem m_best {F : zF} {h : zH} {m : Nat} {R : Nat → Nat} {tp fk fp ha un dm wk pm cu ct dt pt hg th at9 sz : Int32} {hl pd hlt pdt : Int64} {n : Nat} (hm : h.1 m = some (oM R tp fk fp (nI n) ha un dm wk hl pd pm cu ct dt hlt pdt pt hg th at9 sz)) {SC : Nat → Int32} (k0 : h.1 (R 0) = some (aI 14 SC)) {PN : Nat → Int32} (k1 : h.1 (R 1) = some (aI 14 PN)) {V : Nat → Int32} (k2 : h.1 (R 2) = some (aI 4 V)) {LN : Nat → Int32} (k4 : h.1 (R 4) = some (aI 10240 LN)) {v : Nat → Nat} (hO : okO (mo SC PN)) (hV : nIs V v 4) (hv9 : ∀ k, v k ≤ 9) (hn : n ≤ 20) (c : Int32) : zMet F yX8_best cX8_best 2 (some .int) { frames := 4, cells := 0, slots := 0, locals := 120 } [.ref m, .int c] h (zP (z_s h m (oM R tp fk fp (nI n) ha un dm wk hl pd pm cu ct dt hlt pdt pt hg 0 at9 sz)) (some (.int (if x_C n c = 0 then -1 else Int32.ofInt (grt (hs9 LN c.toNatClampNeg) (wO (mo SC PN) v 0) 16384))))) := by
  refine zMet_of (lv := [(0, .ref m), (1, .int c)]) (by decide) (by simp [lg_sl, Value.category]) rfl ?_
  intro X g z
  refine v_blk g [.aload_n 0, .iconst 0] (pc' := 2) (lv' := [(0, .ref m), (1, .int c)]) (st' := [.int (0 : Int32), .ref m]) (by decide +kernel) rfl rfl ?_
  refine v_put g (fs' := oMl R tp fk fp (nI n) ha un dm wk hl pd pm cu ct dt hlt pdt pt hg (0 : Int32) at9 sz) hm fl_X8_89 rfl rfl (Nat.le_of_ble_eq_true rfl) rfl (by decide +kernel) ?_
  refine v_h (fun h1 eh1 => ?_)
  have h1_c : h1.2.1 = h.2.1 + 0 ∧ h1.2.2 = h.2.2 + 0 := zcs eh1 ⟨rfl, rfl⟩
  have h1_m : h1.1 m = some (oM R tp fk fp (nI n) ha un dm wk hl pd pm cu ct dt hlt pdt pt hg (0 : Int32) at9 sz) := by rw [eh1]; exact z_s_self _ _ _
  have h1_R0 : h1.1 (R 0) = some (aI 14 SC) := by rw [eh1]; exact z_so k0 (Ne.symm (z_ne hm k0 rfl))
  have h1_R1 : h1.1 (R 1) = some (aI 14 PN) := by rw [eh1]; exact z_so k1 (Ne.symm (z_ne hm k1 rfl))
  have h1_R2 : h1.1 (R 2) = some (aI 4 V) := by rw [eh1]; exact z_so k2 (Ne.symm (z_ne hm k2 rfl))
  have h1_R4 : h1.1 (R 4) = some (aI 10240 LN) := by rw [eh1]; exact z_so k4 (Ne.symm (z_ne hm k4 rfl))
  refine v_blk g [.aload_n 0, .iload_n 1] (pc' := 7) (lv' := [(0, .ref m), (1, .int c)]) (st' := [.int c, .ref m]) (by decide +kernel) rfl rfl ?_
  refine v_callVp g (rest := []) (m_isCoupon h1_m (by omega) c) cl_X8_183 h1_m rfl rfl (Nat.le_of_ble_eq_true rfl) (by decide +kernel) ⟨Nat.le_of_ble_eq_true rfl, Nat.le_of_ble_eq_true rfl⟩ (zcsn 0 0 h1_c.1 h1_c.2 (Nat.le_of_ble_eq_true rfl) (Nat.le_of_ble_eq_true rfl)) ?_
  show zV F X h1 10 [(0, .ref m), (1, .int c)] [.int (x_C n c)]
  refine v_if_eq g (off := 12) (tgt := 22) (by decide +kernel) (by decide) (fun c0 => ?_) (fun c0 => ?_)
  · refine v_blk g [.iconst (-1)] (pc' := 23) (lv' := [(0, .ref m), (1, .int c)]) (st' := [.int (-1 : Int32)]) (by decide +kernel) rfl rfl ?_
    exact v_iret g z rfl (by decide +kernel) ⟨by rw [if_pos c0], by rw [eh1]⟩ (zcrn 0 0 h1_c.1 h1_c.2 (Nat.le_of_ble_eq_true rfl) (Nat.le_of_ble_eq_true rfl))
  · obtain ⟨k, hk, rfl⟩ := x_C_k (by omega) c0
    have ek : (nI k).toNatClampNeg = k := nI_clamp (by omega)
    refine v_blk g [.aload_n 0, .iload_n 1, .iconst 0] (pc' := 16) (lv' := [(0, .ref m), (1, .int (nI k))]) (st' := [.int (0 : Int32), .int (nI k), .ref m]) (by decide +kernel) rfl rfl ?_
    refine v_callVp g (rest := []) (m_greatest (o := 0) h1_m h1_R0 h1_R1 h1_R2 h1_R4 hO hV (by omega) hv9 (by decide)) cl_X8_201 h1_m rfl rfl (Nat.le_of_ble_eq_true rfl) (by decide +kernel) ⟨Nat.le_of_ble_eq_true rfl, Nat.le_of_ble_eq_true rfl⟩ (zcsn 0 0 h1_c.1 h1_c.2 (Nat.le_of_ble_eq_true rfl) (Nat.le_of_ble_eq_true rfl)) ?_
    show zV F X h1 19 [(0, .ref m), (1, .int (nI k))] [.int (Int32.ofInt (grt (hs9 LN k) (wO (mo SC PN) v 0) 16384))]
    refine v_goto g (off := 4) (tgt := 23) (by decide +kernel) (by decide) ?_
    exact v_iret g z rfl (by decide +kernel) ⟨by rw [if_neg c0, ek], by rw [eh1]⟩ (zcrn 0 0 h1_c.1 h1_c.2 (Nat.le_of_ble_eq_true rfl) (Nat.le_of_ble_eq_true rfl))

set_option maxRecDepth 100000 in
set_option maxHeartbeats 4000000 in
theorem m_still {F : zF} {h : zH} {m : Nat} {R : Nat → Nat} {tp fk fp ha un dm wk pm cu ct dt pt hg th at9 sz : Int32} {hl pd hlt pdt : Int64} {n : Nat} (hm : h.1 m = some (oM R tp fk fp (nI n) ha un dm wk hl pd pm cu ct dt hlt pdt pt hg th at9 sz)) {SC : Nat → Int32} (k0 : h.1 (R 0) = some (aI 14 SC)) {PN : Nat → Int32} (k1 : h.1 (R 1) = some (aI 14 PN)) {V : Nat → Int32} (k2 : h.1 (R 2) = some (aI 4 V)) {LN : Nat → Int32} (k4 : h.1 (R 4) = some (aI 10240 LN)) {v : Nat → Nat} (hO : okO (mo SC PN)) (hV : nIs V v 4) (hv9 : ∀ k, v k ≤ 9) (hn : n ≤ 20) (c : Int32) : zMet F yX8_still cX8_still 2 (some .int) { frames := 4, cells := 0, slots := 0, locals := 120 } [.ref m, .int c] h (zP (z_s h m (oM R tp fk fp (nI n) ha un dm wk hl pd pm cu ct dt hlt pdt pt hg 0 at9 sz)) (some (.int (if x_C n c = 0 then -1 else Int32.ofInt (grt (hs9 LN c.toNatClampNeg) (wO (mo SC PN) v (mxV v 4)) 16384))))) := by
  refine zMet_of (lv := [(0, .ref m), (1, .int c)]) (by decide) (by simp [lg_sl, Value.category]) rfl ?_
  intro X g z
  refine v_blk g [.aload_n 0, .iconst 0] (pc' := 2) (lv' := [(0, .ref m), (1, .int c)]) (st' := [.int (0 : Int32), .ref m]) (by decide +kernel) rfl rfl ?_
  refine v_put g (fs' := oMl R tp fk fp (nI n) ha un dm wk hl pd pm cu ct dt hlt pdt pt hg (0 : Int32) at9 sz) hm fl_X8_89 rfl rfl (Nat.le_of_ble_eq_true rfl) rfl (by decide +kernel) ?_
  refine v_h (fun h1 eh1 => ?_)
  have h1_c : h1.2.1 = h.2.1 + 0 ∧ h1.2.2 = h.2.2 + 0 := zcs eh1 ⟨rfl, rfl⟩
  have h1_m : h1.1 m = some (oM R tp fk fp (nI n) ha un dm wk hl pd pm cu ct dt hlt pdt pt hg (0 : Int32) at9 sz) := by rw [eh1]; exact z_s_self _ _ _
  have h1_R0 : h1.1 (R 0) = some (aI 14 SC) := by rw [eh1]; exact z_so k0 (Ne.symm (z_ne hm k0 rfl))
  have h1_R1 : h1.1 (R 1) = some (aI 14 PN) := by rw [eh1]; exact z_so k1 (Ne.symm (z_ne hm k1 rfl))
  have h1_R2 : h1.1 (R 2) = some (aI 4 V) := by rw [eh1]; exact z_so k2 (Ne.symm (z_ne hm k2 rfl))
  have h1_R4 : h1.1 (R 4) = some (aI 10240 LN) := by rw [eh1]; exact z_so k4 (Ne.symm (z_ne hm k4 rfl))
  refine v_blk g [.aload_n 0, .iload_n 1] (pc' := 7) (lv' := [(0, .ref m), (1, .int c)]) (st' := [.int c, .ref m]) (by decide +kernel) rfl rfl ?_
  refine v_callVp g (rest := []) (m_isCoupon h1_m (by omega) c) cl_X8_183 h1_m rfl rfl (Nat.le_of_ble_eq_true rfl) (by decide +kernel) ⟨Nat.le_of_ble_eq_true rfl, Nat.le_of_ble_eq_true rfl⟩ (zcsn 0 0 h1_c.1 h1_c.2 (Nat.le_of_ble_eq_true rfl) (Nat.le_of_ble_eq_true rfl)) ?_
  show zV F X h1 10 [(0, .ref m), (1, .int c)] [.int (x_C n c)]
  refine v_if_eq g (off := 15) (tgt := 25) (by decide +kernel) (by decide) (fun c0 => ?_) (fun c0 => ?_)
  · refine v_blk g [.iconst (-1)] (pc' := 26) (lv' := [(0, .ref m), (1, .int c)]) (st' := [.int (-1 : Int32)]) (by decide +kernel) rfl rfl ?_
    exact v_iret g z rfl (by decide +kernel) ⟨by rw [if_pos c0], by rw [eh1]⟩ (zcrn 0 0 h1_c.1 h1_c.2 (Nat.le_of_ble_eq_true rfl) (Nat.le_of_ble_eq_true rfl))
  · obtain ⟨k, hk, rfl⟩ := x_C_k (by omega) c0
    have ek : (nI k).toNatClampNeg = k := nI_clamp (by omega)
    refine v_blk g [.aload_n 0, .iload_n 1, .aload_n 0] (pc' := 16) (lv' := [(0, .ref m), (1, .int (nI k))]) (st' := [.ref m, .int (nI k), .ref m]) (by decide +kernel) rfl rfl ?_
    refine v_callVp g (rest := [.int (nI k), .ref m]) (m_most h1_m h1_R2 hV hv9) cl_X8_204 h1_m rfl rfl (Nat.le_of_ble_eq_true rfl) (by decide +kernel) ⟨Nat.le_of_ble_eq_true rfl, Nat.le_of_ble_eq_true rfl⟩ (zcsn 0 0 h1_c.1 h1_c.2 (Nat.le_of_ble_eq_true rfl) (Nat.le_of_ble_eq_true rfl)) ?_
    show zV F X h1 19 [(0, .ref m), (1, .int (nI k))] [.int (nI (mxV v 4)), .int (nI k), .ref m]
    refine v_callVp g (rest := []) (m_greatest (o := mxV v 4) h1_m h1_R0 h1_R1 h1_R2 h1_R4 hO hV (by omega) hv9 (mxV_le hv9 4)) cl_X8_201 h1_m rfl rfl (Nat.le_of_ble_eq_true rfl) (by decide +kernel) ⟨Nat.le_of_ble_eq_true rfl, Nat.le_of_ble_eq_true rfl⟩ (zcsn 0 0 h1_c.1 h1_c.2 (Nat.le_of_ble_eq_true rfl) (Nat.le_of_ble_eq_true rfl)) ?_
    show zV F X h1 22 [(0, .ref m), (1, .int (nI k))] [.int (Int32.ofInt (grt (hs9 LN k) (wO (mo SC PN) v (mxV v 4)) 16384))]
    refine v_goto g (off := 4) (tgt := 26) (by decide +kernel) (by decide) ?_
    exact v_iret g z rfl (by decide +kernel) ⟨by rw [if_neg c0, ek], by rw [eh1]⟩ (zcrn 0 0 h1_c.1 h1_c.2 (Nat.le_of_ble_eq_true rfl) (Nat.le_of_ble_eq_true rfl))

set_option maxRecDepth 100000 in
set_option maxHeartbeats 4000000 in
theorem m_could {F : zF} {h : zH} {m : Nat} {R : Nat → Nat} {tp fk fp ha un dm wk pm cu ct dt pt hg th at9 sz : Int32} {hl pd hlt pdt : Int64} {n : Nat} (hm : h.1 m = some (oM R tp fk fp (nI n) ha un dm wk hl pd pm cu ct dt hlt pdt pt hg th at9 sz)) {SC : Nat → Int32} (k0 : h.1 (R 0) = some (aI 14 SC)) {PN : Nat → Int32} (k1 : h.1 (R 1) = some (aI 14 PN)) {V : Nat → Int32} (k2 : h.1 (R 2) = some (aI 4 V)) {LN : Nat → Int32} (k4 : h.1 (R 4) = some (aI 10240 LN)) {v : Nat → Nat} (hO : okO (mo SC PN)) (hV : nIs V v 4) (hv9 : ∀ k, v k ≤ 9) (hn : n ≤ 20) (c p : Int32) : zMet F yX8_could cX8_could 3 (some .int) { frames := 4, cells := 0, slots := 0, locals := 120 } [.ref m, .int c, .int p] h (zP (z_s h m (oM R tp fk fp (nI n) ha un dm wk hl pd pm cu ct dt hlt pdt pt hg 0 at9 sz)) (some (.int (if x_C n c = 0 then -1 else nI (fb_ct (btw (hs9 LN c.toNatClampNeg) (wO (mo SC PN) v (mxV v 4)) p.toInt64 (1000 : Int64)) 16384))))) := by
  refine zMet_of (lv := [(0, .ref m), (1, .int c), (2, .int p)]) (by decide) (by simp [lg_sl, Value.category]) rfl ?_
  intro X g z
  refine v_blk g [.aload_n 0, .iconst 0] (pc' := 2) (lv' := [(0, .ref m), (1, .int c), (2, .int p)]) (st' := [.int (0 : Int32), .ref m]) (by decide +kernel) rfl rfl ?_
  refine v_put g (fs' := oMl R tp fk fp (nI n) ha un dm wk hl pd pm cu ct dt hlt pdt pt hg (0 : Int32) at9 sz) hm fl_X8_89 rfl rfl (Nat.le_of_ble_eq_true rfl) rfl (by decide +kernel) ?_
  refine v_h (fun h1 eh1 => ?_)
  have h1_c : h1.2.1 = h.2.1 + 0 ∧ h1.2.2 = h.2.2 + 0 := zcs eh1 ⟨rfl, rfl⟩
  have h1_m : h1.1 m = some (oM R tp fk fp (nI n) ha un dm wk hl pd pm cu ct dt hlt pdt pt hg (0 : Int32) at9 sz) := by rw [eh1]; exact z_s_self _ _ _
  have h1_R0 : h1.1 (R 0) = some (aI 14 SC) := by rw [eh1]; exact z_so k0 (Ne.symm (z_ne hm k0 rfl))
  have h1_R1 : h1.1 (R 1) = some (aI 14 PN) := by rw [eh1]; exact z_so k1 (Ne.symm (z_ne hm k1 rfl))
  have h1_R2 : h1.1 (R 2) = some (aI 4 V) := by rw [eh1]; exact z_so k2 (Ne.symm (z_ne hm k2 rfl))
  have h1_R4 : h1.1 (R 4) = some (aI 10240 LN) := by rw [eh1]; exact z_so k4 (Ne.symm (z_ne hm k4 rfl))
  refine v_blk g [.aload_n 0, .iload_n 1] (pc' := 7) (lv' := [(0, .ref m), (1, .int c), (2, .int p)]) (st' := [.int c, .ref m]) (by decide +kernel) rfl rfl ?_
  refine v_callVp g (rest := []) (m_isCoupon h1_m (by omega) c) cl_X8_183 h1_m rfl rfl (Nat.le_of_ble_eq_true rfl) (by decide +kernel) ⟨Nat.le_of_ble_eq_true rfl, Nat.le_of_ble_eq_true rfl⟩ (zcsn 0 0 h1_c.1 h1_c.2 (Nat.le_of_ble_eq_true rfl) (Nat.le_of_ble_eq_true rfl)) ?_
  show zV F X h1 10 [(0, .ref m), (1, .int c), (2, .int p)] [.int (x_C n c)]
  refine v_if_eq g (off := 20) (tgt := 30) (by decide +kernel) (by decide) (fun c0 => ?_) (fun c0 => ?_)
  · refine v_blk g [.iconst (-1)] (pc' := 31) (lv' := [(0, .ref m), (1, .int c), (2, .int p)]) (st' := [.int (-1 : Int32)]) (by decide +kernel) rfl rfl ?_
    exact v_iret g z rfl (by decide +kernel) ⟨by rw [if_pos c0], by rw [eh1]⟩ (zcrn 0 0 h1_c.1 h1_c.2 (Nat.le_of_ble_eq_true rfl) (Nat.le_of_ble_eq_true rfl))
  · obtain ⟨k, hk, rfl⟩ := x_C_k (by omega) c0
    have ek : (nI k).toNatClampNeg = k := nI_clamp (by omega)
    refine v_blk g [.aload_n 0, .iload_n 1, .aload_n 0] (pc' := 16) (lv' := [(0, .ref m), (1, .int (nI k)), (2, .int p)]) (st' := [.ref m, .int (nI k), .ref m]) (by decide +kernel) rfl rfl ?_
    refine v_callVp g (rest := [.int (nI k), .ref m]) (m_most h1_m h1_R2 hV hv9) cl_X8_204 h1_m rfl rfl (Nat.le_of_ble_eq_true rfl) (by decide +kernel) ⟨Nat.le_of_ble_eq_true rfl, Nat.le_of_ble_eq_true rfl⟩ (zcsn 0 0 h1_c.1 h1_c.2 (Nat.le_of_ble_eq_true rfl) (Nat.le_of_ble_eq_true rfl)) ?_
    show zV F X h1 19 [(0, .ref m), (1, .int (nI k)), (2, .int p)] [.int (nI (mxV v 4)), .int (nI k), .ref m]
    refine v_blk g [.iload_n 2, .i2l] (pc' := 21) (lv' := [(0, .ref m), (1, .int (nI k)), (2, .int p)]) (st' := [.long p.toInt64, .int (nI (mxV v 4)), .int (nI k), .ref m]) (by decide +kernel) rfl rfl ?_
    refine v_ldc2 g kc_X8_207 (by decide +kernel) ?_
    refine v_callVp g (rest := []) (m_between (o := mxV v 4) h1_m h1_R0 h1_R1 h1_R2 h1_R4 hO hV (by omega) _ _) cl_X8_197 h1_m rfl rfl (Nat.le_of_ble_eq_true rfl) (by decide +kernel) ⟨Nat.le_of_ble_eq_true rfl, Nat.le_of_ble_eq_true rfl⟩ (zcsn 0 0 h1_c.1 h1_c.2 (Nat.le_of_ble_eq_true rfl) (Nat.le_of_ble_eq_true rfl)) ?_
    show zV F X h1 27 [(0, .ref m), (1, .int (nI k)), (2, .int p)] [.int (nI (fb_ct (btw (hs9 LN k) (wO (mo SC PN) v (mxV v 4)) p.toInt64 (1000 : Int64)) 16384))]
    refine v_goto g (off := 4) (tgt := 31) (by decide +kernel) (by decide) ?_
    exact v_iret g z rfl (by decide +kernel) ⟨by rw [if_neg c0, ek], by rw [eh1]⟩ (zcrn 0 0 h1_c.1 h1_c.2 (Nat.le_of_ble_eq_true rfl) (Nat.le_of_ble_eq_true rfl))

set_option maxRecDepth 100000 in
set_option maxHeartbeats 4000000 in
theorem m_sure {F : zF} {h : zH} {m : Nat} {R : Nat → Nat} {tp fk fp ha un dm wk pm cu ct dt pt hg th at9 sz : Int32} {hl pd hlt pdt : Int64} {n : Nat} (hm : h.1 m = some (oM R tp fk fp (nI n) ha un dm wk hl pd pm cu ct dt hlt pdt pt hg th at9 sz)) {SC : Nat → Int32} (k0 : h.1 (R 0) = some (aI 14 SC)) {PN : Nat → Int32} (k1 : h.1 (R 1) = some (aI 14 PN)) {V : Nat → Int32} (k2 : h.1 (R 2) = some (aI 4 V)) {LN : Nat → Int32} (k4 : h.1 (R 4) = some (aI 10240 LN)) {v : Nat → Nat} (hO : okO (mo SC PN)) (hV : nIs V v 4) (hv9 : ∀ k, v k ≤ 9) (hn : n ≤ 20) (c p : Int32) : zMet F yX8_sure cX8_sure 3 (some .int) { frames := 4, cells := 0, slots := 0, locals := 120 } [.ref m, .int c, .int p] h (zP (z_s h m (oM R tp fk fp (nI n) ha un dm wk hl pd pm cu ct dt hlt pdt pt hg 0 at9 sz)) (some (.int (if x_C n c = 0 then -1 else nI (fb_ct (btw (hs9 LN c.toNatClampNeg) (wO (mo SC PN) v (mnV v 4)) p.toInt64 (1000 : Int64)) 16384))))) := by
  refine zMet_of (lv := [(0, .ref m), (1, .int c), (2, .int p)]) (by decide) (by simp [lg_sl, Value.category]) rfl ?_
  intro X g z
  refine v_blk g [.aload_n 0, .iconst 0] (pc' := 2) (lv' := [(0, .ref m), (1, .int c), (2, .int p)]) (st' := [.int (0 : Int32), .ref m]) (by decide +kernel) rfl rfl ?_
  refine v_put g (fs' := oMl R tp fk fp (nI n) ha un dm wk hl pd pm cu ct dt hlt pdt pt hg (0 : Int32) at9 sz) hm fl_X8_89 rfl rfl (Nat.le_of_ble_eq_true rfl) rfl (by decide +kernel) ?_
  refine v_h (fun h1 eh1 => ?_)
  have h1_c : h1.2.1 = h.2.1 + 0 ∧ h1.2.2 = h.2.2 + 0 := zcs eh1 ⟨rfl, rfl⟩
  have h1_m : h1.1 m = some (oM R tp fk fp (nI n) ha un dm wk hl pd pm cu ct dt hlt pdt pt hg (0 : Int32) at9 sz) := by rw [eh1]; exact z_s_self _ _ _
  have h1_R0 : h1.1 (R 0) = some (aI 14 SC) := by rw [eh1]; exact z_so k0 (Ne.symm (z_ne hm k0 rfl))
  have h1_R1 : h1.1 (R 1) = some (aI 14 PN) := by rw [eh1]; exact z_so k1 (Ne.symm (z_ne hm k1 rfl))
  have h1_R2 : h1.1 (R 2) = some (aI 4 V) := by rw [eh1]; exact z_so k2 (Ne.symm (z_ne hm k2 rfl))
  have h1_R4 : h1.1 (R 4) = some (aI 10240 LN) := by rw [eh1]; exact z_so k4 (Ne.symm (z_ne hm k4 rfl))
  refine v_blk g [.aload_n 0, .iload_n 1] (pc' := 7) (lv' := [(0, .ref m), (1, .int c), (2, .int p)]) (st' := [.int c, .ref m]) (by decide +kernel) rfl rfl ?_
  refine v_callVp g (rest := []) (m_isCoupon h1_m (by omega) c) cl_X8_183 h1_m rfl rfl (Nat.le_of_ble_eq_true rfl) (by decide +kernel) ⟨Nat.le_of_ble_eq_true rfl, Nat.le_of_ble_eq_true rfl⟩ (zcsn 0 0 h1_c.1 h1_c.2 (Nat.le_of_ble_eq_true rfl) (Nat.le_of_ble_eq_true rfl)) ?_
  show zV F X h1 10 [(0, .ref m), (1, .int c), (2, .int p)] [.int (x_C n c)]
  refine v_if_eq g (off := 20) (tgt := 30) (by decide +kernel) (by decide) (fun c0 => ?_) (fun c0 => ?_)
  · refine v_blk g [.iconst (-1)] (pc' := 31) (lv' := [(0, .ref m), (1, .int c), (2, .int p)]) (st' := [.int (-1 : Int32)]) (by decide +kernel) rfl rfl ?_
    exact v_iret g z rfl (by decide +kernel) ⟨by rw [if_pos c0], by rw [eh1]⟩ (zcrn 0 0 h1_c.1 h1_c.2 (Nat.le_of_ble_eq_true rfl) (Nat.le_of_ble_eq_true rfl))
  · obtain ⟨k, hk, rfl⟩ := x_C_k (by omega) c0
    have ek : (nI k).toNatClampNeg = k := nI_clamp (by omega)
    refine v_blk g [.aload_n 0, .iload_n 1, .aload_n 0] (pc' := 16) (lv' := [(0, .ref m), (1, .int (nI k)), (2, .int p)]) (st' := [.ref m, .int (nI k), .ref m]) (by decide +kernel) rfl rfl ?_
    refine v_callVp g (rest := [.int (nI k), .ref m]) (m_fewest h1_m h1_R2 hV hv9) cl_X8_209 h1_m rfl rfl (Nat.le_of_ble_eq_true rfl) (by decide +kernel) ⟨Nat.le_of_ble_eq_true rfl, Nat.le_of_ble_eq_true rfl⟩ (zcsn 0 0 h1_c.1 h1_c.2 (Nat.le_of_ble_eq_true rfl) (Nat.le_of_ble_eq_true rfl)) ?_
    show zV F X h1 19 [(0, .ref m), (1, .int (nI k)), (2, .int p)] [.int (nI (mnV v 4)), .int (nI k), .ref m]
    refine v_blk g [.iload_n 2, .i2l] (pc' := 21) (lv' := [(0, .ref m), (1, .int (nI k)), (2, .int p)]) (st' := [.long p.toInt64, .int (nI (mnV v 4)), .int (nI k), .ref m]) (by decide +kernel) rfl rfl ?_
    refine v_ldc2 g kc_X8_207 (by decide +kernel) ?_
    refine v_callVp g (rest := []) (m_between (o := mnV v 4) h1_m h1_R0 h1_R1 h1_R2 h1_R4 hO hV (by omega) _ _) cl_X8_197 h1_m rfl rfl (Nat.le_of_ble_eq_true rfl) (by decide +kernel) ⟨Nat.le_of_ble_eq_true rfl, Nat.le_of_ble_eq_true rfl⟩ (zcsn 0 0 h1_c.1 h1_c.2 (Nat.le_of_ble_eq_true rfl) (Nat.le_of_ble_eq_true rfl)) ?_
    show zV F X h1 27 [(0, .ref m), (1, .int (nI k)), (2, .int p)] [.int (nI (fb_ct (btw (hs9 LN k) (wO (mo SC PN) v (mnV v 4)) p.toInt64 (1000 : Int64)) 16384))]
    refine v_goto g (off := 4) (tgt := 31) (by decide +kernel) (by decide) ?_
    exact v_iret g z rfl (by decide +kernel) ⟨by rw [if_neg c0, ek], by rw [eh1]⟩ (zcrn 0 0 h1_c.1 h1_c.2 (Nat.le_of_ble_eq_true rfl) (Nat.le_of_ble_eq_true rfl))
