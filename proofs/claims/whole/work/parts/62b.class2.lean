def okDc (E : Nat → zD) (dh : Nat) (l s c : Int32) : Prop := ¬ x_isIn l 0 90 = 0 ∧ ¬ x_isIn s 0 100 = 0 ∧ ¬ x_isIn c 1 1000000 = 0 ∧ okD E dh l s

set_option maxRecDepth 100000 in
set_option maxHeartbeats 4000000 in
theorem p_dividend {F : zF} {h : zH} {Ω : Nat → Prop} {Q : Nat → Nat} {cu ha un : Int32} {n : Nat} {B : Nat → Int32} {hg at9 fk fp : Int32} {sp : Option Nat} {G : Nat → Option Nat} {T : Nat → zS} {wf lf hf : Nat → Int32} {ff : Nat → Int64} {V : Nat → Int32} {wk : Int32} {hm pm : Int64} {O : Nat → Int32} {C : Nat → Option Nat} {ch : Nat} {D : Nat → Option Nat} {dh : Nat} {E : Nat → zD} {Z : Nat → Int64} {P : Nat → Int32} {ph : Nat} {ca cl cw : Nat → Nat} {K : Nat → Int32 × Int32 × Int32 × Int32} {cf : Nat → Nat → Int64} {wk2 : Int32} {hm2 pm2 : Int64} {O2 : Nat → Int32} {C2 : Nat → Option Nat} {ch2 : Nat} {D2 : Nat → Option Nat} {dh2 : Nat} {E2 : Nat → zD} {Z2 : Nat → Int64} {P2 : Nat → Int32} {ph2 : Nat} {ca2 cl2 cw2 : Nat → Nat} {K2 : Nat → Int32 × Int32 × Int32 × Int32} {cf2 : Nat → Nat → Int64} (W : PC h (Ω) Q cu ha un n B hg at9 fk fp sp G T wf lf hf ff V wk hm pm O C ch D dh E Z P ph ca cl cw K cf wk2 hm2 pm2 O2 C2 ch2 D2 dh2 E2 Z2 P2 ph2 ca2 cl2 cw2 K2 cf2) (hdh : dh ≤ 4) (l s c : Int32) : zMet F yX7_dividend cX7_dividend 4 (some .int) { frames := 3, cells := 0, slots := 0, locals := 90 } [.ref (Q 0), .int l, .int s, .int c] h (fun v h2 => (okDc E dh l s c ∧ v = some (.int (nI dh)) ∧ h2 = z_s (z_s h (Q (10 + 6 + dh)) (oD (l, s, c, 0, 0, 0))) (Q 10) (oB 0 [.int wk, .long hm, .long pm, .ref (Q (10 + 1)), .ref (Q (10 + 2)), .int (nI ch), .ref (Q (10 + 3)), .int (nI (dh + 1)), .ref (Q (10 + 4)), .ref (Q (10 + 5)), .int (nI ph)])) ∨ (¬ okDc E dh l s c ∧ v = some (.int (-1)) ∧ h2 = h)) := by
  refine zMet_of (lv := [(0, .ref (Q 0)), (1, .int l), (2, .int s), (3, .int c)]) (by decide) (by simp [lg_sl, Value.category]) rfl ?_
  intro X g z
  obtain ⟨x0, t1, t2, r3, r4, sp9, gg, ls, lsd, s5, s6, s7, s8, s9, v30, bn, be, kn, ke, hQ⟩ := id W
  obtain ⟨b0, b1, b2, b3, b4, b5, bD, bE, bC⟩ := id bn
  obtain ⟨kn1, kn2, kn3, kn4, kn5, kn6⟩ := id kn
  refine v_blk g [.iload_n 1, .iconst 0, .bipush 90] (pc' := 4) (lv' := [(0, .ref (Q 0)), (1, .int l), (2, .int s), (3, .int c)]) (st' := [.int (90 : Int32), .int (0 : Int32), .int l]) (by decide +kernel) rfl rfl ?_
  refine v_callSp g (rest := []) (c_isIn _ _ _) cl_X7_57 rfl (Nat.le_of_ble_eq_true rfl) (by decide +kernel) ⟨Nat.le_of_ble_eq_true rfl, Nat.le_of_ble_eq_true rfl⟩ (zcsn 0 0 rfl rfl (Nat.le_of_ble_eq_true rfl) (Nat.le_of_ble_eq_true rfl)) ?_
  show zV F X h 7 [(0, .ref (Q 0)), (1, .int l), (2, .int s), (3, .int c)] [.int (x_isIn l (0) (90))]
  refine v_if_eq g (off := 23) (tgt := 30) (by decide +kernel) (by decide) (fun c0 => ?_) (fun c0 => ?_)
  · refine v_blk g [.iconst (-1)] (pc' := 31) (lv' := [(0, .ref (Q 0)), (1, .int l), (2, .int s), (3, .int c)]) (st' := [.int (-1 : Int32)]) (by decide +kernel) rfl rfl ?_
    exact v_iret g z rfl (by decide +kernel) (Or.inr ⟨(fun q => q.1 c0), rfl, rfl⟩) (zcrn 0 0 rfl rfl (Nat.le_of_ble_eq_true rfl) (Nat.le_of_ble_eq_true rfl))
  · refine v_blk g [.iload_n 2, .iconst 0, .bipush 100] (pc' := 14) (lv' := [(0, .ref (Q 0)), (1, .int l), (2, .int s), (3, .int c)]) (st' := [.int (100 : Int32), .int (0 : Int32), .int s]) (by decide +kernel) rfl rfl ?_
    refine v_callSp g (rest := []) (c_isIn _ _ _) cl_X7_57 rfl (Nat.le_of_ble_eq_true rfl) (by decide +kernel) ⟨Nat.le_of_ble_eq_true rfl, Nat.le_of_ble_eq_true rfl⟩ (zcsn 0 0 rfl rfl (Nat.le_of_ble_eq_true rfl) (Nat.le_of_ble_eq_true rfl)) ?_
    show zV F X h 17 [(0, .ref (Q 0)), (1, .int l), (2, .int s), (3, .int c)] [.int (x_isIn s (0) (100))]
    refine v_if_eq g (off := 13) (tgt := 30) (by decide +kernel) (by decide) (fun c1 => ?_) (fun c1 => ?_)
    · refine v_blk g [.iconst (-1)] (pc' := 31) (lv' := [(0, .ref (Q 0)), (1, .int l), (2, .int s), (3, .int c)]) (st' := [.int (-1 : Int32)]) (by decide +kernel) rfl rfl ?_
      exact v_iret g z rfl (by decide +kernel) (Or.inr ⟨(fun q => q.2.1 c1), rfl, rfl⟩) (zcrn 0 0 rfl rfl (Nat.le_of_ble_eq_true rfl) (Nat.le_of_ble_eq_true rfl))
    · refine v_blk g [.iload_n 3, .iconst 1] (pc' := 22) (lv' := [(0, .ref (Q 0)), (1, .int l), (2, .int s), (3, .int c)]) (st' := [.int (1 : Int32), .int c]) (by decide +kernel) rfl rfl ?_
      refine v_ldc g kc_X7_180 (by decide +kernel) ?_
      refine v_callSp g (rest := []) (c_isIn _ _ _) cl_X7_57 rfl (Nat.le_of_ble_eq_true rfl) (by decide +kernel) ⟨Nat.le_of_ble_eq_true rfl, Nat.le_of_ble_eq_true rfl⟩ (zcsn 0 0 rfl rfl (Nat.le_of_ble_eq_true rfl) (Nat.le_of_ble_eq_true rfl)) ?_
      show zV F X h 27 [(0, .ref (Q 0)), (1, .int l), (2, .int s), (3, .int c)] [.int (x_isIn c (1) (1000000))]
      refine v_if_ne g (off := 5) (tgt := 32) (by decide +kernel) (by decide) (fun c2 => ?_) (fun c2 => ?_)
      · refine v_blk g [.aload_n 0] (pc' := 33) (lv' := [(0, .ref (Q 0)), (1, .int l), (2, .int s), (3, .int c)]) (st' := [.ref (Q 0)]) (by decide +kernel) rfl rfl ?_
        refine v_get g x0.1 fl_X7_35 rfl (by decide +kernel) ?_
        refine v_blk g [.iload_n 1, .iload_n 2, .iload_n 3] (pc' := 39) (lv' := [(0, .ref (Q 0)), (1, .int l), (2, .int s), (3, .int c)]) (st' := [.int c, .int s, .int l, .ref (Q 10)]) (by decide +kernel) rfl rfl ?_
        refine v_callV g (rest := []) (c_Bk_addDiv (da := fun e => Q (10 + 6 + e)) b0.1 b3.1 bD (fun e he => (bE e he).1) hdh l s c) cl_X7_181 b0.1 rfl rfl (Nat.le_of_ble_eq_true rfl) (by decide +kernel) ⟨Nat.le_of_ble_eq_true rfl, Nat.le_of_ble_eq_true rfl⟩ (zcsn 0 0 rfl rfl (Nat.le_of_ble_eq_true rfl) (Nat.le_of_ble_eq_true rfl)) (fun v9 h9 q9 => ?_)
        rcases q9 with ⟨o9, rfl, rfl⟩ | ⟨o9, rfl, rfl⟩
        · show zV F X (z_s (z_s h (Q (10 + 6 + dh)) (oD (l, s, c, 0, 0, 0))) (Q 10) (oB 0 [.int wk, .long hm, .long pm, .ref (Q (10 + 1)), .ref (Q (10 + 2)), .int (nI ch), .ref (Q (10 + 3)), .int (nI (dh + 1)), .ref (Q (10 + 4)), .ref (Q (10 + 5)), .int (nI ph)])) 42 [(0, .ref (Q 0)), (1, .int l), (2, .int s), (3, .int c)] [.int (nI dh)]
          exact v_iret g z rfl (by decide +kernel) (Or.inl ⟨⟨c0, c1, c2, o9⟩, rfl, rfl⟩) ⟨Nat.le_refl _, Nat.le_refl _⟩
        · show zV F X h9 42 [(0, .ref (Q 0)), (1, .int l), (2, .int s), (3, .int c)] [.int (-1)]
          exact v_iret g z rfl (by decide +kernel) (Or.inr ⟨fun q => o9 q.2.2.2, rfl, rfl⟩) ⟨Nat.le_refl _, Nat.le_refl _⟩
      · refine v_blk g [.iconst (-1)] (pc' := 31) (lv' := [(0, .ref (Q 0)), (1, .int l), (2, .int s), (3, .int c)]) (st' := [.int (-1 : Int32)]) (by decide +kernel) rfl rfl ?_
        exact v_iret g z rfl (by decide +kernel) (Or.inr ⟨(fun q => q.2.2.1 c2), rfl, rfl⟩) (zcrn 0 0 rfl rfl (Nat.le_of_ble_eq_true rfl) (Nat.le_of_ble_eq_true rfl))

set_option maxRecDepth 100000 in
set_option maxHeartbeats 4000000 in
theorem p_repeal {F : zF} {h : zH} {Ω : Nat → Prop} {Q : Nat → Nat} {cu ha un : Int32} {n : Nat} {B : Nat → Int32} {hg at9 fk fp : Int32} {sp : Option Nat} {G : Nat → Option Nat} {T : Nat → zS} {wf lf hf : Nat → Int32} {ff : Nat → Int64} {V : Nat → Int32} {wk : Int32} {hm pm : Int64} {O : Nat → Int32} {C : Nat → Option Nat} {ch : Nat} {D : Nat → Option Nat} {dh : Nat} {E : Nat → zD} {Z : Nat → Int64} {P : Nat → Int32} {ph : Nat} {ca cl cw : Nat → Nat} {K : Nat → Int32 × Int32 × Int32 × Int32} {cf : Nat → Nat → Int64} {wk2 : Int32} {hm2 pm2 : Int64} {O2 : Nat → Int32} {C2 : Nat → Option Nat} {ch2 : Nat} {D2 : Nat → Option Nat} {dh2 : Nat} {E2 : Nat → zD} {Z2 : Nat → Int64} {P2 : Nat → Int32} {ph2 : Nat} {ca2 cl2 cw2 : Nat → Nat} {K2 : Nat → Int32 × Int32 × Int32 × Int32} {cf2 : Nat → Nat → Int64} (W : PC h (Ω) Q cu ha un n B hg at9 fk fp sp G T wf lf hf ff V wk hm pm O C ch D dh E Z P ph ca cl cw K cf wk2 hm2 pm2 O2 C2 ch2 D2 dh2 E2 Z2 P2 ph2 ca2 cl2 cw2 K2 cf2) (hdh : dh ≤ 4) : zMet F yX7_repeal cX7_repeal 1 (some .int) { frames := 3, cells := 0, slots := 0, locals := 90 } [.ref (Q 0)] h (zP (z_s h (Q 10) (oB 0 [.int wk, .long (hm + sumL (fun d => (E d).2.2.2.1) dh), .long pm, .ref (Q (10 + 1)), .ref (Q (10 + 2)), .int (nI ch), .ref (Q (10 + 3)), .int (nI 0), .ref (Q (10 + 4)), .ref (Q (10 + 5)), .int (nI ph)])) (some (.int (nI dh)))) := by
  refine zMet_of (lv := [(0, .ref (Q 0))]) (by decide) (by simp [lg_sl, Value.category]) rfl ?_
  intro X g z
  obtain ⟨x0, t1, t2, r3, r4, sp9, gg, ls, lsd, s5, s6, s7, s8, s9, v30, bn, be, kn, ke, hQ⟩ := id W
  obtain ⟨b0, b1, b2, b3, b4, b5, bD, bE, bC⟩ := id bn
  obtain ⟨kn1, kn2, kn3, kn4, kn5, kn6⟩ := id kn
  refine v_blk g [.aload_n 0] (pc' := 1) (lv' := [(0, .ref (Q 0))]) (st' := [.ref (Q 0)]) (by decide +kernel) rfl rfl ?_
  refine v_get g x0.1 fl_X7_35 rfl (by decide +kernel) ?_
  refine v_callVp g (rest := []) (c_Bk_drop (da := fun e => Q (10 + 6 + e)) b0.1 b3.1 bD (fun e he => (bE e he).1) hdh) cl_X7_184 b0.1 rfl rfl (Nat.le_of_ble_eq_true rfl) (by decide +kernel) ⟨Nat.le_of_ble_eq_true rfl, Nat.le_of_ble_eq_true rfl⟩ (zcsn 0 0 rfl rfl (Nat.le_of_ble_eq_true rfl) (Nat.le_of_ble_eq_true rfl)) ?_
  show zV F X (z_s h (Q 10) (oB 0 [.int wk, .long (hm + sumL (fun d => (E d).2.2.2.1) dh), .long pm, .ref (Q (10 + 1)), .ref (Q (10 + 2)), .int (nI ch), .ref (Q (10 + 3)), .int (nI 0), .ref (Q (10 + 4)), .ref (Q (10 + 5)), .int (nI ph)])) 7 [(0, .ref (Q 0))] [.int (nI dh)]
  exact v_iret g z rfl (by decide +kernel) ⟨rfl, rfl⟩ ⟨Nat.le_refl _, Nat.le_refl _⟩

set_option maxRecDepth 100000 in
set_option maxHeartbeats 4000000 in
theorem p_count {F : zF} {h : zH} {Ω : Nat → Prop} {Q : Nat → Nat} {cu ha un : Int32} {n : Nat} {B : Nat → Int32} {hg at9 fk fp : Int32} {sp : Option Nat} {G : Nat → Option Nat} {T : Nat → zS} {wf lf hf : Nat → Int32} {ff : Nat → Int64} {V : Nat → Int32} {wk : Int32} {hm pm : Int64} {O : Nat → Int32} {C : Nat → Option Nat} {ch : Nat} {D : Nat → Option Nat} {dh : Nat} {E : Nat → zD} {Z : Nat → Int64} {P : Nat → Int32} {ph : Nat} {ca cl cw : Nat → Nat} {K : Nat → Int32 × Int32 × Int32 × Int32} {cf : Nat → Nat → Int64} {wk2 : Int32} {hm2 pm2 : Int64} {O2 : Nat → Int32} {C2 : Nat → Option Nat} {ch2 : Nat} {D2 : Nat → Option Nat} {dh2 : Nat} {E2 : Nat → zD} {Z2 : Nat → Int64} {P2 : Nat → Int32} {ph2 : Nat} {ca2 cl2 cw2 : Nat → Nat} {K2 : Nat → Int32 × Int32 × Int32 × Int32} {cf2 : Nat → Nat → Int64} (W : PC h (Ω) Q cu ha un n B hg at9 fk fp sp G T wf lf hf ff V wk hm pm O C ch D dh E Z P ph ca cl cw K cf wk2 hm2 pm2 O2 C2 ch2 D2 dh2 E2 Z2 P2 ph2 ca2 cl2 cw2 K2 cf2) (hch : ch ≤ 20) (hdh : dh ≤ 4) (v : Int32) : zMet F yX7_count cX7_count 2 (some .long) { frames := 3, cells := 0, slots := 0, locals := 90 } [.ref (Q 0), .int v] h (zP h (some (.long (cnt9 wk ch dh (sumL (stk K) ch) hm pm (sumL (fun d => (E d).2.2.2.1) dh) n (fb_ct (fun m => decide (¬ O m = -1)) 14) v)))) := by
  refine zMet_of (lv := [(0, .ref (Q 0)), (1, .int v)]) (by decide) (by simp [lg_sl, Value.category]) rfl ?_
  intro X g z
  obtain ⟨x0, t1, t2, r3, r4, sp9, gg, ls, lsd, s5, s6, s7, s8, s9, v30, bn, be, kn, ke, hQ⟩ := id W
  obtain ⟨b0, b1, b2, b3, b4, b5, bD, bE, bC⟩ := id bn
  obtain ⟨kn1, kn2, kn3, kn4, kn5, kn6⟩ := id kn
  refine v_blk g [.iload_n 1] (pc' := 1) (lv' := [(0, .ref (Q 0)), (1, .int v)]) (st' := [.int v]) (by decide +kernel) rfl rfl ?_
  rcases ix_9 v with ho | ⟨j, hj, rfl⟩
  · refine v_tabO g (dflt := 128) (lo := 0) (hi := 8) (offs := #[51, 60, 69, 78, 86, 94, 102, 110, 119]) (len := 51) (tgt := 129) (by decide +kernel) ho (by decide) ?_
    refine v_ldc2 g kc_X7_190 (by decide +kernel) ?_
    have nn9 : ∀ t : Nat, t < 9 → ¬ v = nI t := fun t ht e => by rw [e, nI_toInt (by omega)] at ho; omega
    exact v_lret g z rfl (by decide +kernel) ⟨by rw [cnt9, if_neg (show ¬ v = 0 from nn9 0 (by decide)), if_neg (show ¬ v = 1 from nn9 1 (by decide)), if_neg (show ¬ v = 2 from nn9 2 (by decide)), if_neg (show ¬ v = 3 from nn9 3 (by decide)), if_neg (show ¬ v = 4 from nn9 4 (by decide)), if_neg (show ¬ v = 5 from nn9 5 (by decide)), if_neg (show ¬ v = 6 from nn9 6 (by decide)), if_neg (show ¬ v = 7 from nn9 7 (by decide)), if_neg (show ¬ v = 8 from nn9 8 (by decide))], rfl⟩ (zcrn 0 0 rfl rfl (Nat.le_of_ble_eq_true rfl) (Nat.le_of_ble_eq_true rfl))
  · have hj9 : j = 0 ∨ j = 1 ∨ j = 2 ∨ j = 3 ∨ j = 4 ∨ j = 5 ∨ j = 6 ∨ j = 7 ∨ j = 8 := by omega
    rcases hj9 with rfl | rfl | rfl | rfl | rfl | rfl | rfl | rfl | rfl
    · refine v_tabI g 0 (dflt := 128) (lo := 0) (hi := 8) (offs := #[51, 60, 69, 78, 86, 94, 102, 110, 119]) (len := 51) (off := 51) (tgt := 52) (by decide +kernel) (by decide) (by decide) rfl (by decide) ?_
      refine v_blk g [.aload_n 0] (pc' := 53) (lv' := [(0, .ref (Q 0)), (1, .int (nI 0))]) (st' := [.ref (Q 0)]) (by decide +kernel) rfl rfl ?_
      refine v_get g x0.1 fl_X7_35 rfl (by decide +kernel) ?_
      refine v_get g b0.1 fl_X7_200 rfl (by decide +kernel) ?_
      refine v_blk g [.i2l] (pc' := 60) (lv' := [(0, .ref (Q 0)), (1, .int (nI 0))]) (st' := [.long wk.toInt64]) (by decide +kernel) rfl rfl ?_
      exact v_lret g z rfl (by decide +kernel) ⟨rfl, rfl⟩ (zcrn 0 0 rfl rfl (Nat.le_of_ble_eq_true rfl) (Nat.le_of_ble_eq_true rfl))
    · refine v_tabI g 1 (dflt := 128) (lo := 0) (hi := 8) (offs := #[51, 60, 69, 78, 86, 94, 102, 110, 119]) (len := 51) (off := 60) (tgt := 61) (by decide +kernel) (by decide) (by decide) rfl (by decide) ?_
      refine v_blk g [.aload_n 0] (pc' := 62) (lv' := [(0, .ref (Q 0)), (1, .int (nI 1))]) (st' := [.ref (Q 0)]) (by decide +kernel) rfl rfl ?_
      refine v_get g x0.1 fl_X7_35 rfl (by decide +kernel) ?_
      refine v_get g b0.1 fl_X7_86 rfl (by decide +kernel) ?_
      refine v_blk g [.i2l] (pc' := 69) (lv' := [(0, .ref (Q 0)), (1, .int (nI 1))]) (st' := [.long ((nI ch).toInt64)]) (by decide +kernel) rfl rfl ?_
      exact v_lret g z rfl (by decide +kernel) ⟨rfl, rfl⟩ (zcrn 0 0 rfl rfl (Nat.le_of_ble_eq_true rfl) (Nat.le_of_ble_eq_true rfl))
    · refine v_tabI g 2 (dflt := 128) (lo := 0) (hi := 8) (offs := #[51, 60, 69, 78, 86, 94, 102, 110, 119]) (len := 51) (off := 69) (tgt := 70) (by decide +kernel) (by decide) (by decide) rfl (by decide) ?_
      refine v_blk g [.aload_n 0] (pc' := 71) (lv' := [(0, .ref (Q 0)), (1, .int (nI 2))]) (st' := [.ref (Q 0)]) (by decide +kernel) rfl rfl ?_
      refine v_get g x0.1 fl_X7_35 rfl (by decide +kernel) ?_
      refine v_get g b0.1 fl_X7_203 rfl (by decide +kernel) ?_
      refine v_blk g [.i2l] (pc' := 78) (lv' := [(0, .ref (Q 0)), (1, .int (nI 2))]) (st' := [.long ((nI dh).toInt64)]) (by decide +kernel) rfl rfl ?_
      exact v_lret g z rfl (by decide +kernel) ⟨rfl, rfl⟩ (zcrn 0 0 rfl rfl (Nat.le_of_ble_eq_true rfl) (Nat.le_of_ble_eq_true rfl))
    · refine v_tabI g 3 (dflt := 128) (lo := 0) (hi := 8) (offs := #[51, 60, 69, 78, 86, 94, 102, 110, 119]) (len := 51) (off := 78) (tgt := 79) (by decide +kernel) (by decide) (by decide) rfl (by decide) ?_
      refine v_blk g [.aload_n 0] (pc' := 80) (lv' := [(0, .ref (Q 0)), (1, .int (nI 3))]) (st' := [.ref (Q 0)]) (by decide +kernel) rfl rfl ?_
      refine v_get g x0.1 fl_X7_35 rfl (by decide +kernel) ?_
      refine v_callVp g (rest := []) (c_Bk_stakes (cw := cw) b0.1 b2.1 kn1 (fun q hq => (kn2 q hq).1) hch) cl_X7_206 b0.1 rfl rfl (Nat.le_of_ble_eq_true rfl) (by decide +kernel) ⟨Nat.le_of_ble_eq_true rfl, Nat.le_of_ble_eq_true rfl⟩ (zcsn 0 0 rfl rfl (Nat.le_of_ble_eq_true rfl) (Nat.le_of_ble_eq_true rfl)) ?_
      show zV F X h 86 [(0, .ref (Q 0)), (1, .int (nI 3))] [.long (sumL (stk K) ch)]
      exact v_lret g z rfl (by decide +kernel) ⟨rfl, rfl⟩ (zcrn 0 0 rfl rfl (Nat.le_of_ble_eq_true rfl) (Nat.le_of_ble_eq_true rfl))
    · refine v_tabI g 4 (dflt := 128) (lo := 0) (hi := 8) (offs := #[51, 60, 69, 78, 86, 94, 102, 110, 119]) (len := 51) (off := 86) (tgt := 87) (by decide +kernel) (by decide) (by decide) rfl (by decide) ?_
      refine v_blk g [.aload_n 0] (pc' := 88) (lv' := [(0, .ref (Q 0)), (1, .int (nI 4))]) (st' := [.ref (Q 0)]) (by decide +kernel) rfl rfl ?_
      refine v_get g x0.1 fl_X7_35 rfl (by decide +kernel) ?_
      refine v_get g b0.1 fl_X7_210 rfl (by decide +kernel) ?_
      exact v_lret g z rfl (by decide +kernel) ⟨rfl, rfl⟩ (zcrn 0 0 rfl rfl (Nat.le_of_ble_eq_true rfl) (Nat.le_of_ble_eq_true rfl))
    · refine v_tabI g 5 (dflt := 128) (lo := 0) (hi := 8) (offs := #[51, 60, 69, 78, 86, 94, 102, 110, 119]) (len := 51) (off := 94) (tgt := 95) (by decide +kernel) (by decide) (by decide) rfl (by decide) ?_
      refine v_blk g [.aload_n 0] (pc' := 96) (lv' := [(0, .ref (Q 0)), (1, .int (nI 5))]) (st' := [.ref (Q 0)]) (by decide +kernel) rfl rfl ?_
      refine v_get g x0.1 fl_X7_35 rfl (by decide +kernel) ?_
      refine v_get g b0.1 fl_X7_214 rfl (by decide +kernel) ?_
      exact v_lret g z rfl (by decide +kernel) ⟨rfl, rfl⟩ (zcrn 0 0 rfl rfl (Nat.le_of_ble_eq_true rfl) (Nat.le_of_ble_eq_true rfl))
    · refine v_tabI g 6 (dflt := 128) (lo := 0) (hi := 8) (offs := #[51, 60, 69, 78, 86, 94, 102, 110, 119]) (len := 51) (off := 102) (tgt := 103) (by decide +kernel) (by decide) (by decide) rfl (by decide) ?_
      refine v_blk g [.aload_n 0] (pc' := 104) (lv' := [(0, .ref (Q 0)), (1, .int (nI 6))]) (st' := [.ref (Q 0)]) (by decide +kernel) rfl rfl ?_
      refine v_get g x0.1 fl_X7_35 rfl (by decide +kernel) ?_
      refine v_callVp g (rest := []) (c_Bk_carried (da := fun e => Q (10 + 6 + e)) b0.1 b3.1 bD (fun e he => (bE e he).1) hdh) cl_X7_217 b0.1 rfl rfl (Nat.le_of_ble_eq_true rfl) (by decide +kernel) ⟨Nat.le_of_ble_eq_true rfl, Nat.le_of_ble_eq_true rfl⟩ (zcsn 0 0 rfl rfl (Nat.le_of_ble_eq_true rfl) (Nat.le_of_ble_eq_true rfl)) ?_
      show zV F X h 110 [(0, .ref (Q 0)), (1, .int (nI 6))] [.long (sumL (fun d => (E d).2.2.2.1) dh)]
      exact v_lret g z rfl (by decide +kernel) ⟨rfl, rfl⟩ (zcrn 0 0 rfl rfl (Nat.le_of_ble_eq_true rfl) (Nat.le_of_ble_eq_true rfl))
    · refine v_tabI g 7 (dflt := 128) (lo := 0) (hi := 8) (offs := #[51, 60, 69, 78, 86, 94, 102, 110, 119]) (len := 51) (off := 110) (tgt := 111) (by decide +kernel) (by decide) (by decide) rfl (by decide) ?_
      refine v_blk g [.aload_n 0] (pc' := 112) (lv' := [(0, .ref (Q 0)), (1, .int (nI 7))]) (st' := [.ref (Q 0)]) (by decide +kernel) rfl rfl ?_
      refine v_get g x0.1 fl_X7_10 rfl (by decide +kernel) ?_
      refine v_get g t1.1 fl_X7_76 rfl (by decide +kernel) ?_
      refine v_blk g [.i2l] (pc' := 119) (lv' := [(0, .ref (Q 0)), (1, .int (nI 7))]) (st' := [.long ((nI n).toInt64)]) (by decide +kernel) rfl rfl ?_
      exact v_lret g z rfl (by decide +kernel) ⟨rfl, rfl⟩ (zcrn 0 0 rfl rfl (Nat.le_of_ble_eq_true rfl) (Nat.le_of_ble_eq_true rfl))
    · refine v_tabI g 8 (dflt := 128) (lo := 0) (hi := 8) (offs := #[51, 60, 69, 78, 86, 94, 102, 110, 119]) (len := 51) (off := 119) (tgt := 120) (by decide +kernel) (by decide) (by decide) rfl (by decide) ?_
      refine v_blk g [.aload_n 0] (pc' := 121) (lv' := [(0, .ref (Q 0)), (1, .int (nI 8))]) (st' := [.ref (Q 0)]) (by decide +kernel) rfl rfl ?_
      refine v_get g x0.1 fl_X7_35 rfl (by decide +kernel) ?_
      refine v_callVp g (rest := []) (c_Bk_decided b0.1 b1.1) cl_X7_187 b0.1 rfl rfl (Nat.le_of_ble_eq_true rfl) (by decide +kernel) ⟨Nat.le_of_ble_eq_true rfl, Nat.le_of_ble_eq_true rfl⟩ (zcsn 0 0 rfl rfl (Nat.le_of_ble_eq_true rfl) (Nat.le_of_ble_eq_true rfl)) ?_
      show zV F X h 127 [(0, .ref (Q 0)), (1, .int (nI 8))] [.int (nI (fb_ct (fun m => decide (¬ O m = -1)) 14))]
      refine v_blk g [.i2l] (pc' := 128) (lv' := [(0, .ref (Q 0)), (1, .int (nI 8))]) (st' := [.long ((nI (fb_ct (fun m => decide (¬ O m = -1)) 14)).toInt64)]) (by decide +kernel) rfl rfl ?_
      exact v_lret g z rfl (by decide +kernel) ⟨rfl, rfl⟩ (zcrn 0 0 rfl rfl (Nat.le_of_ble_eq_true rfl) (Nat.le_of_ble_eq_true rfl))

def dvq (x : zD) (t : Int32) : Int64 := if t = 0 then x.1.toInt64 else if t = 1 then x.2.1.toInt64 else if t = 2 then x.2.2.1.toInt64 else if t = 3 then x.2.2.2.1 else if t = 4 then x.2.2.2.2.1 else x.2.2.2.2.2

set_option maxRecDepth 100000 in
set_option maxHeartbeats 4000000 in
theorem p_divided {F : zF} {h : zH} {Ω : Nat → Prop} {Q : Nat → Nat} {cu ha un : Int32} {n : Nat} {B : Nat → Int32} {hg at9 fk fp : Int32} {sp : Option Nat} {G : Nat → Option Nat} {T : Nat → zS} {wf lf hf : Nat → Int32} {ff : Nat → Int64} {V : Nat → Int32} {wk : Int32} {hm pm : Int64} {O : Nat → Int32} {C : Nat → Option Nat} {ch : Nat} {D : Nat → Option Nat} {dh : Nat} {E : Nat → zD} {Z : Nat → Int64} {P : Nat → Int32} {ph : Nat} {ca cl cw : Nat → Nat} {K : Nat → Int32 × Int32 × Int32 × Int32} {cf : Nat → Nat → Int64} {wk2 : Int32} {hm2 pm2 : Int64} {O2 : Nat → Int32} {C2 : Nat → Option Nat} {ch2 : Nat} {D2 : Nat → Option Nat} {dh2 : Nat} {E2 : Nat → zD} {Z2 : Nat → Int64} {P2 : Nat → Int32} {ph2 : Nat} {ca2 cl2 cw2 : Nat → Nat} {K2 : Nat → Int32 × Int32 × Int32 × Int32} {cf2 : Nat → Nat → Int64} (W : PC h (Ω) Q cu ha un n B hg at9 fk fp sp G T wf lf hf ff V wk hm pm O C ch D dh E Z P ph ca cl cw K cf wk2 hm2 pm2 O2 C2 ch2 D2 dh2 E2 Z2 P2 ph2 ca2 cl2 cw2 K2 cf2) (hdh : dh ≤ 4) (e y : Int32) : zMet F yX7_divided cX7_divided 4 (some .long) { frames := 2, cells := 0, slots := 0, locals := 60 } [.ref (Q 0), .int e, .int y] h (zP h (some (.long (if ¬ x_C dh e = 0 ∧ ¬ x_isIn y 0 5 = 0 then dvq (E e.toNatClampNeg) y else -1)))) := by
  refine zMet_of (lv := [(0, .ref (Q 0)), (1, .int e), (2, .int y)]) (by decide) (by simp [lg_sl, Value.category]) rfl ?_
  intro X g z
  obtain ⟨x0, t1, t2, r3, r4, sp9, gg, ls, lsd, s5, s6, s7, s8, s9, v30, bn, be, kn, ke, hQ⟩ := id W
  obtain ⟨b0, b1, b2, b3, b4, b5, bD, bE, bC⟩ := id bn
  obtain ⟨kn1, kn2, kn3, kn4, kn5, kn6⟩ := id kn
  refine v_blk g [.aload_n 0] (pc' := 1) (lv' := [(0, .ref (Q 0)), (1, .int e), (2, .int y)]) (st' := [.ref (Q 0)]) (by decide +kernel) rfl rfl ?_
  refine v_get g x0.1 fl_X7_35 rfl (by decide +kernel) ?_
  refine v_blk g [.iload_n 1] (pc' := 5) (lv' := [(0, .ref (Q 0)), (1, .int e), (2, .int y)]) (st' := [.int e, .ref (Q 10)]) (by decide +kernel) rfl rfl ?_
  refine v_callVp g (rest := []) (c_Bk_divAt b0.1 b3.1 hdh e) cl_X7_220 b0.1 rfl rfl (Nat.le_of_ble_eq_true rfl) (by decide +kernel) ⟨Nat.le_of_ble_eq_true rfl, Nat.le_of_ble_eq_true rfl⟩ (zcsn 0 0 rfl rfl (Nat.le_of_ble_eq_true rfl) (Nat.le_of_ble_eq_true rfl)) ?_
  show zV F X h 8 [(0, .ref (Q 0)), (1, .int e), (2, .int y)] [va_rf (x_at D dh e)]
  by_cases c0 : x_C dh e = 0
  · refine v_st (st' := [.null]) (by rw [show x_at D dh e = none from x_at_no c0]; rfl) ?_
    refine v_blk g [.astore_n 3, .aload_n 3] (pc' := 10) (lv' := [(3, .null), (0, .ref (Q 0)), (1, .int e), (2, .int y)]) (st' := [.null]) (by decide +kernel) rfl rfl ?_
    refine v_ifnonnull g (r := none) (off := 7) (tgt := 17) (by decide +kernel) (by decide) (fun _ q => nomatch q) (fun _ => ?_)
    refine v_ldc2 g kc_X7_190 (by decide +kernel) ?_
    exact v_lret g z rfl (by decide +kernel) ⟨by rw [if_neg (fun q => q.1 c0)], rfl⟩ (zcrn 0 0 rfl rfl (Nat.le_of_ble_eq_true rfl) (Nat.le_of_ble_eq_true rfl))
  · obtain ⟨k, hk, rfl⟩ := x_C_k (by omega) c0
    have ek : (nI k).toNatClampNeg = k := nI_clamp (by omega)
    refine v_st (st' := [.ref (Q (10 + 6 + k))]) (by rw [show x_at D dh (nI k) = some (Q (10 + 6 + k)) from (x_at_in hk (by omega)).trans (bD k (by omega))]; rfl) ?_
    refine v_blk g [.astore_n 3, .aload_n 3] (pc' := 10) (lv' := [(3, .ref (Q (10 + 6 + k))), (0, .ref (Q 0)), (1, .int (nI k)), (2, .int y)]) (st' := [.ref (Q (10 + 6 + k))]) (by decide +kernel) rfl rfl ?_
    refine v_ifnonnull g (r := (some (Q (10 + 6 + k)))) (off := 7) (tgt := 17) (by decide +kernel) (by decide) (fun _ _ => ?_) (fun q => nomatch q)
    refine v_blk g [.iload_n 2] (pc' := 18) (lv' := [(3, .ref (Q (10 + 6 + k))), (0, .ref (Q 0)), (1, .int (nI k)), (2, .int y)]) (st' := [.int y]) (by decide +kernel) rfl rfl ?_
    by_cases c1 : x_isIn y 0 5 = 0
    · have ho : y.toInt < 0 ∨ 5 < y.toInt := Classical.byContradiction (fun q => absurd c1 (isIn_p.mpr ⟨by rw [fa_le]; show (0 : Int) ≤ _; omega, by rw [fa_le]; show _ ≤ (5 : Int); omega⟩))
      refine v_tabO g (dflt := 71) (lo := 0) (hi := 5) (offs := #[38, 44, 50, 56, 61, 66]) (len := 38) (tgt := 89) (by decide +kernel) ho (by decide) ?_
      refine v_ldc2 g kc_X7_190 (by decide +kernel) ?_
      exact v_lret g z rfl (by decide +kernel) ⟨by rw [if_neg (fun q => q.2 c1)], rfl⟩ (zcrn 0 0 rfl rfl (Nat.le_of_ble_eq_true rfl) (Nat.le_of_ble_eq_true rfl))
    · obtain ⟨t, ht, rfl⟩ := isIn_k (N := 5) (by decide) c1
      have ht6 : t = 0 ∨ t = 1 ∨ t = 2 ∨ t = 3 ∨ t = 4 ∨ t = 5 := by omega
      rcases ht6 with rfl | rfl | rfl | rfl | rfl | rfl
      · refine v_tabI g 0 (dflt := 71) (lo := 0) (hi := 5) (offs := #[38, 44, 50, 56, 61, 66]) (len := 38) (off := 38) (tgt := 56) (by decide +kernel) (by decide) (by decide) rfl (by decide) ?_
        refine v_blk g [.aload_n 3] (pc' := 57) (lv' := [(3, .ref (Q (10 + 6 + k))), (0, .ref (Q 0)), (1, .int (nI k)), (2, .int (nI 0))]) (st' := [.ref (Q (10 + 6 + k))]) (by decide +kernel) rfl rfl ?_
        refine v_get g (bE k (by omega)).1 fl_X7_224 rfl (by decide +kernel) ?_
        refine v_blk g [.i2l] (pc' := 61) (lv' := [(3, .ref (Q (10 + 6 + k))), (0, .ref (Q 0)), (1, .int (nI k)), (2, .int (nI 0))]) (st' := [.long (((E k).1).toInt64)]) (by decide +kernel) rfl rfl ?_
        exact v_lret g z rfl (by decide +kernel) ⟨by rw [if_pos ⟨c0, c1⟩, ek]; rfl, rfl⟩ (zcrn 0 0 rfl rfl (Nat.le_of_ble_eq_true rfl) (Nat.le_of_ble_eq_true rfl))
      · refine v_tabI g 1 (dflt := 71) (lo := 0) (hi := 5) (offs := #[38, 44, 50, 56, 61, 66]) (len := 38) (off := 44) (tgt := 62) (by decide +kernel) (by decide) (by decide) rfl (by decide) ?_
        refine v_blk g [.aload_n 3] (pc' := 63) (lv' := [(3, .ref (Q (10 + 6 + k))), (0, .ref (Q 0)), (1, .int (nI k)), (2, .int (nI 1))]) (st' := [.ref (Q (10 + 6 + k))]) (by decide +kernel) rfl rfl ?_
        refine v_get g (bE k (by omega)).1 fl_X7_229 rfl (by decide +kernel) ?_
        refine v_blk g [.i2l] (pc' := 67) (lv' := [(3, .ref (Q (10 + 6 + k))), (0, .ref (Q 0)), (1, .int (nI k)), (2, .int (nI 1))]) (st' := [.long (((E k).2.1).toInt64)]) (by decide +kernel) rfl rfl ?_
        exact v_lret g z rfl (by decide +kernel) ⟨by rw [if_pos ⟨c0, c1⟩, ek]; rfl, rfl⟩ (zcrn 0 0 rfl rfl (Nat.le_of_ble_eq_true rfl) (Nat.le_of_ble_eq_true rfl))
      · refine v_tabI g 2 (dflt := 71) (lo := 0) (hi := 5) (offs := #[38, 44, 50, 56, 61, 66]) (len := 38) (off := 50) (tgt := 68) (by decide +kernel) (by decide) (by decide) rfl (by decide) ?_
        refine v_blk g [.aload_n 3] (pc' := 69) (lv' := [(3, .ref (Q (10 + 6 + k))), (0, .ref (Q 0)), (1, .int (nI k)), (2, .int (nI 2))]) (st' := [.ref (Q (10 + 6 + k))]) (by decide +kernel) rfl rfl ?_
        refine v_get g (bE k (by omega)).1 fl_X7_232 rfl (by decide +kernel) ?_
        refine v_blk g [.i2l] (pc' := 73) (lv' := [(3, .ref (Q (10 + 6 + k))), (0, .ref (Q 0)), (1, .int (nI k)), (2, .int (nI 2))]) (st' := [.long (((E k).2.2.1).toInt64)]) (by decide +kernel) rfl rfl ?_
        exact v_lret g z rfl (by decide +kernel) ⟨by rw [if_pos ⟨c0, c1⟩, ek]; rfl, rfl⟩ (zcrn 0 0 rfl rfl (Nat.le_of_ble_eq_true rfl) (Nat.le_of_ble_eq_true rfl))
      · refine v_tabI g 3 (dflt := 71) (lo := 0) (hi := 5) (offs := #[38, 44, 50, 56, 61, 66]) (len := 38) (off := 56) (tgt := 74) (by decide +kernel) (by decide) (by decide) rfl (by decide) ?_
        refine v_blk g [.aload_n 3] (pc' := 75) (lv' := [(3, .ref (Q (10 + 6 + k))), (0, .ref (Q 0)), (1, .int (nI k)), (2, .int (nI 3))]) (st' := [.ref (Q (10 + 6 + k))]) (by decide +kernel) rfl rfl ?_
        refine v_get g (bE k (by omega)).1 fl_X7_235 rfl (by decide +kernel) ?_
        exact v_lret g z rfl (by decide +kernel) ⟨by rw [if_pos ⟨c0, c1⟩, ek]; rfl, rfl⟩ (zcrn 0 0 rfl rfl (Nat.le_of_ble_eq_true rfl) (Nat.le_of_ble_eq_true rfl))
      · refine v_tabI g 4 (dflt := 71) (lo := 0) (hi := 5) (offs := #[38, 44, 50, 56, 61, 66]) (len := 38) (off := 61) (tgt := 79) (by decide +kernel) (by decide) (by decide) rfl (by decide) ?_
        refine v_blk g [.aload_n 3] (pc' := 80) (lv' := [(3, .ref (Q (10 + 6 + k))), (0, .ref (Q 0)), (1, .int (nI k)), (2, .int (nI 4))]) (st' := [.ref (Q (10 + 6 + k))]) (by decide +kernel) rfl rfl ?_
        refine v_get g (bE k (by omega)).1 fl_X7_238 rfl (by decide +kernel) ?_
        exact v_lret g z rfl (by decide +kernel) ⟨by rw [if_pos ⟨c0, c1⟩, ek]; rfl, rfl⟩ (zcrn 0 0 rfl rfl (Nat.le_of_ble_eq_true rfl) (Nat.le_of_ble_eq_true rfl))
      · refine v_tabI g 5 (dflt := 71) (lo := 0) (hi := 5) (offs := #[38, 44, 50, 56, 61, 66]) (len := 38) (off := 66) (tgt := 84) (by decide +kernel) (by decide) (by decide) rfl (by decide) ?_
        refine v_blk g [.aload_n 3] (pc' := 85) (lv' := [(3, .ref (Q (10 + 6 + k))), (0, .ref (Q 0)), (1, .int (nI k)), (2, .int (nI 5))]) (st' := [.ref (Q (10 + 6 + k))]) (by decide +kernel) rfl rfl ?_
        refine v_get g (bE k (by omega)).1 fl_X7_241 rfl (by decide +kernel) ?_
        exact v_lret g z rfl (by decide +kernel) ⟨by rw [if_pos ⟨c0, c1⟩, ek]; rfl, rfl⟩ (zcrn 0 0 rfl rfl (Nat.le_of_ble_eq_true rfl) (Nat.le_of_ble_eq_true rfl))

set_option maxRecDepth 100000 in
set_option maxHeartbeats 4000000 in
theorem p_prize {F : zF} {h : zH} {Ω : Nat → Prop} {Q : Nat → Nat} {cu ha un : Int32} {n : Nat} {B : Nat → Int32} {hg at9 fk fp : Int32} {sp : Option Nat} {G : Nat → Option Nat} {T : Nat → zS} {wf lf hf : Nat → Int32} {ff : Nat → Int64} {V : Nat → Int32} {wk : Int32} {hm pm : Int64} {O : Nat → Int32} {C : Nat → Option Nat} {ch : Nat} {D : Nat → Option Nat} {dh : Nat} {E : Nat → zD} {Z : Nat → Int64} {P : Nat → Int32} {ph : Nat} {ca cl cw : Nat → Nat} {K : Nat → Int32 × Int32 × Int32 × Int32} {cf : Nat → Nat → Int64} {wk2 : Int32} {hm2 pm2 : Int64} {O2 : Nat → Int32} {C2 : Nat → Option Nat} {ch2 : Nat} {D2 : Nat → Option Nat} {dh2 : Nat} {E2 : Nat → zD} {Z2 : Nat → Int64} {P2 : Nat → Int32} {ph2 : Nat} {ca2 cl2 cw2 : Nat → Nat} {K2 : Nat → Int32 × Int32 × Int32 × Int32} {cf2 : Nat → Nat → Int64} (W : PC h (Ω) Q cu ha un n B hg at9 fk fp sp G T wf lf hf ff V wk hm pm O C ch D dh E Z P ph ca cl cw K cf wk2 hm2 pm2 O2 C2 ch2 D2 dh2 E2 Z2 P2 ph2 ca2 cl2 cw2 K2 cf2) (hph : ph ≤ 20) (c y : Int32) : zMet F yX7_prize cX7_prize 3 (some .long) { frames := 2, cells := 0, slots := 0, locals := 60 } [.ref (Q 0), .int c, .int y] h (zP h (some (.long (x_prize Z P ph c y)))) := by
  refine zMet_of (lv := [(0, .ref (Q 0)), (1, .int c), (2, .int y)]) (by decide) (by simp [lg_sl, Value.category]) rfl ?_
  intro X g z
  obtain ⟨x0, t1, t2, r3, r4, sp9, gg, ls, lsd, s5, s6, s7, s8, s9, v30, bn, be, kn, ke, hQ⟩ := id W
  obtain ⟨b0, b1, b2, b3, b4, b5, bD, bE, bC⟩ := id bn
  obtain ⟨kn1, kn2, kn3, kn4, kn5, kn6⟩ := id kn
  refine v_blk g [.aload_n 0] (pc' := 1) (lv' := [(0, .ref (Q 0)), (1, .int c), (2, .int y)]) (st' := [.ref (Q 0)]) (by decide +kernel) rfl rfl ?_
  refine v_get g x0.1 fl_X7_35 rfl (by decide +kernel) ?_
  refine v_blk g [.iload_n 1, .iload_n 2] (pc' := 6) (lv' := [(0, .ref (Q 0)), (1, .int c), (2, .int y)]) (st' := [.int y, .int c, .ref (Q 10)]) (by decide +kernel) rfl rfl ?_
  refine v_callVp g (rest := []) (c_Bk_prize b0.1 b4.1 b5.1 hph c y) cl_X7_244 b0.1 rfl rfl (Nat.le_of_ble_eq_true rfl) (by decide +kernel) ⟨Nat.le_of_ble_eq_true rfl, Nat.le_of_ble_eq_true rfl⟩ (zcsn 0 0 rfl rfl (Nat.le_of_ble_eq_true rfl) (Nat.le_of_ble_eq_true rfl)) ?_
  show zV F X h 9 [(0, .ref (Q 0)), (1, .int c), (2, .int y)] [.long (x_prize Z P ph c y)]
  exact v_lret g z rfl (by decide +kernel) ⟨rfl, rfl⟩ (zcrn 0 0 rfl rfl (Nat.le_of_ble_eq_true rfl) (Nat.le_of_ble_eq_true rfl))
