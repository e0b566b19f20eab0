/-! the class: results, money's questions -/
def frq (Ω : Nat → Prop) (h h2 : zH) : Prop := (∀ x, ¬ Ω x → h2.1 x = h.1 x) ∧ h2.2 = h.2
theorem frq.refl {Ω : Nat → Prop} {h : zH} : frq Ω h h := ⟨fun _ _ => rfl, rfl⟩
theorem frq.s {Ω : Nat → Prop} {h h2 : zH} {A : Nat} {c : zE} (f : frq Ω h h2) (hA : Ω A) : frq Ω h (z_s h2 A c) := ⟨fun x hx => (z_s_ne (fun e => hx (by rw [e]; exact hA))).trans (f.1 x hx), f.2⟩
theorem frq.c {Ω : Nat → Prop} {h h2 : zH} (f : frq Ω h h2) : h2.2.1 = h.2.1 + 0 ∧ h2.2.2 = h.2.2 + 0 := by rw [f.2]; exact ⟨rfl, rfl⟩

set_option maxRecDepth 100000 in
set_option maxHeartbeats 4000000 in
theorem p_most {F : zF} {h : zH} {Ω : Nat → Prop} {Q : Nat → Nat} {cu ha un : Int32} {n : Nat} {B : Nat → Int32} {hg at9 fk fp : Int32} {sp : Option Nat} {G : Nat → Option Nat} {T : Nat → zS} {wf lf hf : Nat → Int32} {ff : Nat → Int64} {V : Nat → Int32} {wk : Int32} {hm pm : Int64} {O : Nat → Int32} {C : Nat → Option Nat} {ch : Nat} {D : Nat → Option Nat} {dh : Nat} {E : Nat → zD} {Z : Nat → Int64} {P : Nat → Int32} {ph : Nat} {ca cl cw : Nat → Nat} {K : Nat → Int32 × Int32 × Int32 × Int32} {cf : Nat → Nat → Int64} {wk2 : Int32} {hm2 pm2 : Int64} {O2 : Nat → Int32} {C2 : Nat → Option Nat} {ch2 : Nat} {D2 : Nat → Option Nat} {dh2 : Nat} {E2 : Nat → zD} {Z2 : Nat → Int64} {P2 : Nat → Int32} {ph2 : Nat} {ca2 cl2 cw2 : Nat → Nat} {K2 : Nat → Int32 × Int32 × Int32 × Int32} {cf2 : Nat → Nat → Int64} (W : PC h (Ω) Q cu ha un n B hg at9 fk fp sp G T wf lf hf ff V wk hm pm O C ch D dh E Z P ph ca cl cw K cf wk2 hm2 pm2 O2 C2 ch2 D2 dh2 E2 Z2 P2 ph2 ca2 cl2 cw2 K2 cf2) {v : Nat → Nat} (hV : nIs V v 4) (hv9 : ∀ k, v k ≤ 9) : zMet F yX7_mostWorth cX7_mostWorth 3 (some .int) { frames := 2, cells := 0, slots := 0, locals := 60 } [.ref (Q 0)] h (zP h (some (.int (nI (mxV v 4))))) := by
  refine zMet_of (lv := [(0, .ref (Q 0))]) (by decide) (by simp [lg_sl, Value.category]) rfl ?_
  intro X g z
  obtain ⟨x0, t1, t2, r3, r4, sp9, gg, ls, lsd, s5, s6, s7, s8, s9, v30, bn, be, kn, ke, hQ⟩ := id W
  obtain ⟨b0, b1, b2, b3, b4, b5, bD, bE, bC⟩ := id bn
  obtain ⟨kn1, kn2, kn3, kn4, kn5, kn6⟩ := id kn
  refine v_blk g [.iconst 0, .istore_n 1, .iconst 0, .istore_n 2] (pc' := 4) (lv' := [(2, .int (0 : Int32)), (1, .int (0 : Int32)), (0, .ref (Q 0))]) (st' := []) (by decide +kernel) rfl rfl ?_
  have key : ∀ i, i ≤ 4 → zV F X h 4 [(2, .int (nI i)), (1, .int (nI (mxV v i))), (0, .ref (Q 0))] [] := by
    refine z_up (P := fun i => zV F X h 4 [(2, .int (nI i)), (1, .int (nI (mxV v i))), (0, .ref (Q 0))] []) 4 ?_ ?_
    · refine v_blk g [.iload_n 2, .iconst 4] (pc' := 6) (lv' := [(2, .int (nI 4)), (1, .int (nI (mxV v 4))), (0, .ref (Q 0))]) (st' := [.int (4 : Int32), .int (nI 4)]) (by decide +kernel) rfl rfl ?_
      refine v_icmp_ge g (off := 20) (tgt := 26) (by decide +kernel) (by decide) (fun _ => ?_) (fun c => absurd c (fun q => q (by decide)))
      refine v_blk g [.iload_n 1] (pc' := 27) (lv' := [(2, .int (nI 4)), (1, .int (nI (mxV v 4))), (0, .ref (Q 0))]) (st' := [.int (nI (mxV v 4))]) (by decide +kernel) rfl rfl ?_
      exact v_iret g z rfl (by decide +kernel) ⟨rfl, rfl⟩ (zcrn 0 0 rfl rfl (Nat.le_of_ble_eq_true rfl) (Nat.le_of_ble_eq_true rfl))
    · intro i hi ih
      have v1 := hv9 i
      have v2 := mxV_le hv9 i
      refine v_blk g [.iload_n 2, .iconst 4] (pc' := 6) (lv' := [(2, .int (nI i)), (1, .int (nI (mxV v i))), (0, .ref (Q 0))]) (st' := [.int (4 : Int32), .int (nI i)]) (by decide +kernel) rfl rfl ?_
      refine v_icmp_ge g (off := 20) (tgt := 26) (by decide +kernel) (by decide) (fun c => absurd c (nI_ge (b := 4) hi (by decide))) (fun _ => ?_)
      refine v_blk g [.iload_n 1, .aload_n 0] (pc' := 11) (lv' := [(2, .int (nI i)), (1, .int (nI (mxV v i))), (0, .ref (Q 0))]) (st' := [.ref (Q 0), .int (nI (mxV v i))]) (by decide +kernel) rfl rfl ?_
      refine v_get g x0.1 fl_X7_42 rfl (by decide +kernel) ?_
      refine v_blk g [.iload_n 2] (pc' := 15) (lv' := [(2, .int (nI i)), (1, .int (nI (mxV v i))), (0, .ref (Q 0))]) (st' := [.int (nI i), .ref (Q 30), .int (nI (mxV v i))]) (by decide +kernel) rfl rfl ?_
      refine v_iald g v30.1 i rfl hi (Nat.le_of_ble_eq_true rfl) (by decide +kernel) ?_
      refine v_ti (z := nI (v i)) (hV i hi) ?_
      refine v_mmax g xl_X7_248 (by decide +kernel) ⟨Nat.le_of_ble_eq_true rfl, Nat.le_of_ble_eq_true rfl⟩ (Nat.le_of_ble_eq_true rfl) (zcrn 0 0 rfl rfl (Nat.le_of_ble_eq_true rfl) (Nat.le_of_ble_eq_true rfl)) ?_
      refine v_ti (z := nI (mxV v (i + 1))) (by rw [mxV]; split; rename_i q; rw [if_pos ((nI_lti (by omega) (by omega)).mp q)]; rename_i q; rw [if_neg (fun e => q ((nI_lti (by omega) (by omega)).mpr e))]) ?_
      refine v_blk g [.istore_n 1, .iinc 2 1] (pc' := 23) (lv' := [(2, .int ((nI i) + (1 : Int32))), (1, .int (nI (mxV v (i + 1)))), (0, .ref (Q 0))]) (st' := []) (by decide +kernel) rfl rfl ?_
      refine v_goto g (off := -19) (tgt := 4) (by decide +kernel) (by decide) ?_
      refine v_lv [0, 1, 2] (lv' := [(2, .int ((nI i) + (1 : Int32))), (1, .int (nI (mxV v (i + 1)))), (0, .ref (Q 0))]) rfl ?_
      exact v_eq (by rw [nI_1]) rfl ih
  exact key 0 (by omega)

set_option maxRecDepth 100000 in
set_option maxHeartbeats 4000000 in
theorem p_least {F : zF} {h : zH} {Ω : Nat → Prop} {Q : Nat → Nat} {cu ha un : Int32} {n : Nat} {B : Nat → Int32} {hg at9 fk fp : Int32} {sp : Option Nat} {G : Nat → Option Nat} {T : Nat → zS} {wf lf hf : Nat → Int32} {ff : Nat → Int64} {V : Nat → Int32} {wk : Int32} {hm pm : Int64} {O : Nat → Int32} {C : Nat → Option Nat} {ch : Nat} {D : Nat → Option Nat} {dh : Nat} {E : Nat → zD} {Z : Nat → Int64} {P : Nat → Int32} {ph : Nat} {ca cl cw : Nat → Nat} {K : Nat → Int32 × Int32 × Int32 × Int32} {cf : Nat → Nat → Int64} {wk2 : Int32} {hm2 pm2 : Int64} {O2 : Nat → Int32} {C2 : Nat → Option Nat} {ch2 : Nat} {D2 : Nat → Option Nat} {dh2 : Nat} {E2 : Nat → zD} {Z2 : Nat → Int64} {P2 : Nat → Int32} {ph2 : Nat} {ca2 cl2 cw2 : Nat → Nat} {K2 : Nat → Int32 × Int32 × Int32 × Int32} {cf2 : Nat → Nat → Int64} (W : PC h (Ω) Q cu ha un n B hg at9 fk fp sp G T wf lf hf ff V wk hm pm O C ch D dh E Z P ph ca cl cw K cf wk2 hm2 pm2 O2 C2 ch2 D2 dh2 E2 Z2 P2 ph2 ca2 cl2 cw2 K2 cf2) {v : Nat → Nat} (hV : nIs V v 4) (hv9 : ∀ k, v k ≤ 9) : zMet F yX7_leastWorth cX7_leastWorth 3 (some .int) { frames := 2, cells := 0, slots := 0, locals := 60 } [.ref (Q 0)] h (zP h (some (.int (nI (mnV v 4))))) := by
  refine zMet_of (lv := [(0, .ref (Q 0))]) (by decide) (by simp [lg_sl, Value.category]) rfl ?_
  intro X g z
  obtain ⟨x0, t1, t2, r3, r4, sp9, gg, ls, lsd, s5, s6, s7, s8, s9, v30, bn, be, kn, ke, hQ⟩ := id W
  obtain ⟨b0, b1, b2, b3, b4, b5, bD, bE, bC⟩ := id bn
  obtain ⟨kn1, kn2, kn3, kn4, kn5, kn6⟩ := id kn
  refine v_blk g [.bipush 9, .istore_n 1, .iconst 0, .istore_n 2] (pc' := 5) (lv' := [(2, .int (0 : Int32)), (1, .int (9 : Int32)), (0, .ref (Q 0))]) (st' := []) (by decide +kernel) rfl rfl ?_
  have key : ∀ i, i ≤ 4 → zV F X h 5 [(2, .int (nI i)), (1, .int (nI (mnV v i))), (0, .ref (Q 0))] [] := by
    refine z_up (P := fun i => zV F X h 5 [(2, .int (nI i)), (1, .int (nI (mnV v i))), (0, .ref (Q 0))] []) 4 ?_ ?_
    · refine v_blk g [.iload_n 2, .iconst 4] (pc' := 7) (lv' := [(2, .int (nI 4)), (1, .int (nI (mnV v 4))), (0, .ref (Q 0))]) (st' := [.int (4 : Int32), .int (nI 4)]) (by decide +kernel) rfl rfl ?_
      refine v_icmp_ge g (off := 20) (tgt := 27) (by decide +kernel) (by decide) (fun _ => ?_) (fun c => absurd c (fun q => q (by decide)))
      refine v_blk g [.iload_n 1] (pc' := 28) (lv' := [(2, .int (nI 4)), (1, .int (nI (mnV v 4))), (0, .ref (Q 0))]) (st' := [.int (nI (mnV v 4))]) (by decide +kernel) rfl rfl ?_
      exact v_iret g z rfl (by decide +kernel) ⟨rfl, rfl⟩ (zcrn 0 0 rfl rfl (Nat.le_of_ble_eq_true rfl) (Nat.le_of_ble_eq_true rfl))
    · intro i hi ih
      have v1 := hv9 i
      have v2 := mnV_le v i
      refine v_blk g [.iload_n 2, .iconst 4] (pc' := 7) (lv' := [(2, .int (nI i)), (1, .int (nI (mnV v i))), (0, .ref (Q 0))]) (st' := [.int (4 : Int32), .int (nI i)]) (by decide +kernel) rfl rfl ?_
      refine v_icmp_ge g (off := 20) (tgt := 27) (by decide +kernel) (by decide) (fun c => absurd c (nI_ge (b := 4) hi (by decide))) (fun _ => ?_)
      refine v_blk g [.iload_n 1, .aload_n 0] (pc' := 12) (lv' := [(2, .int (nI i)), (1, .int (nI (mnV v i))), (0, .ref (Q 0))]) (st' := [.ref (Q 0), .int (nI (mnV v i))]) (by decide +kernel) rfl rfl ?_
      refine v_get g x0.1 fl_X7_42 rfl (by decide +kernel) ?_
      refine v_blk g [.iload_n 2] (pc' := 16) (lv' := [(2, .int (nI i)), (1, .int (nI (mnV v i))), (0, .ref (Q 0))]) (st' := [.int (nI i), .ref (Q 30), .int (nI (mnV v i))]) (by decide +kernel) rfl rfl ?_
      refine v_iald g v30.1 i rfl hi (Nat.le_of_ble_eq_true rfl) (by decide +kernel) ?_
      refine v_ti (z := nI (v i)) (hV i hi) ?_
      refine v_mmin g xl_X7_253 (by decide +kernel) ⟨Nat.le_of_ble_eq_true rfl, Nat.le_of_ble_eq_true rfl⟩ (Nat.le_of_ble_eq_true rfl) (zcrn 0 0 rfl rfl (Nat.le_of_ble_eq_true rfl) (Nat.le_of_ble_eq_true rfl)) ?_
      refine v_ti (z := nI (mnV v (i + 1))) (by rw [mnV]; split; rename_i q; rw [if_pos ((nI_lti (by omega) (by omega)).mp q)]; rename_i q; rw [if_neg (fun e => q ((nI_lti (by omega) (by omega)).mpr e))]) ?_
      refine v_blk g [.istore_n 1, .iinc 2 1] (pc' := 24) (lv' := [(2, .int ((nI i) + (1 : Int32))), (1, .int (nI (mnV v (i + 1)))), (0, .ref (Q 0))]) (st' := []) (by decide +kernel) rfl rfl ?_
      refine v_goto g (off := -19) (tgt := 5) (by decide +kernel) (by decide) ?_
      refine v_lv [0, 1, 2] (lv' := [(2, .int ((nI i) + (1 : Int32))), (1, .int (nI (mnV v (i + 1)))), (0, .ref (Q 0))]) rfl ?_
      exact v_eq (by rw [nI_1]) rfl ih
  exact key 0 (by omega)

set_option maxRecDepth 100000 in
set_option maxHeartbeats 4000000 in
theorem p_weigh {F : zF} {h : zH} {Ω : Nat → Prop} {Q : Nat → Nat} {cu ha un : Int32} {n : Nat} {B : Nat → Int32} {hg at9 fk fp : Int32} {sp : Option Nat} {G : Nat → Option Nat} {T : Nat → zS} {wf lf hf : Nat → Int32} {ff : Nat → Int64} {V : Nat → Int32} {wk : Int32} {hm pm : Int64} {O : Nat → Int32} {C : Nat → Option Nat} {ch : Nat} {D : Nat → Option Nat} {dh : Nat} {E : Nat → zD} {Z : Nat → Int64} {P : Nat → Int32} {ph : Nat} {ca cl cw : Nat → Nat} {K : Nat → Int32 × Int32 × Int32 × Int32} {cf : Nat → Nat → Int64} {wk2 : Int32} {hm2 pm2 : Int64} {O2 : Nat → Int32} {C2 : Nat → Option Nat} {ch2 : Nat} {D2 : Nat → Option Nat} {dh2 : Nat} {E2 : Nat → zD} {Z2 : Nat → Int64} {P2 : Nat → Int32} {ph2 : Nat} {ca2 cl2 cw2 : Nat → Nat} {K2 : Nat → Int32 × Int32 × Int32 × Int32} {cf2 : Nat → Nat → Int64} (W : PC h (Ω) Q cu ha un n B hg at9 fk fp sp G T wf lf hf ff V wk hm pm O C ch D dh E Z P ph ca cl cw K cf wk2 hm2 pm2 O2 C2 ch2 D2 dh2 E2 Z2 P2 ph2 ca2 cl2 cw2 K2 cf2) {v : Nat → Nat} {o : Nat} (hO : okO O) (hV : nIs V v 4) (hv9 : ∀ k, v k ≤ 9) (ho : o ≤ 9) : zMet F yX7_weighWithout cX7_weighWithout 2 none { frames := 4, cells := 0, slots := 0, locals := 120 } [.ref (Q 0), .int (nI o)] h (fun r h2 => r = none ∧ ∃ (w2 l2 f2 : Nat → Int32) (L2 : Nat → Int64), PC h2 (Ω) Q cu ha un n B hg at9 fk fp sp G T w2 l2 f2 L2 V wk hm pm O C ch D dh E Z P ph ca cl cw K cf wk2 hm2 pm2 O2 C2 ch2 D2 dh2 E2 Z2 P2 ph2 ca2 cl2 cw2 K2 cf2 ∧ frq Ω h h2 ∧ nIs l2 (fun q => wS (wO O v o) 0 q 6) 64 ∧ nIs f2 (fun q => wS (wO O v o) 6 q 8) 256 ∧ okLow L2 (wO O v o)) := by
  refine zMet_of (lv := [(0, .ref (Q 0)), (1, .int (nI o))]) (by decide) (by simp [lg_sl, Value.category]) rfl ?_
  intro X g z
  obtain ⟨x0, t1, t2, r3, r4, sp9, gg, ls, lsd, s5, s6, s7, s8, s9, v30, bn, be, kn, ke, hQ⟩ := id W
  obtain ⟨b0, b1, b2, b3, b4, b5, bD, bE, bC⟩ := id bn
  obtain ⟨kn1, kn2, kn3, kn4, kn5, kn6⟩ := id kn
  refine v_blk g [.aload_n 0] (pc' := 1) (lv' := [(0, .ref (Q 0)), (1, .int (nI o))]) (st' := [.ref (Q 0)]) (by decide +kernel) rfl rfl ?_
  refine v_get g x0.1 fl_X7_28 rfl (by decide +kernel) ?_
  refine v_blk g [.aload_n 0] (pc' := 5) (lv' := [(0, .ref (Q 0)), (1, .int (nI o))]) (st' := [.ref (Q 0), .ref (Q 5)]) (by decide +kernel) rfl rfl ?_
  refine v_get g x0.1 fl_X7_35 rfl (by decide +kernel) ?_
  refine v_get g b0.1 fl_X7_61 rfl (by decide +kernel) ?_
  refine v_blk g [.aload_n 0] (pc' := 12) (lv' := [(0, .ref (Q 0)), (1, .int (nI o))]) (st' := [.ref (Q 0), .ref (Q (10 + 1)), .ref (Q 5)]) (by decide +kernel) rfl rfl ?_
  refine v_get g x0.1 fl_X7_42 rfl (by decide +kernel) ?_
  refine v_blk g [.iload_n 1] (pc' := 16) (lv' := [(0, .ref (Q 0)), (1, .int (nI o))]) (st' := [.int (nI o), .ref (Q 30), .ref (Q (10 + 1)), .ref (Q 5)]) (by decide +kernel) rfl rfl ?_
  refine v_callV g (rest := []) (c_Sc_weigh s5.1 s6.1 s7.1 s8.1 s9.1 b1.1 v30.1 (hQ (10 + 1) 6 (by decide) (by decide) (by decide)) (fun q hq => (hO q hq).imp (fun e => by rw [e]; decide) id) hV hv9 ho) cl_X7_256 s5.1 rfl rfl (Nat.le_of_ble_eq_true rfl) (by decide +kernel) ⟨Nat.le_of_ble_eq_true rfl, Nat.le_of_ble_eq_true rfl⟩ (zcsn 0 0 rfl rfl (Nat.le_of_ble_eq_true rfl) (Nat.le_of_ble_eq_true rfl)) (fun v9 h9 q9 => ?_)
  obtain ⟨rfl, w2, l2, f2, L2, rfl, n1, n2, n3, n4⟩ := q9
  show zV F X (z_s (z_s (z_s (z_s h (Q 6) (aI 14 w2)) (Q 7) (aI 64 l2)) (Q 8) (aI 256 f2)) (Q 9) (aJ 55 L2)) 19 [(0, .ref (Q 0)), (1, .int (nI o))] []
  exact v_vret g z rfl (by decide +kernel) ⟨rfl, w2, l2, f2, L2, (((W.u6 w2).u7 l2).u8 f2).u9 L2, (((frq.refl.s s6.2).s s7.2).s s8.2).s s9.2, n2, n3, n4⟩ ⟨Nat.le_refl _, Nat.le_refl _⟩

set_option maxRecDepth 100000 in
set_option maxHeartbeats 4000000 in
theorem p_win {F : zF} {h : zH} {Ω : Nat → Prop} {Q : Nat → Nat} {cu ha un : Int32} {n : Nat} {B : Nat → Int32} {hg at9 fk fp : Int32} {sp : Option Nat} {G : Nat → Option Nat} {T : Nat → zS} {wf lf hf : Nat → Int32} {ff : Nat → Int64} {V : Nat → Int32} {wk : Int32} {hm pm : Int64} {O : Nat → Int32} {C : Nat → Option Nat} {ch : Nat} {D : Nat → Option Nat} {dh : Nat} {E : Nat → zD} {Z : Nat → Int64} {P : Nat → Int32} {ph : Nat} {ca cl cw : Nat → Nat} {K : Nat → Int32 × Int32 × Int32 × Int32} {cf : Nat → Nat → Int64} {wk2 : Int32} {hm2 pm2 : Int64} {O2 : Nat → Int32} {C2 : Nat → Option Nat} {ch2 : Nat} {D2 : Nat → Option Nat} {dh2 : Nat} {E2 : Nat → zD} {Z2 : Nat → Int64} {P2 : Nat → Int32} {ph2 : Nat} {ca2 cl2 cw2 : Nat → Nat} {K2 : Nat → Int32 × Int32 × Int32 × Int32} {cf2 : Nat → Nat → Int64} (W : PC h (Ω) Q cu ha un n B hg at9 fk fp sp G T wf lf hf ff V wk hm pm O C ch D dh E Z P ph ca cl cw K cf wk2 hm2 pm2 O2 C2 ch2 D2 dh2 E2 Z2 P2 ph2 ca2 cl2 cw2 K2 cf2) {v : Nat → Nat} (hO : okO O) (hV : nIs V v 4) (hv9 : ∀ k, v k ≤ 9) (hch : ch ≤ 20) (c p : Int32) : zMet F yX7_win cX7_win 4 (some .int) { frames := 5, cells := 0, slots := 0, locals := 150 } [.ref (Q 0), .int c, .int p] h (fun r h2 => r = some (.int (if x_C ch c = 0 then -1 else if x_isIn p 0 126 = 0 then 0 else nI (s_from (lb (cf c.toNatClampNeg)) (wO O v 0) p) - nI (s_from (lb (cf c.toNatClampNeg)) (wO O v 0) (p + 1)))) ∧ (∃ (w2 l2 f2 : Nat → Int32) (L2 : Nat → Int64), PC h2 (Ω) Q cu ha un n B hg at9 fk fp sp G T w2 l2 f2 L2 V wk hm pm O C ch D dh E Z P ph ca cl cw K cf wk2 hm2 pm2 O2 C2 ch2 D2 dh2 E2 Z2 P2 ph2 ca2 cl2 cw2 K2 cf2) ∧ frq Ω h h2) := by
  refine zMet_of (lv := [(0, .ref (Q 0)), (1, .int c), (2, .int p)]) (by decide) (by simp [lg_sl, Value.category]) rfl ?_
  intro X g z
  obtain ⟨x0, t1, t2, r3, r4, sp9, gg, ls, lsd, s5, s6, s7, s8, s9, v30, bn, be, kn, ke, hQ⟩ := id W
  obtain ⟨b0, b1, b2, b3, b4, b5, bD, bE, bC⟩ := id bn
  obtain ⟨kn1, kn2, kn3, kn4, kn5, kn6⟩ := id kn
  refine v_blk g [.aload_n 0] (pc' := 1) (lv' := [(0, .ref (Q 0)), (1, .int c), (2, .int p)]) (st' := [.ref (Q 0)]) (by decide +kernel) rfl rfl ?_
  refine v_get g x0.1 fl_X7_35 rfl (by decide +kernel) ?_
  refine v_blk g [.iload_n 1] (pc' := 5) (lv' := [(0, .ref (Q 0)), (1, .int c), (2, .int p)]) (st' := [.int c, .ref (Q 10)]) (by decide +kernel) rfl rfl ?_
  refine v_callVp g (rest := []) (c_Bk_couponAt b0.1 b2.1 hch c) cl_X7_108 b0.1 rfl rfl (Nat.le_of_ble_eq_true rfl) (by decide +kernel) ⟨Nat.le_of_ble_eq_true rfl, Nat.le_of_ble_eq_true rfl⟩ (zcsn 0 0 rfl rfl (Nat.le_of_ble_eq_true rfl) (Nat.le_of_ble_eq_true rfl)) ?_
  show zV F X h 8 [(0, .ref (Q 0)), (1, .int c), (2, .int p)] [va_rf (x_at C ch c)]
  by_cases c0 : x_C ch c = 0
  · refine v_st (st' := [.null]) (by rw [show x_at C ch c = none from x_at_no c0]; rfl) ?_
    refine v_blk g [.astore_n 3, .aload_n 3] (pc' := 10) (lv' := [(3, .null), (0, .ref (Q 0)), (1, .int c), (2, .int p)]) (st' := [.null]) (by decide +kernel) rfl rfl ?_
    refine v_ifnonnull g (r := none) (off := 5) (tgt := 15) (by decide +kernel) (by decide) (fun _ q => nomatch q) (fun _ => ?_)
    refine v_blk g [.iconst (-1)] (pc' := 14) (lv' := [(3, .null), (0, .ref (Q 0)), (1, .int c), (2, .int p)]) (st' := [.int (-1 : Int32)]) (by decide +kernel) rfl rfl ?_
    exact v_iret g z rfl (by decide +kernel) ⟨by rw [if_pos c0], ⟨wf, lf, hf, ff, W⟩, frq.refl⟩ (zcrn 0 0 rfl rfl (Nat.le_of_ble_eq_true rfl) (Nat.le_of_ble_eq_true rfl))
  · obtain ⟨k, hk, rfl⟩ := x_C_k (by omega) c0
    have ek : (nI k).toNatClampNeg = k := nI_clamp (by omega)
    refine v_st (st' := [.ref (ca k)]) (by rw [show x_at C ch (nI k) = some (ca k) from (x_at_in hk (by omega)).trans (kn1 k hk)]; rfl) ?_
    refine v_blk g [.astore_n 3, .aload_n 3] (pc' := 10) (lv' := [(3, .ref (ca k)), (0, .ref (Q 0)), (1, .int (nI k)), (2, .int p)]) (st' := [.ref (ca k)]) (by decide +kernel) rfl rfl ?_
    refine v_ifnonnull g (r := (some (ca k))) (off := 5) (tgt := 15) (by decide +kernel) (by decide) (fun _ _ => ?_) (fun q => nomatch q)
    refine v_blk g [.iload_n 2, .iconst 0, .bipush 126] (pc' := 19) (lv' := [(3, .ref (ca k)), (0, .ref (Q 0)), (1, .int (nI k)), (2, .int p)]) (st' := [.int (126 : Int32), .int (0 : Int32), .int p]) (by decide +kernel) rfl rfl ?_
    refine v_callSp g (rest := []) (c_isIn _ _ _) cl_X7_57 rfl (Nat.le_of_ble_eq_true rfl) (by decide +kernel) ⟨Nat.le_of_ble_eq_true rfl, Nat.le_of_ble_eq_true rfl⟩ (zcsn 0 0 rfl rfl (Nat.le_of_ble_eq_true rfl) (Nat.le_of_ble_eq_true rfl)) ?_
    show zV F X h 22 [(3, .ref (ca k)), (0, .ref (Q 0)), (1, .int (nI k)), (2, .int p)] [.int (x_isIn p (0) (126))]
    refine v_if_ne g (off := 5) (tgt := 27) (by decide +kernel) (by decide) (fun c1 => ?_) (fun c1 => ?_)
    · refine v_blk g [.aload_n 0, .iconst 0] (pc' := 29) (lv' := [(3, .ref (ca k)), (0, .ref (Q 0)), (1, .int (nI k)), (2, .int p)]) (st' := [.int (0 : Int32), .ref (Q 0)]) (by decide +kernel) rfl rfl ?_
      refine v_callV g (rest := []) (p_weigh (o := 0) W hO hV hv9 (by decide)) cl_X7_160 x0.1 rfl rfl (Nat.le_of_ble_eq_true rfl) (by decide +kernel) ⟨Nat.le_of_ble_eq_true rfl, Nat.le_of_ble_eq_true rfl⟩ (zcsn 0 0 rfl rfl (Nat.le_of_ble_eq_true rfl) (Nat.le_of_ble_eq_true rfl)) (fun v9 h9 q9 => ?_)
      obtain ⟨rfl, w2, l2, f2, L2, W2, fq, n2, n3, n4⟩ := q9
      show zV F X h9 32 [(3, .ref (ca k)), (0, .ref (Q 0)), (1, .int (nI k)), (2, .int p)] []
      have h9_c := fq.c
      have hW := wO_le (O := O) (o := 0) hv9 (by decide)
      obtain ⟨x0z, t1z, t2z, r3z, r4z, sp9z, ggz, lsz, lsdz, s5z, s6z, s7z, s8z, s9z, v30z, bnz, bez, knz, kez, hQz⟩ := id W2
      obtain ⟨b0z, b1z, b2z, b3z, b4z, b5z, bDz, bEz, bCz⟩ := id bnz
      obtain ⟨kn1z, kn2z, kn3z, kn4z, kn5z, kn6z⟩ := id knz
      refine v_blk g [.aload_n 0] (pc' := 33) (lv' := [(3, .ref (ca k)), (0, .ref (Q 0)), (1, .int (nI k)), (2, .int p)]) (st' := [.ref (Q 0)]) (by decide +kernel) rfl rfl ?_
      refine v_get g x0z.1 fl_X7_28 rfl (by decide +kernel) ?_
      refine v_blk g [.aload_n 3] (pc' := 37) (lv' := [(3, .ref (ca k)), (0, .ref (Q 0)), (1, .int (nI k)), (2, .int p)]) (st' := [.ref (ca k), .ref (Q 5)]) (by decide +kernel) rfl rfl ?_
      refine v_get g (kn2z k hk).1 fl_X7_135 rfl (by decide +kernel) ?_
      refine v_blk g [.iload_n 2] (pc' := 41) (lv' := [(3, .ref (ca k)), (0, .ref (Q 0)), (1, .int (nI k)), (2, .int p)]) (st' := [.int p, .ref (cl k), .ref (Q 5)]) (by decide +kernel) rfl rfl ?_
      refine v_callVp g (rest := []) (c_Sc_sizeFrom s5z.1 s8z.1 s9z.1 (kn3z k hk).1 (kn4z k hk).1 hW n3 n4 _) cl_X7_163 s5z.1 rfl rfl (Nat.le_of_ble_eq_true rfl) (by decide +kernel) ⟨Nat.le_of_ble_eq_true rfl, Nat.le_of_ble_eq_true rfl⟩ (zcsn 0 0 h9_c.1 h9_c.2 (Nat.le_of_ble_eq_true rfl) (Nat.le_of_ble_eq_true rfl)) ?_
      show zV F X h9 44 [(3, .ref (ca k)), (0, .ref (Q 0)), (1, .int (nI k)), (2, .int p)] [.int (nI (s_from (lb (cf k)) (wO O v 0) p))]
      refine v_blk g [.aload_n 0] (pc' := 45) (lv' := [(3, .ref (ca k)), (0, .ref (Q 0)), (1, .int (nI k)), (2, .int p)]) (st' := [.ref (Q 0), .int (nI (s_from (lb (cf k)) (wO O v 0) p))]) (by decide +kernel) rfl rfl ?_
      refine v_get g x0z.1 fl_X7_28 rfl (by decide +kernel) ?_
      refine v_blk g [.aload_n 3] (pc' := 49) (lv' := [(3, .ref (ca k)), (0, .ref (Q 0)), (1, .int (nI k)), (2, .int p)]) (st' := [.ref (ca k), .ref (Q 5), .int (nI (s_from (lb (cf k)) (wO O v 0) p))]) (by decide +kernel) rfl rfl ?_
      refine v_get g (kn2z k hk).1 fl_X7_135 rfl (by decide +kernel) ?_
      refine v_blk g [.iload_n 2, .iconst 1, .iadd] (pc' := 55) (lv' := [(3, .ref (ca k)), (0, .ref (Q 0)), (1, .int (nI k)), (2, .int p)]) (st' := [.int (p + (1 : Int32)), .ref (cl k), .ref (Q 5), .int (nI (s_from (lb (cf k)) (wO O v 0) p))]) (by decide +kernel) rfl rfl ?_
      refine v_callVp g (rest := [.int (nI (s_from (lb (cf k)) (wO O v 0) p))]) (c_Sc_sizeFrom s5z.1 s8z.1 s9z.1 (kn3z k hk).1 (kn4z k hk).1 hW n3 n4 _) cl_X7_163 s5z.1 rfl rfl (Nat.le_of_ble_eq_true rfl) (by decide +kernel) ⟨Nat.le_of_ble_eq_true rfl, Nat.le_of_ble_eq_true rfl⟩ (zcsn 0 0 h9_c.1 h9_c.2 (Nat.le_of_ble_eq_true rfl) (Nat.le_of_ble_eq_true rfl)) ?_
      show zV F X h9 58 [(3, .ref (ca k)), (0, .ref (Q 0)), (1, .int (nI k)), (2, .int p)] [.int (nI (s_from (lb (cf k)) (wO O v 0) (p + 1))), .int (nI (s_from (lb (cf k)) (wO O v 0) p))]
      refine v_blk g [.isub] (pc' := 59) (lv' := [(3, .ref (ca k)), (0, .ref (Q 0)), (1, .int (nI k)), (2, .int p)]) (st' := [.int ((nI (s_from (lb (cf k)) (wO O v 0) p)) - (nI (s_from (lb (cf k)) (wO O v 0) (p + 1))))]) (by decide +kernel) rfl rfl ?_
      exact v_iret g z rfl (by decide +kernel) ⟨by rw [if_neg c0, if_neg c1, ek], ⟨w2, l2, f2, L2, W2⟩, fq⟩ (zcrn 0 0 h9_c.1 h9_c.2 (Nat.le_of_ble_eq_true rfl) (Nat.le_of_ble_eq_true rfl))
    · refine v_blk g [.iconst 0] (pc' := 26) (lv' := [(3, .ref (ca k)), (0, .ref (Q 0)), (1, .int (nI k)), (2, .int p)]) (st' := [.int (0 : Int32)]) (by decide +kernel) rfl rfl ?_
      exact v_iret g z rfl (by decide +kernel) ⟨by rw [if_neg c0, if_pos c1], ⟨wf, lf, hf, ff, W⟩, frq.refl⟩ (zcrn 0 0 rfl rfl (Nat.le_of_ble_eq_true rfl) (Nat.le_of_ble_eq_true rfl))

set_option maxRecDepth 100000 in
set_option maxHeartbeats 4000000 in
theorem p_gp {F : zF} {h : zH} {Ω : Nat → Prop} {Q : Nat → Nat} {cu ha un : Int32} {n : Nat} {B : Nat → Int32} {hg at9 fk fp : Int32} {sp : Option Nat} {G : Nat → Option Nat} {T : Nat → zS} {wf lf hf : Nat → Int32} {ff : Nat → Int64} {V : Nat → Int32} {wk : Int32} {hm pm : Int64} {O : Nat → Int32} {C : Nat → Option Nat} {ch : Nat} {D : Nat → Option Nat} {dh : Nat} {E : Nat → zD} {Z : Nat → Int64} {P : Nat → Int32} {ph : Nat} {ca cl cw : Nat → Nat} {K : Nat → Int32 × Int32 × Int32 × Int32} {cf : Nat → Nat → Int64} {wk2 : Int32} {hm2 pm2 : Int64} {O2 : Nat → Int32} {C2 : Nat → Option Nat} {ch2 : Nat} {D2 : Nat → Option Nat} {dh2 : Nat} {E2 : Nat → zD} {Z2 : Nat → Int64} {P2 : Nat → Int32} {ph2 : Nat} {ca2 cl2 cw2 : Nat → Nat} {K2 : Nat → Int32 × Int32 × Int32 × Int32} {cf2 : Nat → Nat → Int64} (W : PC h (Ω) Q cu ha un n B hg at9 fk fp sp G T wf lf hf ff V wk hm pm O C ch D dh E Z P ph ca cl cw K cf wk2 hm2 pm2 O2 C2 ch2 D2 dh2 E2 Z2 P2 ph2 ca2 cl2 cw2 K2 cf2) {v : Nat → Nat} {o : Nat} (hO : okO O) (hV : nIs V v 4) (hv9 : ∀ k, v k ≤ 9) (ho : o ≤ 9) (hch : ch ≤ 20) (c : Int32) : zMet F yX7_greatestPoints cX7_greatestPoints 4 (some .int) { frames := 5, cells := 0, slots := 0, locals := 150 } [.ref (Q 0), .int c, .int (nI o)] h (fun r h2 => r = some (.int (if x_C ch c = 0 then -1 else Int32.ofInt (grt (lb (cf c.toNatClampNeg)) (wO O v o) 16384))) ∧ (∃ (w2 l2 f2 : Nat → Int32) (L2 : Nat → Int64), PC h2 (Ω) Q cu ha un n B hg at9 fk fp sp G T w2 l2 f2 L2 V wk hm pm O C ch D dh E Z P ph ca cl cw K cf wk2 hm2 pm2 O2 C2 ch2 D2 dh2 E2 Z2 P2 ph2 ca2 cl2 cw2 K2 cf2) ∧ frq Ω h h2) := by
  refine zMet_of (lv := [(0, .ref (Q 0)), (1, .int c), (2, .int (nI o))]) (by decide) (by simp [lg_sl, Value.category]) rfl ?_
  intro X g z
  obtain ⟨x0, t1, t2, r3, r4, sp9, gg, ls, lsd, s5, s6, s7, s8, s9, v30, bn, be, kn, ke, hQ⟩ := id W
  obtain ⟨b0, b1, b2, b3, b4, b5, bD, bE, bC⟩ := id bn
  obtain ⟨kn1, kn2, kn3, kn4, kn5, kn6⟩ := id kn
  refine v_blk g [.aload_n 0] (pc' := 1) (lv' := [(0, .ref (Q 0)), (1, .int c), (2, .int (nI o))]) (st' := [.ref (Q 0)]) (by decide +kernel) rfl rfl ?_
  refine v_get g x0.1 fl_X7_35 rfl (by decide +kernel) ?_
  refine v_blk g [.iload_n 1] (pc' := 5) (lv' := [(0, .ref (Q 0)), (1, .int c), (2, .int (nI o))]) (st' := [.int c, .ref (Q 10)]) (by decide +kernel) rfl rfl ?_
  refine v_callVp g (rest := []) (c_Bk_couponAt b0.1 b2.1 hch c) cl_X7_108 b0.1 rfl rfl (Nat.le_of_ble_eq_true rfl) (by decide +kernel) ⟨Nat.le_of_ble_eq_true rfl, Nat.le_of_ble_eq_true rfl⟩ (zcsn 0 0 rfl rfl (Nat.le_of_ble_eq_true rfl) (Nat.le_of_ble_eq_true rfl)) ?_
  show zV F X h 8 [(0, .ref (Q 0)), (1, .int c), (2, .int (nI o))] [va_rf (x_at C ch c)]
  by_cases c0 : x_C ch c = 0
  · refine v_st (st' := [.null]) (by rw [show x_at C ch c = none from x_at_no c0]; rfl) ?_
    refine v_blk g [.astore_n 3, .aload_n 3] (pc' := 10) (lv' := [(3, .null), (0, .ref (Q 0)), (1, .int c), (2, .int (nI o))]) (st' := [.null]) (by decide +kernel) rfl rfl ?_
    refine v_ifnonnull g (r := none) (off := 5) (tgt := 15) (by decide +kernel) (by decide) (fun _ q => nomatch q) (fun _ => ?_)
    refine v_blk g [.iconst (-1)] (pc' := 14) (lv' := [(3, .null), (0, .ref (Q 0)), (1, .int c), (2, .int (nI o))]) (st' := [.int (-1 : Int32)]) (by decide +kernel) rfl rfl ?_
    exact v_iret g z rfl (by decide +kernel) ⟨by rw [if_pos c0], ⟨wf, lf, hf, ff, W⟩, frq.refl⟩ (zcrn 0 0 rfl rfl (Nat.le_of_ble_eq_true rfl) (Nat.le_of_ble_eq_true rfl))
  · obtain ⟨k, hk, rfl⟩ := x_C_k (by omega) c0
    have ek : (nI k).toNatClampNeg = k := nI_clamp (by omega)
    refine v_st (st' := [.ref (ca k)]) (by rw [show x_at C ch (nI k) = some (ca k) from (x_at_in hk (by omega)).trans (kn1 k hk)]; rfl) ?_
    refine v_blk g [.astore_n 3, .aload_n 3] (pc' := 10) (lv' := [(3, .ref (ca k)), (0, .ref (Q 0)), (1, .int (nI k)), (2, .int (nI o))]) (st' := [.ref (ca k)]) (by decide +kernel) rfl rfl ?_
    refine v_ifnonnull g (r := (some (ca k))) (off := 5) (tgt := 15) (by decide +kernel) (by decide) (fun _ _ => ?_) (fun q => nomatch q)
    refine v_blk g [.aload_n 0, .iload_n 2] (pc' := 17) (lv' := [(3, .ref (ca k)), (0, .ref (Q 0)), (1, .int (nI k)), (2, .int (nI o))]) (st' := [.int (nI o), .ref (Q 0)]) (by decide +kernel) rfl rfl ?_
    refine v_callV g (rest := []) (p_weigh (o := o) W hO hV hv9 ho) cl_X7_160 x0.1 rfl rfl (Nat.le_of_ble_eq_true rfl) (by decide +kernel) ⟨Nat.le_of_ble_eq_true rfl, Nat.le_of_ble_eq_true rfl⟩ (zcsn 0 0 rfl rfl (Nat.le_of_ble_eq_true rfl) (Nat.le_of_ble_eq_true rfl)) (fun v9 h9 q9 => ?_)
    obtain ⟨rfl, w2, l2, f2, L2, W2, fq, n2, n3, n4⟩ := q9
    show zV F X h9 20 [(3, .ref (ca k)), (0, .ref (Q 0)), (1, .int (nI k)), (2, .int (nI o))] []
    have h9_c := fq.c
    have hW := wO_le (O := O) (o := o) hv9 ho
    obtain ⟨x0z, t1z, t2z, r3z, r4z, sp9z, ggz, lsz, lsdz, s5z, s6z, s7z, s8z, s9z, v30z, bnz, bez, knz, kez, hQz⟩ := id W2
    obtain ⟨b0z, b1z, b2z, b3z, b4z, b5z, bDz, bEz, bCz⟩ := id bnz
    obtain ⟨kn1z, kn2z, kn3z, kn4z, kn5z, kn6z⟩ := id knz
    refine v_blk g [.aload_n 0] (pc' := 21) (lv' := [(3, .ref (ca k)), (0, .ref (Q 0)), (1, .int (nI k)), (2, .int (nI o))]) (st' := [.ref (Q 0)]) (by decide +kernel) rfl rfl ?_
    refine v_get g x0z.1 fl_X7_28 rfl (by decide +kernel) ?_
    refine v_blk g [.aload_n 3] (pc' := 25) (lv' := [(3, .ref (ca k)), (0, .ref (Q 0)), (1, .int (nI k)), (2, .int (nI o))]) (st' := [.ref (ca k), .ref (Q 5)]) (by decide +kernel) rfl rfl ?_
    refine v_get g (kn2z k hk).1 fl_X7_135 rfl (by decide +kernel) ?_
    refine v_callV g (rest := []) (c_Sc_greatest s5z.1 s7z.1 s8z.1 s9z.1 (kn3z k hk).1 (kn4z k hk).1 hW n3 n4 n2) cl_X7_260 s5z.1 rfl rfl (Nat.le_of_ble_eq_true rfl) (by decide +kernel) ⟨Nat.le_of_ble_eq_true rfl, Nat.le_of_ble_eq_true rfl⟩ (zcsn 0 0 h9_c.1 h9_c.2 (Nat.le_of_ble_eq_true rfl) (Nat.le_of_ble_eq_true rfl)) (fun v9 h8 q8 => ?_)
    obtain ⟨rfl, M8, rfl, t8⟩ := q8
    have e8 : M8 = grt (lb (cf k)) (wO O v o) 16384 := isTop_one t8 (grt_top _ _ _)
    subst e8
    show zV F X h8 31 [(3, .ref (ca k)), (0, .ref (Q 0)), (1, .int (nI k)), (2, .int (nI o))] [.int (Int32.ofInt (grt (lb (cf k)) (wO O v o) 16384))]
    exact v_iret g z rfl (by decide +kernel) ⟨by rw [if_neg c0, ek], ⟨w2, l2, f2, L2, W2⟩, fq⟩ (zcrn 0 0 h9_c.1 h9_c.2 (Nat.le_of_ble_eq_true rfl) (Nat.le_of_ble_eq_true rfl))

set_option maxRecDepth 100000 in
set_option maxHeartbeats 4000000 in
theorem p_sp {F : zF} {h : zH} {Ω : Nat → Prop} {Q : Nat → Nat} {cu ha un : Int32} {n : Nat} {B : Nat → Int32} {hg at9 fk fp : Int32} {sp : Option Nat} {G : Nat → Option Nat} {T : Nat → zS} {wf lf hf : Nat → Int32} {ff : Nat → Int64} {V : Nat → Int32} {wk : Int32} {hm pm : Int64} {O : Nat → Int32} {C : Nat → Option Nat} {ch : Nat} {D : Nat → Option Nat} {dh : Nat} {E : Nat → zD} {Z : Nat → Int64} {P : Nat → Int32} {ph : Nat} {ca cl cw : Nat → Nat} {K : Nat → Int32 × Int32 × Int32 × Int32} {cf : Nat → Nat → Int64} {wk2 : Int32} {hm2 pm2 : Int64} {O2 : Nat → Int32} {C2 : Nat → Option Nat} {ch2 : Nat} {D2 : Nat → Option Nat} {dh2 : Nat} {E2 : Nat → zD} {Z2 : Nat → Int64} {P2 : Nat → Int32} {ph2 : Nat} {ca2 cl2 cw2 : Nat → Nat} {K2 : Nat → Int32 × Int32 × Int32 × Int32} {cf2 : Nat → Nat → Int64} (W : PC h (Ω) Q cu ha un n B hg at9 fk fp sp G T wf lf hf ff V wk hm pm O C ch D dh E Z P ph ca cl cw K cf wk2 hm2 pm2 O2 C2 ch2 D2 dh2 E2 Z2 P2 ph2 ca2 cl2 cw2 K2 cf2) {v : Nat → Nat} {o : Nat} (hO : okO O) (hV : nIs V v 4) (hv9 : ∀ k, v k ≤ 9) (ho : o ≤ 9) (hch : ch ≤ 20) (c p : Int32) : zMet F yX7_sizeWithPoints cX7_sizeWithPoints 5 (some .int) { frames := 5, cells := 0, slots := 0, locals := 150 } [.ref (Q 0), .int c, .int p, .int (nI o)] h (fun r h2 => r = some (.int (if x_C ch c = 0 then -1 else nI (s_from (lb (cf c.toNatClampNeg)) (wO O v o) p))) ∧ (∃ (w2 l2 f2 : Nat → Int32) (L2 : Nat → Int64), PC h2 (Ω) Q cu ha un n B hg at9 fk fp sp G T w2 l2 f2 L2 V wk hm pm O C ch D dh E Z P ph ca cl cw K cf wk2 hm2 pm2 O2 C2 ch2 D2 dh2 E2 Z2 P2 ph2 ca2 cl2 cw2 K2 cf2) ∧ frq Ω h h2) := by
  refine zMet_of (lv := [(0, .ref (Q 0)), (1, .int c), (2, .int p), (3, .int (nI o))]) (by decide) (by simp [lg_sl, Value.category]) rfl ?_
  intro X g z
  obtain ⟨x0, t1, t2, r3, r4, sp9, gg, ls, lsd, s5, s6, s7, s8, s9, v30, bn, be, kn, ke, hQ⟩ := id W
  obtain ⟨b0, b1, b2, b3, b4, b5, bD, bE, bC⟩ := id bn
  obtain ⟨kn1, kn2, kn3, kn4, kn5, kn6⟩ := id kn
  refine v_blk g [.aload_n 0] (pc' := 1) (lv' := [(0, .ref (Q 0)), (1, .int c), (2, .int p), (3, .int (nI o))]) (st' := [.ref (Q 0)]) (by decide +kernel) rfl rfl ?_
  refine v_get g x0.1 fl_X7_35 rfl (by decide +kernel) ?_
  refine v_blk g [.iload_n 1] (pc' := 5) (lv' := [(0, .ref (Q 0)), (1, .int c), (2, .int p), (3, .int (nI o))]) (st' := [.int c, .ref (Q 10)]) (by decide +kernel) rfl rfl ?_
  refine v_callVp g (rest := []) (c_Bk_couponAt b0.1 b2.1 hch c) cl_X7_108 b0.1 rfl rfl (Nat.le_of_ble_eq_true rfl) (by decide +kernel) ⟨Nat.le_of_ble_eq_true rfl, Nat.le_of_ble_eq_true rfl⟩ (zcsn 0 0 rfl rfl (Nat.le_of_ble_eq_true rfl) (Nat.le_of_ble_eq_true rfl)) ?_
  show zV F X h 8 [(0, .ref (Q 0)), (1, .int c), (2, .int p), (3, .int (nI o))] [va_rf (x_at C ch c)]
  by_cases c0 : x_C ch c = 0
  · refine v_st (st' := [.null]) (by rw [show x_at C ch c = none from x_at_no c0]; rfl) ?_
    refine v_blk g [.astore 4, .aload 4] (pc' := 12) (lv' := [(4, .null), (0, .ref (Q 0)), (1, .int c), (2, .int p), (3, .int (nI o))]) (st' := [.null]) (by decide +kernel) rfl rfl ?_
    refine v_ifnonnull g (r := none) (off := 5) (tgt := 17) (by decide +kernel) (by decide) (fun _ q => nomatch q) (fun _ => ?_)
    refine v_blk g [.iconst (-1)] (pc' := 16) (lv' := [(4, .null), (0, .ref (Q 0)), (1, .int c), (2, .int p), (3, .int (nI o))]) (st' := [.int (-1 : Int32)]) (by decide +kernel) rfl rfl ?_
    exact v_iret g z rfl (by decide +kernel) ⟨by rw [if_pos c0], ⟨wf, lf, hf, ff, W⟩, frq.refl⟩ (zcrn 0 0 rfl rfl (Nat.le_of_ble_eq_true rfl) (Nat.le_of_ble_eq_true rfl))
  · obtain ⟨k, hk, rfl⟩ := x_C_k (by omega) c0
    have ek : (nI k).toNatClampNeg = k := nI_clamp (by omega)
    refine v_st (st' := [.ref (ca k)]) (by rw [show x_at C ch (nI k) = some (ca k) from (x_at_in hk (by omega)).trans (kn1 k hk)]; rfl) ?_
    refine v_blk g [.astore 4, .aload 4] (pc' := 12) (lv' := [(4, .ref (ca k)), (0, .ref (Q 0)), (1, .int (nI k)), (2, .int p), (3, .int (nI o))]) (st' := [.ref (ca k)]) (by decide +kernel) rfl rfl ?_
    refine v_ifnonnull g (r := (some (ca k))) (off := 5) (tgt := 17) (by decide +kernel) (by decide) (fun _ _ => ?_) (fun q => nomatch q)
    refine v_blk g [.aload_n 0, .iload_n 3] (pc' := 19) (lv' := [(4, .ref (ca k)), (0, .ref (Q 0)), (1, .int (nI k)), (2, .int p), (3, .int (nI o))]) (st' := [.int (nI o), .ref (Q 0)]) (by decide +kernel) rfl rfl ?_
    refine v_callV g (rest := []) (p_weigh (o := o) W hO hV hv9 ho) cl_X7_160 x0.1 rfl rfl (Nat.le_of_ble_eq_true rfl) (by decide +kernel) ⟨Nat.le_of_ble_eq_true rfl, Nat.le_of_ble_eq_true rfl⟩ (zcsn 0 0 rfl rfl (Nat.le_of_ble_eq_true rfl) (Nat.le_of_ble_eq_true rfl)) (fun v9 h9 q9 => ?_)
    obtain ⟨rfl, w2, l2, f2, L2, W2, fq, n2, n3, n4⟩ := q9
    show zV F X h9 22 [(4, .ref (ca k)), (0, .ref (Q 0)), (1, .int (nI k)), (2, .int p), (3, .int (nI o))] []
    have h9_c := fq.c
    have hW := wO_le (O := O) (o := o) hv9 ho
    obtain ⟨x0z, t1z, t2z, r3z, r4z, sp9z, ggz, lsz, lsdz, s5z, s6z, s7z, s8z, s9z, v30z, bnz, bez, knz, kez, hQz⟩ := id W2
    obtain ⟨b0z, b1z, b2z, b3z, b4z, b5z, bDz, bEz, bCz⟩ := id bnz
    obtain ⟨kn1z, kn2z, kn3z, kn4z, kn5z, kn6z⟩ := id knz
    refine v_blk g [.aload_n 0] (pc' := 23) (lv' := [(4, .ref (ca k)), (0, .ref (Q 0)), (1, .int (nI k)), (2, .int p), (3, .int (nI o))]) (st' := [.ref (Q 0)]) (by decide +kernel) rfl rfl ?_
    refine v_get g x0z.1 fl_X7_28 rfl (by decide +kernel) ?_
    refine v_blk g [.aload 4] (pc' := 28) (lv' := [(4, .ref (ca k)), (0, .ref (Q 0)), (1, .int (nI k)), (2, .int p), (3, .int (nI o))]) (st' := [.ref (ca k), .ref (Q 5)]) (by decide +kernel) rfl rfl ?_
    refine v_get g (kn2z k hk).1 fl_X7_135 rfl (by decide +kernel) ?_
    refine v_blk g [.iload_n 2] (pc' := 32) (lv' := [(4, .ref (ca k)), (0, .ref (Q 0)), (1, .int (nI k)), (2, .int p), (3, .int (nI o))]) (st' := [.int p, .ref (cl k), .ref (Q 5)]) (by decide +kernel) rfl rfl ?_
    refine v_callVp g (rest := []) (c_Sc_sizeFrom s5z.1 s8z.1 s9z.1 (kn3z k hk).1 (kn4z k hk).1 hW n3 n4 _) cl_X7_163 s5z.1 rfl rfl (Nat.le_of_ble_eq_true rfl) (by decide +kernel) ⟨Nat.le_of_ble_eq_true rfl, Nat.le_of_ble_eq_true rfl⟩ (zcsn 0 0 h9_c.1 h9_c.2 (Nat.le_of_ble_eq_true rfl) (Nat.le_of_ble_eq_true rfl)) ?_
    show zV F X h9 35 [(4, .ref (ca k)), (0, .ref (Q 0)), (1, .int (nI k)), (2, .int p), (3, .int (nI o))] [.int (nI (s_from (lb (cf k)) (wO O v o) p))]
    exact v_iret g z rfl (by decide +kernel) ⟨by rw [if_neg c0, ek], ⟨w2, l2, f2, L2, W2⟩, fq⟩ (zcrn 0 0 h9_c.1 h9_c.2 (Nat.le_of_ble_eq_true rfl) (Nat.le_of_ble_eq_true rfl))

set_option maxRecDepth 100000 in
set_option maxHeartbeats 4000000 in
theorem p_best {F : zF} {h : zH} {Ω : Nat → Prop} {Q : Nat → Nat} {cu ha un : Int32} {n : Nat} {B : Nat → Int32} {hg at9 fk fp : Int32} {sp : Option Nat} {G : Nat → Option Nat} {T : Nat → zS} {wf lf hf : Nat → Int32} {ff : Nat → Int64} {V : Nat → Int32} {wk : Int32} {hm pm : Int64} {O : Nat → Int32} {C : Nat → Option Nat} {ch : Nat} {D : Nat → Option Nat} {dh : Nat} {E : Nat → zD} {Z : Nat → Int64} {P : Nat → Int32} {ph : Nat} {ca cl cw : Nat → Nat} {K : Nat → Int32 × Int32 × Int32 × Int32} {cf : Nat → Nat → Int64} {wk2 : Int32} {hm2 pm2 : Int64} {O2 : Nat → Int32} {C2 : Nat → Option Nat} {ch2 : Nat} {D2 : Nat → Option Nat} {dh2 : Nat} {E2 : Nat → zD} {Z2 : Nat → Int64} {P2 : Nat → Int32} {ph2 : Nat} {ca2 cl2 cw2 : Nat → Nat} {K2 : Nat → Int32 × Int32 × Int32 × Int32} {cf2 : Nat → Nat → Int64} (W : PC h (Ω) Q cu ha un n B hg at9 fk fp sp G T wf lf hf ff V wk hm pm O C ch D dh E Z P ph ca cl cw K cf wk2 hm2 pm2 O2 C2 ch2 D2 dh2 E2 Z2 P2 ph2 ca2 cl2 cw2 K2 cf2) {v : Nat → Nat} (hO : okO O) (hV : nIs V v 4) (hv9 : ∀ k, v k ≤ 9) (hch : ch ≤ 20) (c : Int32) : zMet F yX7_best cX7_best 2 (some .int) { frames := 6, cells := 0, slots := 0, locals := 180 } [.ref (Q 0), .int c] h (fun r h2 => r = some (.int (if x_C ch c = 0 then -1 else Int32.ofInt (grt (lb (cf c.toNatClampNeg)) (wO O v 0) 16384))) ∧ (∃ (w2 l2 f2 : Nat → Int32) (L2 : Nat → Int64), PC h2 (Ω) Q cu ha un n B hg at9 fk fp sp G T w2 l2 f2 L2 V wk hm pm O C ch D dh E Z P ph ca cl cw K cf wk2 hm2 pm2 O2 C2 ch2 D2 dh2 E2 Z2 P2 ph2 ca2 cl2 cw2 K2 cf2) ∧ frq Ω h h2) := by
  refine zMet_of (lv := [(0, .ref (Q 0)), (1, .int c)]) (by decide) (by simp [lg_sl, Value.category]) rfl ?_
  intro X g z
  obtain ⟨x0, t1, t2, r3, r4, sp9, gg, ls, lsd, s5, s6, s7, s8, s9, v30, bn, be, kn, ke, hQ⟩ := id W
  obtain ⟨b0, b1, b2, b3, b4, b5, bD, bE, bC⟩ := id bn
  obtain ⟨kn1, kn2, kn3, kn4, kn5, kn6⟩ := id kn
  refine v_blk g [.aload_n 0, .iload_n 1, .iconst 0] (pc' := 3) (lv' := [(0, .ref (Q 0)), (1, .int c)]) (st' := [.int (0 : Int32), .int c, .ref (Q 0)]) (by decide +kernel) rfl rfl ?_
  refine v_callV g (rest := []) (p_gp (o := 0) W hO hV hv9 (by decide) hch _) cl_X7_167 x0.1 rfl rfl (Nat.le_of_ble_eq_true rfl) (by decide +kernel) ⟨Nat.le_of_ble_eq_true rfl, Nat.le_of_ble_eq_true rfl⟩ (zcsn 0 0 rfl rfl (Nat.le_of_ble_eq_true rfl) (Nat.le_of_ble_eq_true rfl)) (fun v9 h9 q9 => ?_)
  obtain ⟨rfl, e9, f9⟩ := q9
  show zV F X h9 6 [(0, .ref (Q 0)), (1, .int c)] [.int (if x_C ch c = 0 then -1 else Int32.ofInt (grt (lb (cf c.toNatClampNeg)) (wO O v 0) 16384))]
  have h9_c := f9.c
  exact v_iret g z rfl (by decide +kernel) ⟨rfl, e9, f9⟩ (zcrn 0 0 h9_c.1 h9_c.2 (Nat.le_of_ble_eq_true rfl) (Nat.le_of_ble_eq_true rfl))

set_option maxRecDepth 100000 in
set_option maxHeartbeats 4000000 in
theorem p_still {F : zF} {h : zH} {Ω : Nat → Prop} {Q : Nat → Nat} {cu ha un : Int32} {n : Nat} {B : Nat → Int32} {hg at9 fk fp : Int32} {sp : Option Nat} {G : Nat → Option Nat} {T : Nat → zS} {wf lf hf : Nat → Int32} {ff : Nat → Int64} {V : Nat → Int32} {wk : Int32} {hm pm : Int64} {O : Nat → Int32} {C : Nat → Option Nat} {ch : Nat} {D : Nat → Option Nat} {dh : Nat} {E : Nat → zD} {Z : Nat → Int64} {P : Nat → Int32} {ph : Nat} {ca cl cw : Nat → Nat} {K : Nat → Int32 × Int32 × Int32 × Int32} {cf : Nat → Nat → Int64} {wk2 : Int32} {hm2 pm2 : Int64} {O2 : Nat → Int32} {C2 : Nat → Option Nat} {ch2 : Nat} {D2 : Nat → Option Nat} {dh2 : Nat} {E2 : Nat → zD} {Z2 : Nat → Int64} {P2 : Nat → Int32} {ph2 : Nat} {ca2 cl2 cw2 : Nat → Nat} {K2 : Nat → Int32 × Int32 × Int32 × Int32} {cf2 : Nat → Nat → Int64} (W : PC h (Ω) Q cu ha un n B hg at9 fk fp sp G T wf lf hf ff V wk hm pm O C ch D dh E Z P ph ca cl cw K cf wk2 hm2 pm2 O2 C2 ch2 D2 dh2 E2 Z2 P2 ph2 ca2 cl2 cw2 K2 cf2) {v : Nat → Nat} (hO : okO O) (hV : nIs V v 4) (hv9 : ∀ k, v k ≤ 9) (hch : ch ≤ 20) (c : Int32) : zMet F yX7_still cX7_still 2 (some .int) { frames := 6, cells := 0, slots := 0, locals := 180 } [.ref (Q 0), .int c] h (fun r h2 => r = some (.int (if x_C ch c = 0 then -1 else Int32.ofInt (grt (lb (cf c.toNatClampNeg)) (wO O v (mxV v 4)) 16384))) ∧ (∃ (w2 l2 f2 : Nat → Int32) (L2 : Nat → Int64), PC h2 (Ω) Q cu ha un n B hg at9 fk fp sp G T w2 l2 f2 L2 V wk hm pm O C ch D dh E Z P ph ca cl cw K cf wk2 hm2 pm2 O2 C2 ch2 D2 dh2 E2 Z2 P2 ph2 ca2 cl2 cw2 K2 cf2) ∧ frq Ω h h2) := by
  refine zMet_of (lv := [(0, .ref (Q 0)), (1, .int c)]) (by decide) (by simp [lg_sl, Value.category]) rfl ?_
  intro X g z
  obtain ⟨x0, t1, t2, r3, r4, sp9, gg, ls, lsd, s5, s6, s7, s8, s9, v30, bn, be, kn, ke, hQ⟩ := id W
  obtain ⟨b0, b1, b2, b3, b4, b5, bD, bE, bC⟩ := id bn
  obtain ⟨kn1, kn2, kn3, kn4, kn5, kn6⟩ := id kn
  refine v_blk g [.aload_n 0, .iload_n 1, .aload_n 0] (pc' := 3) (lv' := [(0, .ref (Q 0)), (1, .int c)]) (st' := [.ref (Q 0), .int c, .ref (Q 0)]) (by decide +kernel) rfl rfl ?_
  refine v_callVp g (rest := [.int c, .ref (Q 0)]) (p_most W hV hv9) cl_X7_170 x0.1 rfl rfl (Nat.le_of_ble_eq_true rfl) (by decide +kernel) ⟨Nat.le_of_ble_eq_true rfl, Nat.le_of_ble_eq_true rfl⟩ (zcsn 0 0 rfl rfl (Nat.le_of_ble_eq_true rfl) (Nat.le_of_ble_eq_true rfl)) ?_
  show zV F X h 6 [(0, .ref (Q 0)), (1, .int c)] [.int (nI (mxV v 4)), .int c, .ref (Q 0)]
  refine v_callV g (rest := []) (p_gp (o := mxV v 4) W hO hV hv9 (mxV_le hv9 4) hch _) cl_X7_167 x0.1 rfl rfl (Nat.le_of_ble_eq_true rfl) (by decide +kernel) ⟨Nat.le_of_ble_eq_true rfl, Nat.le_of_ble_eq_true rfl⟩ (zcsn 0 0 rfl rfl (Nat.le_of_ble_eq_true rfl) (Nat.le_of_ble_eq_true rfl)) (fun v9 h9 q9 => ?_)
  obtain ⟨rfl, e9, f9⟩ := q9
  show zV F X h9 9 [(0, .ref (Q 0)), (1, .int c)] [.int (if x_C ch c = 0 then -1 else Int32.ofInt (grt (lb (cf c.toNatClampNeg)) (wO O v (mxV v 4)) 16384))]
  have h9_c := f9.c
  exact v_iret g z rfl (by decide +kernel) ⟨rfl, e9, f9⟩ (zcrn 0 0 h9_c.1 h9_c.2 (Nat.le_of_ble_eq_true rfl) (Nat.le_of_ble_eq_true rfl))

set_option maxRecDepth 100000 in
set_option maxHeartbeats 4000000 in
theorem p_could {F : zF} {h : zH} {Ω : Nat → Prop} {Q : Nat → Nat} {cu ha un : Int32} {n : Nat} {B : Nat → Int32} {hg at9 fk fp : Int32} {sp : Option Nat} {G : Nat → Option Nat} {T : Nat → zS} {wf lf hf : Nat → Int32} {ff : Nat → Int64} {V : Nat → Int32} {wk : Int32} {hm pm : Int64} {O : Nat → Int32} {C : Nat → Option Nat} {ch : Nat} {D : Nat → Option Nat} {dh : Nat} {E : Nat → zD} {Z : Nat → Int64} {P : Nat → Int32} {ph : Nat} {ca cl cw : Nat → Nat} {K : Nat → Int32 × Int32 × Int32 × Int32} {cf : Nat → Nat → Int64} {wk2 : Int32} {hm2 pm2 : Int64} {O2 : Nat → Int32} {C2 : Nat → Option Nat} {ch2 : Nat} {D2 : Nat → Option Nat} {dh2 : Nat} {E2 : Nat → zD} {Z2 : Nat → Int64} {P2 : Nat → Int32} {ph2 : Nat} {ca2 cl2 cw2 : Nat → Nat} {K2 : Nat → Int32 × Int32 × Int32 × Int32} {cf2 : Nat → Nat → Int64} (W : PC h (Ω) Q cu ha un n B hg at9 fk fp sp G T wf lf hf ff V wk hm pm O C ch D dh E Z P ph ca cl cw K cf wk2 hm2 pm2 O2 C2 ch2 D2 dh2 E2 Z2 P2 ph2 ca2 cl2 cw2 K2 cf2) {v : Nat → Nat} (hO : okO O) (hV : nIs V v 4) (hv9 : ∀ k, v k ≤ 9) (hch : ch ≤ 20) (c p : Int32) : zMet F yX7_could cX7_could 3 (some .int) { frames := 6, cells := 0, slots := 0, locals := 180 } [.ref (Q 0), .int c, .int p] h (fun r h2 => r = some (.int (if x_C ch c = 0 then -1 else nI (s_from (lb (cf c.toNatClampNeg)) (wO O v (mxV v 4)) p))) ∧ (∃ (w2 l2 f2 : Nat → Int32) (L2 : Nat → Int64), PC h2 (Ω) Q cu ha un n B hg at9 fk fp sp G T w2 l2 f2 L2 V wk hm pm O C ch D dh E Z P ph ca cl cw K cf wk2 hm2 pm2 O2 C2 ch2 D2 dh2 E2 Z2 P2 ph2 ca2 cl2 cw2 K2 cf2) ∧ frq Ω h h2) := by
  refine zMet_of (lv := [(0, .ref (Q 0)), (1, .int c), (2, .int p)]) (by decide) (by simp [lg_sl, Value.category]) rfl ?_
  intro X g z
  obtain ⟨x0, t1, t2, r3, r4, sp9, gg, ls, lsd, s5, s6, s7, s8, s9, v30, bn, be, kn, ke, hQ⟩ := id W
  obtain ⟨b0, b1, b2, b3, b4, b5, bD, bE, bC⟩ := id bn
  obtain ⟨kn1, kn2, kn3, kn4, kn5, kn6⟩ := id kn
  refine v_blk g [.aload_n 0, .iload_n 1, .iload_n 2, .aload_n 0] (pc' := 4) (lv' := [(0, .ref (Q 0)), (1, .int c), (2, .int p)]) (st' := [.ref (Q 0), .int p, .int c, .ref (Q 0)]) (by decide +kernel) rfl rfl ?_
  refine v_callVp g (rest := [.int p, .int c, .ref (Q 0)]) (p_most W hV hv9) cl_X7_170 x0.1 rfl rfl (Nat.le_of_ble_eq_true rfl) (by decide +kernel) ⟨Nat.le_of_ble_eq_true rfl, Nat.le_of_ble_eq_true rfl⟩ (zcsn 0 0 rfl rfl (Nat.le_of_ble_eq_true rfl) (Nat.le_of_ble_eq_true rfl)) ?_
  show zV F X h 7 [(0, .ref (Q 0)), (1, .int c), (2, .int p)] [.int (nI (mxV v 4)), .int p, .int c, .ref (Q 0)]
  refine v_callV g (rest := []) (p_sp (o := mxV v 4) W hO hV hv9 (mxV_le hv9 4) hch _ _) cl_X7_173 x0.1 rfl rfl (Nat.le_of_ble_eq_true rfl) (by decide +kernel) ⟨Nat.le_of_ble_eq_true rfl, Nat.le_of_ble_eq_true rfl⟩ (zcsn 0 0 rfl rfl (Nat.le_of_ble_eq_true rfl) (Nat.le_of_ble_eq_true rfl)) (fun v9 h9 q9 => ?_)
  obtain ⟨rfl, e9, f9⟩ := q9
  show zV F X h9 10 [(0, .ref (Q 0)), (1, .int c), (2, .int p)] [.int (if x_C ch c = 0 then -1 else nI (s_from (lb (cf c.toNatClampNeg)) (wO O v (mxV v 4)) p))]
  have h9_c := f9.c
  exact v_iret g z rfl (by decide +kernel) ⟨rfl, e9, f9⟩ (zcrn 0 0 h9_c.1 h9_c.2 (Nat.le_of_ble_eq_true rfl) (Nat.le_of_ble_eq_true rfl))

set_option maxRecDepth 100000 in
set_option maxHeartbeats 4000000 in
theorem p_sure {F : zF} {h : zH} {Ω : Nat → Prop} {Q : Nat → Nat} {cu ha un : Int32} {n : Nat} {B : Nat → Int32} {hg at9 fk fp : Int32} {sp : Option Nat} {G : Nat → Option Nat} {T : Nat → zS} {wf lf hf : Nat → Int32} {ff : Nat → Int64} {V : Nat → Int32} {wk : Int32} {hm pm : Int64} {O : Nat → Int32} {C : Nat → Option Nat} {ch : Nat} {D : Nat → Option Nat} {dh : Nat} {E : Nat → zD} {Z : Nat → Int64} {P : Nat → Int32} {ph : Nat} {ca cl cw : Nat → Nat} {K : Nat → Int32 × Int32 × Int32 × Int32} {cf : Nat → Nat → Int64} {wk2 : Int32} {hm2 pm2 : Int64} {O2 : Nat → Int32} {C2 : Nat → Option Nat} {ch2 : Nat} {D2 : Nat → Option Nat} {dh2 : Nat} {E2 : Nat → zD} {Z2 : Nat → Int64} {P2 : Nat → Int32} {ph2 : Nat} {ca2 cl2 cw2 : Nat → Nat} {K2 : Nat → Int32 × Int32 × Int32 × Int32} {cf2 : Nat → Nat → Int64} (W : PC h (Ω) Q cu ha un n B hg at9 fk fp sp G T wf lf hf ff V wk hm pm O C ch D dh E Z P ph ca cl cw K cf wk2 hm2 pm2 O2 C2 ch2 D2 dh2 E2 Z2 P2 ph2 ca2 cl2 cw2 K2 cf2) {v : Nat → Nat} (hO : okO O) (hV : nIs V v 4) (hv9 : ∀ k, v k ≤ 9) (hch : ch ≤ 20) (c p : Int32) : zMet F yX7_sure cX7_sure 3 (some .int) { frames := 6, cells := 0, slots := 0, locals := 180 } [.ref (Q 0), .int c, .int p] h (fun r h2 => r = some (.int (if x_C ch c = 0 then -1 else nI (s_from (lb (cf c.toNatClampNeg)) (wO O v (mnV v 4)) p))) ∧ (∃ (w2 l2 f2 : Nat → Int32) (L2 : Nat → Int64), PC h2 (Ω) Q cu ha un n B hg at9 fk fp sp G T w2 l2 f2 L2 V wk hm pm O C ch D dh E Z P ph ca cl cw K cf wk2 hm2 pm2 O2 C2 ch2 D2 dh2 E2 Z2 P2 ph2 ca2 cl2 cw2 K2 cf2) ∧ frq Ω h h2) := by
  refine zMet_of (lv := [(0, .ref (Q 0)), (1, .int c), (2, .int p)]) (by decide) (by simp [lg_sl, Value.category]) rfl ?_
  intro X g z
  obtain ⟨x0, t1, t2, r3, r4, sp9, gg, ls, lsd, s5, s6, s7, s8, s9, v30, bn, be, kn, ke, hQ⟩ := id W
  obtain ⟨b0, b1, b2, b3, b4, b5, bD, bE, bC⟩ := id bn
  obtain ⟨kn1, kn2, kn3, kn4, kn5, kn6⟩ := id kn
  refine v_blk g [.aload_n 0, .iload_n 1, .iload_n 2, .aload_n 0] (pc' := 4) (lv' := [(0, .ref (Q 0)), (1, .int c), (2, .int p)]) (st' := [.ref (Q 0), .int p, .int c, .ref (Q 0)]) (by decide +kernel) rfl rfl ?_
  refine v_callVp g (rest := [.int p, .int c, .ref (Q 0)]) (p_least W hV hv9) cl_X7_177 x0.1 rfl rfl (Nat.le_of_ble_eq_true rfl) (by decide +kernel) ⟨Nat.le_of_ble_eq_true rfl, Nat.le_of_ble_eq_true rfl⟩ (zcsn 0 0 rfl rfl (Nat.le_of_ble_eq_true rfl) (Nat.le_of_ble_eq_true rfl)) ?_
  show zV F X h 7 [(0, .ref (Q 0)), (1, .int c), (2, .int p)] [.int (nI (mnV v 4)), .int p, .int c, .ref (Q 0)]
  refine v_callV g (rest := []) (p_sp (o := mnV v 4) W hO hV hv9 (mnV_le v 4) hch _ _) cl_X7_173 x0.1 rfl rfl (Nat.le_of_ble_eq_true rfl) (by decide +kernel) ⟨Nat.le_of_ble_eq_true rfl, Nat.le_of_ble_eq_true rfl⟩ (zcsn 0 0 rfl rfl (Nat.le_of_ble_eq_true rfl) (Nat.le_of_ble_eq_true rfl)) (fun v9 h9 q9 => ?_)
  obtain ⟨rfl, e9, f9⟩ := q9
  show zV F X h9 10 [(0, .ref (Q 0)), (1, .int c), (2, .int p)] [.int (if x_C ch c = 0 then -1 else nI (s_from (lb (cf c.toNatClampNeg)) (wO O v (mnV v 4)) p))]
  have h9_c := f9.c
  exact v_iret g z rfl (by decide +kernel) ⟨rfl, e9, f9⟩ (zcrn 0 0 h9_c.1 h9_c.2 (Nat.le_of_ble_eq_true rfl) (Nat.le_of_ble_eq_true rfl))
