set_option maxRecDepth 100000 in
set_option maxHeartbeats 4000000 in
theorem p_undo {F : zF} {h : zH} {Ω : Nat → Prop} {Q : Nat → Nat} {cu ha un : Int32} {n : Nat} {B : Nat → Int32} {hg at9 fk fp : Int32} {sp : Option Nat} {G : Nat → Option Nat} {T : Nat → zS} {wf lf hf : Nat → Int32} {ff : Nat → Int64} {V : Nat → Int32} {wk : Int32} {hm pm : Int64} {O : Nat → Int32} {C : Nat → Option Nat} {ch : Nat} {D : Nat → Option Nat} {dh : Nat} {E : Nat → zD} {Z : Nat → Int64} {P : Nat → Int32} {ph : Nat} {ca cl cw : Nat → Nat} {K : Nat → Int32 × Int32 × Int32 × Int32} {cf : Nat → Nat → Int64} {wk2 : Int32} {hm2 pm2 : Int64} {O2 : Nat → Int32} {C2 : Nat → Option Nat} {ch2 : Nat} {D2 : Nat → Option Nat} {dh2 : Nat} {E2 : Nat → zD} {Z2 : Nat → Int64} {P2 : Nat → Int32} {ph2 : Nat} {ca2 cl2 cw2 : Nat → Nat} {K2 : Nat → Int32 × Int32 × Int32 × Int32} {cf2 : Nat → Nat → Int64} (W : PC h (Ω) Q cu ha un n B hg at9 fk fp sp G T wf lf hf ff V wk hm pm O C ch D dh E Z P ph ca cl cw K cf wk2 hm2 pm2 O2 C2 ch2 D2 dh2 E2 Z2 P2 ph2 ca2 cl2 cw2 K2 cf2) (hch2 : ch2 ≤ 20) : zMet F yX7_undo cX7_undo 1 (some .int) { frames := 3, cells := 0, slots := 0, locals := 90 } [.ref (Q 0)] h (fun r h2 => (cu = 0 ∧ r = some (.int (-1)) ∧ h2 = h) ∨ (¬ cu = 0 ∧ r = some (.int wk2) ∧ PC h2 (Ω) Q 0 ha un n B hg at9 fk fp sp G T wf lf hf ff V wk2 hm2 pm2 (va_cpy O2 O 0 0 14) (mx C2 C 20) ch2 D dh2 E2 (va_cpy Z2 Z 0 0 20) (va_cpy P2 P 0 0 20) ph2 ca2 cl2 cw2 K2 cf2 wk2 hm2 pm2 O2 C2 ch2 D2 dh2 E2 Z2 P2 ph2 ca2 cl2 cw2 K2 cf2 ∧ frq Ω h h2)) := by
  refine zMet_of (lv := [(0, .ref (Q 0))]) (by decide) (by simp [lg_sl, Value.category]) rfl ?_
  intro X g z
  obtain ⟨x0, t1, t2, r3, r4, sp9, gg, ls, lsd, s5, s6, s7, s8, s9, v30, bn, be, kn, ke, hQ⟩ := id W
  obtain ⟨b0, b1, b2, b3, b4, b5, bD, bE, bC⟩ := id bn
  obtain ⟨kn1, kn2, kn3, kn4, kn5, kn6⟩ := id kn
  refine v_blk g [.aload_n 0] (pc' := 1) (lv' := [(0, .ref (Q 0))]) (st' := [.ref (Q 0)]) (by decide +kernel) rfl rfl ?_
  refine v_get g x0.1 fl_X7_46 rfl (by decide +kernel) ?_
  refine v_if_ne g (off := 5) (tgt := 9) (by decide +kernel) (by decide) (fun c => ?_) (fun c => ?_)
  · refine v_blk g [.aload_n 0, .iconst 0] (pc' := 11) (lv' := [(0, .ref (Q 0))]) (st' := [.int (0 : Int32), .ref (Q 0)]) (by decide +kernel) rfl rfl ?_
    refine v_put g (fs' := [.ref (Q 1), .ref (Q 3), .ref (Q 5), .ref (Q 10), .ref (Q 20), .ref (Q 30), .int (0 : Int32), .int ha, .int un]) x0.1 fl_X7_46 rfl rfl (Nat.le_of_ble_eq_true rfl) rfl (by decide +kernel) ?_
    refine v_h (fun h1 eh1 => ?_)
    have h1_c : h1.2.1 = h.2.1 + 0 ∧ h1.2.2 = h.2.2 + 0 := zcs eh1 ⟨rfl, rfl⟩
    have h1_Q0 : h1.1 (Q 0) = some (oB 7 [.ref (Q 1), .ref (Q 3), .ref (Q 5), .ref (Q 10), .ref (Q 20), .ref (Q 30), .int (0 : Int32), .int ha, .int un]) := by rw [eh1]; exact z_s_self _ _ _
    have W1 : PC h1 (Ω) Q 0 ha un n B hg at9 fk fp sp G T wf lf hf ff V wk hm pm O C ch D dh E Z P ph ca cl cw K cf wk2 hm2 pm2 O2 C2 ch2 D2 dh2 E2 Z2 P2 ph2 ca2 cl2 cw2 K2 cf2 := by rw [eh1]; exact W.u0c 0 (fun e => absurd rfl e)
    have f1 : frq Ω h h1 := by rw [eh1]; exact frq.refl.s x0.2
    have k1 : KP h1 Ω Q T C2 ch2 ca2 cl2 cw2 K2 cf2 := by rw [eh1]; exact (ke c).s x0.1 (fun _ => rfl) (fun _ => rfl) (fun _ => rfl)
    obtain ⟨x0u, t1u, t2u, r3u, r4u, sp9u, ggu, lsu, lsdu, s5u, s6u, s7u, s8u, s9u, v30u, bnu, beu, knu, keu, hQu⟩ := id W1
    obtain ⟨b0u, b1u, b2u, b3u, b4u, b5u, bDu, bEu, bCu⟩ := id bnu
    obtain ⟨kn1u, kn2u, kn3u, kn4u, kn5u, kn6u⟩ := id knu
    obtain ⟨b0e, b1e, b2e, b3e, b4e, b5e, bDe, bEe, bCe⟩ := id beu
    refine v_blk g [.aload_n 0] (pc' := 15) (lv' := [(0, .ref (Q 0))]) (st' := [.ref (Q 0)]) (by decide +kernel) rfl rfl ?_
    refine v_get g x0u.1 fl_X7_35 rfl (by decide +kernel) ?_
    refine v_blk g [.aload_n 0] (pc' := 19) (lv' := [(0, .ref (Q 0))]) (st' := [.ref (Q 0), .ref (Q 10)]) (by decide +kernel) rfl rfl ?_
    refine v_get g x0u.1 fl_X7_39 rfl (by decide +kernel) ?_
    refine v_callV g (rest := []) (c_Bk_copy (da := fun e => Q (10 + 6 + e)) (da2 := fun e => Q (20 + 6 + e)) b0u.1 b0e.1 b1u.1 b1e.1 b4u.1 b4e.1 b5u.1 b5e.1 b2u.1 b2e.1 b3u.1 b3e.1 bDu bDe (fun e he => (bEu e he).1) (fun e he => (bEe e he).1) (fun q hq v hv => (bCe q hq v hv).elim (fun fs p => ⟨fs, p.1⟩)) (hQ 20 10 (by decide) (by decide) (by decide)) (hQ (20 + 1) (10 + 1) (by decide) (by decide) (by decide)) (hQ (20 + 4) (10 + 4) (by decide) (by decide) (by decide)) (hQ (20 + 5) (10 + 5) (by decide) (by decide) (by decide)) (hQ (20 + 2) (10 + 2) (by decide) (by decide) (by decide)) (fun e e2 he he2 q => Classical.byContradiction (fun n => hQ (10 + 6 + e) (10 + 6 + e2) (by omega) (by omega) (by omega) q)) (fun e e2 he he2 => hQ (20 + 6 + e) (10 + 6 + e2) (by omega) (by omega) (by omega))) cl_X7_192 b0u.1 rfl rfl (Nat.le_of_ble_eq_true rfl) (by decide +kernel) ⟨Nat.le_of_ble_eq_true rfl, Nat.le_of_ble_eq_true rfl⟩ (zcsn 0 0 h1_c.1 h1_c.2 (Nat.le_of_ble_eq_true rfl) (Nat.le_of_ble_eq_true rfl)) (fun v9 h3 q3 => ?_)
    obtain ⟨rfl, g0, g1, g4, g5, g2, gE, gc, gk⟩ := q3
    show zV F X h3 25 [(0, .ref (Q 0))] []
    have f3 : frq Ω h h3 := ⟨fun x hx => (gk x (fun e => hx (by rw [e]; exact b0u.2)) (fun e => hx (by rw [e]; exact b1u.2)) (fun e => hx (by rw [e]; exact b4u.2)) (fun e => hx (by rw [e]; exact b5u.2)) (fun e => hx (by rw [e]; exact b2u.2)) (fun d hd e => hx (by rw [e]; exact (bEu d hd).2))).trans (f1.1 x hx), gc.trans f1.2⟩
    have W3 := W1.newN g0 g1 g2 g4 g5 gE (fun q hq v hv => bCe q hq v (by rw [mx_lt hq] at hv; exact hv)) (fun x x0 x1 x2 x4 x5 xe => gk x x0 x1 x4 x5 x2 xe) (k1.C (fun q hq => mx_lt (by omega)))
    have h3_c := f3.c
    obtain ⟨x0t, t1t, t2t, r3t, r4t, sp9t, ggt, lst, lsdt, s5t, s6t, s7t, s8t, s9t, v30t, bnt, bet, knt, ket, hQt⟩ := id W3
    obtain ⟨b0t, b1t, b2t, b3t, b4t, b5t, bDt, bEt, bCt⟩ := id bnt
    obtain ⟨kn1t, kn2t, kn3t, kn4t, kn5t, kn6t⟩ := id knt
    refine v_blk g [.aload_n 0] (pc' := 26) (lv' := [(0, .ref (Q 0))]) (st' := [.ref (Q 0)]) (by decide +kernel) rfl rfl ?_
    refine v_get g x0t.1 fl_X7_35 rfl (by decide +kernel) ?_
    refine v_get g b0t.1 fl_X7_200 rfl (by decide +kernel) ?_
    exact v_iret g z rfl (by decide +kernel) (Or.inr ⟨c, rfl, W3, f3⟩) (zcrn 0 0 h3_c.1 h3_c.2 (Nat.le_of_ble_eq_true rfl) (Nat.le_of_ble_eq_true rfl))
  · refine v_blk g [.iconst (-1)] (pc' := 8) (lv' := [(0, .ref (Q 0))]) (st' := [.int (-1 : Int32)]) (by decide +kernel) rfl rfl ?_
    exact v_iret g z rfl (by decide +kernel) (Or.inl ⟨c, rfl, rfl⟩) (zcrn 0 0 rfl rfl (Nat.le_of_ble_eq_true rfl) (Nat.le_of_ble_eq_true rfl))
