/-! the class: a week settled, and taken back -/
theorem mx_all {α : Type} {f g : Nat → Option α} {q : Nat} (hq : q < 20) : mx f g 20 q = f q := mx_lt hq
theorem KP.C {h : zH} {Ω : Nat → Prop} {Q : Nat → Nat} {T : Nat → zS} {C C9 : Nat → Option Nat} {ch : Nat} {ca cl cw : Nat → Nat} {K : Nat → Int32 × Int32 × Int32 × Int32} {cf : Nat → Nat → Int64} (b : KP h Ω Q T C ch ca cl cw K cf) (hc : ∀ q, q < ch → C9 q = C q) : KP h Ω Q T C9 ch ca cl cw K cf := ⟨fun q hq => (hc q hq).trans (b.1 q hq), b.2⟩
theorem KP.none {h : zH} {Ω : Nat → Prop} {Q : Nat → Nat} {T : Nat → zS} {C : Nat → Option Nat} {ca cl cw : Nat → Nat} {K : Nat → Int32 × Int32 × Int32 × Int32} {cf : Nat → Nat → Int64} : KP h Ω Q T C 0 ca cl cw K cf := ⟨fun _ h => absurd h (Nat.not_lt_zero _), fun _ h => absurd h (Nat.not_lt_zero _), fun _ h => absurd h (Nat.not_lt_zero _), fun _ h => absurd h (Nat.not_lt_zero _), fun _ h => absurd h (Nat.not_lt_zero _), fun _ _ h => absurd h (Nat.not_lt_zero _)⟩

set_option maxRecDepth 100000 in
set_option maxHeartbeats 4000000 in
theorem p_settle {F : zF} {h : zH} {Ω : Nat → Prop} {Q : Nat → Nat} {cu ha un : Int32} {n : Nat} {B : Nat → Int32} {hg at9 fk fp : Int32} {sp : Option Nat} {G : Nat → Option Nat} {T : Nat → zS} {wf lf hf : Nat → Int32} {ff : Nat → Int64} {V : Nat → Int32} {wk : Int32} {hm pm : Int64} {O : Nat → Int32} {C : Nat → Option Nat} {ch : Nat} {D : Nat → Option Nat} {dh : Nat} {E : Nat → zD} {Z : Nat → Int64} {P : Nat → Int32} {ph : Nat} {ca cl cw : Nat → Nat} {K : Nat → Int32 × Int32 × Int32 × Int32} {cf : Nat → Nat → Int64} {wk2 : Int32} {hm2 pm2 : Int64} {O2 : Nat → Int32} {C2 : Nat → Option Nat} {ch2 : Nat} {D2 : Nat → Option Nat} {dh2 : Nat} {E2 : Nat → zD} {Z2 : Nat → Int64} {P2 : Nat → Int32} {ph2 : Nat} {ca2 cl2 cw2 : Nat → Nat} {K2 : Nat → Int32 × Int32 × Int32 × Int32} {cf2 : Nat → Nat → Int64} (W : PC h (Ω) Q cu ha un n B hg at9 fk fp sp G T wf lf hf ff V wk hm pm O C ch D dh E Z P ph ca cl cw K cf wk2 hm2 pm2 O2 C2 ch2 D2 dh2 E2 Z2 P2 ph2 ca2 cl2 cw2 K2 cf2) {v : Nat → Nat} (hO : okO O) (hV : nIs V v 4) (hv9 : ∀ k, v k ≤ 9) (hch : ch ≤ 20) (hdh : dh ≤ 4) : zMet F yX7_settle cX7_settle 1 (some .long) { frames := 7, cells := 0, slots := 0, locals := 230 } [.ref (Q 0)] h (fun r h2 => (¬ fb_ct (fun m => decide (¬ O m = -1)) 14 = 14 ∧ r = some (.long (-1)) ∧ h2 = h) ∨ (fb_ct (fun m => decide (¬ O m = -1)) 14 = 14 ∧ r = some (.long (sumL (w_pay (w_pool (sumL (stk K) ch) ha) (fun d => sumL ((x_wc K cf (wO O v 0) E) d) ch) un E) dh)) ∧ ∃ (w2 l2 f2 : Nat → Int32) (L2 : Nat → Int64), PC h2 (Ω) Q 1 ha un n B hg at9 fk fp sp G T w2 l2 f2 L2 V (wk + 1) (hm + w_left (sumL (stk K) ch) (w_pool (sumL (stk K) ch) ha) E dh) (pm + sumL (w_pay (w_pool (sumL (stk K) ch) ha) (fun d => sumL ((x_wc K cf (wO O v 0) E) d) ch) un E) dh) (mx (fun _ => (-1 : Int32)) O 14) C 0 D dh (mx (w_fin (w_pool (sumL (stk K) ch) ha) (fun d => sumL ((x_wc K cf (wO O v 0) E) d) ch) un E) E dh) (w_Z (w_pool (sumL (stk K) ch) ha) (fun d => sumL ((x_wc K cf (wO O v 0) E) d) ch) un E (x_wc K cf (wO O v 0) E) ch (mx (fun _ => (0 : Int64)) Z 20) dh) (mx (fun q => if q < ch then (K q).2.2.1 else 0) P 20) ch ca cl cw K cf wk hm pm (va_cpy O O2 0 0 14) (mx C C2 20) ch D2 dh E (va_cpy Z Z2 0 0 20) (va_cpy P P2 0 0 20) ph ca cl cw K cf ∧ frq Ω h h2)) := by
  refine zMet_of (lv := [(0, .ref (Q 0))]) (by decide) (by simp [lg_sl, Value.category]) rfl ?_
  intro X g z
  obtain ⟨x0, t1, t2, r3, r4, sp9, gg, ls, lsd, s5, s6, s7, s8, s9, v30, bn, be, kn, ke, hQ⟩ := id W
  obtain ⟨b0, b1, b2, b3, b4, b5, bD, bE, bC⟩ := id bn
  obtain ⟨kn1, kn2, kn3, kn4, kn5, kn6⟩ := id kn
  have nd := fb_ct_le (fun m => decide (¬ O m = -1)) 14
  refine v_blk g [.aload_n 0] (pc' := 1) (lv' := [(0, .ref (Q 0))]) (st' := [.ref (Q 0)]) (by decide +kernel) rfl rfl ?_
  refine v_get g x0.1 fl_X7_35 rfl (by decide +kernel) ?_
  refine v_callVp g (rest := []) (c_Bk_decided b0.1 b1.1) cl_X7_187 b0.1 rfl rfl (Nat.le_of_ble_eq_true rfl) (by decide +kernel) ⟨Nat.le_of_ble_eq_true rfl, Nat.le_of_ble_eq_true rfl⟩ (zcsn 0 0 rfl rfl (Nat.le_of_ble_eq_true rfl) (Nat.le_of_ble_eq_true rfl)) ?_
  show zV F X h 7 [(0, .ref (Q 0))] [.int (nI (fb_ct (fun m => decide (¬ O m = -1)) 14))]
  refine v_blk g [.bipush 14] (pc' := 9) (lv' := [(0, .ref (Q 0))]) (st' := [.int (14 : Int32), .int (nI (fb_ct (fun m => decide (¬ O m = -1)) 14))]) (by decide +kernel) rfl rfl ?_
  refine v_icmp_ge g (off := 7) (tgt := 16) (by decide +kernel) (by decide) (fun c => ?_) (fun c => ?_)
  · have c0 : fb_ct (fun m => decide (¬ O m = -1)) 14 = 14 := by have := (nI_lei (a := 14) (by decide) (by omega)).mp c; omega
    obtain ⟨b0e, b1e, b2e, b3e, b4e, b5e, bDe, bEe, bCe⟩ := id be
    refine v_blk g [.aload_n 0] (pc' := 17) (lv' := [(0, .ref (Q 0))]) (st' := [.ref (Q 0)]) (by decide +kernel) rfl rfl ?_
    refine v_get g x0.1 fl_X7_39 rfl (by decide +kernel) ?_
    refine v_blk g [.aload_n 0] (pc' := 21) (lv' := [(0, .ref (Q 0))]) (st' := [.ref (Q 0), .ref (Q 20)]) (by decide +kernel) rfl rfl ?_
    refine v_get g x0.1 fl_X7_35 rfl (by decide +kernel) ?_
    refine v_callV g (rest := []) (c_Bk_copy (da := fun e => Q (20 + 6 + e)) (da2 := fun e => Q (10 + 6 + e)) b0e.1 b0.1 b1e.1 b1.1 b4e.1 b4.1 b5e.1 b5.1 b2e.1 b2.1 b3e.1 b3.1 bDe bD (fun e he => (bEe e he).1) (fun e he => (bE e he).1) (fun q hq v hv => (bC q hq v hv).elim (fun fs p => ⟨fs, p.1⟩)) (hQ 10 20 (by decide) (by decide) (by decide)) (hQ (10 + 1) (20 + 1) (by decide) (by decide) (by decide)) (hQ (10 + 4) (20 + 4) (by decide) (by decide) (by decide)) (hQ (10 + 5) (20 + 5) (by decide) (by decide) (by decide)) (hQ (10 + 2) (20 + 2) (by decide) (by decide) (by decide)) (fun e e2 he he2 q => Classical.byContradiction (fun n => hQ (20 + 6 + e) (20 + 6 + e2) (by omega) (by omega) (by omega) q)) (fun e e2 he he2 => hQ (10 + 6 + e) (20 + 6 + e2) (by omega) (by omega) (by omega))) cl_X7_192 b0e.1 rfl rfl (Nat.le_of_ble_eq_true rfl) (by decide +kernel) ⟨Nat.le_of_ble_eq_true rfl, Nat.le_of_ble_eq_true rfl⟩ (zcsn 0 0 rfl rfl (Nat.le_of_ble_eq_true rfl) (Nat.le_of_ble_eq_true rfl)) (fun v9 h3 q3 => ?_)
    obtain ⟨rfl, g0, g1, g4, g5, g2, gE, gc, gk⟩ := q3
    show zV F X h3 27 [(0, .ref (Q 0))] []
    have kC : ∀ q, q < ch → mx C C2 20 q = C q := fun q hq => mx_lt (by omega)
    have W3 := W.newE g0 g1 g2 g4 g5 gE (fun q hq v hv => bC q hq v (by rw [mx_lt hq] at hv; exact hv)) (fun x x0 x1 x2 x4 x5 xe => gk x x0 x1 x4 x5 x2 xe) (fun _ => kn.C kC)
    have f3 : frq Ω h h3 := ⟨fun x hx => gk x (fun e => hx (by rw [e]; exact b0e.2)) (fun e => hx (by rw [e]; exact b1e.2)) (fun e => hx (by rw [e]; exact b4e.2)) (fun e => hx (by rw [e]; exact b5e.2)) (fun e => hx (by rw [e]; exact b2e.2)) (fun d hd e => hx (by rw [e]; exact (bEe d hd).2)), gc⟩
    have h3_c := f3.c
    obtain ⟨x0u, t1u, t2u, r3u, r4u, sp9u, ggu, lsu, lsdu, s5u, s6u, s7u, s8u, s9u, v30u, bnu, beu, knu, keu, hQu⟩ := id W3
    obtain ⟨b0u, b1u, b2u, b3u, b4u, b5u, bDu, bEu, bCu⟩ := id bnu
    obtain ⟨kn1u, kn2u, kn3u, kn4u, kn5u, kn6u⟩ := id knu
    refine v_blk g [.aload_n 0, .iconst 1] (pc' := 29) (lv' := [(0, .ref (Q 0))]) (st' := [.int (1 : Int32), .ref (Q 0)]) (by decide +kernel) rfl rfl ?_
    refine v_put g (fs' := [.ref (Q 1), .ref (Q 3), .ref (Q 5), .ref (Q 10), .ref (Q 20), .ref (Q 30), .int (1 : Int32), .int ha, .int un]) x0u.1 fl_X7_46 rfl rfl (Nat.le_of_ble_eq_true rfl) rfl (by decide +kernel) ?_
    refine v_h (fun h4 eh4 => ?_)
    have h4_c : h4.2.1 = h.2.1 + 0 ∧ h4.2.2 = h.2.2 + 0 := zcs eh4 h3_c
    have h4_Q0 : h4.1 (Q 0) = some (oB 7 [.ref (Q 1), .ref (Q 3), .ref (Q 5), .ref (Q 10), .ref (Q 20), .ref (Q 30), .int (1 : Int32), .int ha, .int un]) := by rw [eh4]; exact z_s_self _ _ _
    have W4 : PC h4 (Ω) Q 1 ha un n B hg at9 fk fp sp G T wf lf hf ff V wk hm pm O C ch D dh E Z P ph ca cl cw K cf wk hm pm (va_cpy O O2 0 0 14) (mx C C2 20) ch D2 dh E (va_cpy Z Z2 0 0 20) (va_cpy P P2 0 0 20) ph ca cl cw K cf := by rw [eh4]; exact W3.u0c 1 (fun _ => knu.C kC)
    have f4 : frq Ω h h4 := by rw [eh4]; exact f3.s x0u.2
    obtain ⟨x0v, t1v, t2v, r3v, r4v, sp9v, ggv, lsv, lsdv, s5v, s6v, s7v, s8v, s9v, v30v, bnv, bev, knv, kev, hQv⟩ := id W4
    obtain ⟨b0v, b1v, b2v, b3v, b4v, b5v, bDv, bEv, bCv⟩ := id bnv
    obtain ⟨kn1v, kn2v, kn3v, kn4v, kn5v, kn6v⟩ := id knv
    refine v_blk g [.aload_n 0, .iconst 0] (pc' := 34) (lv' := [(0, .ref (Q 0))]) (st' := [.int (0 : Int32), .ref (Q 0)]) (by decide +kernel) rfl rfl ?_
    refine v_callV g (rest := []) (p_weigh (o := 0) W4 hO hV hv9 (by decide)) cl_X7_160 x0v.1 rfl rfl (Nat.le_of_ble_eq_true rfl) (by decide +kernel) ⟨Nat.le_of_ble_eq_true rfl, Nat.le_of_ble_eq_true rfl⟩ (zcsn 0 0 h4_c.1 h4_c.2 (Nat.le_of_ble_eq_true rfl) (Nat.le_of_ble_eq_true rfl)) (fun v9 h5 q5 => ?_)
    obtain ⟨rfl, w2, l2, f2, L2, W5, f5, n2, n3, n4⟩ := q5
    show zV F X h5 37 [(0, .ref (Q 0))] []
    have hW := wO_le (O := O) (o := 0) hv9 (by decide)
    have f6 : frq Ω h h5 := ⟨fun x hx => (f5.1 x hx).trans (f4.1 x hx), f5.2.trans f4.2⟩
    have h5_c := f6.c
    obtain ⟨x0t, t1t, t2t, r3t, r4t, sp9t, ggt, lst, lsdt, s5t, s6t, s7t, s8t, s9t, v30t, bnt, bet, knt, ket, hQt⟩ := id W5
    obtain ⟨b0t, b1t, b2t, b3t, b4t, b5t, bDt, bEt, bCt⟩ := id bnt
    obtain ⟨kn1t, kn2t, kn3t, kn4t, kn5t, kn6t⟩ := id knt
    refine v_blk g [.aload_n 0] (pc' := 38) (lv' := [(0, .ref (Q 0))]) (st' := [.ref (Q 0)]) (by decide +kernel) rfl rfl ?_
    refine v_get g x0t.1 fl_X7_35 rfl (by decide +kernel) ?_
    refine v_blk g [.aload_n 0] (pc' := 42) (lv' := [(0, .ref (Q 0))]) (st' := [.ref (Q 0), .ref (Q 10)]) (by decide +kernel) rfl rfl ?_
    refine v_get g x0t.1 fl_X7_28 rfl (by decide +kernel) ?_
    refine v_blk g [.aload_n 0] (pc' := 46) (lv' := [(0, .ref (Q 0))]) (st' := [.ref (Q 0), .ref (Q 5), .ref (Q 10)]) (by decide +kernel) rfl rfl ?_
    refine v_get g x0t.1 fl_X7_50 rfl (by decide +kernel) ?_
    refine v_blk g [.aload_n 0] (pc' := 50) (lv' := [(0, .ref (Q 0))]) (st' := [.ref (Q 0), .int ha, .ref (Q 5), .ref (Q 10)]) (by decide +kernel) rfl rfl ?_
    refine v_get g x0t.1 fl_X7_54 rfl (by decide +kernel) ?_
    refine v_callV g (rest := []) (c_Bk_close (da := fun e => Q (10 + 6 + e)) b0t.1 b3t.1 bDt (fun e he => (bEt e he).1) b2t.1 kn1t (fun q hq => (kn2t q hq).1) (fun q hq => (kn3t q hq).1) (fun q hq => (kn4t q hq).1) s5t.1 s8t.1 s9t.1 hW n3 n4 b4t.1 b5t.1 b1t.1 (fun e e2 he he2 q => Classical.byContradiction (fun n => hQ (10 + 6 + e) (10 + 6 + e2) (by omega) (by omega) (by omega) q)) hch hdh ha un) cl_X7_196 b0t.1 rfl rfl (Nat.le_of_ble_eq_true rfl) (by decide +kernel) ⟨Nat.le_of_ble_eq_true rfl, Nat.le_of_ble_eq_true rfl⟩ (zcsn 0 0 h5_c.1 h5_c.2 (Nat.le_of_ble_eq_true rfl) (Nat.le_of_ble_eq_true rfl)) (fun v9 h7 q7 => ?_)
    obtain ⟨rfl, j0, j1, j4, j5, jE, jc, jk⟩ := q7
    show zV F X h7 56 [(0, .ref (Q 0))] [.long (sumL (w_pay (w_pool (sumL (stk K) ch) ha) (fun d => sumL ((x_wc K cf (wO O v 0) E) d) ch) un E) dh)]
    have f7 : frq Ω h h7 := ⟨fun x hx => (jk x (fun e => hx (by rw [e]; exact b0t.2)) (fun e => hx (by rw [e]; exact b1t.2)) (fun e => hx (by rw [e]; exact b4t.2)) (fun e => hx (by rw [e]; exact b5t.2)) (fun d hd e => hx (by rw [e]; exact (bEt d hd).2))).trans (f6.1 x hx), jc.trans f6.2⟩
    have j2 : h7.1 (Q (10 + 2)) = some (aQ 4 20 C) := (jk _ (hQ (10 + 2) 10 (by decide) (by decide) (by decide)) (hQ (10 + 2) (10 + 1) (by decide) (by decide) (by decide)) (hQ (10 + 2) (10 + 4) (by decide) (by decide) (by decide)) (hQ (10 + 2) (10 + 5) (by decide) (by decide) (by decide)) (fun e he => hQ (10 + 2) _ (by decide) (by omega) (by omega))).trans b2t.1
    have h7_c := f7.c
    exact v_lret g z rfl (by decide +kernel) (Or.inr ⟨c0, rfl, w2, l2, f2, L2, W5.newN j0 j1 j2 j4 j5 jE bCt (fun x x0 x1 x2 x4 x5 xe => jk x x0 x1 x4 x5 xe) KP.none, f7⟩) (zcrn 0 0 h7_c.1 h7_c.2 (Nat.le_of_ble_eq_true rfl) (Nat.le_of_ble_eq_true rfl))
  · have c0 : ¬ fb_ct (fun m => decide (¬ O m = -1)) 14 = 14 := fun e => c (by rw [e]; decide)
    refine v_ldc2 g kc_X7_190 (by decide +kernel) ?_
    exact v_lret g z rfl (by decide +kernel) (Or.inl ⟨c0, rfl, rfl⟩) (zcrn 0 0 rfl rfl (Nat.le_of_ble_eq_true rfl) (Nat.le_of_ble_eq_true rfl))
