theorem cpy0 {α : Type} {f g : Nat → α} {n q : Nat} (h : q < n) : va_cpy f g 0 0 n q = f q := by
  unfold va_cpy
  rw [if_pos ⟨by omega, by omega⟩, show 0 + (q - 0) = q by omega]
theorem dvR_cong {DV : Nat → Int64} {E E9 : Nat → zD} {n : Nat} (h : dvR DV E n) (e : ∀ d, d < n → E9 d = E d) : dvR DV E9 n := fun d hd => by rw [e d hd]; exact h d hd
theorem fin_eq {pool : Int64} {w1 w2 : Nat → Int64} {u : Int32} {E : Nat → zD} {d : Nat} (h : w1 d = w2 d) : w_fin pool w1 u E d = w_fin pool w2 u E d ∧ w_pay pool w1 u E d = w_pay pool w2 u E d := by
  unfold w_fin w_pay w_coin
  rw [h]
  exact ⟨rfl, rfl⟩
theorem okO_m1 (O : Nat → Int32) : okO (mx (fun _ => (-1 : Int32)) O 14) := fun q hq => by rw [mx_lt hq]; exact Or.inl rfl

set_option maxHeartbeats 1000000 in
theorem q_settle {F : zF} {h : zH} {x m o k N : Nat} {Ω : Nat → Prop} {Q : Nat → Nat} {cu ha un : Int32} {n : Nat} {B : Nat → Int32} {hg at9 fk fp : Int32} {sp : Option Nat} {G : Nat → Option Nat} {T : Nat → zS} {wf lf hf : Nat → Int32} {ff : Nat → Int64} {V : Nat → Int32} {wk : Int32} {hm pm : Int64} {O : Nat → Int32} {C : Nat → Option Nat} {ch : Nat} {D : Nat → Option Nat} {dh : Nat} {E : Nat → zD} {Z : Nat → Int64} {P : Nat → Int32} {ph : Nat} {ca cl cw : Nat → Nat} {K : Nat → Int32 × Int32 × Int32 × Int32} {cf : Nat → Nat → Int64} {wk2 : Int32} {hm2 pm2 : Int64} {O2 : Nat → Int32} {C2 : Nat → Option Nat} {ch2 : Nat} {D2 : Nat → Option Nat} {dh2 : Nat} {E2 : Nat → zD} {Z2 : Nat → Int64} {P2 : Nat → Int32} {ph2 : Nat} {ca2 cl2 cw2 : Nat → Nat} {K2 : Nat → Int32 × Int32 × Int32 × Int32} {cf2 : Nat → Nat → Int64} {v R : Nat → Nat} {ct dt : Int32} {hlt pdt : Int64} {pt hgM th atM sz : Int32} {SC PN LN PR PA VD : Nat → Int32} {DV ZM : Nat → Int64} {PM SC2 PN2 LN2 PR2 PA2 VD2 : Nat → Int32} {DV2 Z2M : Nat → Int64} {P2M PL O1M O2M : Nat → Int32} (L : WD h x m o k N Ω Q cu ha un n B hg at9 fk fp sp G T wf lf hf ff V wk hm pm O C ch D dh E Z P ph ca cl cw K cf wk2 hm2 pm2 O2 C2 ch2 D2 dh2 E2 Z2 P2 ph2 ca2 cl2 cw2 K2 cf2 v R ct dt hlt pdt pt hgM th atM sz SC PN LN PR PA VD DV ZM PM SC2 PN2 LN2 PR2 PA2 VD2 DV2 Z2M P2M PL O1M O2M) (hk : k < 512)  : PAIRl F yX7_settle cX7_settle 1 yX8_settle cX8_settle 22 (some .long) x m o k h [] := by
  obtain ⟨W, M, rfl, s, rb, re, sd, bd, hN⟩ := L
  obtain ⟨rb1, rb2, rb3, rb4, rb5, rb6, rb7, rb8, rb9⟩ := id rb
  obtain ⟨sd1, sd2, sd3, sd4, sd5, sd6, sd7, sd8⟩ := id sd
  have hO : okO (mo SC PN) := fun q hq => by rw [rb1 q hq]; exact rb2 q hq
  have hw : ∀ n, wt (wO (mo SC PN) v 0) n = wt (wO O v 0) n := wt_eq (fun m hm => by unfold wO; rw [rb1 m hm])
  have hU : ∀ m, wO O v 0 m ≤ 9 := wO_le sd6 (by decide)
  have hst := sumL_cong (f := stk K) (g := stm LN PR VD) (n := ch) (fun q hq => (stk_eq (rb4 q hq).2.1 (rb4 q hq).1 (rb4 q hq).2.2.1).1)
  have hSTb : 0 ≤ (sumL (stm LN PR VD) ch).toInt ∧ (sumL (stm LN PR VD) ch).toInt ≤ 32768000 := by
    have := sumL_b (f := stm LN PR VD) (B := 1638400) (by decide) rb3 (fun q hq => (stk_eq (rb4 q hq).2.1 (rb4 q hq).1 (rb4 q hq).2.2.1).2)
    omega
  have hwc : ∀ d, d < dh → ∀ q, q < ch → x_wc K cf (wO O v 0) E d q = wcM LN PR VD (wO (mo SC PN) v 0) E d q ∧ 0 ≤ (wcM LN PR VD (wO (mo SC PN) v 0) E d q).toInt ∧ (wcM LN PR VD (wO (mo SC PN) v 0) E d q).toInt ≤ 1638400 := fun d hd q hq => wc_eq rb7 hd hU hw (rb4 q hq).2.1 (rb4 q hq).1 (rb4 q hq).2.2.1
  obtain ⟨wC, hwC⟩ : ∃ w : Nat → Int64, w = fun d => sumL ((x_wc K cf (wO O v 0) E) d) ch := ⟨_, rfl⟩
  obtain ⟨wM, hwM⟩ : ∃ w : Nat → Int64, w = fun t => sumL ((wcM LN PR VD (wO (mo SC PN) v 0) E) t) ch := ⟨_, rfl⟩
  have hwin : ∀ d, d < dh → wC d = wM d := fun d hd => by rw [hwC, hwM]; exact sumL_cong (fun q hq => (hwc d hd q hq).1)
  have hwb : ∀ d, d < dh → 0 ≤ (wC d).toInt ∧ (wC d).toInt ≤ 32768000 := fun d hd => by
    have := sumL_b (f := wcM LN PR VD (wO (mo SC PN) v 0) E d) (B := 1638400) (by decide) rb3 (fun q hq => (hwc d hd q hq).2)
    rw [hwin d hd, hwM]
    show 0 ≤ (sumL (wcM LN PR VD (wO (mo SC PN) v 0) E d) ch).toInt ∧ (sumL (wcM LN PR VD (wO (mo SC PN) v 0) E d) ch).toInt ≤ 32768000
    omega
  have hpay : sumL (w_pay (w_pool (sumL (stm LN PR VD) ch) ha) wC un E) dh = sumL (w_pay (w_pool (sumL (stm LN PR VD) ch) ha) wM un E) dh := sumL_cong (fun d hd => (fin_eq (w1 := wC) (w2 := wM) (hwin d hd)).2)
  have hN9 : N ≤ 90000000000 := by omega
  have hZ9 := Z_eq (Z := mx (fun _ => (0 : Int64)) Z 20) (winC := wC) (winM := wM) (wcC := x_wc K cf (wO O v 0) E) (wcN := wcM LN PR VD (wO (mo SC PN) v 0) E) rb3 rb7 hN9 hSTb sd2 sd3 hwin hwc (fun d _ => by rw [hwC]) (fun q hq => mx_lt (by omega)) dh (Nat.le_refl _)
  have hE9 := fin_E (win := wC) rb7 hN9 hSTb sd2 sd3 hwb
  refine ⟨_, ⟨by decide, by decide, by show h.2.1 + 0 ≤ _; omega, by show h.2.2 + 0 ≤ _; omega⟩, zMet_mono (p_settle W rb2 sd5 sd6 rb3 rb5) (fun r h1 q => ?_)⟩
  rw [hst, ← hwC, hpay] at q
  have hu : ¬ un ≤ 0 := by rw [fa_le]; show ¬ un.toInt ≤ 0; omega
  rcases q with ⟨nd, rfl, e1⟩ | ⟨dd, rfl, w2, l2, f2, L2, W1, fq⟩
  · subst e1
    refine ⟨⟨_, M.o⟩, ⟨by omega, by omega⟩, ⟨_, rfl⟩, _, ⟨by decide, by decide, rfl, rfl⟩, zMet_mono (m_settle (F := F) M hO sd5 rb6 hu rb3 rb5 sd7) (fun r2 h2 q2 => ?_)⟩
    rcases q2 with ⟨-, rfl, M2⟩ | ⟨al, -⟩
    · exact ⟨rfl, LW.fin W M2 rfl s rb re sd ⟨by omega, by omega⟩ (by omega)⟩
    · exact absurd (fb_ct_all.mpr (fun q hq => decide_eq_true (by rw [← rb1 q hq]; exact al q hq))) nd
  · have fx := frx_q fq
    have M1 := M.kf s fx
    have e2 := fq.2
    refine ⟨⟨_, M1.o⟩, by rw [e2]; exact ⟨by omega, by omega⟩, ⟨_, rfl⟩, _, ⟨by decide, by decide, rfl, rfl⟩, zMet_mono (m_settle (F := F) M1 hO sd5 rb6 hu rb3 rb5 sd7) (fun r2 h2 q2 => ?_)⟩
    rw [← hwM] at q2
    rcases q2 with ⟨⟨q, hq, eq⟩, -⟩ | ⟨-, rfl, DV9, Z9, hDV9, hZZ, M2⟩
    · exact absurd eq (by rw [rb1 q hq]; exact of_decide_eq_true (fb_ct_all.mp dd q hq))
    · refine ⟨rfl, LW.fin (N := N + 32768000) W1 M2 rfl (s.kf fx) ⟨fun q hq => ?_, okO_m1 O, by omega, fun q hq => absurd hq (Nat.not_lt_zero q), rb5, dvR_cong hDV9 (fun d hd => ?_), hE9, rb3, fun q hq => ?_⟩ (fun _ => ⟨RB.mono (RB.cong rb (fun q hq => cpy0 hq) (fun q hq => cpy0 hq) (fun q hq => cpy0 hq) (fun q hq => mx_lt hq) (fun q hq => mx_lt hq) (fun q hq => mx_lt hq) (fun q hq => mx_lt hq) (fun q hq => mx_lt hq) (fun q hq => mx_lt hq) (fun q hq => mx_lt hq) (fun q hq => mx_lt hq) (fun q hq => mx_lt hq)) (by omega), rfl, rfl, rfl, rfl, rfl, rfl, fun q r hq => absurd hq (Nat.not_lt_zero q)⟩) ⟨sd1, sd2, sd3, rb3, sd5, sd6, sd7, fun q hq => (by rw [mx_lt hq]; exact sd7 q hq)⟩ (by rw [e2]; exact ⟨by omega, by omega⟩) (by omega)⟩
      · rw [mx_lt hq]; unfold mo; rw [mx_lt hq, if_pos rfl, mx_lt hq]
      · rw [mx_lt hd, mx_lt hd]; exact (fin_eq (w1 := wC) (w2 := wM) (hwin d hd)).1
      · have g := rb4 q hq
        rw [hZZ q hq, mx_lt (show q < 20 by omega), mx_lt hq, if_pos hq, g.2.1]
        exact ⟨hZ9 q hq, rfl, g.2.2.2⟩

set_option maxHeartbeats 1000000 in
theorem q_undo {F : zF} {h : zH} {x m o k N : Nat} {Ω : Nat → Prop} {Q : Nat → Nat} {cu ha un : Int32} {n : Nat} {B : Nat → Int32} {hg at9 fk fp : Int32} {sp : Option Nat} {G : Nat → Option Nat} {T : Nat → zS} {wf lf hf : Nat → Int32} {ff : Nat → Int64} {V : Nat → Int32} {wk : Int32} {hm pm : Int64} {O : Nat → Int32} {C : Nat → Option Nat} {ch : Nat} {D : Nat → Option Nat} {dh : Nat} {E : Nat → zD} {Z : Nat → Int64} {P : Nat → Int32} {ph : Nat} {ca cl cw : Nat → Nat} {K : Nat → Int32 × Int32 × Int32 × Int32} {cf : Nat → Nat → Int64} {wk2 : Int32} {hm2 pm2 : Int64} {O2 : Nat → Int32} {C2 : Nat → Option Nat} {ch2 : Nat} {D2 : Nat → Option Nat} {dh2 : Nat} {E2 : Nat → zD} {Z2 : Nat → Int64} {P2 : Nat → Int32} {ph2 : Nat} {ca2 cl2 cw2 : Nat → Nat} {K2 : Nat → Int32 × Int32 × Int32 × Int32} {cf2 : Nat → Nat → Int64} {v R : Nat → Nat} {ct dt : Int32} {hlt pdt : Int64} {pt hgM th atM sz : Int32} {SC PN LN PR PA VD : Nat → Int32} {DV ZM : Nat → Int64} {PM SC2 PN2 LN2 PR2 PA2 VD2 : Nat → Int32} {DV2 Z2M : Nat → Int64} {P2M PL O1M O2M : Nat → Int32} (L : WD h x m o k N Ω Q cu ha un n B hg at9 fk fp sp G T wf lf hf ff V wk hm pm O C ch D dh E Z P ph ca cl cw K cf wk2 hm2 pm2 O2 C2 ch2 D2 dh2 E2 Z2 P2 ph2 ca2 cl2 cw2 K2 cf2 v R ct dt hlt pdt pt hgM th atM sz SC PN LN PR PA VD DV ZM PM SC2 PN2 LN2 PR2 PA2 VD2 DV2 Z2M P2M PL O1M O2M) (hk : k < 512)  : PAIRi F yX7_undo cX7_undo 1 yX8_undo cX8_undo 2 (some .int) x m o k h [] := by
  obtain ⟨W, M, rfl, s, rb, re, sd, bd, hN⟩ := L
  obtain ⟨rb1, rb2, rb3, rb4, rb5, rb6, rb7, rb8, rb9⟩ := id rb
  obtain ⟨sd1, sd2, sd3, sd4, sd5, sd6, sd7, sd8⟩ := id sd
  refine ⟨_, ⟨by decide, by decide, by show h.2.1 + 0 ≤ _; omega, by show h.2.2 + 0 ≤ _; omega⟩, zMet_mono (p_undo W sd4) (fun r h1 q => ?_)⟩
  rcases q with ⟨c0, rfl, e1⟩ | ⟨c0, rfl, W1, fq⟩
  · subst e1
    refine ⟨⟨_, M.o⟩, ⟨by omega, by omega⟩, ⟨_, rfl⟩, _, ⟨by decide, by decide, rfl, rfl⟩, zMet_mono (m_undo (F := F) M sd8) (fun r2 h2 q2 => ?_)⟩
    rcases q2 with ⟨-, rfl, M2⟩ | ⟨n0, -⟩
    · exact ⟨rfl, LW.fin W M2 rfl s rb re sd ⟨by omega, by omega⟩ (by omega)⟩
    · exact absurd c0 n0
  · have fx := frx_q fq
    have M1 := M.kf s fx
    have e2 := fq.2
    refine ⟨⟨_, M1.o⟩, by rw [e2]; exact ⟨by omega, by omega⟩, ⟨_, rfl⟩, _, ⟨by decide, by decide, rfl, rfl⟩, zMet_mono (m_undo (F := F) M1 sd8) (fun r2 h2 q2 => ?_)⟩
    rcases q2 with ⟨n0, -⟩ | ⟨-, rfl, M2⟩
    · exact absurd n0 c0
    · obtain ⟨g1, rfl, rfl, rfl, rfl, rfl, rfl, g8⟩ := re c0
      have ew : wk2 + 1 - 1 = wk2 := Int32.add_sub_cancel _ _
      rw [ew] at M2
      refine ⟨by rw [ew], LW.fin W1 M2 rfl (s.kf fx) (RB.cong g1 (fun q hq => cpy0 hq) (fun q hq => cpy0 hq) (fun q hq => cpy0 hq) (fun q hq => mx_lt hq) (fun q hq => mx_lt hq) (fun q hq => mx_lt hq) (fun q hq => mx_lt hq) (fun q hq => mx_lt hq) (fun q hq => mx_lt hq) (fun q hq => mx_lt hq) (fun q hq => mx_lt hq) (fun q hq => mx_lt hq)) (fun c => absurd rfl c) ⟨sd1, sd2, sd3, sd4, sd5, sd6, fun q hq => (by rw [mx_lt hq]; exact sd8 q hq), sd8⟩ (by rw [e2]; exact ⟨by omega, by omega⟩) (by omega)⟩
