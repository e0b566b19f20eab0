/-! a coupon, a week settled, undo, told: on both sides -/
theorem hs9_cong {LN LX : Nat → Int32} {q l : Nat} (h : LX (512 * q + l / 32) = LN (512 * q + l / 32)) : hs9 LX q l = hs9 LN q l := by unfold hs9; rw [h]
theorem RB.cong {O9 : Nat → Int32} {Z9 : Nat → Int64} {P9 : Nat → Int32} {SC9 : Nat → Int32} {PN9 : Nat → Int32} {LN9 : Nat → Int32} {PR9 : Nat → Int32} {PA9 : Nat → Int32} {VD9 : Nat → Int32} {DV9 : Nat → Int64} {ZM9 : Nat → Int64} {PM9 : Nat → Int32} {N : Nat} {O : Nat → Int32} {ch : Nat} {K : Nat → Int32 × Int32 × Int32 × Int32} {cf : Nat → Nat → Int64} {dh : Nat} {E : Nat → zD} {Z : Nat → Int64} {P : Nat → Int32} {ph : Nat} {SC PN LN PR PA VD : Nat → Int32} {DV ZM : Nat → Int64} {PM : Nat → Int32} (h : RB N O ch K cf dh E Z P ph SC PN LN PR PA VD DV ZM PM) (hO : ∀ q, q < 14 → O9 q = O q) (hZ : ∀ q, q < 20 → Z9 q = Z q) (hP : ∀ q, q < 20 → P9 q = P q) (hSC : ∀ q, q < 14 → SC9 q = SC q) (hPN : ∀ q, q < 14 → PN9 q = PN q) (hLN : ∀ q, q < 10240 → LN9 q = LN q) (hPR : ∀ q, q < 20 → PR9 q = PR q) (hPA : ∀ q, q < 20 → PA9 q = PA q) (hVD : ∀ q, q < 20 → VD9 q = VD q) (hDV : ∀ q, q < 24 → DV9 q = DV q) (hZM : ∀ q, q < 20 → ZM9 q = ZM q) (hPM : ∀ q, q < 20 → PM9 q = PM q) : RB N O9 ch K cf dh E Z9 P9 ph SC9 PN9 LN9 PR9 PA9 VD9 DV9 ZM9 PM9 := by
  obtain ⟨a1, a2, a3, a4, a5, a6, a7, a8, a9⟩ := h
  refine ⟨fun q hq => ?_, fun q hq => ?_, a3, fun q hq => ?_, a5, fun d hd => ?_, a7, a8, fun q hq => ?_⟩
  · rw [hO q hq, ← a1 q hq]; unfold mo; rw [hSC q hq, hPN q hq]
  · rw [hO q hq]; exact a2 q hq
  · obtain ⟨g1, g2, g3, g4⟩ := a4 q hq
    rw [hPR q (by omega), hPA q (by omega), hVD q (by omega)]
    exact ⟨fun l hl => (hs9_cong (hLN _ (by omega))).trans (g1 l hl), g2, g3, g4⟩
  · rw [hDV _ (by omega), hDV _ (by omega), hDV _ (by omega), hDV _ (by omega), hDV _ (by omega), hDV _ (by omega)]
    exact a6 d hd
  · rw [hZ q (by omega), hP q (by omega), hZM q (by omega), hPM q (by omega)]; exact a9 q hq
theorem RB.add {LX : Nat → Int32} {f9 : Nat → Int64} {sz a b : Int32} {N : Nat} {O : Nat → Int32} {ch : Nat} {K : Nat → Int32 × Int32 × Int32 × Int32} {cf : Nat → Nat → Int64} {dh : Nat} {E : Nat → zD} {Z : Nat → Int64} {P : Nat → Int32} {ph : Nat} {SC PN LN PR PA VD : Nat → Int32} {DV ZM : Nat → Int64} {PM : Nat → Int32} (h : RB N O ch K cf dh E Z P ph SC PN LN PR PA VD DV ZM PM) (hch : ch < 20) (hl : ∀ j, (j < 512 * ch ∨ 512 * ch + 512 ≤ j) → LX j = LN j) (he : eqS (hs9 LX ch) (lb f9)) (hs : sz = nI (fb_ct (lb f9) 16384)) (ha : 1 ≤ a.toInt ∧ a.toInt ≤ 100) (hb : 1 ≤ b.toInt ∧ b.toInt ≤ 9) : RB N O (ch + 1) (va_up K ch (sz, a, b, 0)) (va_up cf ch f9) dh E Z P ph SC PN LX (upd PR ch a) (upd PA ch b) (upd VD ch 0) DV ZM PM := by
  obtain ⟨a1, a2, a3, a4, a5⟩ := h
  refine ⟨a1, a2, by omega, fun q hq => ?_, a5⟩
  rw [upd_at, upd_at, upd_at]
  by_cases c : q = ch
  · subst c
    rw [va_up_s, va_up_s, if_pos rfl, if_pos rfl, if_pos rfl, hs]
    exact ⟨he, rfl, ha, hb⟩
  · rw [va_up_o c, va_up_o c, if_neg c, if_neg c, if_neg c]
    obtain ⟨g1, g2, g3, g4⟩ := a4 q (by omega)
    exact ⟨fun l hl9 => (hs9_cong (hl _ (Or.inl (by omega)))).trans (g1 l hl9), g2, g3, g4⟩
theorem inl9 {a b c d : Nat} (h : (Sum.inl (a, b) : pR) = Sum.inl (c, d)) : a = c ∧ b = d := by cases h; exact ⟨rfl, rfl⟩
theorem inr9 {a c : Nat} {S T : Nat → Prop} (h : (Sum.inr (a, S) : pR) = Sum.inr (c, T)) : S = T := by cases h; rfl

set_option maxHeartbeats 1000000 in
theorem q_coupon {F : zF} {h : zH} {x m o k N : Nat} {Ω : Nat → Prop} {Q : Nat → Nat} {cu ha un : Int32} {n : Nat} {B : Nat → Int32} {hg at9 fk fp : Int32} {sp : Option Nat} {G : Nat → Option Nat} {T : Nat → zS} {wf lf hf : Nat → Int32} {ff : Nat → Int64} {V : Nat → Int32} {wk : Int32} {hm pm : Int64} {O : Nat → Int32} {C : Nat → Option Nat} {ch : Nat} {D : Nat → Option Nat} {dh : Nat} {E : Nat → zD} {Z : Nat → Int64} {P : Nat → Int32} {ph : Nat} {ca cl cw : Nat → Nat} {K : Nat → Int32 × Int32 × Int32 × Int32} {cf : Nat → Nat → Int64} {wk2 : Int32} {hm2 pm2 : Int64} {O2 : Nat → Int32} {C2 : Nat → Option Nat} {ch2 : Nat} {D2 : Nat → Option Nat} {dh2 : Nat} {E2 : Nat → zD} {Z2 : Nat → Int64} {P2 : Nat → Int32} {ph2 : Nat} {ca2 cl2 cw2 : Nat → Nat} {K2 : Nat → Int32 × Int32 × Int32 × Int32} {cf2 : Nat → Nat → Int64} {v R : Nat → Nat} {ct dt : Int32} {hlt pdt : Int64} {pt hgM th atM sz : Int32} {SC PN LN PR PA VD : Nat → Int32} {DV ZM : Nat → Int64} {PM SC2 PN2 LN2 PR2 PA2 VD2 : Nat → Int32} {DV2 Z2M : Nat → Int64} {P2M PL O1M O2M : Nat → Int32} (L : WD h x m o k N Ω Q cu ha un n B hg at9 fk fp sp G T wf lf hf ff V wk hm pm O C ch D dh E Z P ph ca cl cw K cf wk2 hm2 pm2 O2 C2 ch2 D2 dh2 E2 Z2 P2 ph2 ca2 cl2 cw2 K2 cf2 v R ct dt hlt pdt pt hgM th atM sz SC PN LN PR PA VD DV ZM PM SC2 PN2 LN2 PR2 PA2 VD2 DV2 Z2M P2M PL O1M O2M) (hk : k < 512) (a : Int32) (b : Int32) : PAIRi F yX7_coupon cX7_coupon 5 yX8_coupon cX8_coupon 5 (some .int) x m o k h [.int a, .int b] := by
  obtain ⟨W, M, rfl, s, rb, re, sd, bd, hN⟩ := L
  obtain ⟨rb1, rb2, rb3, rb4, rb5, rb6, rb7, rb8, rb9⟩ := id rb
  obtain ⟨sd1, sd2, sd3, sd4, sd5, sd6, sd7, sd8⟩ := id sd
  refine ⟨_, ⟨(by show 35 ≤ 40; decide), (by show 1050 ≤ 1200; decide), by show h.2.1 + (2 * nn T 16 + 3) ≤ _; omega, by show h.2.2 + (257 * nn T 16 + 262) ≤ _; omega⟩, zMet_mono (p_coupon W rb3 sd1 a b) (fun r h1 q => ?_)⟩
  rcases q with ⟨ok, rfl, W1, fq⟩ | ⟨ok, kd, pl9, hg2, at2, sp2, G2, T2, hp, rfl, W1, fx, u1, u2⟩ | ⟨ok, qq, S, hg2, at2, sp2, G2, T2, cp, s9, sw, f9, hp, rfl, W1, hS, hcp, fx, u1, u2⟩
  · have fx := frx_q fq
    have M1 := M.kf s fx
    have e2 := fq.2
    refine ⟨⟨_, M1.o⟩, by rw [e2]; exact ⟨by omega, by omega⟩, ⟨_, rfl⟩, _, ⟨by decide, by decide, rfl, rfl⟩, zMet_mono (m_coupon (F := F) M1 sd1 rb3 a b) (fun r2 h2 q2 => ?_)⟩
    rcases q2 with ⟨-, rfl, M2⟩ | ⟨ok2, -⟩ | ⟨ok2, -⟩
    · exact ⟨rfl, LW.fin W1 M2 rfl (s.kf fx) rb re ⟨by omega, sd2, sd3, sd4, sd5, sd6, sd7, sd8⟩ (by rw [e2]; exact ⟨by omega, by omega⟩) (by omega)⟩
    · exact absurd ok2 ok
    · exact absurd ok2 ok
  · have M1 := M.kf s fx
    refine ⟨⟨_, M1.o⟩, ⟨by omega, by omega⟩, ⟨_, rfl⟩, _, ⟨by decide, by decide, rfl, rfl⟩, zMet_mono (m_coupon (F := F) M1 sd1 rb3 a b) (fun r2 h2 q2 => ?_)⟩
    rcases q2 with ⟨no, -⟩ | ⟨-, kd2, pl2, hg3, at3, PL2, O12, O22, hp2, rfl, M2⟩ | ⟨-, q3, S3, hg3, at3, LX, PL2, O12, O22, hp2, -⟩
    · exact absurd ok no
    · obtain ⟨rfl, rfl⟩ := inl9 (hp.symm.trans hp2)
      exact ⟨rfl, LW.fin W1 M2 rfl (SP.kn M s fx) rb re ⟨by omega, sd2, sd3, sd4, sd5, sd6, sd7, sd8⟩ ⟨by omega, by omega⟩ (by omega)⟩
    · exact absurd (hp.symm.trans hp2) (fun e => nomatch e)
  · have M1 := M.kf s fx
    refine ⟨⟨_, M1.o⟩, ⟨by omega, by omega⟩, ⟨_, rfl⟩, _, ⟨by decide, by decide, rfl, rfl⟩, zMet_mono (m_coupon (F := F) M1 sd1 rb3 a b) (fun r2 h2 q2 => ?_)⟩
    rcases q2 with ⟨no, -⟩ | ⟨-, kd2, pl2, hg3, at3, PL2, O12, O22, hp2, -⟩ | ⟨-, q3, S3, hg3, at3, LX, PL2, O12, O22, hp2, rfl, M2, hLX, hS3⟩
    · exact absurd ok no
    · exact absurd (hp.symm.trans hp2) (fun e => nomatch e)
    · have eS := inr9 (hp.symm.trans hp2)
      subst eS
      have he : eqS (hs9 LX ch) (lb f9) := fun l hl => Bool.eq_iff_iff.mpr ((hS3 l hl).trans (hS l hl).symm)
      refine ⟨rfl, LW.fin W1 M2 rfl (SP.kn M s fx) (rb.add ok.2.2 hLX he (by rw [lb_sm]) (isIn_b ok.1) (isIn_b ok.2.1)) (fun c => ?_) ⟨by omega, sd2, sd3, sd4, sd5, sd6, fun q hq => (by rw [upd_at]; split; exact Or.inl rfl; exact sd7 q hq), sd8⟩ ⟨by omega, by omega⟩ (by omega)⟩
      obtain ⟨g1, g2, g3, g4, g5, g6, g7, g8⟩ := re c
      refine ⟨g1, g2, g3, g4, g5, g6, g7, fun q r hq hr => ?_⟩
      by_cases c9 : q = ch
      · subst c9; rw [va_up_s]; exact hcp c r hr
      · rw [va_up_o c9]; exact g8 q r (by omega) hr
