set_option maxHeartbeats 1000000 in
theorem q_house {F : zF} {h : zH} {x m o k N : Nat} {Ω : Nat → Prop} {Q : Nat → Nat} {cu ha un : Int32} {n : Nat} {B : Nat → Int32} {hg at9 fk fp : Int32} {sp : Option Nat} {G : Nat → Option Nat} {T : Nat → zS} {wf lf hf : Nat → Int32} {ff : Nat → Int64} {V : Nat → Int32} {wk : Int32} {hm pm : Int64} {O : Nat → Int32} {C : Nat → Option Nat} {ch : Nat} {D : Nat → Option Nat} {dh : Nat} {E : Nat → zD} {Z : Nat → Int64} {P : Nat → Int32} {ph : Nat} {ca cl cw : Nat → Nat} {K : Nat → Int32 × Int32 × Int32 × Int32} {cf : Nat → Nat → Int64} {wk2 : Int32} {hm2 pm2 : Int64} {O2 : Nat → Int32} {C2 : Nat → Option Nat} {ch2 : Nat} {D2 : Nat → Option Nat} {dh2 : Nat} {E2 : Nat → zD} {Z2 : Nat → Int64} {P2 : Nat → Int32} {ph2 : Nat} {ca2 cl2 cw2 : Nat → Nat} {K2 : Nat → Int32 × Int32 × Int32 × Int32} {cf2 : Nat → Nat → Int64} {v R : Nat → Nat} {ct dt : Int32} {hlt pdt : Int64} {pt hgM th atM sz : Int32} {SC PN LN PR PA VD : Nat → Int32} {DV ZM : Nat → Int64} {PM SC2 PN2 LN2 PR2 PA2 VD2 : Nat → Int32} {DV2 Z2M : Nat → Int64} {P2M PL O1M O2M : Nat → Int32} (L : WD h x m o k N Ω Q cu ha un n B hg at9 fk fp sp G T wf lf hf ff V wk hm pm O C ch D dh E Z P ph ca cl cw K cf wk2 hm2 pm2 O2 C2 ch2 D2 dh2 E2 Z2 P2 ph2 ca2 cl2 cw2 K2 cf2 v R ct dt hlt pdt pt hgM th atM sz SC PN LN PR PA VD DV ZM PM SC2 PN2 LN2 PR2 PA2 VD2 DV2 Z2M P2M PL O1M O2M) (hk : k < 512) (a : Int32) (b : Int32) : PAIRi F yX7_house cX7_house 4 yX8_house cX8_house 4 (some .int) x m o k h [.int a, .int b] := by
  obtain ⟨W, M, rfl, s, rb, re, sd, bd, hN⟩ := L
  obtain ⟨rb1, rb2, rb3, rb4, rb5, rb6, rb7, rb8, rb9⟩ := id rb
  obtain ⟨sd1, sd2, sd3, sd4, sd5, sd6, sd7, sd8⟩ := id sd
  obtain ⟨x0, t1, t2, r3, r4, sp9, gg, ls, lsd, s5, s6, s7, s8, s9, v30, bn, be, kn, ke, hQ⟩ := id W
  obtain ⟨b0, b1, b2, b3, b4, b5, bD, bE, bC⟩ := id bn
  by_cases c : okH0 a b
  · have PX := p_house (F := F) W a b
    rw [if_pos c, if_pos c] at PX
    refine ⟨_, ⟨by decide, by decide, by show h.2.1 + 0 ≤ _; omega, by show h.2.2 + 0 ≤ _; omega⟩, zMet_mono PX (fun r h1 q => ?_)⟩
    obtain ⟨rfl, e1⟩ := q
    have fx : frx Ω h h1 := by rw [e1]; exact frx_s x0.2
    have M1 := M.kf s fx
    have s1 := s.kf fx
    have e2 : h1.2 = h.2 := by subst e1; rfl
    have Q9 := m_house (F := F) M1.o a b
    rw [if_pos c, if_pos c] at Q9
    refine ⟨⟨_, M1.o⟩, by rw [e2]; exact ⟨by omega, by omega⟩, ⟨_, rfl⟩, _, ⟨by decide, by decide, rfl, rfl⟩, zMet_mono Q9 (fun r2 h2 q2 => ?_)⟩
    obtain ⟨rfl, rfl⟩ := q2
    have bd2 : h1.2.1 + 2 * nn T 16 ≤ 120 + 3 * (k + 1) ∧ h1.2.2 + 257 * nn T 16 ≤ 325000 + 262 * (k + 1) := by rw [e2]; exact ⟨by omega, by omega⟩
    subst e1
    exact ⟨rfl, LW.fin (W.u0 b un) (M1.so _) rfl s1 rb re ⟨sd1, isIn_b c.2, sd3, sd4, sd5, sd6, sd7, sd8⟩ bd2 (by omega)⟩
  · by_cases c2 : okH1 a b
    · have PX := p_house (F := F) W a b
      rw [if_neg c, if_neg c, if_pos c2, if_pos c2] at PX
      refine ⟨_, ⟨by decide, by decide, by show h.2.1 + 0 ≤ _; omega, by show h.2.2 + 0 ≤ _; omega⟩, zMet_mono PX (fun r h1 q => ?_)⟩
      obtain ⟨rfl, e1⟩ := q
      have fx : frx Ω h h1 := by rw [e1]; exact frx_s x0.2
      have M1 := M.kf s fx
      have s1 := s.kf fx
      have e2 : h1.2 = h.2 := by subst e1; rfl
      have Q9 := m_house (F := F) M1.o a b
      rw [if_neg c, if_neg c, if_pos c2, if_pos c2] at Q9
      refine ⟨⟨_, M1.o⟩, by rw [e2]; exact ⟨by omega, by omega⟩, ⟨_, rfl⟩, _, ⟨by decide, by decide, rfl, rfl⟩, zMet_mono Q9 (fun r2 h2 q2 => ?_)⟩
      obtain ⟨rfl, rfl⟩ := q2
      have bd2 : h1.2.1 + 2 * nn T 16 ≤ 120 + 3 * (k + 1) ∧ h1.2.2 + 257 * nn T 16 ≤ 325000 + 262 * (k + 1) := by rw [e2]; exact ⟨by omega, by omega⟩
      subst e1
      exact ⟨rfl, LW.fin (W.u0 ha b) (M1.so _) rfl s1 rb re ⟨sd1, sd2, isIn_b c2.2, sd4, sd5, sd6, sd7, sd8⟩ bd2 (by omega)⟩
    · have PX := p_house (F := F) W a b
      rw [if_neg c, if_neg c, if_neg c2, if_neg c2] at PX
      refine ⟨_, ⟨by decide, by decide, by show h.2.1 + 0 ≤ _; omega, by show h.2.2 + 0 ≤ _; omega⟩, zMet_mono PX (fun r h1 q => ?_)⟩
      obtain ⟨rfl, e1⟩ := q
      have fx : frx Ω h h1 := by rw [e1]; exact frx_r
      have M1 := M.kf s fx
      have s1 := s.kf fx
      have e2 : h1.2 = h.2 := by subst e1; rfl
      have Q9 := m_house (F := F) M1.o a b
      rw [if_neg c, if_neg c, if_neg c2, if_neg c2] at Q9
      refine ⟨⟨_, M1.o⟩, by rw [e2]; exact ⟨by omega, by omega⟩, ⟨_, rfl⟩, _, ⟨by decide, by decide, rfl, rfl⟩, zMet_mono Q9 (fun r2 h2 q2 => ?_)⟩
      obtain ⟨rfl, rfl⟩ := q2
      have bd2 : h1.2.1 + 2 * nn T 16 ≤ 120 + 3 * (k + 1) ∧ h1.2.2 + 257 * nn T 16 ≤ 325000 + 262 * (k + 1) := by rw [e2]; exact ⟨by omega, by omega⟩
      subst e1
      exact ⟨rfl, LW.fin (W) (M1.so _) rfl s1 rb re sd bd2 (by omega)⟩

theorem RB.tear {t : Nat} {i9 : Int32} {N : Nat} {O : Nat → Int32} {ch : Nat} {K : Nat → Int32 × Int32 × Int32 × Int32} {cf : Nat → Nat → Int64} {dh : Nat} {E : Nat → zD} {Z : Nat → Int64} {P : Nat → Int32} {ph : Nat} {SC PN LN PR PA VD : Nat → Int32} {DV ZM : Nat → Int64} {PM : Nat → Int32} (h : RB N O ch K cf dh E Z P ph SC PN LN PR PA VD DV ZM PM) : RB N O ch (va_up K t ((K t).1, (K t).2.1, (K t).2.2.1, i9)) cf dh E Z P ph SC PN LN PR PA (upd VD t i9) DV ZM PM := by
  obtain ⟨a1, a2, a3, a4, a5⟩ := h
  refine ⟨a1, a2, a3, fun q hq => ?_, a5⟩
  obtain ⟨g1, g2, g3, g4⟩ := a4 q hq
  refine ⟨g1, ?_, g3, g4⟩
  rw [upd_at]
  by_cases c : q = t
  · subst c; rw [va_up_s, if_pos rfl, g2]
  · rw [va_up_o c, if_neg c, g2]

set_option maxHeartbeats 1000000 in
theorem q_tear {F : zF} {h : zH} {x m o k N : Nat} {Ω : Nat → Prop} {Q : Nat → Nat} {cu ha un : Int32} {n : Nat} {B : Nat → Int32} {hg at9 fk fp : Int32} {sp : Option Nat} {G : Nat → Option Nat} {T : Nat → zS} {wf lf hf : Nat → Int32} {ff : Nat → Int64} {V : Nat → Int32} {wk : Int32} {hm pm : Int64} {O : Nat → Int32} {C : Nat → Option Nat} {ch : Nat} {D : Nat → Option Nat} {dh : Nat} {E : Nat → zD} {Z : Nat → Int64} {P : Nat → Int32} {ph : Nat} {ca cl cw : Nat → Nat} {K : Nat → Int32 × Int32 × Int32 × Int32} {cf : Nat → Nat → Int64} {wk2 : Int32} {hm2 pm2 : Int64} {O2 : Nat → Int32} {C2 : Nat → Option Nat} {ch2 : Nat} {D2 : Nat → Option Nat} {dh2 : Nat} {E2 : Nat → zD} {Z2 : Nat → Int64} {P2 : Nat → Int32} {ph2 : Nat} {ca2 cl2 cw2 : Nat → Nat} {K2 : Nat → Int32 × Int32 × Int32 × Int32} {cf2 : Nat → Nat → Int64} {v R : Nat → Nat} {ct dt : Int32} {hlt pdt : Int64} {pt hgM th atM sz : Int32} {SC PN LN PR PA VD : Nat → Int32} {DV ZM : Nat → Int64} {PM SC2 PN2 LN2 PR2 PA2 VD2 : Nat → Int32} {DV2 Z2M : Nat → Int64} {P2M PL O1M O2M : Nat → Int32} (L : WD h x m o k N Ω Q cu ha un n B hg at9 fk fp sp G T wf lf hf ff V wk hm pm O C ch D dh E Z P ph ca cl cw K cf wk2 hm2 pm2 O2 C2 ch2 D2 dh2 E2 Z2 P2 ph2 ca2 cl2 cw2 K2 cf2 v R ct dt hlt pdt pt hgM th atM sz SC PN LN PR PA VD DV ZM PM SC2 PN2 LN2 PR2 PA2 VD2 DV2 Z2M P2M PL O1M O2M) (hk : k < 512) (a : Int32) (b : Int32) (h01 : b = 0 ∨ b = 1) : PAIRi F yX7_tear cX7_tear 4 yX8_tear cX8_tear 3 (some .boolean) x m o k h [.int a, .int b] := by
  obtain ⟨W, M, rfl, s, rb, re, sd, bd, hN⟩ := L
  obtain ⟨rb1, rb2, rb3, rb4, rb5, rb6, rb7, rb8, rb9⟩ := id rb
  obtain ⟨sd1, sd2, sd3, sd4, sd5, sd6, sd7, sd8⟩ := id sd
  obtain ⟨x0, t1, t2, r3, r4, sp9, gg, ls, lsd, s5, s6, s7, s8, s9, v30, bn, be, kn, ke, hQ⟩ := id W
  obtain ⟨b0, b1, b2, b3, b4, b5, bD, bE, bC⟩ := id bn
  by_cases c : x_C ch a = 0
  · have PX := p_tear (F := F) W rb3 a b h01
    rw [if_pos c] at PX
    refine ⟨_, ⟨by decide, by decide, by show h.2.1 + 0 ≤ _; omega, by show h.2.2 + 0 ≤ _; omega⟩, zMet_mono PX (fun r h1 q => ?_)⟩
    obtain ⟨rfl, e1⟩ := q
    have fx : frx Ω h h1 := by rw [e1]; exact frx_r
    have M1 := M.kf s fx
    have s1 := s.kf fx
    have e2 : h1.2 = h.2 := by subst e1; rfl
    have Q9 := m_tear (F := F) M1.o M1.k7 rb3 a b h01
    rw [if_pos c] at Q9
    refine ⟨⟨_, M1.o⟩, by rw [e2]; exact ⟨by omega, by omega⟩, ⟨_, rfl⟩, _, ⟨by decide, by decide, rfl, rfl⟩, zMet_mono Q9 (fun r2 h2 q2 => ?_)⟩
    obtain ⟨rfl, rfl⟩ := q2
    have bd2 : h1.2.1 + 2 * nn T 16 ≤ 120 + 3 * (k + 1) ∧ h1.2.2 + 257 * nn T 16 ≤ 325000 + 262 * (k + 1) := by rw [e2]; exact ⟨by omega, by omega⟩
    subst e1
    exact ⟨rfl, LW.fin (W) (M1.so _) rfl s1 rb re sd bd2 (by omega)⟩
  · obtain ⟨t, ht, rfl⟩ := x_C_k (by omega) c
    have PX := p_tear (F := F) W rb3 (nI t) b h01
    rw [if_neg c, nI_clamp (by omega)] at PX
    refine ⟨_, ⟨by decide, by decide, by show h.2.1 + 0 ≤ _; omega, by show h.2.2 + 0 ≤ _; omega⟩, zMet_mono PX (fun r h1 q => ?_)⟩
    obtain ⟨rfl, e1⟩ := q
    have fx : frx Ω h h1 := by rw [e1]; exact frx_s (kn.2.1 t ht).2
    have M1 := M.kf s fx
    have s1 := s.kf fx
    have e2 : h1.2 = h.2 := by subst e1; rfl
    have Q9 := m_tear (F := F) M1.o M1.k7 rb3 (nI t) b h01
    rw [if_neg c, nI_clamp (by omega)] at Q9
    refine ⟨⟨_, M1.o⟩, by rw [e2]; exact ⟨by omega, by omega⟩, ⟨_, rfl⟩, _, ⟨by decide, by decide, rfl, rfl⟩, zMet_mono Q9 (fun r2 h2 q2 => ?_)⟩
    obtain ⟨rfl, rfl⟩ := q2
    have bd2 : h1.2.1 + 2 * nn T 16 ≤ 120 + 3 * (k + 1) ∧ h1.2.2 + 257 * nn T 16 ≤ 325000 + 262 * (k + 1) := by rw [e2]; exact ⟨by omega, by omega⟩
    subst e1
    exact ⟨rfl, LW.fin (W.uc ht b (fun q => (re q).2.2.2.2.2.2.2)) ((M1.so _).s7 _) rfl s1 rb.tear re ⟨sd1, sd2, sd3, sd4, sd5, sd6, fun q hq => (by rw [upd_at]; split; exact h01; exact sd7 q hq), sd8⟩ bd2 (by omega)⟩

set_option maxHeartbeats 1000000 in
theorem q_repeal {F : zF} {h : zH} {x m o k N : Nat} {Ω : Nat → Prop} {Q : Nat → Nat} {cu ha un : Int32} {n : Nat} {B : Nat → Int32} {hg at9 fk fp : Int32} {sp : Option Nat} {G : Nat → Option Nat} {T : Nat → zS} {wf lf hf : Nat → Int32} {ff : Nat → Int64} {V : Nat → Int32} {wk : Int32} {hm pm : Int64} {O : Nat → Int32} {C : Nat → Option Nat} {ch : Nat} {D : Nat → Option Nat} {dh : Nat} {E : Nat → zD} {Z : Nat → Int64} {P : Nat → Int32} {ph : Nat} {ca cl cw : Nat → Nat} {K : Nat → Int32 × Int32 × Int32 × Int32} {cf : Nat → Nat → Int64} {wk2 : Int32} {hm2 pm2 : Int64} {O2 : Nat → Int32} {C2 : Nat → Option Nat} {ch2 : Nat} {D2 : Nat → Option Nat} {dh2 : Nat} {E2 : Nat → zD} {Z2 : Nat → Int64} {P2 : Nat → Int32} {ph2 : Nat} {ca2 cl2 cw2 : Nat → Nat} {K2 : Nat → Int32 × Int32 × Int32 × Int32} {cf2 : Nat → Nat → Int64} {v R : Nat → Nat} {ct dt : Int32} {hlt pdt : Int64} {pt hgM th atM sz : Int32} {SC PN LN PR PA VD : Nat → Int32} {DV ZM : Nat → Int64} {PM SC2 PN2 LN2 PR2 PA2 VD2 : Nat → Int32} {DV2 Z2M : Nat → Int64} {P2M PL O1M O2M : Nat → Int32} (L : WD h x m o k N Ω Q cu ha un n B hg at9 fk fp sp G T wf lf hf ff V wk hm pm O C ch D dh E Z P ph ca cl cw K cf wk2 hm2 pm2 O2 C2 ch2 D2 dh2 E2 Z2 P2 ph2 ca2 cl2 cw2 K2 cf2 v R ct dt hlt pdt pt hgM th atM sz SC PN LN PR PA VD DV ZM PM SC2 PN2 LN2 PR2 PA2 VD2 DV2 Z2M P2M PL O1M O2M) (hk : k < 512)  : PAIRi F yX7_repeal cX7_repeal 1 yX8_repeal cX8_repeal 2 (some .int) x m o k h [] := by
  obtain ⟨W, M, rfl, s, rb, re, sd, bd, hN⟩ := L
  obtain ⟨rb1, rb2, rb3, rb4, rb5, rb6, rb7, rb8, rb9⟩ := id rb
  obtain ⟨sd1, sd2, sd3, sd4, sd5, sd6, sd7, sd8⟩ := id sd
  obtain ⟨x0, t1, t2, r3, r4, sp9, gg, ls, lsd, s5, s6, s7, s8, s9, v30, bn, be, kn, ke, hQ⟩ := id W
  obtain ⟨b0, b1, b2, b3, b4, b5, bD, bE, bC⟩ := id bn
  have e9 := sumL_cong (f := fun d => (E d).2.2.2.1) (g := fun e => DV (6 * e + 3)) (fun q hq => ((rb6 q hq).2.2.2.1).symm)
  have PX := p_repeal (F := F) W rb5
  rw [e9] at PX
  refine ⟨_, ⟨by decide, by decide, by show h.2.1 + 0 ≤ _; omega, by show h.2.2 + 0 ≤ _; omega⟩, zMet_mono PX (fun r h1 q => ?_)⟩
  obtain ⟨rfl, e1⟩ := q
  have fx : frx Ω h h1 := by rw [e1]; exact frx_s b0.2
  have M1 := M.kf s fx
  have s1 := s.kf fx
  have e2 : h1.2 = h.2 := by subst e1; rfl
  have Q9 := m_repeal (F := F) M1.o M1.k8 rb5
  refine ⟨⟨_, M1.o⟩, by rw [e2]; exact ⟨by omega, by omega⟩, ⟨_, rfl⟩, _, ⟨by decide, by decide, rfl, rfl⟩, zMet_mono Q9 (fun r2 h2 q2 => ?_)⟩
  obtain ⟨rfl, rfl⟩ := q2
  have bd2 : h1.2.1 + 2 * nn T 16 ≤ 120 + 3 * (k + 1) ∧ h1.2.2 + 257 * nn T 16 ≤ 325000 + 262 * (k + 1) := by rw [e2]; exact ⟨by omega, by omega⟩
  subst e1
  exact ⟨rfl, LW.fin (W.u10 _ _ _ 0) (M1.so _) rfl s1 ⟨rb1, rb2, rb3, rb4, by omega, fun d hd => absurd hd (Nat.not_lt_zero d), ⟨fun d hd => absurd hd (Nat.not_lt_zero d), fun d hd => absurd hd (Nat.not_lt_zero _)⟩, rb8, rb9⟩ re sd bd2 (by omega)⟩

theorem dv6_R {DV : Nat → Int64} {E : Nat → zD} {d : Nat} (l s c : Int32) (h : dvR DV E d) : dvR (dv6 DV d l s c) (va_up E d (l, s, c, 0, 0, 0)) (d + 1) := by
  intro e he
  unfold dv6
  by_cases q : e = d
  · subst q
    rw [va_up_s]
    refine ⟨?_, ?_, ?_, ?_, ?_, ?_⟩
    · rw [pk_uLn (by omega), pk_uLn (by omega), pk_uLn (by omega), pk_uLn (by omega), pk_uLn (by omega), pk_uLs]
    · rw [pk_uLn (by omega), pk_uLn (by omega), pk_uLn (by omega), pk_uLn (by omega), pk_uLs]
    · rw [pk_uLn (by omega), pk_uLn (by omega), pk_uLn (by omega), pk_uLs]
    · rw [pk_uLn (by omega), pk_uLn (by omega), pk_uLs]
    · rw [pk_uLn (by omega), pk_uLs]
    · rw [pk_uLs]
  · rw [va_up_o q]
    obtain ⟨h0, h1, h2, h3, h4, h5⟩ := h e (by omega)
    refine ⟨?_, ?_, ?_, ?_, ?_, ?_⟩ <;> (rw [pk_uLn (by omega), pk_uLn (by omega), pk_uLn (by omega), pk_uLn (by omega), pk_uLn (by omega), pk_uLn (by omega)]; assumption)
theorem okE_add {N : Nat} {E : Nat → zD} {d : Nat} {l s c : Int32} (h : okE N E d) (hl : 0 ≤ l.toInt ∧ l.toInt ≤ 90) (hs : 0 ≤ s.toInt ∧ s.toInt ≤ 100) (hc : 1 ≤ c.toInt ∧ c.toInt ≤ 1000000) (hd : d = 0 ∨ l < (E (d - 1)).1) : okE N (va_up E d (l, s, c, 0, 0, 0)) (d + 1) := by
  refine ⟨fun e he => ?_, fun e he => ?_⟩
  · by_cases q : e = d
    · subst q
      rw [va_up_s]
      exact ⟨hl, hs, hc, by show 0 ≤ (0 : Int64).toInt; decide, by show (0 : Int64).toInt ≤ _; rw [show (0 : Int64).toInt = 0 from rfl]; omega⟩
    · rw [va_up_o q]; exact h.1 e (by omega)
  · rw [va_up_o (show e ≠ d by omega)]
    by_cases q : e + 1 = d
    · subst q
      rw [va_up_s]
      rcases hd with hd | hd
      · omega
      · rw [show e + 1 - 1 = e from rfl, fa_lt] at hd; exact hd
    · rw [va_up_o q]; exact h.2 e (by omega)

set_option maxHeartbeats 1000000 in
theorem q_dividend {F : zF} {h : zH} {x m o k N : Nat} {Ω : Nat → Prop} {Q : Nat → Nat} {cu ha un : Int32} {n : Nat} {B : Nat → Int32} {hg at9 fk fp : Int32} {sp : Option Nat} {G : Nat → Option Nat} {T : Nat → zS} {wf lf hf : Nat → Int32} {ff : Nat → Int64} {V : Nat → Int32} {wk : Int32} {hm pm : Int64} {O : Nat → Int32} {C : Nat → Option Nat} {ch : Nat} {D : Nat → Option Nat} {dh : Nat} {E : Nat → zD} {Z : Nat → Int64} {P : Nat → Int32} {ph : Nat} {ca cl cw : Nat → Nat} {K : Nat → Int32 × Int32 × Int32 × Int32} {cf : Nat → Nat → Int64} {wk2 : Int32} {hm2 pm2 : Int64} {O2 : Nat → Int32} {C2 : Nat → Option Nat} {ch2 : Nat} {D2 : Nat → Option Nat} {dh2 : Nat} {E2 : Nat → zD} {Z2 : Nat → Int64} {P2 : Nat → Int32} {ph2 : Nat} {ca2 cl2 cw2 : Nat → Nat} {K2 : Nat → Int32 × Int32 × Int32 × Int32} {cf2 : Nat → Nat → Int64} {v R : Nat → Nat} {ct dt : Int32} {hlt pdt : Int64} {pt hgM th atM sz : Int32} {SC PN LN PR PA VD : Nat → Int32} {DV ZM : Nat → Int64} {PM SC2 PN2 LN2 PR2 PA2 VD2 : Nat → Int32} {DV2 Z2M : Nat → Int64} {P2M PL O1M O2M : Nat → Int32} (L : WD h x m o k N Ω Q cu ha un n B hg at9 fk fp sp G T wf lf hf ff V wk hm pm O C ch D dh E Z P ph ca cl cw K cf wk2 hm2 pm2 O2 C2 ch2 D2 dh2 E2 Z2 P2 ph2 ca2 cl2 cw2 K2 cf2 v R ct dt hlt pdt pt hgM th atM sz SC PN LN PR PA VD DV ZM PM SC2 PN2 LN2 PR2 PA2 VD2 DV2 Z2M P2M PL O1M O2M) (hk : k < 512) (a : Int32) (b : Int32) (d : Int32) : PAIRi F yX7_dividend cX7_dividend 4 yX8_dividend cX8_dividend 7 (some .int) x m o k h [.int a, .int b, .int d] := by
  obtain ⟨W, M, rfl, s, rb, re, sd, bd, hN⟩ := L
  obtain ⟨rb1, rb2, rb3, rb4, rb5, rb6, rb7, rb8, rb9⟩ := id rb
  obtain ⟨sd1, sd2, sd3, sd4, sd5, sd6, sd7, sd8⟩ := id sd
  obtain ⟨x0, t1, t2, r3, r4, sp9, gg, ls, lsd, s5, s6, s7, s8, s9, v30, bn, be, kn, ke, hQ⟩ := id W
  obtain ⟨b0, b1, b2, b3, b4, b5, bD, bE, bC⟩ := id bn
  refine ⟨_, ⟨by decide, by decide, by show h.2.1 + 0 ≤ _; omega, by show h.2.2 + 0 ≤ _; omega⟩, zMet_mono (p_dividend W rb5 a b d) (fun r h1 q => ?_)⟩
  rcases q with ⟨ok, rfl, e1⟩ | ⟨ok, rfl, e1⟩
  · have hd4 : dh < 4 := ok.2.2.2.1
    have fx : frx Ω h h1 := by rw [e1]; exact (frx_s (bE dh hd4).2).tr (frx_s b0.2)
    have M1 := M.kf s fx
    have s1 := s.kf fx
    have e2 : h1.2 = h.2 := by subst e1; rfl
    refine ⟨⟨_, M1.o⟩, by rw [e2]; exact ⟨by omega, by omega⟩, ⟨_, rfl⟩, _, ⟨by decide, by decide, rfl, rfl⟩, zMet_mono (m_dividend (F := F) M1.o M1.k8 rb5 a b d) (fun r2 h2 q2 => ?_)⟩
    rcases q2 with ⟨ok2, rfl, rfl⟩ | ⟨ok2, rfl, rfl⟩
    · have bd2 : h1.2.1 + 2 * nn T 16 ≤ 120 + 3 * (k + 1) ∧ h1.2.2 + 257 * nn T 16 ≤ 325000 + 262 * (k + 1) := by rw [e2]; exact ⟨by omega, by omega⟩
      subst e1
      exact ⟨rfl, LW.fin ((W.ud hd4 (a, b, d, 0, 0, 0)).u10 wk hm pm (dh + 1)) (((M1.so _).s8 _).so _) rfl s1 ⟨rb1, rb2, rb3, rb4, by omega, dv6_R a b d rb6, okE_add rb7 (isIn_b ok.1) (isIn_b ok.2.1) (isIn_b ok.2.2.1) ok.2.2.2.2.1, rb8, rb9⟩ re sd bd2 (by omega)⟩
    · exact absurd ((okD_eq rb5 rb7 rb6).mp ok) ok2
  · subst e1
    refine ⟨⟨_, M.o⟩, ⟨by omega, by omega⟩, ⟨_, rfl⟩, _, ⟨by decide, by decide, rfl, rfl⟩, zMet_mono (m_dividend (F := F) M.o M.k8 rb5 a b d) (fun r2 h2 q2 => ?_)⟩
    rcases q2 with ⟨ok2, rfl, rfl⟩ | ⟨ok2, rfl, rfl⟩
    · exact absurd ((okD_eq rb5 rb7 rb6).mpr ok2) ok
    · exact ⟨rfl, LW.fin W (M.so _) rfl s rb re sd ⟨by omega, by omega⟩ (by omega)⟩
