set_option maxHeartbeats 1000000 in
theorem q_win {F : zF} {h : zH} {x m o k N : Nat} {Ω : Nat → Prop} {Q : Nat → Nat} {cu ha un : Int32} {n : Nat} {B : Nat → Int32} {hg at9 fk fp : Int32} {sp : Option Nat} {G : Nat → Option Nat} {T : Nat → zS} {wf lf hf : Nat → Int32} {ff : Nat → Int64} {V : Nat → Int32} {wk : Int32} {hm pm : Int64} {O : Nat → Int32} {C : Nat → Option Nat} {ch : Nat} {D : Nat → Option Nat} {dh : Nat} {E : Nat → zD} {Z : Nat → Int64} {P : Nat → Int32} {ph : Nat} {ca cl cw : Nat → Nat} {K : Nat → Int32 × Int32 × Int32 × Int32} {cf : Nat → Nat → Int64} {wk2 : Int32} {hm2 pm2 : Int64} {O2 : Nat → Int32} {C2 : Nat → Option Nat} {ch2 : Nat} {D2 : Nat → Option Nat} {dh2 : Nat} {E2 : Nat → zD} {Z2 : Nat → Int64} {P2 : Nat → Int32} {ph2 : Nat} {ca2 cl2 cw2 : Nat → Nat} {K2 : Nat → Int32 × Int32 × Int32 × Int32} {cf2 : Nat → Nat → Int64} {v R : Nat → Nat} {ct dt : Int32} {hlt pdt : Int64} {pt hgM th atM sz : Int32} {SC PN LN PR PA VD : Nat → Int32} {DV ZM : Nat → Int64} {PM SC2 PN2 LN2 PR2 PA2 VD2 : Nat → Int32} {DV2 Z2M : Nat → Int64} {P2M PL O1M O2M : Nat → Int32} (L : WD h x m o k N Ω Q cu ha un n B hg at9 fk fp sp G T wf lf hf ff V wk hm pm O C ch D dh E Z P ph ca cl cw K cf wk2 hm2 pm2 O2 C2 ch2 D2 dh2 E2 Z2 P2 ph2 ca2 cl2 cw2 K2 cf2 v R ct dt hlt pdt pt hgM th atM sz SC PN LN PR PA VD DV ZM PM SC2 PN2 LN2 PR2 PA2 VD2 DV2 Z2M P2M PL O1M O2M) (hk : k < 512) (a : Int32) (b : Int32) : PAIRi F yX7_win cX7_win 4 yX8_win cX8_win 3 (some .int) x m o k h [.int a, .int b] := by
  obtain ⟨W, M, rfl, s, rb, re, sd, bd, hN⟩ := L
  obtain ⟨rb1, rb2, rb3, rb4, rb5, rb6, rb7, rb8, rb9⟩ := id rb
  obtain ⟨sd1, sd2, sd3, sd4, sd5, sd6, sd7, sd8⟩ := id sd
  have hO : okO (mo SC PN) := fun q hq => by rw [rb1 q hq]; exact rb2 q hq
  have hw : ∀ n, wt (wO (mo SC PN) v (0)) n = wt (wO O v (0)) n := wt_eq (fun m hm => by unfold wO; rw [rb1 m hm])
  have hU : ∀ m, wO O v (0) m ≤ 9 := wO_le sd6 (by decide)
  refine ⟨_, ⟨by decide, by decide, by show h.2.1 + 0 ≤ _; omega, by show h.2.2 + 0 ≤ _; omega⟩, zMet_mono (p_win W rb2 sd5 sd6 rb3 a b) (fun r h1 q => ?_)⟩
  obtain ⟨rfl, ⟨w2, l2, f2, L2, W1⟩, fq⟩ := q
  have fx := frx_q fq
  have M1 := M.kf s fx
  have e2 := fq.2
  refine ⟨⟨_, M1.o⟩, by rw [e2]; exact ⟨by omega, by omega⟩, ⟨_, rfl⟩, _, ⟨by decide, by decide, rfl, rfl⟩, zMet_mono (m_win M1.o M1.k0 M1.k1 M1.k2 M1.k4 hO sd5 sd6 rb3 a b) (fun r2 h2 q2 => ?_)⟩
  obtain ⟨rfl, rfl⟩ := q2
  exact ⟨ans (by
    by_cases c : x_C ch a = 0
    · rw [if_pos c, if_pos c]
    · obtain ⟨t, ht, rfl⟩ := x_C_k (by omega) c
      have et : (nI t).toNatClampNeg = t := nI_clamp (by omega)
      rw [if_neg c, if_neg c, et]
      obtain ⟨g1, g2, g3, g4⟩ := rb4 t ht
      rw [win_eq hU b, btw_eq hw g1]), LW.fin W1 (M1.so _) rfl (s.kf fx) rb re sd (by rw [e2]; exact ⟨by omega, by omega⟩) (by omega)⟩

set_option maxHeartbeats 1000000 in
theorem q_best {F : zF} {h : zH} {x m o k N : Nat} {Ω : Nat → Prop} {Q : Nat → Nat} {cu ha un : Int32} {n : Nat} {B : Nat → Int32} {hg at9 fk fp : Int32} {sp : Option Nat} {G : Nat → Option Nat} {T : Nat → zS} {wf lf hf : Nat → Int32} {ff : Nat → Int64} {V : Nat → Int32} {wk : Int32} {hm pm : Int64} {O : Nat → Int32} {C : Nat → Option Nat} {ch : Nat} {D : Nat → Option Nat} {dh : Nat} {E : Nat → zD} {Z : Nat → Int64} {P : Nat → Int32} {ph : Nat} {ca cl cw : Nat → Nat} {K : Nat → Int32 × Int32 × Int32 × Int32} {cf : Nat → Nat → Int64} {wk2 : Int32} {hm2 pm2 : Int64} {O2 : Nat → Int32} {C2 : Nat → Option Nat} {ch2 : Nat} {D2 : Nat → Option Nat} {dh2 : Nat} {E2 : Nat → zD} {Z2 : Nat → Int64} {P2 : Nat → Int32} {ph2 : Nat} {ca2 cl2 cw2 : Nat → Nat} {K2 : Nat → Int32 × Int32 × Int32 × Int32} {cf2 : Nat → Nat → Int64} {v R : Nat → Nat} {ct dt : Int32} {hlt pdt : Int64} {pt hgM th atM sz : Int32} {SC PN LN PR PA VD : Nat → Int32} {DV ZM : Nat → Int64} {PM SC2 PN2 LN2 PR2 PA2 VD2 : Nat → Int32} {DV2 Z2M : Nat → Int64} {P2M PL O1M O2M : Nat → Int32} (L : WD h x m o k N Ω Q cu ha un n B hg at9 fk fp sp G T wf lf hf ff V wk hm pm O C ch D dh E Z P ph ca cl cw K cf wk2 hm2 pm2 O2 C2 ch2 D2 dh2 E2 Z2 P2 ph2 ca2 cl2 cw2 K2 cf2 v R ct dt hlt pdt pt hgM th atM sz SC PN LN PR PA VD DV ZM PM SC2 PN2 LN2 PR2 PA2 VD2 DV2 Z2M P2M PL O1M O2M) (hk : k < 512) (a : Int32) : PAIRi F yX7_best cX7_best 2 yX8_best cX8_best 2 (some .int) x m o k h [.int a] := by
  obtain ⟨W, M, rfl, s, rb, re, sd, bd, hN⟩ := L
  obtain ⟨rb1, rb2, rb3, rb4, rb5, rb6, rb7, rb8, rb9⟩ := id rb
  obtain ⟨sd1, sd2, sd3, sd4, sd5, sd6, sd7, sd8⟩ := id sd
  have hO : okO (mo SC PN) := fun q hq => by rw [rb1 q hq]; exact rb2 q hq
  have hw : ∀ n, wt (wO (mo SC PN) v (0)) n = wt (wO O v (0)) n := wt_eq (fun m hm => by unfold wO; rw [rb1 m hm])
  have hU : ∀ m, wO O v (0) m ≤ 9 := wO_le sd6 (by decide)
  refine ⟨_, ⟨by decide, by decide, by show h.2.1 + 0 ≤ _; omega, by show h.2.2 + 0 ≤ _; omega⟩, zMet_mono (p_best W rb2 sd5 sd6 rb3 a) (fun r h1 q => ?_)⟩
  obtain ⟨rfl, ⟨w2, l2, f2, L2, W1⟩, fq⟩ := q
  have fx := frx_q fq
  have M1 := M.kf s fx
  have e2 := fq.2
  refine ⟨⟨_, M1.o⟩, by rw [e2]; exact ⟨by omega, by omega⟩, ⟨_, rfl⟩, _, ⟨by decide, by decide, rfl, rfl⟩, zMet_mono (m_best M1.o M1.k0 M1.k1 M1.k2 M1.k4 hO sd5 sd6 rb3 a) (fun r2 h2 q2 => ?_)⟩
  obtain ⟨rfl, rfl⟩ := q2
  exact ⟨ans (by
    by_cases c : x_C ch a = 0
    · rw [if_pos c, if_pos c]
    · obtain ⟨t, ht, rfl⟩ := x_C_k (by omega) c
      have et : (nI t).toNatClampNeg = t := nI_clamp (by omega)
      rw [if_neg c, if_neg c, et]
      obtain ⟨g1, g2, g3, g4⟩ := rb4 t ht
      rw [grt_eq hw g1]), LW.fin W1 (M1.so _) rfl (s.kf fx) rb re sd (by rw [e2]; exact ⟨by omega, by omega⟩) (by omega)⟩

set_option maxHeartbeats 1000000 in
theorem q_still {F : zF} {h : zH} {x m o k N : Nat} {Ω : Nat → Prop} {Q : Nat → Nat} {cu ha un : Int32} {n : Nat} {B : Nat → Int32} {hg at9 fk fp : Int32} {sp : Option Nat} {G : Nat → Option Nat} {T : Nat → zS} {wf lf hf : Nat → Int32} {ff : Nat → Int64} {V : Nat → Int32} {wk : Int32} {hm pm : Int64} {O : Nat → Int32} {C : Nat → Option Nat} {ch : Nat} {D : Nat → Option Nat} {dh : Nat} {E : Nat → zD} {Z : Nat → Int64} {P : Nat → Int32} {ph : Nat} {ca cl cw : Nat → Nat} {K : Nat → Int32 × Int32 × Int32 × Int32} {cf : Nat → Nat → Int64} {wk2 : Int32} {hm2 pm2 : Int64} {O2 : Nat → Int32} {C2 : Nat → Option Nat} {ch2 : Nat} {D2 : Nat → Option Nat} {dh2 : Nat} {E2 : Nat → zD} {Z2 : Nat → Int64} {P2 : Nat → Int32} {ph2 : Nat} {ca2 cl2 cw2 : Nat → Nat} {K2 : Nat → Int32 × Int32 × Int32 × Int32} {cf2 : Nat → Nat → Int64} {v R : Nat → Nat} {ct dt : Int32} {hlt pdt : Int64} {pt hgM th atM sz : Int32} {SC PN LN PR PA VD : Nat → Int32} {DV ZM : Nat → Int64} {PM SC2 PN2 LN2 PR2 PA2 VD2 : Nat → Int32} {DV2 Z2M : Nat → Int64} {P2M PL O1M O2M : Nat → Int32} (L : WD h x m o k N Ω Q cu ha un n B hg at9 fk fp sp G T wf lf hf ff V wk hm pm O C ch D dh E Z P ph ca cl cw K cf wk2 hm2 pm2 O2 C2 ch2 D2 dh2 E2 Z2 P2 ph2 ca2 cl2 cw2 K2 cf2 v R ct dt hlt pdt pt hgM th atM sz SC PN LN PR PA VD DV ZM PM SC2 PN2 LN2 PR2 PA2 VD2 DV2 Z2M P2M PL O1M O2M) (hk : k < 512) (a : Int32) : PAIRi F yX7_still cX7_still 2 yX8_still cX8_still 2 (some .int) x m o k h [.int a] := by
  obtain ⟨W, M, rfl, s, rb, re, sd, bd, hN⟩ := L
  obtain ⟨rb1, rb2, rb3, rb4, rb5, rb6, rb7, rb8, rb9⟩ := id rb
  obtain ⟨sd1, sd2, sd3, sd4, sd5, sd6, sd7, sd8⟩ := id sd
  have hO : okO (mo SC PN) := fun q hq => by rw [rb1 q hq]; exact rb2 q hq
  have hw : ∀ n, wt (wO (mo SC PN) v (mxV v 4)) n = wt (wO O v (mxV v 4)) n := wt_eq (fun m hm => by unfold wO; rw [rb1 m hm])
  have hU : ∀ m, wO O v (mxV v 4) m ≤ 9 := wO_le sd6 (mxV_le sd6 4)
  refine ⟨_, ⟨by decide, by decide, by show h.2.1 + 0 ≤ _; omega, by show h.2.2 + 0 ≤ _; omega⟩, zMet_mono (p_still W rb2 sd5 sd6 rb3 a) (fun r h1 q => ?_)⟩
  obtain ⟨rfl, ⟨w2, l2, f2, L2, W1⟩, fq⟩ := q
  have fx := frx_q fq
  have M1 := M.kf s fx
  have e2 := fq.2
  refine ⟨⟨_, M1.o⟩, by rw [e2]; exact ⟨by omega, by omega⟩, ⟨_, rfl⟩, _, ⟨by decide, by decide, rfl, rfl⟩, zMet_mono (m_still M1.o M1.k0 M1.k1 M1.k2 M1.k4 hO sd5 sd6 rb3 a) (fun r2 h2 q2 => ?_)⟩
  obtain ⟨rfl, rfl⟩ := q2
  exact ⟨ans (by
    by_cases c : x_C ch a = 0
    · rw [if_pos c, if_pos c]
    · obtain ⟨t, ht, rfl⟩ := x_C_k (by omega) c
      have et : (nI t).toNatClampNeg = t := nI_clamp (by omega)
      rw [if_neg c, if_neg c, et]
      obtain ⟨g1, g2, g3, g4⟩ := rb4 t ht
      rw [grt_eq hw g1]), LW.fin W1 (M1.so _) rfl (s.kf fx) rb re sd (by rw [e2]; exact ⟨by omega, by omega⟩) (by omega)⟩

set_option maxHeartbeats 1000000 in
theorem q_could {F : zF} {h : zH} {x m o k N : Nat} {Ω : Nat → Prop} {Q : Nat → Nat} {cu ha un : Int32} {n : Nat} {B : Nat → Int32} {hg at9 fk fp : Int32} {sp : Option Nat} {G : Nat → Option Nat} {T : Nat → zS} {wf lf hf : Nat → Int32} {ff : Nat → Int64} {V : Nat → Int32} {wk : Int32} {hm pm : Int64} {O : Nat → Int32} {C : Nat → Option Nat} {ch : Nat} {D : Nat → Option Nat} {dh : Nat} {E : Nat → zD} {Z : Nat → Int64} {P : Nat → Int32} {ph : Nat} {ca cl cw : Nat → Nat} {K : Nat → Int32 × Int32 × Int32 × Int32} {cf : Nat → Nat → Int64} {wk2 : Int32} {hm2 pm2 : Int64} {O2 : Nat → Int32} {C2 : Nat → Option Nat} {ch2 : Nat} {D2 : Nat → Option Nat} {dh2 : Nat} {E2 : Nat → zD} {Z2 : Nat → Int64} {P2 : Nat → Int32} {ph2 : Nat} {ca2 cl2 cw2 : Nat → Nat} {K2 : Nat → Int32 × Int32 × Int32 × Int32} {cf2 : Nat → Nat → Int64} {v R : Nat → Nat} {ct dt : Int32} {hlt pdt : Int64} {pt hgM th atM sz : Int32} {SC PN LN PR PA VD : Nat → Int32} {DV ZM : Nat → Int64} {PM SC2 PN2 LN2 PR2 PA2 VD2 : Nat → Int32} {DV2 Z2M : Nat → Int64} {P2M PL O1M O2M : Nat → Int32} (L : WD h x m o k N Ω Q cu ha un n B hg at9 fk fp sp G T wf lf hf ff V wk hm pm O C ch D dh E Z P ph ca cl cw K cf wk2 hm2 pm2 O2 C2 ch2 D2 dh2 E2 Z2 P2 ph2 ca2 cl2 cw2 K2 cf2 v R ct dt hlt pdt pt hgM th atM sz SC PN LN PR PA VD DV ZM PM SC2 PN2 LN2 PR2 PA2 VD2 DV2 Z2M P2M PL O1M O2M) (hk : k < 512) (a : Int32) (b : Int32) : PAIRi F yX7_could cX7_could 3 yX8_could cX8_could 3 (some .int) x m o k h [.int a, .int b] := by
  obtain ⟨W, M, rfl, s, rb, re, sd, bd, hN⟩ := L
  obtain ⟨rb1, rb2, rb3, rb4, rb5, rb6, rb7, rb8, rb9⟩ := id rb
  obtain ⟨sd1, sd2, sd3, sd4, sd5, sd6, sd7, sd8⟩ := id sd
  have hO : okO (mo SC PN) := fun q hq => by rw [rb1 q hq]; exact rb2 q hq
  have hw : ∀ n, wt (wO (mo SC PN) v (mxV v 4)) n = wt (wO O v (mxV v 4)) n := wt_eq (fun m hm => by unfold wO; rw [rb1 m hm])
  have hU : ∀ m, wO O v (mxV v 4) m ≤ 9 := wO_le sd6 (mxV_le sd6 4)
  refine ⟨_, ⟨by decide, by decide, by show h.2.1 + 0 ≤ _; omega, by show h.2.2 + 0 ≤ _; omega⟩, zMet_mono (p_could W rb2 sd5 sd6 rb3 a b) (fun r h1 q => ?_)⟩
  obtain ⟨rfl, ⟨w2, l2, f2, L2, W1⟩, fq⟩ := q
  have fx := frx_q fq
  have M1 := M.kf s fx
  have e2 := fq.2
  refine ⟨⟨_, M1.o⟩, by rw [e2]; exact ⟨by omega, by omega⟩, ⟨_, rfl⟩, _, ⟨by decide, by decide, rfl, rfl⟩, zMet_mono (m_could M1.o M1.k0 M1.k1 M1.k2 M1.k4 hO sd5 sd6 rb3 a b) (fun r2 h2 q2 => ?_)⟩
  obtain ⟨rfl, rfl⟩ := q2
  exact ⟨ans (by
    by_cases c : x_C ch a = 0
    · rw [if_pos c, if_pos c]
    · obtain ⟨t, ht, rfl⟩ := x_C_k (by omega) c
      have et : (nI t).toNatClampNeg = t := nI_clamp (by omega)
      rw [if_neg c, if_neg c, et]
      obtain ⟨g1, g2, g3, g4⟩ := rb4 t ht
      rw [btw_eq hw g1, from_top _ hU (Int32.toInt_toInt64 b).symm]), LW.fin W1 (M1.so _) rfl (s.kf fx) rb re sd (by rw [e2]; exact ⟨by omega, by omega⟩) (by omega)⟩

set_option maxHeartbeats 1000000 in
theorem q_sure {F : zF} {h : zH} {x m o k N : Nat} {Ω : Nat → Prop} {Q : Nat → Nat} {cu ha un : Int32} {n : Nat} {B : Nat → Int32} {hg at9 fk fp : Int32} {sp : Option Nat} {G : Nat → Option Nat} {T : Nat → zS} {wf lf hf : Nat → Int32} {ff : Nat → Int64} {V : Nat → Int32} {wk : Int32} {hm pm : Int64} {O : Nat → Int32} {C : Nat → Option Nat} {ch : Nat} {D : Nat → Option Nat} {dh : Nat} {E : Nat → zD} {Z : Nat → Int64} {P : Nat → Int32} {ph : Nat} {ca cl cw : Nat → Nat} {K : Nat → Int32 × Int32 × Int32 × Int32} {cf : Nat → Nat → Int64} {wk2 : Int32} {hm2 pm2 : Int64} {O2 : Nat → Int32} {C2 : Nat → Option Nat} {ch2 : Nat} {D2 : Nat → Option Nat} {dh2 : Nat} {E2 : Nat → zD} {Z2 : Nat → Int64} {P2 : Nat → Int32} {ph2 : Nat} {ca2 cl2 cw2 : Nat → Nat} {K2 : Nat → Int32 × Int32 × Int32 × Int32} {cf2 : Nat → Nat → Int64} {v R : Nat → Nat} {ct dt : Int32} {hlt pdt : Int64} {pt hgM th atM sz : Int32} {SC PN LN PR PA VD : Nat → Int32} {DV ZM : Nat → Int64} {PM SC2 PN2 LN2 PR2 PA2 VD2 : Nat → Int32} {DV2 Z2M : Nat → Int64} {P2M PL O1M O2M : Nat → Int32} (L : WD h x m o k N Ω Q cu ha un n B hg at9 fk fp sp G T wf lf hf ff V wk hm pm O C ch D dh E Z P ph ca cl cw K cf wk2 hm2 pm2 O2 C2 ch2 D2 dh2 E2 Z2 P2 ph2 ca2 cl2 cw2 K2 cf2 v R ct dt hlt pdt pt hgM th atM sz SC PN LN PR PA VD DV ZM PM SC2 PN2 LN2 PR2 PA2 VD2 DV2 Z2M P2M PL O1M O2M) (hk : k < 512) (a : Int32) (b : Int32) : PAIRi F yX7_sure cX7_sure 3 yX8_sure cX8_sure 3 (some .int) x m o k h [.int a, .int b] := by
  obtain ⟨W, M, rfl, s, rb, re, sd, bd, hN⟩ := L
  obtain ⟨rb1, rb2, rb3, rb4, rb5, rb6, rb7, rb8, rb9⟩ := id rb
  obtain ⟨sd1, sd2, sd3, sd4, sd5, sd6, sd7, sd8⟩ := id sd
  have hO : okO (mo SC PN) := fun q hq => by rw [rb1 q hq]; exact rb2 q hq
  have hw : ∀ n, wt (wO (mo SC PN) v (mnV v 4)) n = wt (wO O v (mnV v 4)) n := wt_eq (fun m hm => by unfold wO; rw [rb1 m hm])
  have hU : ∀ m, wO O v (mnV v 4) m ≤ 9 := wO_le sd6 (mnV_le v 4)
  refine ⟨_, ⟨by decide, by decide, by show h.2.1 + 0 ≤ _; omega, by show h.2.2 + 0 ≤ _; omega⟩, zMet_mono (p_sure W rb2 sd5 sd6 rb3 a b) (fun r h1 q => ?_)⟩
  obtain ⟨rfl, ⟨w2, l2, f2, L2, W1⟩, fq⟩ := q
  have fx := frx_q fq
  have M1 := M.kf s fx
  have e2 := fq.2
  refine ⟨⟨_, M1.o⟩, by rw [e2]; exact ⟨by omega, by omega⟩, ⟨_, rfl⟩, _, ⟨by decide, by decide, rfl, rfl⟩, zMet_mono (m_sure M1.o M1.k0 M1.k1 M1.k2 M1.k4 hO sd5 sd6 rb3 a b) (fun r2 h2 q2 => ?_)⟩
  obtain ⟨rfl, rfl⟩ := q2
  exact ⟨ans (by
    by_cases c : x_C ch a = 0
    · rw [if_pos c, if_pos c]
    · obtain ⟨t, ht, rfl⟩ := x_C_k (by omega) c
      have et : (nI t).toNatClampNeg = t := nI_clamp (by omega)
      rw [if_neg c, if_neg c, et]
      obtain ⟨g1, g2, g3, g4⟩ := rb4 t ht
      rw [btw_eq hw g1, from_top _ hU (Int32.toInt_toInt64 b).symm]), LW.fin W1 (M1.so _) rfl (s.kf fx) rb re sd (by rw [e2]; exact ⟨by omega, by omega⟩) (by omega)⟩
