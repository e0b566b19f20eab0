theorem okO_v {b : Int32} (h : ¬ x_isIn b (-1) 3 = 0) : b = -1 ∨ ∃ k, k < 4 ∧ b = nI k := by
  have q := isIn_b h
  have q : -1 ≤ b.toInt ∧ b.toInt ≤ 3 := q
  by_cases c : b.toInt = -1
  · exact Or.inl ((fa_eq _ _).mpr c)
  · obtain ⟨k, hk⟩ := Int.eq_ofNat_of_zero_le (show 0 ≤ b.toInt by omega)
    exact Or.inr ⟨k, by omega, (fa_eq _ _).mpr (by rw [nI_toInt (by omega)]; exact hk)⟩
theorem nIs_up {V : Nat → Int32} {v : Nat → Nat} {t a : Nat} (h : nIs V v 4) : nIs (upd V t (nI a)) (fun j => if j = t then a else v j) 4 := fun q hq => by
  rw [upd_at]
  show _ = nI (if q = t then a else v q)
  by_cases c : q = t
  · rw [if_pos c, if_pos c]
  · rw [if_neg c, if_neg c]; exact h q hq
theorem cut_k {n : Nat} {v : Int32} (hn : n ≤ 200) (h : ¬ x_cut n v = 0) : ∃ t, t ≤ n ∧ v = nI t := by
  unfold x_cut at h
  by_cases c : v < 0
  · rw [if_pos c] at h; exact absurd rfl h
  · rw [if_neg c] at h
    by_cases c2 : v ≤ nI n
    · rw [fa_lt] at c
      have c : ¬ v.toInt < 0 := c
      rw [fa_le, nI_toInt (by omega)] at c2
      obtain ⟨k, hk⟩ := Int.eq_ofNat_of_zero_le (show 0 ≤ v.toInt by omega)
      exact ⟨k, by omega, (fa_eq _ _).mpr (by rw [nI_toInt (by omega)]; exact hk)⟩
    · rw [if_neg c2] at h; exact absurd rfl h

set_option maxHeartbeats 1000000 in
theorem q_score {F : zF} {h : zH} {x m o k N : Nat} {Ω : Nat → Prop} {Q : Nat → Nat} {cu ha un : Int32} {n : Nat} {B : Nat → Int32} {hg at9 fk fp : Int32} {sp : Option Nat} {G : Nat → Option Nat} {T : Nat → zS} {wf lf hf : Nat → Int32} {ff : Nat → Int64} {V : Nat → Int32} {wk : Int32} {hm pm : Int64} {O : Nat → Int32} {C : Nat → Option Nat} {ch : Nat} {D : Nat → Option Nat} {dh : Nat} {E : Nat → zD} {Z : Nat → Int64} {P : Nat → Int32} {ph : Nat} {ca cl cw : Nat → Nat} {K : Nat → Int32 × Int32 × Int32 × Int32} {cf : Nat → Nat → Int64} {wk2 : Int32} {hm2 pm2 : Int64} {O2 : Nat → Int32} {C2 : Nat → Option Nat} {ch2 : Nat} {D2 : Nat → Option Nat} {dh2 : Nat} {E2 : Nat → zD} {Z2 : Nat → Int64} {P2 : Nat → Int32} {ph2 : Nat} {ca2 cl2 cw2 : Nat → Nat} {K2 : Nat → Int32 × Int32 × Int32 × Int32} {cf2 : Nat → Nat → Int64} {v R : Nat → Nat} {ct dt : Int32} {hlt pdt : Int64} {pt hgM th atM sz : Int32} {SC PN LN PR PA VD : Nat → Int32} {DV ZM : Nat → Int64} {PM SC2 PN2 LN2 PR2 PA2 VD2 : Nat → Int32} {DV2 Z2M : Nat → Int64} {P2M PL O1M O2M : Nat → Int32} (L : WD h x m o k N Ω Q cu ha un n B hg at9 fk fp sp G T wf lf hf ff V wk hm pm O C ch D dh E Z P ph ca cl cw K cf wk2 hm2 pm2 O2 C2 ch2 D2 dh2 E2 Z2 P2 ph2 ca2 cl2 cw2 K2 cf2 v R ct dt hlt pdt pt hgM th atM sz SC PN LN PR PA VD DV ZM PM SC2 PN2 LN2 PR2 PA2 VD2 DV2 Z2M P2M PL O1M O2M) (hk : k < 512) (a : Int32) (b : Int32) (d : Int32) : PAIRi F yX7_score cX7_score 4 yX8_score cX8_score 4 (some .boolean) x m o k h [.int a, .int b, .int d] := by
  obtain ⟨W, M, rfl, s, rb, re, sd, bd, hN⟩ := L
  obtain ⟨rb1, rb2, rb3, rb4, rb5, rb6, rb7, rb8, rb9⟩ := id rb
  obtain ⟨sd1, sd2, sd3, sd4, sd5, sd6, sd7, sd8⟩ := id sd
  obtain ⟨x0, t1, t2, r3, r4, sp9, gg, ls, lsd, s5, s6, s7, s8, s9, v30, bn, be, kn, ke, hQ⟩ := id W
  obtain ⟨b0, b1, b2, b3, b4, b5, bD, bE, bC⟩ := id bn
  by_cases c : okS a b d
  · have PX := p_score (F := F) W a b d
    obtain ⟨t, ht, rfl⟩ := isIn_k (N := 13) (by decide) c.1
    obtain ⟨gk, hgk, eg⟩ := goals_k b d
    rw [if_pos c, if_pos c, nI_clamp (by omega)] at PX
    refine ⟨_, ⟨by decide, by decide, by show h.2.1 + 0 ≤ _; omega, by show h.2.2 + 0 ≤ _; omega⟩, zMet_mono PX (fun r h1 q => ?_)⟩
    obtain ⟨rfl, e1⟩ := q
    have fx : frx Ω h h1 := by rw [e1]; exact frx_s b1.2
    have M1 := M.kf s fx
    have s1 := s.kf fx
    have e2 : h1.2 = h.2 := by subst e1; rfl
    have Q9 := m_score (F := F) M1.o M1.k0 (nI t) b d
    rw [if_pos c, if_pos c, nI_clamp (by omega)] at Q9
    refine ⟨⟨_, M1.o⟩, by rw [e2]; exact ⟨by omega, by omega⟩, ⟨_, rfl⟩, _, ⟨by decide, by decide, rfl, rfl⟩, zMet_mono Q9 (fun r2 h2 q2 => ?_)⟩
    obtain ⟨rfl, rfl⟩ := q2
    have bd2 : h1.2.1 + 2 * nn T 16 ≤ 120 + 3 * (k + 1) ∧ h1.2.2 + 257 * nn T 16 ≤ 325000 + 262 * (k + 1) := by rw [e2]; exact ⟨by omega, by omega⟩
    subst e1
    exact ⟨rfl, LW.fin (W.u11 _) ((M1.so _).s0 _) rfl s1 (rb.out (fun q hq => by rw [mo_s (by rw [eg]; exact nI_nm1 hgk), upd_at, rb1 q hq]) (fun q hq => by rw [upd_at]; split; exact Or.inr ⟨gk, hgk, eg⟩; exact rb2 q hq)) re sd bd2 (by omega)⟩
  · have PX := p_score (F := F) W a b d
    rw [if_neg c, if_neg c] at PX
    refine ⟨_, ⟨by decide, by decide, by show h.2.1 + 0 ≤ _; omega, by show h.2.2 + 0 ≤ _; omega⟩, zMet_mono PX (fun r h1 q => ?_)⟩
    obtain ⟨rfl, e1⟩ := q
    have fx : frx Ω h h1 := by rw [e1]; exact frx_r
    have M1 := M.kf s fx
    have s1 := s.kf fx
    have e2 : h1.2 = h.2 := by subst e1; rfl
    have Q9 := m_score (F := F) M1.o M1.k0 a b d
    rw [if_neg c, if_neg c] at Q9
    refine ⟨⟨_, M1.o⟩, by rw [e2]; exact ⟨by omega, by omega⟩, ⟨_, rfl⟩, _, ⟨by decide, by decide, rfl, rfl⟩, zMet_mono Q9 (fun r2 h2 q2 => ?_)⟩
    obtain ⟨rfl, rfl⟩ := q2
    have bd2 : h1.2.1 + 2 * nn T 16 ≤ 120 + 3 * (k + 1) ∧ h1.2.2 + 257 * nn T 16 ≤ 325000 + 262 * (k + 1) := by rw [e2]; exact ⟨by omega, by omega⟩
    subst e1
    exact ⟨rfl, LW.fin (W) (M1.so _) rfl s1 rb re sd bd2 (by omega)⟩

set_option maxHeartbeats 1000000 in
theorem q_panel {F : zF} {h : zH} {x m o k N : Nat} {Ω : Nat → Prop} {Q : Nat → Nat} {cu ha un : Int32} {n : Nat} {B : Nat → Int32} {hg at9 fk fp : Int32} {sp : Option Nat} {G : Nat → Option Nat} {T : Nat → zS} {wf lf hf : Nat → Int32} {ff : Nat → Int64} {V : Nat → Int32} {wk : Int32} {hm pm : Int64} {O : Nat → Int32} {C : Nat → Option Nat} {ch : Nat} {D : Nat → Option Nat} {dh : Nat} {E : Nat → zD} {Z : Nat → Int64} {P : Nat → Int32} {ph : Nat} {ca cl cw : Nat → Nat} {K : Nat → Int32 × Int32 × Int32 × Int32} {cf : Nat → Nat → Int64} {wk2 : Int32} {hm2 pm2 : Int64} {O2 : Nat → Int32} {C2 : Nat → Option Nat} {ch2 : Nat} {D2 : Nat → Option Nat} {dh2 : Nat} {E2 : Nat → zD} {Z2 : Nat → Int64} {P2 : Nat → Int32} {ph2 : Nat} {ca2 cl2 cw2 : Nat → Nat} {K2 : Nat → Int32 × Int32 × Int32 × Int32} {cf2 : Nat → Nat → Int64} {v R : Nat → Nat} {ct dt : Int32} {hlt pdt : Int64} {pt hgM th atM sz : Int32} {SC PN LN PR PA VD : Nat → Int32} {DV ZM : Nat → Int64} {PM SC2 PN2 LN2 PR2 PA2 VD2 : Nat → Int32} {DV2 Z2M : Nat → Int64} {P2M PL O1M O2M : Nat → Int32} (L : WD h x m o k N Ω Q cu ha un n B hg at9 fk fp sp G T wf lf hf ff V wk hm pm O C ch D dh E Z P ph ca cl cw K cf wk2 hm2 pm2 O2 C2 ch2 D2 dh2 E2 Z2 P2 ph2 ca2 cl2 cw2 K2 cf2 v R ct dt hlt pdt pt hgM th atM sz SC PN LN PR PA VD DV ZM PM SC2 PN2 LN2 PR2 PA2 VD2 DV2 Z2M P2M PL O1M O2M) (hk : k < 512) (a : Int32) (b : Int32) : PAIRi F yX7_panel cX7_panel 3 yX8_panel cX8_panel 3 (some .boolean) x m o k h [.int a, .int b] := by
  obtain ⟨W, M, rfl, s, rb, re, sd, bd, hN⟩ := L
  obtain ⟨rb1, rb2, rb3, rb4, rb5, rb6, rb7, rb8, rb9⟩ := id rb
  obtain ⟨sd1, sd2, sd3, sd4, sd5, sd6, sd7, sd8⟩ := id sd
  obtain ⟨x0, t1, t2, r3, r4, sp9, gg, ls, lsd, s5, s6, s7, s8, s9, v30, bn, be, kn, ke, hQ⟩ := id W
  obtain ⟨b0, b1, b2, b3, b4, b5, bD, bE, bC⟩ := id bn
  by_cases c : okP a b
  · have PX := p_panel (F := F) W a b
    obtain ⟨t, ht, rfl⟩ := isIn_k (N := 13) (by decide) c.1
    rw [if_pos c, if_pos c, nI_clamp (by omega)] at PX
    refine ⟨_, ⟨by decide, by decide, by show h.2.1 + 0 ≤ _; omega, by show h.2.2 + 0 ≤ _; omega⟩, zMet_mono PX (fun r h1 q => ?_)⟩
    obtain ⟨rfl, e1⟩ := q
    have fx : frx Ω h h1 := by rw [e1]; exact frx_s b1.2
    have M1 := M.kf s fx
    have s1 := s.kf fx
    have e2 : h1.2 = h.2 := by subst e1; rfl
    have Q9 := m_panel (F := F) M1.o M1.hR M1.k0 M1.k1 (nI t) b
    rw [if_pos c, if_pos c, nI_clamp (by omega)] at Q9
    refine ⟨⟨_, M1.o⟩, by rw [e2]; exact ⟨by omega, by omega⟩, ⟨_, rfl⟩, _, ⟨by decide, by decide, rfl, rfl⟩, zMet_mono Q9 (fun r2 h2 q2 => ?_)⟩
    obtain ⟨rfl, rfl⟩ := q2
    have bd2 : h1.2.1 + 2 * nn T 16 ≤ 120 + 3 * (k + 1) ∧ h1.2.2 + 257 * nn T 16 ≤ 325000 + 262 * (k + 1) := by rw [e2]; exact ⟨by omega, by omega⟩
    subst e1
    exact ⟨rfl, LW.fin (W.u11 _) (((M1.so _).s0 _).s1 _) rfl s1 (rb.out (fun q hq => by rw [mo_p, upd_at, rb1 q hq]) (fun q hq => by rw [upd_at]; split; exact okO_v c.2; exact rb2 q hq)) re sd bd2 (by omega)⟩
  · have PX := p_panel (F := F) W a b
    rw [if_neg c, if_neg c] at PX
    refine ⟨_, ⟨by decide, by decide, by show h.2.1 + 0 ≤ _; omega, by show h.2.2 + 0 ≤ _; omega⟩, zMet_mono PX (fun r h1 q => ?_)⟩
    obtain ⟨rfl, e1⟩ := q
    have fx : frx Ω h h1 := by rw [e1]; exact frx_r
    have M1 := M.kf s fx
    have s1 := s.kf fx
    have e2 : h1.2 = h.2 := by subst e1; rfl
    have Q9 := m_panel (F := F) M1.o M1.hR M1.k0 M1.k1 a b
    rw [if_neg c, if_neg c] at Q9
    refine ⟨⟨_, M1.o⟩, by rw [e2]; exact ⟨by omega, by omega⟩, ⟨_, rfl⟩, _, ⟨by decide, by decide, rfl, rfl⟩, zMet_mono Q9 (fun r2 h2 q2 => ?_)⟩
    obtain ⟨rfl, rfl⟩ := q2
    have bd2 : h1.2.1 + 2 * nn T 16 ≤ 120 + 3 * (k + 1) ∧ h1.2.2 + 257 * nn T 16 ≤ 325000 + 262 * (k + 1) := by rw [e2]; exact ⟨by omega, by omega⟩
    subst e1
    exact ⟨rfl, LW.fin (W) (M1.so _) rfl s1 rb re sd bd2 (by omega)⟩

set_option maxHeartbeats 1000000 in
theorem q_points {F : zF} {h : zH} {x m o k N : Nat} {Ω : Nat → Prop} {Q : Nat → Nat} {cu ha un : Int32} {n : Nat} {B : Nat → Int32} {hg at9 fk fp : Int32} {sp : Option Nat} {G : Nat → Option Nat} {T : Nat → zS} {wf lf hf : Nat → Int32} {ff : Nat → Int64} {V : Nat → Int32} {wk : Int32} {hm pm : Int64} {O : Nat → Int32} {C : Nat → Option Nat} {ch : Nat} {D : Nat → Option Nat} {dh : Nat} {E : Nat → zD} {Z : Nat → Int64} {P : Nat → Int32} {ph : Nat} {ca cl cw : Nat → Nat} {K : Nat → Int32 × Int32 × Int32 × Int32} {cf : Nat → Nat → Int64} {wk2 : Int32} {hm2 pm2 : Int64} {O2 : Nat → Int32} {C2 : Nat → Option Nat} {ch2 : Nat} {D2 : Nat → Option Nat} {dh2 : Nat} {E2 : Nat → zD} {Z2 : Nat → Int64} {P2 : Nat → Int32} {ph2 : Nat} {ca2 cl2 cw2 : Nat → Nat} {K2 : Nat → Int32 × Int32 × Int32 × Int32} {cf2 : Nat → Nat → Int64} {v R : Nat → Nat} {ct dt : Int32} {hlt pdt : Int64} {pt hgM th atM sz : Int32} {SC PN LN PR PA VD : Nat → Int32} {DV ZM : Nat → Int64} {PM SC2 PN2 LN2 PR2 PA2 VD2 : Nat → Int32} {DV2 Z2M : Nat → Int64} {P2M PL O1M O2M : Nat → Int32} (L : WD h x m o k N Ω Q cu ha un n B hg at9 fk fp sp G T wf lf hf ff V wk hm pm O C ch D dh E Z P ph ca cl cw K cf wk2 hm2 pm2 O2 C2 ch2 D2 dh2 E2 Z2 P2 ph2 ca2 cl2 cw2 K2 cf2 v R ct dt hlt pdt pt hgM th atM sz SC PN LN PR PA VD DV ZM PM SC2 PN2 LN2 PR2 PA2 VD2 DV2 Z2M P2M PL O1M O2M) (hk : k < 512) (a : Int32) (b : Int32) : PAIRi F yX7_points cX7_points 3 yX8_points cX8_points 3 (some .boolean) x m o k h [.int a, .int b] := by
  obtain ⟨W, M, rfl, s, rb, re, sd, bd, hN⟩ := L
  obtain ⟨rb1, rb2, rb3, rb4, rb5, rb6, rb7, rb8, rb9⟩ := id rb
  obtain ⟨sd1, sd2, sd3, sd4, sd5, sd6, sd7, sd8⟩ := id sd
  obtain ⟨x0, t1, t2, r3, r4, sp9, gg, ls, lsd, s5, s6, s7, s8, s9, v30, bn, be, kn, ke, hQ⟩ := id W
  obtain ⟨b0, b1, b2, b3, b4, b5, bD, bE, bC⟩ := id bn
  by_cases c : okV a b
  · obtain ⟨t, ht, rfl⟩ := isIn_k (N := 3) (by decide) c.1
    obtain ⟨u, hu, rfl⟩ := isIn_k (N := 9) (by decide) c.2
    have PX := p_points (F := F) W (nI t) (nI u)
    rw [if_pos c, if_pos c, nI_clamp (by omega)] at PX
    refine ⟨_, ⟨by decide, by decide, by show h.2.1 + 0 ≤ _; omega, by show h.2.2 + 0 ≤ _; omega⟩, zMet_mono PX (fun r h1 q => ?_)⟩
    obtain ⟨rfl, e1⟩ := q
    have fx : frx Ω h h1 := by rw [e1]; exact frx_s v30.2
    have M1 := M.kf s fx
    have s1 := s.kf fx
    have e2 : h1.2 = h.2 := by subst e1; rfl
    have Q9 := m_points (F := F) M1.o M1.k2 (nI t) (nI u)
    rw [if_pos c, if_pos c, nI_clamp (by omega)] at Q9
    refine ⟨⟨_, M1.o⟩, by rw [e2]; exact ⟨by omega, by omega⟩, ⟨_, rfl⟩, _, ⟨by decide, by decide, rfl, rfl⟩, zMet_mono Q9 (fun r2 h2 q2 => ?_)⟩
    obtain ⟨rfl, rfl⟩ := q2
    have bd2 : h1.2.1 + 2 * nn T 16 ≤ 120 + 3 * (k + 1) ∧ h1.2.2 + 257 * nn T 16 ≤ 325000 + 262 * (k + 1) := by rw [e2]; exact ⟨by omega, by omega⟩
    subst e1
    exact ⟨rfl, LW.fin (v := fun j => if j = t then u else v j) (W.u30 _) ((M1.so _).s2 _) rfl s1 rb re ⟨sd1, sd2, sd3, sd4, nIs_up sd5, fun j => (by show (if j = t then u else v j) ≤ 9; split; exact hu; exact sd6 j), sd7, sd8⟩ bd2 (by omega)⟩
  · have PX := p_points (F := F) W a b
    rw [if_neg c, if_neg c] at PX
    refine ⟨_, ⟨by decide, by decide, by show h.2.1 + 0 ≤ _; omega, by show h.2.2 + 0 ≤ _; omega⟩, zMet_mono PX (fun r h1 q => ?_)⟩
    obtain ⟨rfl, e1⟩ := q
    have fx : frx Ω h h1 := by rw [e1]; exact frx_r
    have M1 := M.kf s fx
    have s1 := s.kf fx
    have e2 : h1.2 = h.2 := by subst e1; rfl
    have Q9 := m_points (F := F) M1.o M1.k2 a b
    rw [if_neg c, if_neg c] at Q9
    refine ⟨⟨_, M1.o⟩, by rw [e2]; exact ⟨by omega, by omega⟩, ⟨_, rfl⟩, _, ⟨by decide, by decide, rfl, rfl⟩, zMet_mono Q9 (fun r2 h2 q2 => ?_)⟩
    obtain ⟨rfl, rfl⟩ := q2
    have bd2 : h1.2.1 + 2 * nn T 16 ≤ 120 + 3 * (k + 1) ∧ h1.2.2 + 257 * nn T 16 ≤ 325000 + 262 * (k + 1) := by rw [e2]; exact ⟨by omega, by omega⟩
    subst e1
    exact ⟨rfl, LW.fin (W) (M1.so _) rfl s1 rb re sd bd2 (by omega)⟩

set_option maxHeartbeats 1000000 in
theorem q_feed {F : zF} {h : zH} {x m o k N : Nat} {Ω : Nat → Prop} {Q : Nat → Nat} {cu ha un : Int32} {n : Nat} {B : Nat → Int32} {hg at9 fk fp : Int32} {sp : Option Nat} {G : Nat → Option Nat} {T : Nat → zS} {wf lf hf : Nat → Int32} {ff : Nat → Int64} {V : Nat → Int32} {wk : Int32} {hm pm : Int64} {O : Nat → Int32} {C : Nat → Option Nat} {ch : Nat} {D : Nat → Option Nat} {dh : Nat} {E : Nat → zD} {Z : Nat → Int64} {P : Nat → Int32} {ph : Nat} {ca cl cw : Nat → Nat} {K : Nat → Int32 × Int32 × Int32 × Int32} {cf : Nat → Nat → Int64} {wk2 : Int32} {hm2 pm2 : Int64} {O2 : Nat → Int32} {C2 : Nat → Option Nat} {ch2 : Nat} {D2 : Nat → Option Nat} {dh2 : Nat} {E2 : Nat → zD} {Z2 : Nat → Int64} {P2 : Nat → Int32} {ph2 : Nat} {ca2 cl2 cw2 : Nat → Nat} {K2 : Nat → Int32 × Int32 × Int32 × Int32} {cf2 : Nat → Nat → Int64} {v R : Nat → Nat} {ct dt : Int32} {hlt pdt : Int64} {pt hgM th atM sz : Int32} {SC PN LN PR PA VD : Nat → Int32} {DV ZM : Nat → Int64} {PM SC2 PN2 LN2 PR2 PA2 VD2 : Nat → Int32} {DV2 Z2M : Nat → Int64} {P2M PL O1M O2M : Nat → Int32} (L : WD h x m o k N Ω Q cu ha un n B hg at9 fk fp sp G T wf lf hf ff V wk hm pm O C ch D dh E Z P ph ca cl cw K cf wk2 hm2 pm2 O2 C2 ch2 D2 dh2 E2 Z2 P2 ph2 ca2 cl2 cw2 K2 cf2 v R ct dt hlt pdt pt hgM th atM sz SC PN LN PR PA VD DV ZM PM SC2 PN2 LN2 PR2 PA2 VD2 DV2 Z2M P2M PL O1M O2M) (hk : k < 512) (a : Int32) (b : Int32) (d : Int32) (e9 : Int32) (f9 : Int32) : PAIRi F yX7_feed cX7_feed 6 yX8_feed cX8_feed 6 (some .int) x m o k h [.int a, .int b, .int d, .int e9, .int f9] := by
  obtain ⟨W, M, rfl, s, rb, re, sd, bd, hN⟩ := L
  obtain ⟨rb1, rb2, rb3, rb4, rb5, rb6, rb7, rb8, rb9⟩ := id rb
  obtain ⟨sd1, sd2, sd3, sd4, sd5, sd6, sd7, sd8⟩ := id sd
  obtain ⟨x0, t1, t2, r3, r4, sp9, gg, ls, lsd, s5, s6, s7, s8, s9, v30, bn, be, kn, ke, hQ⟩ := id W
  obtain ⟨b0, b1, b2, b3, b4, b5, bD, bE, bC⟩ := id bn
  by_cases c : n ≤ 180
  · have PX := p_feed (F := F) W a b d e9 f9 sd1
    rw [if_pos c, if_pos c] at PX
    refine ⟨_, ⟨by decide, by decide, by show h.2.1 + 0 ≤ _; omega, by show h.2.2 + 0 ≤ _; omega⟩, zMet_mono PX (fun r h1 q => ?_)⟩
    obtain ⟨rfl, e1⟩ := q
    have fx : frx Ω h h1 := by rw [e1]; exact (frx_s t2.2).tr (frx_s t1.2)
    have M1 := M.kf s fx
    have s1 := s.kf fx
    have e2 : h1.2 = h.2 := by subst e1; rfl
    have Q9 := m_feed (F := F) M1.o M1.k3 a b d e9 f9 sd1
    rw [if_pos c, if_pos c] at Q9
    refine ⟨⟨_, M1.o⟩, by rw [e2]; exact ⟨by omega, by omega⟩, ⟨_, rfl⟩, _, ⟨by decide, by decide, rfl, rfl⟩, zMet_mono Q9 (fun r2 h2 q2 => ?_)⟩
    obtain ⟨rfl, rfl⟩ := q2
    have bd2 : h1.2.1 + 2 * nn T 16 ≤ 120 + 3 * (k + 1) ∧ h1.2.2 + 257 * nn T 16 ≤ 325000 + 262 * (k + 1) := by rw [e2]; exact ⟨by omega, by omega⟩
    subst e1
    exact ⟨rfl, LW.fin ((W.u2 _).u1 _) ((M1.s3 _).so _) rfl s1 rb re ⟨by omega, sd2, sd3, sd4, sd5, sd6, sd7, sd8⟩ bd2 (by omega)⟩
  · have PX := p_feed (F := F) W a b d e9 f9 sd1
    rw [if_neg c, if_neg c] at PX
    refine ⟨_, ⟨by decide, by decide, by show h.2.1 + 0 ≤ _; omega, by show h.2.2 + 0 ≤ _; omega⟩, zMet_mono PX (fun r h1 q => ?_)⟩
    obtain ⟨rfl, e1⟩ := q
    have fx : frx Ω h h1 := by rw [e1]; exact frx_r
    have M1 := M.kf s fx
    have s1 := s.kf fx
    have e2 : h1.2 = h.2 := by subst e1; rfl
    have Q9 := m_feed (F := F) M1.o M1.k3 a b d e9 f9 sd1
    rw [if_neg c, if_neg c] at Q9
    refine ⟨⟨_, M1.o⟩, by rw [e2]; exact ⟨by omega, by omega⟩, ⟨_, rfl⟩, _, ⟨by decide, by decide, rfl, rfl⟩, zMet_mono Q9 (fun r2 h2 q2 => ?_)⟩
    obtain ⟨rfl, rfl⟩ := q2
    have bd2 : h1.2.1 + 2 * nn T 16 ≤ 120 + 3 * (k + 1) ∧ h1.2.2 + 257 * nn T 16 ≤ 325000 + 262 * (k + 1) := by rw [e2]; exact ⟨by omega, by omega⟩
    subst e1
    exact ⟨rfl, LW.fin (W) (M1.so _) rfl s1 rb re sd bd2 (by omega)⟩

set_option maxHeartbeats 1000000 in
theorem q_end {F : zF} {h : zH} {x m o k N : Nat} {Ω : Nat → Prop} {Q : Nat → Nat} {cu ha un : Int32} {n : Nat} {B : Nat → Int32} {hg at9 fk fp : Int32} {sp : Option Nat} {G : Nat → Option Nat} {T : Nat → zS} {wf lf hf : Nat → Int32} {ff : Nat → Int64} {V : Nat → Int32} {wk : Int32} {hm pm : Int64} {O : Nat → Int32} {C : Nat → Option Nat} {ch : Nat} {D : Nat → Option Nat} {dh : Nat} {E : Nat → zD} {Z : Nat → Int64} {P : Nat → Int32} {ph : Nat} {ca cl cw : Nat → Nat} {K : Nat → Int32 × Int32 × Int32 × Int32} {cf : Nat → Nat → Int64} {wk2 : Int32} {hm2 pm2 : Int64} {O2 : Nat → Int32} {C2 : Nat → Option Nat} {ch2 : Nat} {D2 : Nat → Option Nat} {dh2 : Nat} {E2 : Nat → zD} {Z2 : Nat → Int64} {P2 : Nat → Int32} {ph2 : Nat} {ca2 cl2 cw2 : Nat → Nat} {K2 : Nat → Int32 × Int32 × Int32 × Int32} {cf2 : Nat → Nat → Int64} {v R : Nat → Nat} {ct dt : Int32} {hlt pdt : Int64} {pt hgM th atM sz : Int32} {SC PN LN PR PA VD : Nat → Int32} {DV ZM : Nat → Int64} {PM SC2 PN2 LN2 PR2 PA2 VD2 : Nat → Int32} {DV2 Z2M : Nat → Int64} {P2M PL O1M O2M : Nat → Int32} (L : WD h x m o k N Ω Q cu ha un n B hg at9 fk fp sp G T wf lf hf ff V wk hm pm O C ch D dh E Z P ph ca cl cw K cf wk2 hm2 pm2 O2 C2 ch2 D2 dh2 E2 Z2 P2 ph2 ca2 cl2 cw2 K2 cf2 v R ct dt hlt pdt pt hgM th atM sz SC PN LN PR PA VD DV ZM PM SC2 PN2 LN2 PR2 PA2 VD2 DV2 Z2M P2M PL O1M O2M) (hk : k < 512) (a : Int32) : PAIRi F yX7_end cX7_end 2 yX8_end cX8_end 2 (some .boolean) x m o k h [.int a] := by
  obtain ⟨W, M, rfl, s, rb, re, sd, bd, hN⟩ := L
  obtain ⟨rb1, rb2, rb3, rb4, rb5, rb6, rb7, rb8, rb9⟩ := id rb
  obtain ⟨sd1, sd2, sd3, sd4, sd5, sd6, sd7, sd8⟩ := id sd
  obtain ⟨x0, t1, t2, r3, r4, sp9, gg, ls, lsd, s5, s6, s7, s8, s9, v30, bn, be, kn, ke, hQ⟩ := id W
  obtain ⟨b0, b1, b2, b3, b4, b5, bD, bE, bC⟩ := id bn
  by_cases c : x_cut n a = 0
  · have PX := p_end (F := F) W a
    rw [if_pos c] at PX
    refine ⟨_, ⟨by decide, by decide, by show h.2.1 + 0 ≤ _; omega, by show h.2.2 + 0 ≤ _; omega⟩, zMet_mono PX (fun r h1 q => ?_)⟩
    obtain ⟨rfl, e1⟩ := q
    have fx : frx Ω h h1 := by rw [e1]; exact frx_r
    have M1 := M.kf s fx
    have s1 := s.kf fx
    have e2 : h1.2 = h.2 := by subst e1; rfl
    have Q9 := m_end (F := F) M1.o a
    rw [if_pos c] at Q9
    refine ⟨⟨_, M1.o⟩, by rw [e2]; exact ⟨by omega, by omega⟩, ⟨_, rfl⟩, _, ⟨by decide, by decide, rfl, rfl⟩, zMet_mono Q9 (fun r2 h2 q2 => ?_)⟩
    obtain ⟨rfl, rfl⟩ := q2
    have bd2 : h1.2.1 + 2 * nn T 16 ≤ 120 + 3 * (k + 1) ∧ h1.2.2 + 257 * nn T 16 ≤ 325000 + 262 * (k + 1) := by rw [e2]; exact ⟨by omega, by omega⟩
    subst e1
    exact ⟨rfl, LW.fin (W) (M1.so _) rfl s1 rb re sd bd2 (by omega)⟩
  · have PX := p_end (F := F) W a
    obtain ⟨t, ht, rfl⟩ := cut_k sd1 c
    rw [if_neg c] at PX
    refine ⟨_, ⟨by decide, by decide, by show h.2.1 + 0 ≤ _; omega, by show h.2.2 + 0 ≤ _; omega⟩, zMet_mono PX (fun r h1 q => ?_)⟩
    obtain ⟨rfl, e1⟩ := q
    have fx : frx Ω h h1 := by rw [e1]; exact frx_s t1.2
    have M1 := M.kf s fx
    have s1 := s.kf fx
    have e2 : h1.2 = h.2 := by subst e1; rfl
    have Q9 := m_end (F := F) M1.o (nI t)
    rw [if_neg c] at Q9
    refine ⟨⟨_, M1.o⟩, by rw [e2]; exact ⟨by omega, by omega⟩, ⟨_, rfl⟩, _, ⟨by decide, by decide, rfl, rfl⟩, zMet_mono Q9 (fun r2 h2 q2 => ?_)⟩
    obtain ⟨rfl, rfl⟩ := q2
    have bd2 : h1.2.1 + 2 * nn T 16 ≤ 120 + 3 * (k + 1) ∧ h1.2.2 + 257 * nn T 16 ≤ 325000 + 262 * (k + 1) := by rw [e2]; exact ⟨by omega, by omega⟩
    subst e1
    exact ⟨rfl, LW.fin (W.u1 t) (M1.so _) rfl s1 rb re ⟨by omega, sd2, sd3, sd4, sd5, sd6, sd7, sd8⟩ bd2 (by omega)⟩
