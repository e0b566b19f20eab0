/-! each call, on both sides: the same answer, and the worlds stay together -/
def PAIRi (F : zF) (y7 : MethodName) (c7 : ByteArray) (n7 : Nat) (y8 : MethodName) (c8 : ByteArray) (n8 : Nat) (ret : Option FieldType) (x m o k : Nat) (h : zH) (as : List Value) : Prop := ∃ rm7 : Room, (rm7.frames ≤ 40 ∧ rm7.locals ≤ 1200 ∧ h.2.1 + rm7.cells ≤ 4000 ∧ h.2.2 + rm7.slots ≤ 600000) ∧
  zMet F y7 c7 n7 ret rm7 (.ref x :: as) h (fun v h1 => (∃ fs, h1.1 m = some (oB 8 fs)) ∧ (h1.2.1 ≤ 4000 ∧ h1.2.2 ≤ 600000) ∧ (∃ a, v = some (.int a)) ∧ ∃ rm8 : Room, (rm8.frames ≤ 40 ∧ rm8.locals ≤ 1200 ∧ rm8.cells = 0 ∧ rm8.slots = 0) ∧ zMet F y8 c8 n8 ret rm8 (.ref m :: as) h1 (fun v2 h2 => v2 = v ∧ LW h2 x m o (k + 1)))
def PAIRl (F : zF) (y7 : MethodName) (c7 : ByteArray) (n7 : Nat) (y8 : MethodName) (c8 : ByteArray) (n8 : Nat) (ret : Option FieldType) (x m o k : Nat) (h : zH) (as : List Value) : Prop := ∃ rm7 : Room, (rm7.frames ≤ 40 ∧ rm7.locals ≤ 1200 ∧ h.2.1 + rm7.cells ≤ 4000 ∧ h.2.2 + rm7.slots ≤ 600000) ∧
  zMet F y7 c7 n7 ret rm7 (.ref x :: as) h (fun v h1 => (∃ fs, h1.1 m = some (oB 8 fs)) ∧ (h1.2.1 ≤ 4000 ∧ h1.2.2 ≤ 600000) ∧ (∃ a, v = some (.long a)) ∧ ∃ rm8 : Room, (rm8.frames ≤ 40 ∧ rm8.locals ≤ 1200 ∧ rm8.cells = 0 ∧ rm8.slots = 0) ∧ zMet F y8 c8 n8 ret rm8 (.ref m :: as) h1 (fun v2 h2 => v2 = v ∧ LW h2 x m o (k + 1)))
theorem upd_at (f : Nat → Int32) (k : Nat) (x : Int32) (q : Nat) : upd f k x q = if q = k then x else f q := by
  by_cases c : q = k
  · rw [if_pos c, c]; exact pk_us
  · rw [if_neg c]; exact pk_un c
theorem goals_k (a b : Int32) : ∃ k, k < 4 ∧ x_goals a b = nI k := by
  unfold x_goals
  split
  · split
    · exact ⟨3, by decide, rfl⟩
    · exact ⟨2, by decide, rfl⟩
  · split
    · exact ⟨1, by decide, rfl⟩
    · exact ⟨0, by decide, rfl⟩
theorem nI_nm1 {k : Nat} (h : k < 4) : ¬ nI k = -1 := by
  have : k = 0 ∨ k = 1 ∨ k = 2 ∨ k = 3 := by omega
  rcases this with rfl | rfl | rfl | rfl <;> decide
theorem mo_s {SC PN : Nat → Int32} {k q : Nat} {g : Int32} (hg : ¬ g = -1) : mo (upd SC k g) PN q = if q = k then g else mo SC PN q := by
  unfold mo
  rw [upd_at]
  by_cases c : q = k
  · rw [if_pos c, if_neg hg, if_pos c]
  · rw [if_neg c, if_neg c]
theorem mo_p {SC PN : Nat → Int32} {k q : Nat} {g : Int32} : mo (upd SC k (-1)) (upd PN k g) q = if q = k then g else mo SC PN q := by
  unfold mo
  rw [upd_at, upd_at]
  by_cases c : q = k
  · rw [if_pos c, if_pos rfl, if_pos c, if_pos c]
  · rw [if_neg c, if_neg c, if_neg c]

theorem RB.out {O9 SC9 PN9 : Nat → Int32} {N : Nat} {O : Nat → Int32} {ch : Nat} {K : Nat → Int32 × Int32 × Int32 × Int32} {cf : Nat → Nat → Int64} {dh : Nat} {E : Nat → zD} {Z : Nat → Int64} {P : Nat → Int32} {ph : Nat} {SC PN LN PR PA VD : Nat → Int32} {DV ZM : Nat → Int64} {PM : Nat → Int32} (h : RB N O ch K cf dh E Z P ph SC PN LN PR PA VD DV ZM PM) (h1 : ∀ q, q < 14 → mo SC9 PN9 q = O9 q) (h2 : okO O9) : RB N O9 ch K cf dh E Z P ph SC9 PN9 LN PR PA VD DV ZM PM := ⟨h1, h2, h.2.2⟩

theorem ans {a b : Int32} (h : a = b) : some (Value.int a) = some (Value.int b) := by rw [h]
theorem ansL {a b : Int64} (h : a = b) : some (Value.long a) = some (Value.long b) := by rw [h]

set_option maxHeartbeats 1000000 in
theorem q_outcome {F : zF} {h : zH} {x m o k N : Nat} {Ω : Nat → Prop} {Q : Nat → Nat} {cu ha un : Int32} {n : Nat} {B : Nat → Int32} {hg at9 fk fp : Int32} {sp : Option Nat} {G : Nat → Option Nat} {T : Nat → zS} {wf lf hf : Nat → Int32} {ff : Nat → Int64} {V : Nat → Int32} {wk : Int32} {hm pm : Int64} {O : Nat → Int32} {C : Nat → Option Nat} {ch : Nat} {D : Nat → Option Nat} {dh : Nat} {E : Nat → zD} {Z : Nat → Int64} {P : Nat → Int32} {ph : Nat} {ca cl cw : Nat → Nat} {K : Nat → Int32 × Int32 × Int32 × Int32} {cf : Nat → Nat → Int64} {wk2 : Int32} {hm2 pm2 : Int64} {O2 : Nat → Int32} {C2 : Nat → Option Nat} {ch2 : Nat} {D2 : Nat → Option Nat} {dh2 : Nat} {E2 : Nat → zD} {Z2 : Nat → Int64} {P2 : Nat → Int32} {ph2 : Nat} {ca2 cl2 cw2 : Nat → Nat} {K2 : Nat → Int32 × Int32 × Int32 × Int32} {cf2 : Nat → Nat → Int64} {v R : Nat → Nat} {ct dt : Int32} {hlt pdt : Int64} {pt hgM th atM sz : Int32} {SC PN LN PR PA VD : Nat → Int32} {DV ZM : Nat → Int64} {PM SC2 PN2 LN2 PR2 PA2 VD2 : Nat → Int32} {DV2 Z2M : Nat → Int64} {P2M PL O1M O2M : Nat → Int32} (L : WD h x m o k N Ω Q cu ha un n B hg at9 fk fp sp G T wf lf hf ff V wk hm pm O C ch D dh E Z P ph ca cl cw K cf wk2 hm2 pm2 O2 C2 ch2 D2 dh2 E2 Z2 P2 ph2 ca2 cl2 cw2 K2 cf2 v R ct dt hlt pdt pt hgM th atM sz SC PN LN PR PA VD DV ZM PM SC2 PN2 LN2 PR2 PA2 VD2 DV2 Z2M P2M PL O1M O2M) (hk : k < 512) (a : Int32) : PAIRi F yX7_outcome cX7_outcome 2 yX8_outcome cX8_outcome 2 (some .int) x m o k h [.int a] := by
  obtain ⟨W, M, rfl, s, rb, re, sd, bd, hN⟩ := L
  obtain ⟨rb1, rb2, rb3, rb4, rb5, rb6, rb7, rb8, rb9⟩ := id rb
  obtain ⟨sd1, sd2, sd3, sd4, sd5, sd6, sd7, sd8⟩ := id sd
  refine ⟨_, ⟨by decide, by decide, by show h.2.1 + 0 ≤ _; omega, by show h.2.2 + 0 ≤ _; omega⟩, zMet_mono (p_outcome W a) (fun r h1 q => ?_)⟩
  obtain ⟨rfl, rfl⟩ := q
  refine ⟨⟨_, M.o⟩, ⟨by omega, by omega⟩, ⟨_, rfl⟩, _, ⟨by decide, by decide, rfl, rfl⟩, zMet_mono (m_outcome M.o M.k0 M.k1 a) (fun r2 h2 q2 => ?_)⟩
  obtain ⟨rfl, rfl⟩ := q2
  exact ⟨ans (by
    by_cases c : x_isIn a 0 13 = 0
    · rw [if_pos c, if_pos c]
    · obtain ⟨t, ht, rfl⟩ := isIn_k (N := 13) (by decide) c
      rw [if_neg c, if_neg c, nI_clamp (by omega)]; exact rb1 t (by omega)), LW.fin W (M.so _) rfl s rb re sd ⟨by omega, by omega⟩ (by omega)⟩

set_option maxHeartbeats 1000000 in
theorem q_fault {F : zF} {h : zH} {x m o k N : Nat} {Ω : Nat → Prop} {Q : Nat → Nat} {cu ha un : Int32} {n : Nat} {B : Nat → Int32} {hg at9 fk fp : Int32} {sp : Option Nat} {G : Nat → Option Nat} {T : Nat → zS} {wf lf hf : Nat → Int32} {ff : Nat → Int64} {V : Nat → Int32} {wk : Int32} {hm pm : Int64} {O : Nat → Int32} {C : Nat → Option Nat} {ch : Nat} {D : Nat → Option Nat} {dh : Nat} {E : Nat → zD} {Z : Nat → Int64} {P : Nat → Int32} {ph : Nat} {ca cl cw : Nat → Nat} {K : Nat → Int32 × Int32 × Int32 × Int32} {cf : Nat → Nat → Int64} {wk2 : Int32} {hm2 pm2 : Int64} {O2 : Nat → Int32} {C2 : Nat → Option Nat} {ch2 : Nat} {D2 : Nat → Option Nat} {dh2 : Nat} {E2 : Nat → zD} {Z2 : Nat → Int64} {P2 : Nat → Int32} {ph2 : Nat} {ca2 cl2 cw2 : Nat → Nat} {K2 : Nat → Int32 × Int32 × Int32 × Int32} {cf2 : Nat → Nat → Int64} {v R : Nat → Nat} {ct dt : Int32} {hlt pdt : Int64} {pt hgM th atM sz : Int32} {SC PN LN PR PA VD : Nat → Int32} {DV ZM : Nat → Int64} {PM SC2 PN2 LN2 PR2 PA2 VD2 : Nat → Int32} {DV2 Z2M : Nat → Int64} {P2M PL O1M O2M : Nat → Int32} (L : WD h x m o k N Ω Q cu ha un n B hg at9 fk fp sp G T wf lf hf ff V wk hm pm O C ch D dh E Z P ph ca cl cw K cf wk2 hm2 pm2 O2 C2 ch2 D2 dh2 E2 Z2 P2 ph2 ca2 cl2 cw2 K2 cf2 v R ct dt hlt pdt pt hgM th atM sz SC PN LN PR PA VD DV ZM PM SC2 PN2 LN2 PR2 PA2 VD2 DV2 Z2M P2M PL O1M O2M) (hk : k < 512) (a : Int32) : PAIRi F yX7_fault cX7_fault 2 yX8_fault cX8_fault 2 (some .int) x m o k h [.int a] := by
  obtain ⟨W, M, rfl, s, rb, re, sd, bd, hN⟩ := L
  obtain ⟨rb1, rb2, rb3, rb4, rb5, rb6, rb7, rb8, rb9⟩ := id rb
  obtain ⟨sd1, sd2, sd3, sd4, sd5, sd6, sd7, sd8⟩ := id sd
  refine ⟨_, ⟨by decide, by decide, by show h.2.1 + 0 ≤ _; omega, by show h.2.2 + 0 ≤ _; omega⟩, zMet_mono (p_fault W a) (fun r h1 q => ?_)⟩
  obtain ⟨rfl, rfl⟩ := q
  refine ⟨⟨_, M.o⟩, ⟨by omega, by omega⟩, ⟨_, rfl⟩, _, ⟨by decide, by decide, rfl, rfl⟩, zMet_mono (m_fault M.o a) (fun r2 h2 q2 => ?_)⟩
  obtain ⟨rfl, rfl⟩ := q2
  exact ⟨rfl, LW.fin W (M.so _) rfl s rb re sd ⟨by omega, by omega⟩ (by omega)⟩

set_option maxHeartbeats 1000000 in
theorem q_line {F : zF} {h : zH} {x m o k N : Nat} {Ω : Nat → Prop} {Q : Nat → Nat} {cu ha un : Int32} {n : Nat} {B : Nat → Int32} {hg at9 fk fp : Int32} {sp : Option Nat} {G : Nat → Option Nat} {T : Nat → zS} {wf lf hf : Nat → Int32} {ff : Nat → Int64} {V : Nat → Int32} {wk : Int32} {hm pm : Int64} {O : Nat → Int32} {C : Nat → Option Nat} {ch : Nat} {D : Nat → Option Nat} {dh : Nat} {E : Nat → zD} {Z : Nat → Int64} {P : Nat → Int32} {ph : Nat} {ca cl cw : Nat → Nat} {K : Nat → Int32 × Int32 × Int32 × Int32} {cf : Nat → Nat → Int64} {wk2 : Int32} {hm2 pm2 : Int64} {O2 : Nat → Int32} {C2 : Nat → Option Nat} {ch2 : Nat} {D2 : Nat → Option Nat} {dh2 : Nat} {E2 : Nat → zD} {Z2 : Nat → Int64} {P2 : Nat → Int32} {ph2 : Nat} {ca2 cl2 cw2 : Nat → Nat} {K2 : Nat → Int32 × Int32 × Int32 × Int32} {cf2 : Nat → Nat → Int64} {v R : Nat → Nat} {ct dt : Int32} {hlt pdt : Int64} {pt hgM th atM sz : Int32} {SC PN LN PR PA VD : Nat → Int32} {DV ZM : Nat → Int64} {PM SC2 PN2 LN2 PR2 PA2 VD2 : Nat → Int32} {DV2 Z2M : Nat → Int64} {P2M PL O1M O2M : Nat → Int32} (L : WD h x m o k N Ω Q cu ha un n B hg at9 fk fp sp G T wf lf hf ff V wk hm pm O C ch D dh E Z P ph ca cl cw K cf wk2 hm2 pm2 O2 C2 ch2 D2 dh2 E2 Z2 P2 ph2 ca2 cl2 cw2 K2 cf2 v R ct dt hlt pdt pt hgM th atM sz SC PN LN PR PA VD DV ZM PM SC2 PN2 LN2 PR2 PA2 VD2 DV2 Z2M P2M PL O1M O2M) (hk : k < 512) (a : Int32) (b : Int32) : PAIRi F yX7_line cX7_line 4 yX8_line cX8_line 5 (some .int) x m o k h [.int a, .int b] := by
  obtain ⟨W, M, rfl, s, rb, re, sd, bd, hN⟩ := L
  obtain ⟨rb1, rb2, rb3, rb4, rb5, rb6, rb7, rb8, rb9⟩ := id rb
  obtain ⟨sd1, sd2, sd3, sd4, sd5, sd6, sd7, sd8⟩ := id sd
  refine ⟨_, ⟨by decide, by decide, by show h.2.1 + 0 ≤ _; omega, by show h.2.2 + 0 ≤ _; omega⟩, zMet_mono (p_line W rb3 a b) (fun r h1 q => ?_)⟩
  obtain ⟨rfl, rfl⟩ := q
  refine ⟨⟨_, M.o⟩, ⟨by omega, by omega⟩, ⟨_, rfl⟩, _, ⟨by decide, by decide, rfl, rfl⟩, zMet_mono (m_line M.o M.k4 rb3 a b) (fun r2 h2 q2 => ?_)⟩
  obtain ⟨rfl, rfl⟩ := q2
  exact ⟨ans (by
    by_cases c : x_C ch a = 0
    · rw [if_pos c, if_pos c]
    · obtain ⟨t, ht, rfl⟩ := x_C_k (by omega) c
      have et : (nI t).toNatClampNeg = t := nI_clamp (by omega)
      rw [if_neg c, if_neg c, et]
      obtain ⟨g1, g2, g3, g4⟩ := rb4 t ht
      exact line_eq g1 b), LW.fin W (M.so _) rfl s rb re sd ⟨by omega, by omega⟩ (by omega)⟩

set_option maxHeartbeats 1000000 in
theorem q_below {F : zF} {h : zH} {x m o k N : Nat} {Ω : Nat → Prop} {Q : Nat → Nat} {cu ha un : Int32} {n : Nat} {B : Nat → Int32} {hg at9 fk fp : Int32} {sp : Option Nat} {G : Nat → Option Nat} {T : Nat → zS} {wf lf hf : Nat → Int32} {ff : Nat → Int64} {V : Nat → Int32} {wk : Int32} {hm pm : Int64} {O : Nat → Int32} {C : Nat → Option Nat} {ch : Nat} {D : Nat → Option Nat} {dh : Nat} {E : Nat → zD} {Z : Nat → Int64} {P : Nat → Int32} {ph : Nat} {ca cl cw : Nat → Nat} {K : Nat → Int32 × Int32 × Int32 × Int32} {cf : Nat → Nat → Int64} {wk2 : Int32} {hm2 pm2 : Int64} {O2 : Nat → Int32} {C2 : Nat → Option Nat} {ch2 : Nat} {D2 : Nat → Option Nat} {dh2 : Nat} {E2 : Nat → zD} {Z2 : Nat → Int64} {P2 : Nat → Int32} {ph2 : Nat} {ca2 cl2 cw2 : Nat → Nat} {K2 : Nat → Int32 × Int32 × Int32 × Int32} {cf2 : Nat → Nat → Int64} {v R : Nat → Nat} {ct dt : Int32} {hlt pdt : Int64} {pt hgM th atM sz : Int32} {SC PN LN PR PA VD : Nat → Int32} {DV ZM : Nat → Int64} {PM SC2 PN2 LN2 PR2 PA2 VD2 : Nat → Int32} {DV2 Z2M : Nat → Int64} {P2M PL O1M O2M : Nat → Int32} (L : WD h x m o k N Ω Q cu ha un n B hg at9 fk fp sp G T wf lf hf ff V wk hm pm O C ch D dh E Z P ph ca cl cw K cf wk2 hm2 pm2 O2 C2 ch2 D2 dh2 E2 Z2 P2 ph2 ca2 cl2 cw2 K2 cf2 v R ct dt hlt pdt pt hgM th atM sz SC PN LN PR PA VD DV ZM PM SC2 PN2 LN2 PR2 PA2 VD2 DV2 Z2M P2M PL O1M O2M) (hk : k < 512) (a : Int32) (b : Int32) : PAIRi F yX7_below cX7_below 4 yX8_below cX8_below 3 (some .int) x m o k h [.int a, .int b] := by
  obtain ⟨W, M, rfl, s, rb, re, sd, bd, hN⟩ := L
  obtain ⟨rb1, rb2, rb3, rb4, rb5, rb6, rb7, rb8, rb9⟩ := id rb
  obtain ⟨sd1, sd2, sd3, sd4, sd5, sd6, sd7, sd8⟩ := id sd
  refine ⟨_, ⟨by decide, by decide, by show h.2.1 + 0 ≤ _; omega, by show h.2.2 + 0 ≤ _; omega⟩, zMet_mono (p_below W rb3 a b) (fun r h1 q => ?_)⟩
  obtain ⟨rfl, rfl⟩ := q
  refine ⟨⟨_, M.o⟩, ⟨by omega, by omega⟩, ⟨_, rfl⟩, _, ⟨by decide, by decide, rfl, rfl⟩, zMet_mono (m_below M.o M.k4 rb3 a b) (fun r2 h2 q2 => ?_)⟩
  obtain ⟨rfl, rfl⟩ := q2
  exact ⟨ans (by
    by_cases c : ¬ x_C ch a = 0 ∧ ¬ x_isIn b 0 16384 = 0
    · obtain ⟨t, ht, rfl⟩ := x_C_k (by omega) c.1
      obtain ⟨j, hj, rfl⟩ := isIn_k (N := 16384) (by decide) c.2
      rw [if_pos c, if_pos c, nI_clamp (by omega), nI_clamp (by omega), ct_eq (rb4 t ht).1 hj]
    · rw [if_neg c, if_neg c]), LW.fin W (M.so _) rfl s rb re sd ⟨by omega, by omega⟩ (by omega)⟩

set_option maxHeartbeats 1000000 in
theorem q_unlike {F : zF} {h : zH} {x m o k N : Nat} {Ω : Nat → Prop} {Q : Nat → Nat} {cu ha un : Int32} {n : Nat} {B : Nat → Int32} {hg at9 fk fp : Int32} {sp : Option Nat} {G : Nat → Option Nat} {T : Nat → zS} {wf lf hf : Nat → Int32} {ff : Nat → Int64} {V : Nat → Int32} {wk : Int32} {hm pm : Int64} {O : Nat → Int32} {C : Nat → Option Nat} {ch : Nat} {D : Nat → Option Nat} {dh : Nat} {E : Nat → zD} {Z : Nat → Int64} {P : Nat → Int32} {ph : Nat} {ca cl cw : Nat → Nat} {K : Nat → Int32 × Int32 × Int32 × Int32} {cf : Nat → Nat → Int64} {wk2 : Int32} {hm2 pm2 : Int64} {O2 : Nat → Int32} {C2 : Nat → Option Nat} {ch2 : Nat} {D2 : Nat → Option Nat} {dh2 : Nat} {E2 : Nat → zD} {Z2 : Nat → Int64} {P2 : Nat → Int32} {ph2 : Nat} {ca2 cl2 cw2 : Nat → Nat} {K2 : Nat → Int32 × Int32 × Int32 × Int32} {cf2 : Nat → Nat → Int64} {v R : Nat → Nat} {ct dt : Int32} {hlt pdt : Int64} {pt hgM th atM sz : Int32} {SC PN LN PR PA VD : Nat → Int32} {DV ZM : Nat → Int64} {PM SC2 PN2 LN2 PR2 PA2 VD2 : Nat → Int32} {DV2 Z2M : Nat → Int64} {P2M PL O1M O2M : Nat → Int32} (L : WD h x m o k N Ω Q cu ha un n B hg at9 fk fp sp G T wf lf hf ff V wk hm pm O C ch D dh E Z P ph ca cl cw K cf wk2 hm2 pm2 O2 C2 ch2 D2 dh2 E2 Z2 P2 ph2 ca2 cl2 cw2 K2 cf2 v R ct dt hlt pdt pt hgM th atM sz SC PN LN PR PA VD DV ZM PM SC2 PN2 LN2 PR2 PA2 VD2 DV2 Z2M P2M PL O1M O2M) (hk : k < 512) (a : Int32) (b : Int32) : PAIRi F yX7_unlike cX7_unlike 5 yX8_unlike cX8_unlike 4 (some .int) x m o k h [.int a, .int b] := by
  obtain ⟨W, M, rfl, s, rb, re, sd, bd, hN⟩ := L
  obtain ⟨rb1, rb2, rb3, rb4, rb5, rb6, rb7, rb8, rb9⟩ := id rb
  obtain ⟨sd1, sd2, sd3, sd4, sd5, sd6, sd7, sd8⟩ := id sd
  refine ⟨_, ⟨by decide, by decide, by show h.2.1 + 0 ≤ _; omega, by show h.2.2 + 0 ≤ _; omega⟩, zMet_mono (p_unlike W rb3 a b) (fun r h1 q => ?_)⟩
  obtain ⟨rfl, rfl⟩ := q
  refine ⟨⟨_, M.o⟩, ⟨by omega, by omega⟩, ⟨_, rfl⟩, _, ⟨by decide, by decide, rfl, rfl⟩, zMet_mono (m_unlike M.o M.k4 rb3 a b) (fun r2 h2 q2 => ?_)⟩
  obtain ⟨rfl, rfl⟩ := q2
  exact ⟨ans (by
    by_cases c : ¬ x_C ch a = 0 ∧ ¬ x_C ch b = 0
    · obtain ⟨t, ht, rfl⟩ := x_C_k (by omega) c.1
      obtain ⟨j, hj, rfl⟩ := x_C_k (by omega) c.2
      rw [if_pos c, if_pos c, nI_clamp (by omega), nI_clamp (by omega)]
      exact unl_eq (rb4 t ht).1 (rb4 j hj).1
    · rw [if_neg c, if_neg c]), LW.fin W (M.so _) rfl s rb re sd ⟨by omega, by omega⟩ (by omega)⟩

set_option maxHeartbeats 1000000 in
theorem q_divided {F : zF} {h : zH} {x m o k N : Nat} {Ω : Nat → Prop} {Q : Nat → Nat} {cu ha un : Int32} {n : Nat} {B : Nat → Int32} {hg at9 fk fp : Int32} {sp : Option Nat} {G : Nat → Option Nat} {T : Nat → zS} {wf lf hf : Nat → Int32} {ff : Nat → Int64} {V : Nat → Int32} {wk : Int32} {hm pm : Int64} {O : Nat → Int32} {C : Nat → Option Nat} {ch : Nat} {D : Nat → Option Nat} {dh : Nat} {E : Nat → zD} {Z : Nat → Int64} {P : Nat → Int32} {ph : Nat} {ca cl cw : Nat → Nat} {K : Nat → Int32 × Int32 × Int32 × Int32} {cf : Nat → Nat → Int64} {wk2 : Int32} {hm2 pm2 : Int64} {O2 : Nat → Int32} {C2 : Nat → Option Nat} {ch2 : Nat} {D2 : Nat → Option Nat} {dh2 : Nat} {E2 : Nat → zD} {Z2 : Nat → Int64} {P2 : Nat → Int32} {ph2 : Nat} {ca2 cl2 cw2 : Nat → Nat} {K2 : Nat → Int32 × Int32 × Int32 × Int32} {cf2 : Nat → Nat → Int64} {v R : Nat → Nat} {ct dt : Int32} {hlt pdt : Int64} {pt hgM th atM sz : Int32} {SC PN LN PR PA VD : Nat → Int32} {DV ZM : Nat → Int64} {PM SC2 PN2 LN2 PR2 PA2 VD2 : Nat → Int32} {DV2 Z2M : Nat → Int64} {P2M PL O1M O2M : Nat → Int32} (L : WD h x m o k N Ω Q cu ha un n B hg at9 fk fp sp G T wf lf hf ff V wk hm pm O C ch D dh E Z P ph ca cl cw K cf wk2 hm2 pm2 O2 C2 ch2 D2 dh2 E2 Z2 P2 ph2 ca2 cl2 cw2 K2 cf2 v R ct dt hlt pdt pt hgM th atM sz SC PN LN PR PA VD DV ZM PM SC2 PN2 LN2 PR2 PA2 VD2 DV2 Z2M P2M PL O1M O2M) (hk : k < 512) (a : Int32) (b : Int32) : PAIRl F yX7_divided cX7_divided 4 yX8_divided cX8_divided 3 (some .long) x m o k h [.int a, .int b] := by
  obtain ⟨W, M, rfl, s, rb, re, sd, bd, hN⟩ := L
  obtain ⟨rb1, rb2, rb3, rb4, rb5, rb6, rb7, rb8, rb9⟩ := id rb
  obtain ⟨sd1, sd2, sd3, sd4, sd5, sd6, sd7, sd8⟩ := id sd
  refine ⟨_, ⟨by decide, by decide, by show h.2.1 + 0 ≤ _; omega, by show h.2.2 + 0 ≤ _; omega⟩, zMet_mono (p_divided W rb5 a b) (fun r h1 q => ?_)⟩
  obtain ⟨rfl, rfl⟩ := q
  refine ⟨⟨_, M.o⟩, ⟨by omega, by omega⟩, ⟨_, rfl⟩, _, ⟨by decide, by decide, rfl, rfl⟩, zMet_mono (m_divided M.o M.k8 rb5 a b) (fun r2 h2 q2 => ?_)⟩
  obtain ⟨rfl, rfl⟩ := q2
  exact ⟨ansL (dvq_eq rb5 rb6).symm, LW.fin W (M.so _) rfl s rb re sd ⟨by omega, by omega⟩ (by omega)⟩

set_option maxHeartbeats 1000000 in
theorem q_prize {F : zF} {h : zH} {x m o k N : Nat} {Ω : Nat → Prop} {Q : Nat → Nat} {cu ha un : Int32} {n : Nat} {B : Nat → Int32} {hg at9 fk fp : Int32} {sp : Option Nat} {G : Nat → Option Nat} {T : Nat → zS} {wf lf hf : Nat → Int32} {ff : Nat → Int64} {V : Nat → Int32} {wk : Int32} {hm pm : Int64} {O : Nat → Int32} {C : Nat → Option Nat} {ch : Nat} {D : Nat → Option Nat} {dh : Nat} {E : Nat → zD} {Z : Nat → Int64} {P : Nat → Int32} {ph : Nat} {ca cl cw : Nat → Nat} {K : Nat → Int32 × Int32 × Int32 × Int32} {cf : Nat → Nat → Int64} {wk2 : Int32} {hm2 pm2 : Int64} {O2 : Nat → Int32} {C2 : Nat → Option Nat} {ch2 : Nat} {D2 : Nat → Option Nat} {dh2 : Nat} {E2 : Nat → zD} {Z2 : Nat → Int64} {P2 : Nat → Int32} {ph2 : Nat} {ca2 cl2 cw2 : Nat → Nat} {K2 : Nat → Int32 × Int32 × Int32 × Int32} {cf2 : Nat → Nat → Int64} {v R : Nat → Nat} {ct dt : Int32} {hlt pdt : Int64} {pt hgM th atM sz : Int32} {SC PN LN PR PA VD : Nat → Int32} {DV ZM : Nat → Int64} {PM SC2 PN2 LN2 PR2 PA2 VD2 : Nat → Int32} {DV2 Z2M : Nat → Int64} {P2M PL O1M O2M : Nat → Int32} (L : WD h x m o k N Ω Q cu ha un n B hg at9 fk fp sp G T wf lf hf ff V wk hm pm O C ch D dh E Z P ph ca cl cw K cf wk2 hm2 pm2 O2 C2 ch2 D2 dh2 E2 Z2 P2 ph2 ca2 cl2 cw2 K2 cf2 v R ct dt hlt pdt pt hgM th atM sz SC PN LN PR PA VD DV ZM PM SC2 PN2 LN2 PR2 PA2 VD2 DV2 Z2M P2M PL O1M O2M) (hk : k < 512) (a : Int32) (b : Int32) : PAIRl F yX7_prize cX7_prize 3 yX8_prize cX8_prize 7 (some .long) x m o k h [.int a, .int b] := by
  obtain ⟨W, M, rfl, s, rb, re, sd, bd, hN⟩ := L
  obtain ⟨rb1, rb2, rb3, rb4, rb5, rb6, rb7, rb8, rb9⟩ := id rb
  obtain ⟨sd1, sd2, sd3, sd4, sd5, sd6, sd7, sd8⟩ := id sd
  refine ⟨_, ⟨by decide, by decide, by show h.2.1 + 0 ≤ _; omega, by show h.2.2 + 0 ≤ _; omega⟩, zMet_mono (p_prize W rb8 a b) (fun r h1 q => ?_)⟩
  obtain ⟨rfl, rfl⟩ := q
  refine ⟨⟨_, M.o⟩, ⟨by omega, by omega⟩, ⟨_, rfl⟩, _, ⟨by decide, by decide, rfl, rfl⟩, zMet_mono (m_prize M.o M.k9 M.k10 rb8 (fun q hq e => by have := (rb9 q hq).2.2; rw [e] at this; exact absurd this.1 (by decide)) a b) (fun r2 h2 q2 => ?_)⟩
  obtain ⟨rfl, rfl⟩ := q2
  exact ⟨ansL (prize_eq rb8 rb9 a b).symm, LW.fin W (M.so _) rfl s rb re sd ⟨by omega, by omega⟩ (by omega)⟩

set_option maxHeartbeats 1000000 in
theorem q_count {F : zF} {h : zH} {x m o k N : Nat} {Ω : Nat → Prop} {Q : Nat → Nat} {cu ha un : Int32} {n : Nat} {B : Nat → Int32} {hg at9 fk fp : Int32} {sp : Option Nat} {G : Nat → Option Nat} {T : Nat → zS} {wf lf hf : Nat → Int32} {ff : Nat → Int64} {V : Nat → Int32} {wk : Int32} {hm pm : Int64} {O : Nat → Int32} {C : Nat → Option Nat} {ch : Nat} {D : Nat → Option Nat} {dh : Nat} {E : Nat → zD} {Z : Nat → Int64} {P : Nat → Int32} {ph : Nat} {ca cl cw : Nat → Nat} {K : Nat → Int32 × Int32 × Int32 × Int32} {cf : Nat → Nat → Int64} {wk2 : Int32} {hm2 pm2 : Int64} {O2 : Nat → Int32} {C2 : Nat → Option Nat} {ch2 : Nat} {D2 : Nat → Option Nat} {dh2 : Nat} {E2 : Nat → zD} {Z2 : Nat → Int64} {P2 : Nat → Int32} {ph2 : Nat} {ca2 cl2 cw2 : Nat → Nat} {K2 : Nat → Int32 × Int32 × Int32 × Int32} {cf2 : Nat → Nat → Int64} {v R : Nat → Nat} {ct dt : Int32} {hlt pdt : Int64} {pt hgM th atM sz : Int32} {SC PN LN PR PA VD : Nat → Int32} {DV ZM : Nat → Int64} {PM SC2 PN2 LN2 PR2 PA2 VD2 : Nat → Int32} {DV2 Z2M : Nat → Int64} {P2M PL O1M O2M : Nat → Int32} (L : WD h x m o k N Ω Q cu ha un n B hg at9 fk fp sp G T wf lf hf ff V wk hm pm O C ch D dh E Z P ph ca cl cw K cf wk2 hm2 pm2 O2 C2 ch2 D2 dh2 E2 Z2 P2 ph2 ca2 cl2 cw2 K2 cf2 v R ct dt hlt pdt pt hgM th atM sz SC PN LN PR PA VD DV ZM PM SC2 PN2 LN2 PR2 PA2 VD2 DV2 Z2M P2M PL O1M O2M) (hk : k < 512) (a : Int32) : PAIRl F yX7_count cX7_count 2 yX8_count_ cX8_count_ 5 (some .long) x m o k h [.int a] := by
  obtain ⟨W, M, rfl, s, rb, re, sd, bd, hN⟩ := L
  obtain ⟨rb1, rb2, rb3, rb4, rb5, rb6, rb7, rb8, rb9⟩ := id rb
  obtain ⟨sd1, sd2, sd3, sd4, sd5, sd6, sd7, sd8⟩ := id sd
  refine ⟨_, ⟨by decide, by decide, by show h.2.1 + 0 ≤ _; omega, by show h.2.2 + 0 ≤ _; omega⟩, zMet_mono (p_count W rb3 rb5 a) (fun r h1 q => ?_)⟩
  obtain ⟨rfl, rfl⟩ := q
  refine ⟨⟨_, M.o⟩, ⟨by omega, by omega⟩, ⟨_, rfl⟩, _, ⟨by decide, by decide, rfl, rfl⟩, zMet_mono (m_count M.o M.k0 M.k1 M.k4 M.k5 M.k7 M.k8 rb3 rb5 a) (fun r2 h2 q2 => ?_)⟩
  obtain ⟨rfl, rfl⟩ := q2
  exact ⟨ansL (by
    rw [sumL_cong (f := stk K) (g := stm LN PR VD) (fun q hq => (stk_eq (rb4 q hq).2.1 (rb4 q hq).1 (rb4 q hq).2.2.1).1), sumL_cong (f := fun d => (E d).2.2.2.1) (g := fun e => DV (6 * e + 3)) (fun q hq => ((rb6 q hq).2.2.2.1).symm), fb_ct_cong (p := fun q => decide (¬ O q = -1)) (q := fun q => decide (¬ mo SC PN q = -1)) (fun q hq => by rw [rb1 q hq])]), LW.fin W (M.so _) rfl s rb re sd ⟨by omega, by omega⟩ (by omega)⟩
