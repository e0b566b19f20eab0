/-! told, on both sides -/
theorem told_eq {LN PR PA VD : Nat → Int32} {K : Nat → Int32 × Int32 × Int32 × Int32} {cf : Nat → Nat → Int64} {t : Nat} (w : Int32) (e : eqS (hs9 LN t) (lb (cf t))) (hK : K t = (nI (fb_ct (lb (cf t)) 16384), PR t, PA t, VD t)) : told9 (hs9 LN t) (PR t) (PA t) (VD t) w = told8 (K t) (lb (cf t)) w := by
  unfold told9 told8
  rw [hK, ct_eq e (Nat.le_refl _), or_eq e, an_eq e]
def TOLD (F : zF) (x m o k : Nat) (h : zH) (a b : Int32) : Prop := ∃ rm7 : Room, (rm7.frames ≤ 40 ∧ rm7.locals ≤ 1200 ∧ h.2.1 + rm7.cells ≤ 4000 ∧ h.2.2 + rm7.slots ≤ 600000) ∧
  zMetW F yL_told cL_told 5 (some .int) hhT rm7 [.ref x, .int a, .int b, .ref o] h (fun v h1 => ∃ (r r2 : Int32) (f1 : Nat → Int64) (h2 : zH), v = some (.int r) ∧ (∃ fs, h1.1 m = some (oB 8 fs)) ∧ (h1.2.1 ≤ 4000 ∧ h1.2.2 ≤ 600000) ∧ (r = 0 ∨ r = 1) ∧ zMet F yX8_told cX8_told 6 (some .int) { frames := 3, cells := 0, slots := 0, locals := 90 } [.ref m, .int a, .int b] h1 (zP h2 (some (.int r2))) ∧ (∃ fs, h2.1 m = some (oB 8 fs)) ∧ (h2.2.1 ≤ 4000 ∧ h2.2.2 ≤ 600000) ∧ h2.1 o = some (aJ 1 f1) ∧ zMet F yX8_thrown cX8_thrown 1 (some .int) { frames := 1, cells := 0, slots := 0, locals := 30 } [.ref m] h2 (zP h2 (some (.int r))) ∧ (r = 0 → f1 0 = r2.toInt64) ∧ LW h2 x m o (k + 1))
theorem q_told {F : zF} {h : zH} {x m o k N : Nat} {Ω : Nat → Prop} {Q : Nat → Nat} {cu ha un : Int32} {n : Nat} {B : Nat → Int32} {hg at9 fk fp : Int32} {sp : Option Nat} {G : Nat → Option Nat} {T : Nat → zS} {wf lf hf : Nat → Int32} {ff : Nat → Int64} {V : Nat → Int32} {wk : Int32} {hm pm : Int64} {O : Nat → Int32} {C : Nat → Option Nat} {ch : Nat} {D : Nat → Option Nat} {dh : Nat} {E : Nat → zD} {Z : Nat → Int64} {P : Nat → Int32} {ph : Nat} {ca cl cw : Nat → Nat} {K : Nat → Int32 × Int32 × Int32 × Int32} {cf : Nat → Nat → Int64} {wk2 : Int32} {hm2 pm2 : Int64} {O2 : Nat → Int32} {C2 : Nat → Option Nat} {ch2 : Nat} {D2 : Nat → Option Nat} {dh2 : Nat} {E2 : Nat → zD} {Z2 : Nat → Int64} {P2 : Nat → Int32} {ph2 : Nat} {ca2 cl2 cw2 : Nat → Nat} {K2 : Nat → Int32 × Int32 × Int32 × Int32} {cf2 : Nat → Nat → Int64} {v R : Nat → Nat} {ct dt : Int32} {hlt pdt : Int64} {pt hgM th atM sz : Int32} {SC PN LN PR PA VD : Nat → Int32} {DV ZM : Nat → Int64} {PM SC2 PN2 LN2 PR2 PA2 VD2 : Nat → Int32} {DV2 Z2M : Nat → Int64} {P2M PL O1M O2M : Nat → Int32} (hl : F.1.stackTraces = false) (L : WD h x m o k N Ω Q cu ha un n B hg at9 fk fp sp G T wf lf hf ff V wk hm pm O C ch D dh E Z P ph ca cl cw K cf wk2 hm2 pm2 O2 C2 ch2 D2 dh2 E2 Z2 P2 ph2 ca2 cl2 cw2 K2 cf2 v R ct dt hlt pdt pt hgM th atM sz SC PN LN PR PA VD DV ZM PM SC2 PN2 LN2 PR2 PA2 VD2 DV2 Z2M P2M PL O1M O2M) (hk : k < 512) (a b : Int32) : TOLD F x m o k h a b := by
  obtain ⟨W, M, rfl, s, rb, re, sd, bd, hN⟩ := L
  obtain ⟨rb1, rb2, rb3, rb4, rb5, rb6, rb7, rb8, rb9⟩ := id rb
  obtain ⟨sd1, sd2, sd3, sd4, sd5, sd6, sd7, sd8⟩ := id sd
  obtain ⟨f, ho9⟩ := s.2.2
  by_cases c : ¬ x_C ch a = 0 ∧ ¬ x_isIn b 0 6 = 0
  · have M1 : MC (z_s h o (aJ 1 (vp_updL f 0 (told8 (K a.toNatClampNeg) (lb (cf a.toNatClampNeg)) b).toInt64))) (z_s h o (aJ 1 (vp_updL f 0 (told8 (K a.toNatClampNeg) (lb (cf a.toNatClampNeg)) b).toInt64))) m R (oM R (nI n) fk fp (nI ch) ha un (nI dh) wk hm pm (nI ph) cu ct dt hlt pdt pt hgM th atM sz) SC PN V B LN PR PA VD DV ZM PM SC2 PN2 LN2 PR2 PA2 VD2 DV2 Z2M P2M PL O1M O2M := M.kp (fun y c9 hy hc => z_so hc (fun e => by
      rcases hy with rfl | ⟨j, hj, rfl⟩
      · exact s.2.1.1 e.symm
      · exact s.2.1.2 j hj e.symm))
    have W1 : PC (z_s h o (aJ 1 (vp_updL f 0 (told8 (K a.toNatClampNeg) (lb (cf a.toNatClampNeg)) b).toInt64))) (Ω) Q cu ha un n B hg at9 fk fp sp G T wf lf hf ff V wk hm pm O C ch D dh E Z P ph ca cl cw K cf wk2 hm2 pm2 O2 C2 ch2 D2 dh2 E2 Z2 P2 ph2 ca2 cl2 cw2 K2 cf2 := W.keep (fun y c9 p => ⟨z_so p.1 (s.1 y p.2).2.2, p.2⟩)
    have s1 : SP (z_s h o (aJ 1 (vp_updL f 0 (told8 (K a.toNatClampNeg) (lb (cf a.toNatClampNeg)) b).toInt64))) Ω m R o := ⟨s.1, s.2.1, _, z_s_self _ _ _⟩
    refine ⟨_, ⟨by decide, by decide, by show h.2.1 + 0 ≤ _; omega, by show h.2.2 + 0 ≤ _; omega⟩, zMetW_mono (l_toldY (F := F) W rb3 ho9 (by decide) (by decide) a b c) (fun v9 h1 q => ?_)⟩
    obtain ⟨rfl, e1⟩ := q
    rw [← e1] at M1 W1 s1
    have e2 : h1.2 = h.2 := by rw [e1]; rfl
    have Q9 := m_told (F := F) M1.o M1.k4 M1.k5 M1.k6 M1.k7 rb3 a b
    rw [if_pos c, if_pos c] at Q9
    have M2 := M1.so (oM R (nI n) fk fp (nI ch) ha un (nI dh) wk hm pm (nI ph) cu ct dt hlt pdt pt hgM 0 atM sz)
    have L2 := LW.fin (k := k + 1) W1 M2 rfl s1 rb re sd (by rw [e2]; exact ⟨by omega, by omega⟩) (by omega)
    refine ⟨0, _, _, _, rfl, ⟨_, M1.o⟩, by rw [e2]; exact ⟨by omega, by omega⟩, Or.inl rfl, Q9, ⟨_, M2.o⟩, by show h1.2.1 ≤ 4000 ∧ h1.2.2 ≤ 600000; rw [e2]; exact ⟨by omega, by omega⟩, z_so (by rw [e1]; exact z_s_self _ _ _) s.2.1.1, m_thrown M2.o, fun _ => ?_, L2⟩
    rw [pk_uLs]
    obtain ⟨t, ht, rfl⟩ := x_C_k (by omega) c.1
    rw [nI_clamp (by omega), told_eq b (rb4 t ht).1 (rb4 t ht).2.1]
  · refine ⟨_, ⟨by decide, by decide, by show h.2.1 + 1 ≤ _; omega, by show h.2.2 + 6 ≤ _; omega⟩, zMetW_mono (l_toldN (F := F) W rb3 hl o a b c) (fun v9 h1 q => ?_)⟩
    obtain ⟨rfl, e1, q1, q2⟩ := q
    have fx : frx Ω h h1 := fun y z hy _ => by rw [e1]; exact hy
    have M1 := M.kf s fx
    have s1 := s.kf fx
    have W1 := W.keep (h2 := h1) (Ω2 := Ω) (fun y c9 p => ⟨by rw [e1]; exact p.1, p.2⟩)
    have Q9 := m_told (F := F) M1.o M1.k4 M1.k5 M1.k6 M1.k7 rb3 a b
    rw [if_neg c, if_neg c] at Q9
    have M2 := M1.so (oM R (nI n) fk fp (nI ch) ha un (nI dh) wk hm pm (nI ph) cu ct dt hlt pdt pt hgM 1 atM sz)
    have L2 := LW.fin (k := k + 1) W1 M2 rfl s1 rb re sd ⟨by omega, by omega⟩ (by omega)
    exact ⟨1, _, f, _, rfl, ⟨_, M1.o⟩, ⟨by omega, by omega⟩, Or.inr rfl, Q9, ⟨_, M2.o⟩, (by show h1.2.1 ≤ 4000 ∧ h1.2.2 ≤ 600000; exact ⟨by omega, by omega⟩), z_so (by rw [e1]; exact ho9) s.2.1.1, m_thrown M2.o, fun e => absurd e (by decide), L2⟩
