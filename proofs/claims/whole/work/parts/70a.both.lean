/-! the two worlds together -/
def RB (N : Nat) (O : Nat → Int32) (ch : Nat) (K : Nat → Int32 × Int32 × Int32 × Int32) (cf : Nat → Nat → Int64) (dh : Nat) (E : Nat → zD) (Z : Nat → Int64) (P : Nat → Int32) (ph : Nat) (SC PN LN PR PA VD : Nat → Int32) (DV ZM : Nat → Int64) (PM : Nat → Int32) : Prop := (∀ q, q < 14 → mo SC PN q = O q) ∧ okO O ∧ ch ≤ 20 ∧ (∀ q, q < ch → eqS (hs9 LN q) (lb (cf q)) ∧ K q = (nI (fb_ct (lb (cf q)) 16384), PR q, PA q, VD q) ∧ (1 ≤ (PR q).toInt ∧ (PR q).toInt ≤ 100) ∧ (1 ≤ (PA q).toInt ∧ (PA q).toInt ≤ 9)) ∧ dh ≤ 4 ∧ dvR DV E dh ∧ okE N E dh ∧ ph ≤ 20 ∧ (∀ q, q < ph → Z q = ZM q ∧ P q = PM q ∧ 1 ≤ (PM q).toInt ∧ (PM q).toInt ≤ 9)
def SD (n : Nat) (ha un : Int32) (ch2 : Nat) (V : Nat → Int32) (v : Nat → Nat) (VD VD2 : Nat → Int32) : Prop := n ≤ 200 ∧ (0 ≤ ha.toInt ∧ ha.toInt ≤ 100) ∧ (1 ≤ un.toInt ∧ un.toInt ≤ 1000) ∧ ch2 ≤ 20 ∧ nIs V v 4 ∧ (∀ k, v k ≤ 9) ∧ (∀ q, q < 20 → VD q = 0 ∨ VD q = 1) ∧ (∀ q, q < 20 → VD2 q = 0 ∨ VD2 q = 1)
def SP (h : zH) (Ω : Nat → Prop) (m : Nat) (R : Nat → Nat) (o : Nat) : Prop := (∀ y, Ω y → y ≠ m ∧ (∀ j, j < 23 → y ≠ R j) ∧ y ≠ o) ∧ (o ≠ m ∧ ∀ j, j < 23 → o ≠ R j) ∧ ∃ f : Nat → Int64, h.1 o = some (aJ 1 f)
def WD (h : zH) (x m o k N : Nat) (Ω : Nat → Prop) (Q : Nat → Nat) (cu ha un : Int32) (n : Nat) (B : Nat → Int32) (hg at9 fk fp : Int32) (sp : Option Nat) (G : Nat → Option Nat) (T : Nat → zS) (wf lf hf : Nat → Int32) (ff : Nat → Int64) (V : Nat → Int32) (wk : Int32) (hm pm : Int64) (O : Nat → Int32) (C : Nat → Option Nat) (ch : Nat) (D : Nat → Option Nat) (dh : Nat) (E : Nat → zD) (Z : Nat → Int64) (P : Nat → Int32) (ph : Nat) (ca cl cw : Nat → Nat) (K : Nat → Int32 × Int32 × Int32 × Int32) (cf : Nat → Nat → Int64) (wk2 : Int32) (hm2 pm2 : Int64) (O2 : Nat → Int32) (C2 : Nat → Option Nat) (ch2 : Nat) (D2 : Nat → Option Nat) (dh2 : Nat) (E2 : Nat → zD) (Z2 : Nat → Int64) (P2 : Nat → Int32) (ph2 : Nat) (ca2 cl2 cw2 : Nat → Nat) (K2 : Nat → Int32 × Int32 × Int32 × Int32) (cf2 : Nat → Nat → Int64) (v R : Nat → Nat) (ct dt : Int32) (hlt pdt : Int64) (pt hgM th atM sz : Int32) (SC PN LN PR PA VD : Nat → Int32) (DV ZM : Nat → Int64) (PM SC2 PN2 LN2 PR2 PA2 VD2 : Nat → Int32) (DV2 Z2M : Nat → Int64) (P2M PL O1M O2M : Nat → Int32) : Prop := PC h (Ω) Q cu ha un n B hg at9 fk fp sp G T wf lf hf ff V wk hm pm O C ch D dh E Z P ph ca cl cw K cf wk2 hm2 pm2 O2 C2 ch2 D2 dh2 E2 Z2 P2 ph2 ca2 cl2 cw2 K2 cf2 ∧ MC h h m R (oM R (nI n) fk fp (nI ch) ha un (nI dh) wk hm pm (nI ph) cu ct dt hlt pdt pt hgM th atM sz) SC PN V B LN PR PA VD DV ZM PM SC2 PN2 LN2 PR2 PA2 VD2 DV2 Z2M P2M PL O1M O2M ∧ Q 0 = x ∧ SP h Ω m R o ∧ (RB N O ch K cf dh E Z P ph SC PN LN PR PA VD DV ZM PM) ∧ (¬ cu = 0 → (RB N O2 ch2 K2 cf2 dh2 E2 Z2 P2 ph2 SC2 PN2 LN2 PR2 PA2 VD2 DV2 Z2M P2M) ∧ ct = nI ch2 ∧ dt = nI dh2 ∧ hlt = hm2 ∧ pdt = pm2 ∧ pt = nI ph2 ∧ wk = wk2 + 1 ∧ ∀ q r, q < ch → r < ch2 → ca q ≠ ca2 r) ∧ SD n ha un ch2 V v VD VD2 ∧ (h.2.1 + 2 * nn T 16 ≤ 120 + 3 * k ∧ h.2.2 + 257 * nn T 16 ≤ 325000 + 262 * k) ∧ N ≤ 32768000 * k
def LW (h : zH) (x m o k : Nat) : Prop := ∃ (N : Nat) (Ω : Nat → Prop) (Q : Nat → Nat) (cu ha un : Int32) (n : Nat) (B : Nat → Int32) (hg at9 fk fp : Int32) (sp : Option Nat) (G : Nat → Option Nat) (T : Nat → zS) (wf lf hf : Nat → Int32) (ff : Nat → Int64) (V : Nat → Int32) (wk : Int32) (hm pm : Int64) (O : Nat → Int32) (C : Nat → Option Nat) (ch : Nat) (D : Nat → Option Nat) (dh : Nat) (E : Nat → zD) (Z : Nat → Int64) (P : Nat → Int32) (ph : Nat) (ca cl cw : Nat → Nat) (K : Nat → Int32 × Int32 × Int32 × Int32) (cf : Nat → Nat → Int64) (wk2 : Int32) (hm2 pm2 : Int64) (O2 : Nat → Int32) (C2 : Nat → Option Nat) (ch2 : Nat) (D2 : Nat → Option Nat) (dh2 : Nat) (E2 : Nat → zD) (Z2 : Nat → Int64) (P2 : Nat → Int32) (ph2 : Nat) (ca2 cl2 cw2 : Nat → Nat) (K2 : Nat → Int32 × Int32 × Int32 × Int32) (cf2 : Nat → Nat → Int64) (v R : Nat → Nat) (ct dt : Int32) (hlt pdt : Int64) (pt hgM th atM sz : Int32) (SC PN LN PR PA VD : Nat → Int32) (DV ZM : Nat → Int64) (PM SC2 PN2 LN2 PR2 PA2 VD2 : Nat → Int32) (DV2 Z2M : Nat → Int64) (P2M PL O1M O2M : Nat → Int32), WD h x m o k N Ω Q cu ha un n B hg at9 fk fp sp G T wf lf hf ff V wk hm pm O C ch D dh E Z P ph ca cl cw K cf wk2 hm2 pm2 O2 C2 ch2 D2 dh2 E2 Z2 P2 ph2 ca2 cl2 cw2 K2 cf2 v R ct dt hlt pdt pt hgM th atM sz SC PN LN PR PA VD DV ZM PM SC2 PN2 LN2 PR2 PA2 VD2 DV2 Z2M P2M PL O1M O2M
theorem zMet_mono {F : zF} {y : MethodName} {cc : ByteArray} {nL : Nat} {ret : Option FieldType} {rm : Room} {av : List Value} {h : zH} {post post2 : Option Value → zH → Prop} (hM : zMet F y cc nL ret rm av h post) (hp : ∀ v h2, post v h2 → post2 v h2) : zMet F y cc nL ret rm av h post2 := by
  obtain ⟨l, D, dA, H0⟩ := F
  show Met l y (Cond.code y cc nL ret :: zW) rm (zPc D dA H0 av h) (zQc D dA H0 post2) rm.cells rm.slots (fun q => H0.size ≤ q)
  exact MetFree.mono (show Met l y (Cond.code y cc nL ret :: zW) rm (zPc D dA H0 av h) (zQc D dA H0 post) rm.cells rm.slots (fun q => H0.size ≤ q) from hM) (fun _ _ q => q) (fun _ _ _ _ _ q => q) (fun a s o s' _ q => by
    obtain ⟨⟨v, h', e1, e2, e3⟩, q2⟩ := q
    exact ⟨⟨v, h', e1, hp v h' e2, e3⟩, q2⟩)
theorem zMetW_mono {F : zF} {y : MethodName} {cc : ByteArray} {nL : Nat} {ret : Option FieldType} {hh : List (Nat × Nat × Nat × Nat)} {rm : Room} {av : List Value} {h : zH} {post post2 : Option Value → zH → Prop} (hM : zMetW F y cc nL ret hh rm av h post) (hp : ∀ v h2, post v h2 → post2 v h2) : zMetW F y cc nL ret hh rm av h post2 := by
  obtain ⟨l, D, dA, H0⟩ := F
  show Met l y (Cond.codeWith y cc nL ret hh :: zW) rm (zPcX D dA H0 av h) (zQc D dA H0 post2) rm.cells rm.slots (fun q => H0.size ≤ q)
  exact MetFree.mono (show Met l y (Cond.codeWith y cc nL ret hh :: zW) rm (zPcX D dA H0 av h) (zQc D dA H0 post) rm.cells rm.slots (fun q => H0.size ≤ q) from hM) (fun _ _ q => q) (fun _ _ _ _ _ q => q) (fun a s o s' _ q => by
    obtain ⟨⟨v, h', e1, e2, e3⟩, q2⟩ := q
    exact ⟨⟨v, h', e1, hp v h' e2, e3⟩, q2⟩)

theorem MC.kp {h0 h h1 : zH} {m : Nat} {R : Nat → Nat} {o : zE} {SC PN V B LN PR PA VD P SC2 PN2 LN2 PR2 PA2 VD2 P2 PL O1 O2 : Nat → Int32} {DV Z DV2 Z2 : Nat → Int64} (M : MC h0 h m R o SC PN V B LN PR PA VD DV Z P SC2 PN2 LN2 PR2 PA2 VD2 DV2 Z2 P2 PL O1 O2) (hk : ∀ y c, (y = m ∨ ∃ j, j < 23 ∧ y = R j) → h.1 y = some c → h1.1 y = some c) : MC h1 h1 m R o SC PN V B LN PR PA VD DV Z P SC2 PN2 LN2 PR2 PA2 VD2 DV2 Z2 P2 PL O1 O2 :=
  ⟨hk _ _ (Or.inl rfl) M.o, hk _ _ (Or.inr ⟨0, by decide, rfl⟩) M.k0, hk _ _ (Or.inr ⟨1, by decide, rfl⟩) M.k1, hk _ _ (Or.inr ⟨2, by decide, rfl⟩) M.k2, hk _ _ (Or.inr ⟨3, by decide, rfl⟩) M.k3, hk _ _ (Or.inr ⟨4, by decide, rfl⟩) M.k4, hk _ _ (Or.inr ⟨5, by decide, rfl⟩) M.k5, hk _ _ (Or.inr ⟨6, by decide, rfl⟩) M.k6, hk _ _ (Or.inr ⟨7, by decide, rfl⟩) M.k7, hk _ _ (Or.inr ⟨8, by decide, rfl⟩) M.k8, hk _ _ (Or.inr ⟨9, by decide, rfl⟩) M.k9, hk _ _ (Or.inr ⟨10, by decide, rfl⟩) M.k10, hk _ _ (Or.inr ⟨11, by decide, rfl⟩) M.k11, hk _ _ (Or.inr ⟨12, by decide, rfl⟩) M.k12, hk _ _ (Or.inr ⟨13, by decide, rfl⟩) M.k13, hk _ _ (Or.inr ⟨14, by decide, rfl⟩) M.k14, hk _ _ (Or.inr ⟨15, by decide, rfl⟩) M.k15, hk _ _ (Or.inr ⟨16, by decide, rfl⟩) M.k16, hk _ _ (Or.inr ⟨17, by decide, rfl⟩) M.k17, hk _ _ (Or.inr ⟨18, by decide, rfl⟩) M.k18, hk _ _ (Or.inr ⟨19, by decide, rfl⟩) M.k19, hk _ _ (Or.inr ⟨20, by decide, rfl⟩) M.k20, hk _ _ (Or.inr ⟨21, by decide, rfl⟩) M.k21, hk _ _ (Or.inr ⟨22, by decide, rfl⟩) M.k22, M.2.2.2.2.2.2.2.2.2.2.2.2.2.2.2.2.2.2.2.2.2.2.2.2.1, M.hR, fun _ _ _ => rfl, rfl⟩
theorem MC.kf {h h1 : zH} {Ω : Nat → Prop} {m o9 : Nat} {R : Nat → Nat} {o : zE} {SC PN V B LN PR PA VD P SC2 PN2 LN2 PR2 PA2 VD2 P2 PL O1 O2 : Nat → Int32} {DV Z DV2 Z2 : Nat → Int64} (M : MC h h m R o SC PN V B LN PR PA VD DV Z P SC2 PN2 LN2 PR2 PA2 VD2 DV2 Z2 P2 PL O1 O2) (s : SP h Ω m R o9) (f : frx Ω h h1) : MC h1 h1 m R o SC PN V B LN PR PA VD DV Z P SC2 PN2 LN2 PR2 PA2 VD2 DV2 Z2 P2 PL O1 O2 :=
  M.kp (fun y c hy hc => f y c hc (fun w => by
    rcases hy with rfl | ⟨j, hj, rfl⟩
    · exact (s.1 _ w).1 rfl
    · exact (s.1 _ w).2.1 j hj rfl))
theorem SP.kf {h h1 : zH} {Ω : Nat → Prop} {m o : Nat} {R : Nat → Nat} (s : SP h Ω m R o) (f : frx Ω h h1) : SP h1 Ω m R o := ⟨s.1, s.2.1, s.2.2.elim (fun g hg => ⟨g, f o _ hg (fun w => (s.1 o w).2.2 rfl)⟩)⟩
theorem SP.kn {h h1 : zH} {Ω : Nat → Prop} {m o : Nat} {R : Nat → Nat} {c : zE} {SC PN V B LN PR PA VD P SC2 PN2 LN2 PR2 PA2 VD2 P2 PL O1 O2 : Nat → Int32} {DV Z DV2 Z2 : Nat → Int64} (M : MC h h m R c SC PN V B LN PR PA VD DV Z P SC2 PN2 LN2 PR2 PA2 VD2 DV2 Z2 P2 PL O1 O2) (s : SP h Ω m R o) (f : frx Ω h h1) : SP h1 (fun y => Ω y ∨ h.1 y = none) m R o := by
  refine ⟨fun y w => ?_, s.2.1, (s.kf f).2.2⟩
  rcases w with w | w
  · exact s.1 y w
  · obtain ⟨g, hg⟩ := s.2.2
    have hh : ∀ j, j < 23 → ∃ c, h.1 (R j) = some c := fun j hj => by
      have : j = 0 ∨ j = 1 ∨ j = 2 ∨ j = 3 ∨ j = 4 ∨ j = 5 ∨ j = 6 ∨ j = 7 ∨ j = 8 ∨ j = 9 ∨ j = 10 ∨ j = 11 ∨ j = 12 ∨ j = 13 ∨ j = 14 ∨ j = 15 ∨ j = 16 ∨ j = 17 ∨ j = 18 ∨ j = 19 ∨ j = 20 ∨ j = 21 ∨ j = 22 := by omega
      rcases this with rfl | rfl | rfl | rfl | rfl | rfl | rfl | rfl | rfl | rfl | rfl | rfl | rfl | rfl | rfl | rfl | rfl | rfl | rfl | rfl | rfl | rfl | rfl
      · exact ⟨_, M.k0⟩
      · exact ⟨_, M.k1⟩
      · exact ⟨_, M.k2⟩
      · exact ⟨_, M.k3⟩
      · exact ⟨_, M.k4⟩
      · exact ⟨_, M.k5⟩
      · exact ⟨_, M.k6⟩
      · exact ⟨_, M.k7⟩
      · exact ⟨_, M.k8⟩
      · exact ⟨_, M.k9⟩
      · exact ⟨_, M.k10⟩
      · exact ⟨_, M.k11⟩
      · exact ⟨_, M.k12⟩
      · exact ⟨_, M.k13⟩
      · exact ⟨_, M.k14⟩
      · exact ⟨_, M.k15⟩
      · exact ⟨_, M.k16⟩
      · exact ⟨_, M.k17⟩
      · exact ⟨_, M.k18⟩
      · exact ⟨_, M.k19⟩
      · exact ⟨_, M.k20⟩
      · exact ⟨_, M.k21⟩
      · exact ⟨_, M.k22⟩
    exact ⟨fun e => (by rw [e, M.o] at w; cases w), fun j hj e => (by obtain ⟨c, hc⟩ := hh j hj; rw [e, hc] at w; cases w), fun e => (by rw [e, hg] at w; cases w)⟩
theorem frx_s {Ω : Nat → Prop} {h : zH} {a : Nat} {c : zE} (ha : Ω a) : frx Ω h (z_s h a c) := fun y z hy hn => z_so hy (fun e => hn (by rw [e]; exact ha))
theorem frx_q {Ω : Nat → Prop} {h h2 : zH} (f : frq Ω h h2) : frx Ω h h2 := fun y z hy hn => by rw [f.1 y hn]; exact hy
theorem frx_r {Ω : Nat → Prop} {h : zH} : frx Ω h h := fun y z hy hn => hy
theorem frx.tr {Ω : Nat → Prop} {h h1 h2 : zH} (f : frx Ω h h1) (g : frx Ω h1 h2) : frx Ω h h2 := fun y z hy hn => g y z (f y z hy hn) hn

theorem LW.fin {h1 h2 : zH} {x m o k N : Nat} {Ω : Nat → Prop} {Q : Nat → Nat} {cu ha un : Int32} {n : Nat} {B : Nat → Int32} {hg at9 fk fp : Int32} {sp : Option Nat} {G : Nat → Option Nat} {T : Nat → zS} {wf lf hf : Nat → Int32} {ff : Nat → Int64} {V : Nat → Int32} {wk : Int32} {hm pm : Int64} {O : Nat → Int32} {C : Nat → Option Nat} {ch : Nat} {D : Nat → Option Nat} {dh : Nat} {E : Nat → zD} {Z : Nat → Int64} {P : Nat → Int32} {ph : Nat} {ca cl cw : Nat → Nat} {K : Nat → Int32 × Int32 × Int32 × Int32} {cf : Nat → Nat → Int64} {wk2 : Int32} {hm2 pm2 : Int64} {O2 : Nat → Int32} {C2 : Nat → Option Nat} {ch2 : Nat} {D2 : Nat → Option Nat} {dh2 : Nat} {E2 : Nat → zD} {Z2 : Nat → Int64} {P2 : Nat → Int32} {ph2 : Nat} {ca2 cl2 cw2 : Nat → Nat} {K2 : Nat → Int32 × Int32 × Int32 × Int32} {cf2 : Nat → Nat → Int64} {v R : Nat → Nat} {ct dt : Int32} {hlt pdt : Int64} {pt hgM th atM sz : Int32} {SC PN LN PR PA VD : Nat → Int32} {DV ZM : Nat → Int64} {PM SC2 PN2 LN2 PR2 PA2 VD2 : Nat → Int32} {DV2 Z2M : Nat → Int64} {P2M PL O1M O2M : Nat → Int32} (W : PC h1 (Ω) Q cu ha un n B hg at9 fk fp sp G T wf lf hf ff V wk hm pm O C ch D dh E Z P ph ca cl cw K cf wk2 hm2 pm2 O2 C2 ch2 D2 dh2 E2 Z2 P2 ph2 ca2 cl2 cw2 K2 cf2) (M : MC h1 h2 m R (oM R (nI n) fk fp (nI ch) ha un (nI dh) wk hm pm (nI ph) cu ct dt hlt pdt pt hgM th atM sz) SC PN V B LN PR PA VD DV ZM PM SC2 PN2 LN2 PR2 PA2 VD2 DV2 Z2M P2M PL O1M O2M) (hx : Q 0 = x) (s : SP h1 Ω m R o) (rb : RB N O ch K cf dh E Z P ph SC PN LN PR PA VD DV ZM PM) (re : (¬ cu = 0 → (RB N O2 ch2 K2 cf2 dh2 E2 Z2 P2 ph2 SC2 PN2 LN2 PR2 PA2 VD2 DV2 Z2M P2M) ∧ ct = nI ch2 ∧ dt = nI dh2 ∧ hlt = hm2 ∧ pdt = pm2 ∧ pt = nI ph2 ∧ wk = wk2 + 1 ∧ ∀ q r, q < ch → r < ch2 → ca q ≠ ca2 r)) (sd : SD n ha un ch2 V v VD VD2) (bd : h1.2.1 + 2 * nn T 16 ≤ 120 + 3 * k ∧ h1.2.2 + 257 * nn T 16 ≤ 325000 + 262 * k) (hN : N ≤ 32768000 * k) : LW h2 x m o k := by
  have hc := M.c
  refine ⟨N, Ω, Q, cu, ha, un, n, B, hg, at9, fk, fp, sp, G, T, wf, lf, hf, ff, V, wk, hm, pm, O, C, ch, D, dh, E, Z, P, ph, ca, cl, cw, K, cf, wk2, hm2, pm2, O2, C2, ch2, D2, dh2, E2, Z2, P2, ph2, ca2, cl2, cw2, K2, cf2, v, R, ct, dt, hlt, pdt, pt, hgM, th, atM, sz, SC, PN, LN, PR, PA, VD, DV, ZM, PM, SC2, PN2, LN2, PR2, PA2, VD2, DV2, Z2M, P2M, PL, O1M, O2M, W.keep (fun y c p => ⟨by rw [M.x (s.1 y p.2).1 (s.1 y p.2).2.1]; exact p.1, p.2⟩), M.re, hx, ⟨s.1, s.2.1, s.2.2.elim (fun g hg => ⟨g, by rw [M.x s.2.1.1 s.2.1.2]; exact hg⟩)⟩, rb, re, sd, ?_, hN⟩
  rw [hc]; exact bd
theorem RB.mono {M9 : Nat} {N : Nat} {O : Nat → Int32} {ch : Nat} {K : Nat → Int32 × Int32 × Int32 × Int32} {cf : Nat → Nat → Int64} {dh : Nat} {E : Nat → zD} {Z : Nat → Int64} {P : Nat → Int32} {ph : Nat} {SC PN LN PR PA VD : Nat → Int32} {DV ZM : Nat → Int64} {PM : Nat → Int32} (h : RB N O ch K cf dh E Z P ph SC PN LN PR PA VD DV ZM PM) (hN : N ≤ M9) : RB M9 O ch K cf dh E Z P ph SC PN LN PR PA VD DV ZM PM := by
  obtain ⟨a1, a2, a3, a4, a5, a6, a7, a8, a9⟩ := h
  exact ⟨a1, a2, a3, a4, a5, a6, a7.mono hN, a8, a9⟩
