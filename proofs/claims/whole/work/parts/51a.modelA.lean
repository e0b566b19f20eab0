/-! the reference: plans -/
def MPo (h0 : zH) (m : Nat) (R : Nat → Nat) (tp fp cn ha un dm wk pm cu ct dt pt th : Int32) (hl pd hlt pdt : Int64) (SC PN V B LN PR PA VD P SC2 PN2 LN2 PR2 PA2 VD2 P2 : Nat → Int32) (DV Z DV2 Z2 : Nat → Int64) (n k : Nat) (PL : Nat → Int32) (res : pR) (v9 : Option Value) (h2 : zH) : Prop := (∃ (kd pl9 : Nat) (hg2 at2 : Int32) (PL2 O12 O22 : Nat → Int32), res = .inl (kd, pl9) ∧ v9 = some (.int 0) ∧ MC h0 h2 m R (oM R tp (nI kd) (nI pl9) cn ha un dm wk hl pd pm cu ct dt hlt pdt pt hg2 th at2 (nI n)) SC PN V B LN PR PA VD DV Z P SC2 PN2 LN2 PR2 PA2 VD2 DV2 Z2 P2 PL2 O12 O22) ∨ (∃ (q : Nat) (S : Nat → Prop) (PL2 O12 O22 : Nat → Int32), res = .inr (q, S) ∧ v9 = some (.int 1) ∧ MC h0 h2 m R (oM R tp 0 fp cn ha un dm wk hl pd pm cu ct dt hlt pdt pt (nI (k + 1)) th (nI q) (nI n)) SC PN V B LN PR PA VD DV Z P SC2 PN2 LN2 PR2 PA2 VD2 DV2 Z2 P2 PL2 O12 O22 ∧ (∀ j, j < 16384 * k → PL2 j = PL j) ∧ lev PL2 k S)

def KOne (F : zF) (d : Nat) : Prop := ∀ (h : zH) (h0 : zH) (m : Nat) (R : Nat → Nat) (tp fp cn ha un dm wk pm cu ct dt pt th : Int32) (hl pd hlt pdt : Int64) (SC PN V B LN PR PA VD P SC2 PN2 LN2 PR2 PA2 VD2 P2 : Nat → Int32) (DV Z DV2 Z2 : Nat → Int64) (n p k o : Nat) (PL O1 O2 : Nat → Int32), MC h0 h m R (oM R tp 0 fp cn ha un dm wk hl pd pm cu ct dt hlt pdt pt (nI k) th (nI p) (nI n)) SC PN V B LN PR PA VD DV Z P SC2 PN2 LN2 PR2 PA2 VD2 DV2 Z2 P2 PL O1 O2 → o + d = 6 → k ≤ 2 * o + 2 → n ≤ 200 → p ≤ 200 → zMet F yX8_readOne cX8_readOne 2 (some .boolean) { frames := 5 + 3 * d, cells := 0, slots := 0, locals := 150 + 90 * d } [.ref m, .int (nI o)] h (MPo h0 m R tp fp cn ha un dm wk pm cu ct dt pt th hl pd hlt pdt SC PN V B LN PR PA VD P SC2 PN2 LN2 PR2 PA2 VD2 P2 DV Z DV2 Z2 n k PL (prt (txt B n) d p))

def KAlt (F : zF) (d : Nat) : Prop := ∀ (h : zH) (h0 : zH) (m : Nat) (R : Nat → Nat) (tp fp cn ha un dm wk pm cu ct dt pt th : Int32) (hl pd hlt pdt : Int64) (SC PN V B LN PR PA VD P SC2 PN2 LN2 PR2 PA2 VD2 P2 : Nat → Int32) (DV Z DV2 Z2 : Nat → Int64) (n p k o : Nat) (PL O1 O2 : Nat → Int32), MC h0 h m R (oM R tp 0 fp cn ha un dm wk hl pd pm cu ct dt hlt pdt pt (nI k) th (nI p) (nI n)) SC PN V B LN PR PA VD DV Z P SC2 PN2 LN2 PR2 PA2 VD2 DV2 Z2 P2 PL O1 O2 → o + d = 6 → k ≤ 2 * o + 1 → n ≤ 200 → p ≤ 200 → zMet F yX8_readAlt cX8_readAlt 2 (some .boolean) { frames := 6 + 3 * d, cells := 0, slots := 0, locals := 180 + 90 * d } [.ref m, .int (nI o)] h (MPo h0 m R tp fp cn ha un dm wk pm cu ct dt pt th hl pd hlt pdt SC PN V B LN PR PA VD P SC2 PN2 LN2 PR2 PA2 VD2 P2 DV Z DV2 Z2 n k PL (alt (prt (txt B n) d) (txt B n) p))

def KPln (F : zF) (d : Nat) : Prop := ∀ (h : zH) (h0 : zH) (m : Nat) (R : Nat → Nat) (tp fp cn ha un dm wk pm cu ct dt pt th : Int32) (hl pd hlt pdt : Int64) (SC PN V B LN PR PA VD P SC2 PN2 LN2 PR2 PA2 VD2 P2 : Nat → Int32) (DV Z DV2 Z2 : Nat → Int64) (n p k o : Nat) (PL O1 O2 : Nat → Int32), MC h0 h m R (oM R tp 0 fp cn ha un dm wk hl pd pm cu ct dt hlt pdt pt (nI k) th (nI p) (nI n)) SC PN V B LN PR PA VD DV Z P SC2 PN2 LN2 PR2 PA2 VD2 DV2 Z2 P2 PL O1 O2 → o + d = 6 → k ≤ 2 * o → n ≤ 200 → p ≤ 200 → zMet F yX8_readPlan cX8_readPlan 3 (some .boolean) { frames := 7 + 3 * d, cells := 0, slots := 0, locals := 210 + 90 * d } [.ref m, .int (nI o)] h (MPo h0 m R tp fp cn ha un dm wk pm cu ct dt pt th hl pd hlt pdt SC PN V B LN PR PA VD P SC2 PN2 LN2 PR2 PA2 VD2 P2 DV Z DV2 Z2 n k PL (pln (alt (prt (txt B n) d) (txt B n)) (txt B n) p))

set_option maxRecDepth 100000 in
set_option maxHeartbeats 4000000 in
theorem m_one0 {F : zF} {h : zH}  {h0 : zH} {m : Nat} {R : Nat → Nat} {tp fp cn ha un dm wk pm cu ct dt pt th : Int32} {hl pd hlt pdt : Int64} {SC PN V B LN PR PA VD P SC2 PN2 LN2 PR2 PA2 VD2 P2 : Nat → Int32} {DV Z DV2 Z2 : Nat → Int64} {n p k o : Nat} {PL O1 O2 : Nat → Int32} (M : MC h0 h m R (oM R tp 0 fp cn ha un dm wk hl pd pm cu ct dt hlt pdt pt (nI k) th (nI p) (nI n)) SC PN V B LN PR PA VD DV Z P SC2 PN2 LN2 PR2 PA2 VD2 DV2 Z2 P2 PL O1 O2) (ho : o + 0 = 6) (hk : k ≤ 2 * o + 2) (hn : n ≤ 200) (hp : p ≤ 200) : zMet F yX8_readOne cX8_readOne 2 (some .boolean) { frames := 5 + 3 * 0, cells := 0, slots := 0, locals := 150 + 90 * 0 } [.ref m, .int (nI o)] h (MPo h0 m R tp fp cn ha un dm wk pm cu ct dt pt th hl pd hlt pdt SC PN V B LN PR PA VD P SC2 PN2 LN2 PR2 PA2 VD2 P2 DV Z DV2 Z2 n k PL (prt (txt B n) 0 p)) := by
  refine zMet_of (lv := [(0, .ref m), (1, .int (nI o))]) (by decide) (by simp [lg_sl, Value.category]) rfl ?_
  intro X g z
  refine v_blk g [.aload_n 0] (pc' := 1) (lv' := [(0, .ref m), (1, .int (nI o))]) (st' := [.ref m]) (by decide +kernel) rfl rfl ?_
  refine v_callVp g (rest := []) (m_here M.o M.k3 hn (by omega)) cl_X8_123 M.o rfl rfl (Nat.le_of_ble_eq_true rfl) (by decide +kernel) ⟨by dsimp only; omega, by dsimp only; omega⟩ (zcsn 0 0 rfl rfl (Nat.le_of_ble_eq_true rfl) (Nat.le_of_ble_eq_true rfl)) ?_
  show zV F X h 4 [(0, .ref m), (1, .int (nI o))] [.int (txt B n p)]
  refine v_blk g [.bipush 40] (pc' := 6) (lv' := [(0, .ref m), (1, .int (nI o))]) (st' := [.int (40 : Int32), .int (txt B n p)]) (by decide +kernel) rfl rfl ?_
  refine v_icmp_eq g (off := 8) (tgt := 14) (by decide +kernel) (by decide) (fun c => ?_) (fun c => ?_)
  · refine v_blk g [.iload_n 1, .bipush 6] (pc' := 17) (lv' := [(0, .ref m), (1, .int (nI o))]) (st' := [.int (6 : Int32), .int (nI o)]) (by decide +kernel) rfl rfl ?_
    have o6 : nI o = 6 := by rw [show o = 6 by omega]; rfl
    refine v_icmp_ne g (off := 13) (tgt := 30) (by decide +kernel) (by decide) (fun c => absurd c (fun q => q o6)) (fun _ => ?_)
    refine v_blk g [.aload_n 0, .iconst 3, .aload_n 0] (pc' := 23) (lv' := [(0, .ref m), (1, .int (nI o))]) (st' := [.ref m, .int (3 : Int32), .ref m]) (by decide +kernel) rfl rfl ?_
    refine v_get g M.o fl_X8_117 rfl (by decide +kernel) ?_
    refine v_callVp g (rest := []) (m_fails M.o _ _) cl_X8_137 M.o rfl rfl (Nat.le_of_ble_eq_true rfl) (by decide +kernel) ⟨by dsimp only; omega, by dsimp only; omega⟩ (zcsn 0 0 rfl rfl (Nat.le_of_ble_eq_true rfl) (Nat.le_of_ble_eq_true rfl)) ?_
    show zV F X (z_s h m (oM R tp (nI 3) (nI p) cn ha un dm wk hl pd pm cu ct dt hlt pdt pt (nI k) th (nI p) (nI n))) 29 [(0, .ref m), (1, .int (nI o))] [.int 0]
    exact v_zret g z rfl (by decide) (by decide +kernel) (Or.inl ⟨3, p, nI k, nI p, PL, O1, O2, (by rw [prt_eq, if_pos c]; rfl), rfl, M.so _⟩) (zcrn 0 0 rfl rfl (Nat.le_of_ble_eq_true rfl) (Nat.le_of_ble_eq_true rfl))
  · refine v_blk g [.aload_n 0] (pc' := 10) (lv' := [(0, .ref m), (1, .int (nI o))]) (st' := [.ref m]) (by decide +kernel) rfl rfl ?_
    refine v_callV g (rest := []) (m_readPart M hn (by omega) (by omega)) cl_X8_163 M.o rfl rfl (Nat.le_of_ble_eq_true rfl) (by decide +kernel) ⟨by dsimp only; omega, by dsimp only; omega⟩ (zcsn 0 0 rfl rfl (Nat.le_of_ble_eq_true rfl) (Nat.le_of_ble_eq_true rfl)) (fun v9 h9 q9 => ?_)
    have q8 : MPo h0 m R tp fp cn ha un dm wk pm cu ct dt pt th hl pd hlt pdt SC PN V B LN PR PA VD P SC2 PN2 LN2 PR2 PA2 VD2 P2 DV Z DV2 Z2 n k PL (prt (txt B n) 0 p) v9 h9 := by rw [prt_eq, if_neg c]; exact q9
    rcases q9 with ⟨kd, pl9, hg2, at2, PL2, O12, O22, e9, rfl, M9⟩ | ⟨q, S, PL2, O12, O22, e9, rfl, M9, lo9, lv9⟩
    · show zV F X h9 13 [(0, .ref m), (1, .int (nI o))] [.int 0]
      have h9_c := mcc M.c M9.c
      exact v_zret g z rfl (by decide) (by decide +kernel) q8 (zcrn 0 0 h9_c.1 h9_c.2 (Nat.le_of_ble_eq_true rfl) (Nat.le_of_ble_eq_true rfl))
    · show zV F X h9 13 [(0, .ref m), (1, .int (nI o))] [.int 1]
      have h9_c := mcc M.c M9.c
      exact v_zret g z rfl (by decide) (by decide +kernel) q8 (zcrn 0 0 h9_c.1 h9_c.2 (Nat.le_of_ble_eq_true rfl) (Nat.le_of_ble_eq_true rfl))

set_option maxRecDepth 100000 in
set_option maxHeartbeats 4000000 in
theorem m_one1 {F : zF} {h : zH} {d : Nat} (hP : KPln F d) {h0 : zH} {m : Nat} {R : Nat → Nat} {tp fp cn ha un dm wk pm cu ct dt pt th : Int32} {hl pd hlt pdt : Int64} {SC PN V B LN PR PA VD P SC2 PN2 LN2 PR2 PA2 VD2 P2 : Nat → Int32} {DV Z DV2 Z2 : Nat → Int64} {n p k o : Nat} {PL O1 O2 : Nat → Int32} (M : MC h0 h m R (oM R tp 0 fp cn ha un dm wk hl pd pm cu ct dt hlt pdt pt (nI k) th (nI p) (nI n)) SC PN V B LN PR PA VD DV Z P SC2 PN2 LN2 PR2 PA2 VD2 DV2 Z2 P2 PL O1 O2) (ho : o + (d + 1) = 6) (hk : k ≤ 2 * o + 2) (hn : n ≤ 200) (hp : p ≤ 200) : zMet F yX8_readOne cX8_readOne 2 (some .boolean) { frames := 5 + 3 * (d + 1), cells := 0, slots := 0, locals := 150 + 90 * (d + 1) } [.ref m, .int (nI o)] h (MPo h0 m R tp fp cn ha un dm wk pm cu ct dt pt th hl pd hlt pdt SC PN V B LN PR PA VD P SC2 PN2 LN2 PR2 PA2 VD2 P2 DV Z DV2 Z2 n k PL (prt (txt B n) (d + 1) p)) := by
  refine zMet_of (lv := [(0, .ref m), (1, .int (nI o))]) (by decide) (by simp [lg_sl, Value.category]) rfl ?_
  intro X g z
  refine v_blk g [.aload_n 0] (pc' := 1) (lv' := [(0, .ref m), (1, .int (nI o))]) (st' := [.ref m]) (by decide +kernel) rfl rfl ?_
  refine v_callVp g (rest := []) (m_here M.o M.k3 hn (by omega)) cl_X8_123 M.o rfl rfl (Nat.le_of_ble_eq_true rfl) (by decide +kernel) ⟨by dsimp only; omega, by dsimp only; omega⟩ (zcsn 0 0 rfl rfl (Nat.le_of_ble_eq_true rfl) (Nat.le_of_ble_eq_true rfl)) ?_
  show zV F X h 4 [(0, .ref m), (1, .int (nI o))] [.int (txt B n p)]
  refine v_blk g [.bipush 40] (pc' := 6) (lv' := [(0, .ref m), (1, .int (nI o))]) (st' := [.int (40 : Int32), .int (txt B n p)]) (by decide +kernel) rfl rfl ?_
  refine v_icmp_eq g (off := 8) (tgt := 14) (by decide +kernel) (by decide) (fun c => ?_) (fun c => ?_)
  · refine v_blk g [.iload_n 1, .bipush 6] (pc' := 17) (lv' := [(0, .ref m), (1, .int (nI o))]) (st' := [.int (6 : Int32), .int (nI o)]) (by decide +kernel) rfl rfl ?_
    have o6 : ¬ nI o = 6 := fun e => by have := (nI_eq (a := o) (b := 6) (by omega) (by decide)).mp e; omega
    refine v_icmp_ne g (off := 13) (tgt := 30) (by decide +kernel) (by decide) (fun _ => ?_) (fun c => absurd c o6)
    have hin := txt_in c (by decide)
    refine v_blk g [.aload_n 0, .dup] (pc' := 32) (lv' := [(0, .ref m), (1, .int (nI o))]) (st' := [.ref m, .ref m]) (by decide +kernel) rfl rfl ?_
    refine v_get g M.o fl_X8_117 rfl (by decide +kernel) ?_
    refine v_blk g [.iconst 1, .iadd] (pc' := 37) (lv' := [(0, .ref m), (1, .int (nI o))]) (st' := [.int ((nI p) + (1 : Int32)), .ref m]) (by decide +kernel) rfl rfl ?_
    refine v_ti (z := nI (p + 1)) (nI_1 p) ?_
    refine v_put g (fs' := oMl R tp 0 fp cn ha un dm wk hl pd pm cu ct dt hlt pdt pt (nI k) th (nI (p + 1)) (nI n)) M.o fl_X8_117 rfl rfl (Nat.le_of_ble_eq_true rfl) rfl (by decide +kernel) ?_
    refine v_h (fun h1 eh1 => ?_)
    have M_h1 : MC h0 h1 m R (oM R tp 0 fp cn ha un dm wk hl pd pm cu ct dt hlt pdt pt (nI k) th (nI (p + 1)) (nI n)) SC PN V B LN PR PA VD DV Z P SC2 PN2 LN2 PR2 PA2 VD2 DV2 Z2 P2 PL O1 O2 := by rw [eh1]; exact M.so _
    have h1_c := mcc M.c M_h1.c
    refine v_blk g [.aload_n 0, .iload_n 1, .iconst 1, .iadd] (pc' := 44) (lv' := [(0, .ref m), (1, .int (nI o))]) (st' := [.int ((nI o) + (1 : Int32)), .ref m]) (by decide +kernel) rfl rfl ?_
    refine v_ti (z := nI (o + 1)) (nI_1 o) ?_
    refine v_callV g (rest := []) (hP h1 h0 m R tp fp cn ha un dm wk pm cu ct dt pt th hl pd hlt pdt SC PN V B LN PR PA VD P SC2 PN2 LN2 PR2 PA2 VD2 P2 DV Z DV2 Z2 n (p + 1) k (o + 1) PL O1 O2 M_h1 (by omega) (by omega) hn (by omega)) cl_X8_166 M_h1.o rfl rfl (Nat.le_of_ble_eq_true rfl) (by decide +kernel) ⟨by dsimp only; omega, by dsimp only; omega⟩ (zcsn 0 0 h1_c.1 h1_c.2 (Nat.le_of_ble_eq_true rfl) (Nat.le_of_ble_eq_true rfl)) (fun v9 h9 q9 => ?_)
    rcases q9 with ⟨kd, pl9, hg2, at2, PL2, O12, O22, e9, rfl, M9⟩ | ⟨q, S, PL2, O12, O22, e9, rfl, M9, lo9, lv9⟩
    · show zV F X h9 47 [(0, .ref m), (1, .int (nI o))] [.int 0]
      have h9_c := mcc M.c M9.c
      refine v_if_ne g (off := 5) (tgt := 52) (by decide +kernel) (by decide) (fun c => absurd c (fun q => q rfl)) (fun _ => ?_)
      refine v_blk g [.iconst 0] (pc' := 51) (lv' := [(0, .ref m), (1, .int (nI o))]) (st' := [.int (0 : Int32)]) (by decide +kernel) rfl rfl ?_
      exact v_zret g z rfl (by decide) (by decide +kernel) (Or.inl ⟨kd, pl9, hg2, at2, PL2, O12, O22, by rw [prt_eq, if_pos c, brd, brk, e9], rfl, M9⟩) (zcrn 0 0 h9_c.1 h9_c.2 (Nat.le_of_ble_eq_true rfl) (Nat.le_of_ble_eq_true rfl))
    · show zV F X h9 47 [(0, .ref m), (1, .int (nI o))] [.int 1]
      have h9_c := mcc M.c M9.c
      have qe := pln_end (alt_end (prt_end d)) _ _ _ e9
      refine v_if_ne g (off := 5) (tgt := 52) (by decide +kernel) (by decide) (fun _ => ?_) (fun c => absurd c (by decide))
      refine v_blk g [.aload_n 0] (pc' := 53) (lv' := [(0, .ref m), (1, .int (nI o))]) (st' := [.ref m]) (by decide +kernel) rfl rfl ?_
      refine v_callVp g (rest := []) (m_here M9.o M9.k3 hn (by omega)) cl_X8_123 M9.o rfl rfl (Nat.le_of_ble_eq_true rfl) (by decide +kernel) ⟨by dsimp only; omega, by dsimp only; omega⟩ (zcsn 0 0 h9_c.1 h9_c.2 (Nat.le_of_ble_eq_true rfl) (Nat.le_of_ble_eq_true rfl)) ?_
      show zV F X h9 56 [(0, .ref m), (1, .int (nI o))] [.int (txt B n q)]
      refine v_blk g [.bipush 41] (pc' := 58) (lv' := [(0, .ref m), (1, .int (nI o))]) (st' := [.int (41 : Int32), .int (txt B n q)]) (by decide +kernel) rfl rfl ?_
      refine v_icmp_eq g (off := 13) (tgt := 71) (by decide +kernel) (by decide) (fun c2 => ?_) (fun c2 => ?_)
      · refine v_blk g [.aload_n 0, .dup] (pc' := 73) (lv' := [(0, .ref m), (1, .int (nI o))]) (st' := [.ref m, .ref m]) (by decide +kernel) rfl rfl ?_
        refine v_get g M9.o fl_X8_117 rfl (by decide +kernel) ?_
        refine v_blk g [.iconst 1, .iadd] (pc' := 78) (lv' := [(0, .ref m), (1, .int (nI o))]) (st' := [.int ((nI q) + (1 : Int32)), .ref m]) (by decide +kernel) rfl rfl ?_
        refine v_ti (z := nI (q + 1)) (nI_1 q) ?_
        refine v_put g (fs' := oMl R tp 0 fp cn ha un dm wk hl pd pm cu ct dt hlt pdt pt (nI (k + 1)) th (nI (q + 1)) (nI n)) M9.o fl_X8_117 rfl rfl (Nat.le_of_ble_eq_true rfl) rfl (by decide +kernel) ?_
        refine v_h (fun h2 eh2 => ?_)
        have M_h2 : MC h0 h2 m R (oM R tp 0 fp cn ha un dm wk hl pd pm cu ct dt hlt pdt pt (nI (k + 1)) th (nI (q + 1)) (nI n)) SC PN V B LN PR PA VD DV Z P SC2 PN2 LN2 PR2 PA2 VD2 DV2 Z2 P2 PL2 O12 O22 := by rw [eh2]; exact M9.so _
        have h2_c := mcc M.c M_h2.c
        refine v_blk g [.iconst 1] (pc' := 82) (lv' := [(0, .ref m), (1, .int (nI o))]) (st' := [.int (1 : Int32)]) (by decide +kernel) rfl rfl ?_
        exact v_zret g z rfl (by decide) (by decide +kernel) (Or.inr ⟨q + 1, S, PL2, O12, O22, by rw [prt_eq, if_pos c, brd, brk, e9]; exact if_pos c2, rfl, M_h2, lo9, lv9⟩) (zcrn 0 0 h2_c.1 h2_c.2 (Nat.le_of_ble_eq_true rfl) (Nat.le_of_ble_eq_true rfl))
      · refine v_blk g [.aload_n 0, .iconst 1, .aload_n 0] (pc' := 64) (lv' := [(0, .ref m), (1, .int (nI o))]) (st' := [.ref m, .int (1 : Int32), .ref m]) (by decide +kernel) rfl rfl ?_
        refine v_get g M9.o fl_X8_117 rfl (by decide +kernel) ?_
        refine v_callVp g (rest := []) (m_fails M9.o _ _) cl_X8_137 M9.o rfl rfl (Nat.le_of_ble_eq_true rfl) (by decide +kernel) ⟨by dsimp only; omega, by dsimp only; omega⟩ (zcsn 0 0 h9_c.1 h9_c.2 (Nat.le_of_ble_eq_true rfl) (Nat.le_of_ble_eq_true rfl)) ?_
        show zV F X (z_s h9 m (oM R tp (nI 1) (nI q) cn ha un dm wk hl pd pm cu ct dt hlt pdt pt (nI (k + 1)) th (nI q) (nI n))) 70 [(0, .ref m), (1, .int (nI o))] [.int 0]
        exact v_zret g z rfl (by decide) (by decide +kernel) (Or.inl ⟨1, q, nI (k + 1), nI q, PL2, O12, O22, (by rw [prt_eq, if_pos c, brd, brk, e9]; exact if_neg c2), rfl, M9.so _⟩) (zcrn 0 0 h9_c.1 h9_c.2 (Nat.le_of_ble_eq_true rfl) (Nat.le_of_ble_eq_true rfl))
  · refine v_blk g [.aload_n 0] (pc' := 10) (lv' := [(0, .ref m), (1, .int (nI o))]) (st' := [.ref m]) (by decide +kernel) rfl rfl ?_
    refine v_callV g (rest := []) (m_readPart M hn (by omega) (by omega)) cl_X8_163 M.o rfl rfl (Nat.le_of_ble_eq_true rfl) (by decide +kernel) ⟨by dsimp only; omega, by dsimp only; omega⟩ (zcsn 0 0 rfl rfl (Nat.le_of_ble_eq_true rfl) (Nat.le_of_ble_eq_true rfl)) (fun v9 h9 q9 => ?_)
    have q8 : MPo h0 m R tp fp cn ha un dm wk pm cu ct dt pt th hl pd hlt pdt SC PN V B LN PR PA VD P SC2 PN2 LN2 PR2 PA2 VD2 P2 DV Z DV2 Z2 n k PL (prt (txt B n) (d + 1) p) v9 h9 := by rw [prt_eq, if_neg c]; exact q9
    rcases q9 with ⟨kd, pl9, hg2, at2, PL2, O12, O22, e9, rfl, M9⟩ | ⟨q, S, PL2, O12, O22, e9, rfl, M9, lo9, lv9⟩
    · show zV F X h9 13 [(0, .ref m), (1, .int (nI o))] [.int 0]
      have h9_c := mcc M.c M9.c
      exact v_zret g z rfl (by decide) (by decide +kernel) q8 (zcrn 0 0 h9_c.1 h9_c.2 (Nat.le_of_ble_eq_true rfl) (Nat.le_of_ble_eq_true rfl))
    · show zV F X h9 13 [(0, .ref m), (1, .int (nI o))] [.int 1]
      have h9_c := mcc M.c M9.c
      exact v_zret g z rfl (by decide) (by decide +kernel) q8 (zcrn 0 0 h9_c.1 h9_c.2 (Nat.le_of_ble_eq_true rfl) (Nat.le_of_ble_eq_true rfl))
