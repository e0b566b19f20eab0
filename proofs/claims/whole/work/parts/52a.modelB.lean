/-! the reference: a coupon taken -/
abbrev okCp (c : Nat) (pr pa : Int32) : Prop := ¬ x_isIn pr 1 100 = 0 ∧ ¬ x_isIn pa 1 9 = 0 ∧ c < 20
theorem one_shl {j t : Nat} (hj : j < 32) (ht : t < 32) : bt ((1 : Int32) <<< (nI j &&& (31 : Int32))) t = decide (t = j) := by
  rw [b_shl j hj _ ht]
  by_cases h : j ≤ t
  · rw [one_bit _ (by omega)]
    by_cases e : t = j
    · subst e; simp
    · simp [h, e]; omega
  · simp [h]; omega
def lnI (LN LX PL : Nat → Int32) (c x : Nat) : Prop := (∀ j, (j < 512 * c ∨ 512 * c + 512 ≤ j) → LX j = LN j) ∧ ∀ l, l < 16384 → (hs9 LX c l = true ↔ (l < x ∧ ¬ PL l = 0))
theorem lnI_0 {LN PL : Nat → Int32} {c : Nat} : lnI LN (fb_put LN (fun _ => 0) (512 * c) 512) PL c 0 := by
  refine ⟨fun j hj => fb_put_out hj, fun l hl => ?_⟩
  unfold hs9
  rw [fb_put_in (by omega) (by omega), b_0]
  constructor
  · intro e; cases e
  · rintro ⟨e, _⟩; omega
theorem lnI_no {LN LX PL : Nat → Int32} {c i : Nat} (h : lnI LN LX PL c i) (e : PL i = 0) : lnI LN LX PL c (i + 1) := by
  refine ⟨h.1, fun l hl => (h.2 l hl).trans ⟨fun q => ⟨by omega, q.2⟩, fun q => ⟨?_, q.2⟩⟩⟩
  rcases Nat.lt_or_ge l i with t | t
  · exact t
  · exact absurd (by rw [show l = i by omega]; exact e) q.2
theorem lnI_yes {LN LX PL : Nat → Int32} {c i : Nat} (h : lnI LN LX PL c i) (hi : i < 16384) (e : ¬ PL i = 0) : lnI LN (upd LX (512 * c + i / 32) (LX (512 * c + i / 32) ||| ((1 : Int32) <<< (nI (i % 32) &&& (31 : Int32))))) PL c (i + 1) := by
  refine ⟨fun j hj => by rw [pk_un (by omega)]; exact h.1 j hj, fun l hl => ?_⟩
  have h2 := h.2 l hl
  unfold hs9 at h2 ⊢
  by_cases q : l / 32 = i / 32
  · rw [q, pk_us, b_or, one_shl (by omega) (by omega)]
    rw [q] at h2
    rw [Bool.or_eq_true, h2, decide_eq_true_iff]
    constructor
    · rintro (q2 | q2)
      · exact ⟨by omega, q2.2⟩
      · have : l = i := by omega
        subst this
        exact ⟨by omega, e⟩
    · rintro ⟨q1, q2⟩
      by_cases q3 : l = i
      · subst q3; exact Or.inr rfl
      · exact Or.inl ⟨by omega, q2⟩
  · rw [pk_un (by omega), h2]
    constructor
    · rintro ⟨q1, q2⟩; exact ⟨by omega, q2⟩
    · rintro ⟨q1, q2⟩; refine ⟨?_, q2⟩
      have : l ≠ i := fun e => q (by rw [e])
      omega

set_option maxRecDepth 100000 in
set_option maxHeartbeats 4000000 in
theorem m_coupon {F : zF} {h : zH} {h0 : zH} {m : Nat} {R : Nat → Nat} {fk fp ha un dm wk pm cu ct dt pt hg th at9 sz : Int32} {hl pd hlt pdt : Int64} {SC PN V B LN PR PA VD P SC2 PN2 LN2 PR2 PA2 VD2 P2 PL O1 O2 : Nat → Int32} {DV Z DV2 Z2 : Nat → Int64} {n c : Nat} (M : MC h0 h m R (oM R (nI n) fk fp (nI c) ha un dm wk hl pd pm cu ct dt hlt pdt pt hg th at9 sz) SC PN V B LN PR PA VD DV Z P SC2 PN2 LN2 PR2 PA2 VD2 DV2 Z2 P2 PL O1 O2) (hn : n ≤ 200) (hc20 : c ≤ 20) (pr9 pa9 : Int32) : zMet F yX8_coupon cX8_coupon 5 (some .int) { frames := 26, cells := 0, slots := 0, locals := 780 } [.ref m, .int pr9, .int pa9] h (fun v9 h2 => (¬ okCp c pr9 pa9 ∧ v9 = some (.int (-1)) ∧ MC h0 h2 m R (oM R (0 : Int32) (0 : Int32) (0 : Int32) (nI c) ha un dm wk hl pd pm cu ct dt hlt pdt pt hg (0 : Int32) at9 (nI n)) SC PN V B LN PR PA VD DV Z P SC2 PN2 LN2 PR2 PA2 VD2 DV2 Z2 P2 PL O1 O2) ∨ (okCp c pr9 pa9 ∧ ∃ (kd pl9 : Nat) (hg2 at2 : Int32) (PL2 O12 O22 : Nat → Int32), par9 (txt B n) n = .inl (kd, pl9) ∧ v9 = some (.int (-1)) ∧ MC h0 h2 m R (oM R (0 : Int32) (nI kd) (nI pl9) (nI c) ha un dm wk hl pd pm cu ct dt hlt pdt pt hg2 (0 : Int32) at2 (nI n)) SC PN V B LN PR PA VD DV Z P SC2 PN2 LN2 PR2 PA2 VD2 DV2 Z2 P2 PL2 O12 O22) ∨ (okCp c pr9 pa9 ∧ ∃ (q : Nat) (S : Nat → Prop) (hg2 at2 : Int32) (LX PL2 O12 O22 : Nat → Int32), par9 (txt B n) n = .inr (q, S) ∧ v9 = some (.int (nI c)) ∧ MC h0 h2 m R (oM R (0 : Int32) (0 : Int32) (0 : Int32) (nI (c + 1)) ha un dm wk hl pd pm cu ct dt hlt pdt pt hg2 (0 : Int32) at2 (nI n)) SC PN V B LX (upd PR c pr9) (upd PA c pa9) (upd VD c 0) DV Z P SC2 PN2 LN2 PR2 PA2 VD2 DV2 Z2 P2 PL2 O12 O22 ∧ (∀ j, (j < 512 * c ∨ 512 * c + 512 ≤ j) → LX j = LN j) ∧ ∀ l, l < 16384 → (hs9 LX c l = true ↔ S l))) := by
  refine zMet_of (lv := [(0, .ref m), (1, .int pr9), (2, .int pa9)]) (by decide) (by simp [lg_sl, Value.category]) rfl ?_
  intro X g z
  refine v_blk g [.aload_n 0, .iconst 0] (pc' := 2) (lv' := [(0, .ref m), (1, .int pr9), (2, .int pa9)]) (st' := [.int (0 : Int32), .ref m]) (by decide +kernel) rfl rfl ?_
  refine v_put g (fs' := oMl R (nI n) fk fp (nI c) ha un dm wk hl pd pm cu ct dt hlt pdt pt hg (0 : Int32) at9 sz) M.o fl_X8_89 rfl rfl (Nat.le_of_ble_eq_true rfl) rfl (by decide +kernel) ?_
  refine v_h (fun h1 eh1 => ?_)
  have M_h1 : MC h0 h1 m R (oM R (nI n) fk fp (nI c) ha un dm wk hl pd pm cu ct dt hlt pdt pt hg (0 : Int32) at9 sz) SC PN V B LN PR PA VD DV Z P SC2 PN2 LN2 PR2 PA2 VD2 DV2 Z2 P2 PL O1 O2 := by rw [eh1]; exact M.so _
  have h1_c := mcc M.c M_h1.c
  refine v_blk g [.aload_n 0, .aload_n 0] (pc' := 7) (lv' := [(0, .ref m), (1, .int pr9), (2, .int pa9)]) (st' := [.ref m, .ref m]) (by decide +kernel) rfl rfl ?_
  refine v_get g M_h1.o fl_X8_110 rfl (by decide +kernel) ?_
  refine v_put g (fs' := oMl R (nI n) fk fp (nI c) ha un dm wk hl pd pm cu ct dt hlt pdt pt hg (0 : Int32) at9 (nI n)) M_h1.o fl_X8_120 rfl rfl (Nat.le_of_ble_eq_true rfl) rfl (by decide +kernel) ?_
  refine v_h (fun h2 eh2 => ?_)
  have M_h2 : MC h0 h2 m R (oM R (nI n) fk fp (nI c) ha un dm wk hl pd pm cu ct dt hlt pdt pt hg (0 : Int32) at9 (nI n)) SC PN V B LN PR PA VD DV Z P SC2 PN2 LN2 PR2 PA2 VD2 DV2 Z2 P2 PL O1 O2 := by rw [eh2]; exact M_h1.so _
  have h2_c := mcc M.c M_h2.c
  refine v_blk g [.aload_n 0, .iconst 0] (pc' := 15) (lv' := [(0, .ref m), (1, .int pr9), (2, .int pa9)]) (st' := [.int (0 : Int32), .ref m]) (by decide +kernel) rfl rfl ?_
  refine v_put g (fs' := oMl R (0 : Int32) fk fp (nI c) ha un dm wk hl pd pm cu ct dt hlt pdt pt hg (0 : Int32) at9 (nI n)) M_h2.o fl_X8_110 rfl rfl (Nat.le_of_ble_eq_true rfl) rfl (by decide +kernel) ?_
  refine v_h (fun h3 eh3 => ?_)
  have M_h3 : MC h0 h3 m R (oM R (0 : Int32) fk fp (nI c) ha un dm wk hl pd pm cu ct dt hlt pdt pt hg (0 : Int32) at9 (nI n)) SC PN V B LN PR PA VD DV Z P SC2 PN2 LN2 PR2 PA2 VD2 DV2 Z2 P2 PL O1 O2 := by rw [eh3]; exact M_h2.so _
  have h3_c := mcc M.c M_h3.c
  refine v_blk g [.aload_n 0, .iconst 0] (pc' := 20) (lv' := [(0, .ref m), (1, .int pr9), (2, .int pa9)]) (st' := [.int (0 : Int32), .ref m]) (by decide +kernel) rfl rfl ?_
  refine v_put g (fs' := oMl R (0 : Int32) (0 : Int32) fp (nI c) ha un dm wk hl pd pm cu ct dt hlt pdt pt hg (0 : Int32) at9 (nI n)) M_h3.o fl_X8_127 rfl rfl (Nat.le_of_ble_eq_true rfl) rfl (by decide +kernel) ?_
  refine v_h (fun h4 eh4 => ?_)
  have M_h4 : MC h0 h4 m R (oM R (0 : Int32) (0 : Int32) fp (nI c) ha un dm wk hl pd pm cu ct dt hlt pdt pt hg (0 : Int32) at9 (nI n)) SC PN V B LN PR PA VD DV Z P SC2 PN2 LN2 PR2 PA2 VD2 DV2 Z2 P2 PL O1 O2 := by rw [eh4]; exact M_h3.so _
  have h4_c := mcc M.c M_h4.c
  refine v_blk g [.aload_n 0, .iconst 0] (pc' := 25) (lv' := [(0, .ref m), (1, .int pr9), (2, .int pa9)]) (st' := [.int (0 : Int32), .ref m]) (by decide +kernel) rfl rfl ?_
  refine v_put g (fs' := oMl R (0 : Int32) (0 : Int32) (0 : Int32) (nI c) ha un dm wk hl pd pm cu ct dt hlt pdt pt hg (0 : Int32) at9 (nI n)) M_h4.o fl_X8_130 rfl rfl (Nat.le_of_ble_eq_true rfl) rfl (by decide +kernel) ?_
  refine v_h (fun h5 eh5 => ?_)
  have M_h5 : MC h0 h5 m R (oM R (0 : Int32) (0 : Int32) (0 : Int32) (nI c) ha un dm wk hl pd pm cu ct dt hlt pdt pt hg (0 : Int32) at9 (nI n)) SC PN V B LN PR PA VD DV Z P SC2 PN2 LN2 PR2 PA2 VD2 DV2 Z2 P2 PL O1 O2 := by rw [eh5]; exact M_h4.so _
  have h5_c := mcc M.c M_h5.c
  refine v_blk g [.iload_n 1, .i2l, .lconst 1] (pc' := 31) (lv' := [(0, .ref m), (1, .int pr9), (2, .int pa9)]) (st' := [.long (1 : Int64), .long pr9.toInt64]) (by decide +kernel) rfl rfl ?_
  refine v_ldc2 g kc_X8_175 (by decide +kernel) ?_
  refine v_callSp g (rest := []) (m_in _ _ _) cl_X8_94 rfl (Nat.le_of_ble_eq_true rfl) (by decide +kernel) ⟨Nat.le_of_ble_eq_true rfl, Nat.le_of_ble_eq_true rfl⟩ (zcsn 0 0 h5_c.1 h5_c.2 (Nat.le_of_ble_eq_true rfl) (Nat.le_of_ble_eq_true rfl)) ?_
  show zV F X h5 37 [(0, .ref m), (1, .int pr9), (2, .int pa9)] [.int (x_in pr9.toInt64 (1 : Int64) (100 : Int64))]
  refine v_ti (z := x_isIn pr9 (1) (100)) (in_eq pr9 (1) (100) rfl rfl) ?_
  refine v_if_eq g (off := 24) (tgt := 61) (by decide +kernel) (by decide) (fun c1 => ?_) (fun c1 => ?_)
  · refine v_blk g [.iconst (-1)] (pc' := 62) (lv' := [(0, .ref m), (1, .int pr9), (2, .int pa9)]) (st' := [.int (-1 : Int32)]) (by decide +kernel) rfl rfl ?_
    exact v_iret g z rfl (by decide +kernel) (Or.inl ⟨(fun q => q.1 c1), rfl, M_h5⟩) (zcrn 0 0 h5_c.1 h5_c.2 (Nat.le_of_ble_eq_true rfl) (Nat.le_of_ble_eq_true rfl))
  · refine v_blk g [.iload_n 2, .i2l, .lconst 1] (pc' := 43) (lv' := [(0, .ref m), (1, .int pr9), (2, .int pa9)]) (st' := [.long (1 : Int64), .long pa9.toInt64]) (by decide +kernel) rfl rfl ?_
    refine v_ldc2 g kc_X8_108 (by decide +kernel) ?_
    refine v_callSp g (rest := []) (m_in _ _ _) cl_X8_94 rfl (Nat.le_of_ble_eq_true rfl) (by decide +kernel) ⟨Nat.le_of_ble_eq_true rfl, Nat.le_of_ble_eq_true rfl⟩ (zcsn 0 0 h5_c.1 h5_c.2 (Nat.le_of_ble_eq_true rfl) (Nat.le_of_ble_eq_true rfl)) ?_
    show zV F X h5 49 [(0, .ref m), (1, .int pr9), (2, .int pa9)] [.int (x_in pa9.toInt64 (1 : Int64) (9 : Int64))]
    refine v_ti (z := x_isIn pa9 (1) (9)) (in_eq pa9 (1) (9) rfl rfl) ?_
    refine v_if_eq g (off := 12) (tgt := 61) (by decide +kernel) (by decide) (fun c2 => ?_) (fun c2 => ?_)
    · refine v_blk g [.iconst (-1)] (pc' := 62) (lv' := [(0, .ref m), (1, .int pr9), (2, .int pa9)]) (st' := [.int (-1 : Int32)]) (by decide +kernel) rfl rfl ?_
      exact v_iret g z rfl (by decide +kernel) (Or.inl ⟨(fun q => q.2.1 c2), rfl, M_h5⟩) (zcrn 0 0 h5_c.1 h5_c.2 (Nat.le_of_ble_eq_true rfl) (Nat.le_of_ble_eq_true rfl))
    · refine v_blk g [.aload_n 0] (pc' := 53) (lv' := [(0, .ref m), (1, .int pr9), (2, .int pa9)]) (st' := [.ref m]) (by decide +kernel) rfl rfl ?_
      refine v_get g M_h5.o fl_X8_177 rfl (by decide +kernel) ?_
      refine v_blk g [.bipush 20] (pc' := 58) (lv' := [(0, .ref m), (1, .int pr9), (2, .int pa9)]) (st' := [.int (20 : Int32), .int (nI c)]) (by decide +kernel) rfl rfl ?_
      refine v_icmp_ne g (off := 5) (tgt := 63) (by decide +kernel) (by decide) (fun c3 => ?_) (fun c3 => ?_)
      · have c20 : c < 20 := by rcases Nat.lt_or_ge c 20 with q | q; exact q; exact absurd (by rw [show c = 20 by omega]; rfl) c3
        have okc : okCp c pr9 pa9 := ⟨c1, c2, c20⟩
        refine v_blk g [.aload_n 0, .iconst 0] (pc' := 65) (lv' := [(0, .ref m), (1, .int pr9), (2, .int pa9)]) (st' := [.int (0 : Int32), .ref m]) (by decide +kernel) rfl rfl ?_
        refine v_put g (fs' := oMl R (0 : Int32) (0 : Int32) (0 : Int32) (nI c) ha un dm wk hl pd pm cu ct dt hlt pdt pt hg (0 : Int32) (0 : Int32) (nI n)) M_h5.o fl_X8_117 rfl rfl (Nat.le_of_ble_eq_true rfl) rfl (by decide +kernel) ?_
        refine v_h (fun h6 eh6 => ?_)
        have M_h6 : MC h0 h6 m R (oM R (0 : Int32) (0 : Int32) (0 : Int32) (nI c) ha un dm wk hl pd pm cu ct dt hlt pdt pt hg (0 : Int32) (0 : Int32) (nI n)) SC PN V B LN PR PA VD DV Z P SC2 PN2 LN2 PR2 PA2 VD2 DV2 Z2 P2 PL O1 O2 := by rw [eh6]; exact M_h5.so _
        have h6_c := mcc M.c M_h6.c
        refine v_blk g [.aload_n 0, .iconst 0] (pc' := 70) (lv' := [(0, .ref m), (1, .int pr9), (2, .int pa9)]) (st' := [.int (0 : Int32), .ref m]) (by decide +kernel) rfl rfl ?_
        refine v_put g (fs' := oMl R (0 : Int32) (0 : Int32) (0 : Int32) (nI c) ha un dm wk hl pd pm cu ct dt hlt pdt pt (0 : Int32) (0 : Int32) (0 : Int32) (nI n)) M_h6.o fl_X8_144 rfl rfl (Nat.le_of_ble_eq_true rfl) rfl (by decide +kernel) ?_
        refine v_h (fun h7 eh7 => ?_)
        have M_h7 : MC h0 h7 m R (oM R (0 : Int32) (0 : Int32) (0 : Int32) (nI c) ha un dm wk hl pd pm cu ct dt hlt pdt pt (0 : Int32) (0 : Int32) (0 : Int32) (nI n)) SC PN V B LN PR PA VD DV Z P SC2 PN2 LN2 PR2 PA2 VD2 DV2 Z2 P2 PL O1 O2 := by rw [eh7]; exact M_h6.so _
        have h7_c := mcc M.c M_h7.c
        refine v_blk g [.aload_n 0, .iconst 0] (pc' := 75) (lv' := [(0, .ref m), (1, .int pr9), (2, .int pa9)]) (st' := [.int (0 : Int32), .ref m]) (by decide +kernel) rfl rfl ?_
        refine v_callV g (rest := []) (m_all 6 h7 h0 m R (0 : Int32) (0 : Int32) (nI c) ha un dm wk pm cu ct dt pt (0 : Int32) hl pd hlt pdt SC PN V B LN PR PA VD P SC2 PN2 LN2 PR2 PA2 VD2 P2 DV Z DV2 Z2 n 0 0 0 PL O1 O2 M_h7 (by omega) (by omega) hn (by omega)) cl_X8_166 M_h7.o rfl rfl (Nat.le_of_ble_eq_true rfl) (by decide +kernel) ⟨Nat.le_of_ble_eq_true rfl, Nat.le_of_ble_eq_true rfl⟩ (zcsn 0 0 h7_c.1 h7_c.2 (Nat.le_of_ble_eq_true rfl) (Nat.le_of_ble_eq_true rfl)) (fun v8 h8 q8 => ?_)
        rcases q8 with ⟨kd, pl9, hg2, at2, PL2, O12, O22, e8, rfl, M8⟩ | ⟨q, S, PL2, O12, O22, e8, rfl, M8, lo8, lv8⟩
        · show zV F X h8 78 [(0, .ref m), (1, .int pr9), (2, .int pa9)] [.int 0]
          have h8_c := mcc M.c M8.c
          refine v_blk g [.istore_n 3, .iload_n 3] (pc' := 80) (lv' := [(3, .int 0), (0, .ref m), (1, .int pr9), (2, .int pa9)]) (st' := [.int 0]) (by decide +kernel) rfl rfl ?_
          refine v_if_eq g (off := 24) (tgt := 104) (by decide +kernel) (by decide) (fun _ => ?_) (fun c => absurd c (fun q => q rfl))
          refine v_blk g [.iload_n 3] (pc' := 105) (lv' := [(3, .int 0), (0, .ref m), (1, .int pr9), (2, .int pa9)]) (st' := [.int 0]) (by decide +kernel) rfl rfl ?_
          refine v_if_ne g (off := 5) (tgt := 110) (by decide +kernel) (by decide) (fun c => absurd c (fun q => q rfl)) (fun _ => ?_)
          refine v_blk g [.iconst (-1)] (pc' := 109) (lv' := [(3, .int 0), (0, .ref m), (1, .int pr9), (2, .int pa9)]) (st' := [.int (-1 : Int32)]) (by decide +kernel) rfl rfl ?_
          exact v_iret g z rfl (by decide +kernel) (Or.inr (Or.inl ⟨okc, kd, pl9, hg2, at2, PL2, O12, O22, by rw [par9, e8], rfl, M8⟩)) (zcrn 0 0 h8_c.1 h8_c.2 (Nat.le_of_ble_eq_true rfl) (Nat.le_of_ble_eq_true rfl))
        · show zV F X h8 78 [(0, .ref m), (1, .int pr9), (2, .int pa9)] [.int 1]
          have h8_c := mcc M.c M8.c
          have qe := pln_end (alt_end (prt_end 6)) _ _ _ e8
          refine v_blk g [.istore_n 3, .iload_n 3] (pc' := 80) (lv' := [(3, .int 1), (0, .ref m), (1, .int pr9), (2, .int pa9)]) (st' := [.int 1]) (by decide +kernel) rfl rfl ?_
          refine v_if_eq g (off := 24) (tgt := 104) (by decide +kernel) (by decide) (fun c => absurd c (by decide)) (fun _ => ?_)
          refine v_blk g [.aload_n 0] (pc' := 84) (lv' := [(3, .int 1), (0, .ref m), (1, .int pr9), (2, .int pa9)]) (st' := [.ref m]) (by decide +kernel) rfl rfl ?_
          refine v_get g M8.o fl_X8_117 rfl (by decide +kernel) ?_
          refine v_blk g [.aload_n 0] (pc' := 88) (lv' := [(3, .int 1), (0, .ref m), (1, .int pr9), (2, .int pa9)]) (st' := [.ref m, .int (nI q)]) (by decide +kernel) rfl rfl ?_
          refine v_get g M8.o fl_X8_120 rfl (by decide +kernel) ?_
          refine v_icmp_ge g (off := 13) (tgt := 104) (by decide +kernel) (by decide) (fun c4 => ?_) (fun c4 => ?_)
          · have qn : ¬ q < n := fun e => nI_ge e (by omega) c4
            have e9 : par9 (txt B n) n = .inr (q, S) := by rw [par9, e8]; exact if_neg qn
            refine v_blk g [.iload_n 3] (pc' := 105) (lv' := [(3, .int 1), (0, .ref m), (1, .int pr9), (2, .int pa9)]) (st' := [.int 1]) (by decide +kernel) rfl rfl ?_
            refine v_if_ne g (off := 5) (tgt := 110) (by decide +kernel) (by decide) (fun _ => ?_) (fun c => absurd c (by decide))
            refine v_blk g [.iconst 0, .istore 4] (pc' := 113) (lv' := [(4, .int (0 : Int32)), (3, .int 1), (0, .ref m), (1, .int pr9), (2, .int pa9)]) (st' := []) (by decide +kernel) rfl rfl ?_
            refine v_lv [0, 2, 3, 4] (lv' := [(4, .int (0 : Int32)), (0, .ref m), (1, .int pr9), (2, .int pa9)]) rfl ?_
            have keyz : ∀ i, i ≤ 512 → ∀ g8 : zH, MC h0 g8 m R (oM R (0 : Int32) 0 0 (nI c) ha un dm wk hl pd pm cu ct dt hlt pdt pt (nI (0 + 1)) (0 : Int32) (nI q) (nI n)) SC PN V B (fb_put LN (fun _ => 0) (512 * c) i) PR PA VD DV Z P SC2 PN2 LN2 PR2 PA2 VD2 DV2 Z2 P2 PL2 O12 O22 → zV F X g8 113 [(4, .int (nI i)), (0, .ref m), (1, .int pr9), (2, .int pa9)] [] := by
              refine z_up (P := fun i => ∀ g8 : zH, MC h0 g8 m R (oM R (0 : Int32) 0 0 (nI c) ha un dm wk hl pd pm cu ct dt hlt pdt pt (nI (0 + 1)) (0 : Int32) (nI q) (nI n)) SC PN V B (fb_put LN (fun _ => 0) (512 * c) i) PR PA VD DV Z P SC2 PN2 LN2 PR2 PA2 VD2 DV2 Z2 P2 PL2 O12 O22 → zV F X g8 113 [(4, .int (nI i)), (0, .ref m), (1, .int pr9), (2, .int pa9)] []) 512 ?_ ?_
              · intro g8 M7
                have g8_c := mcc M.c M7.c
                refine v_blk g [.iload 4, .sipush 512] (pc' := 118) (lv' := [(4, .int (nI 512)), (0, .ref m), (1, .int pr9), (2, .int pa9)]) (st' := [.int (512 : Int32), .int (nI 512)]) (by decide +kernel) rfl rfl ?_
                refine v_icmp_ge g (off := 26) (tgt := 144) (by decide +kernel) (by decide) (fun _ => ?_) (fun c => absurd c (fun q => q (by decide)))
                refine v_blk g [.iconst 0, .istore 4] (pc' := 147) (lv' := [(4, .int (0 : Int32)), (0, .ref m), (1, .int pr9), (2, .int pa9)]) (st' := []) (by decide +kernel) rfl rfl ?_
                have keyl : ∀ i, i ≤ 16384 → ∀ g9 : zH, ∀ (LX : Nat → Int32), MC h0 g9 m R (oM R (0 : Int32) 0 0 (nI c) ha un dm wk hl pd pm cu ct dt hlt pdt pt (nI (0 + 1)) (0 : Int32) (nI q) (nI n)) SC PN V B LX PR PA VD DV Z P SC2 PN2 LN2 PR2 PA2 VD2 DV2 Z2 P2 PL2 O12 O22 → lnI LN LX PL2 c i → zV F X g9 147 [(4, .int (nI i)), (0, .ref m), (1, .int pr9), (2, .int pa9)] [] := by
                  refine z_up (P := fun i => ∀ g9 : zH, ∀ (LX : Nat → Int32), MC h0 g9 m R (oM R (0 : Int32) 0 0 (nI c) ha un dm wk hl pd pm cu ct dt hlt pdt pt (nI (0 + 1)) (0 : Int32) (nI q) (nI n)) SC PN V B LX PR PA VD DV Z P SC2 PN2 LN2 PR2 PA2 VD2 DV2 Z2 P2 PL2 O12 O22 → lnI LN LX PL2 c i → zV F X g9 147 [(4, .int (nI i)), (0, .ref m), (1, .int pr9), (2, .int pa9)] []) 16384 ?_ ?_
                  · intro g9 LX M9 hpre
                    have g9_c := mcc M.c M9.c
                    refine v_blk g [.iload 4, .sipush 16384] (pc' := 152) (lv' := [(4, .int (nI 16384)), (0, .ref m), (1, .int pr9), (2, .int pa9)]) (st' := [.int (16384 : Int32), .int (nI 16384)]) (by decide +kernel) rfl rfl ?_
                    refine v_icmp_ge g (off := 48) (tgt := 200) (by decide +kernel) (by decide) (fun _ => ?_) (fun c => absurd c (fun q => q (by decide)))
                    refine v_blk g [.aload_n 0] (pc' := 201) (lv' := [(4, .int (nI 16384)), (0, .ref m), (1, .int pr9), (2, .int pa9)]) (st' := [.ref m]) (by decide +kernel) rfl rfl ?_
                    refine v_get g M9.o fl_X8_25 rfl (by decide +kernel) ?_
                    refine v_blk g [.aload_n 0] (pc' := 205) (lv' := [(4, .int (nI 16384)), (0, .ref m), (1, .int pr9), (2, .int pa9)]) (st' := [.ref m, .ref (R 5)]) (by decide +kernel) rfl rfl ?_
                    refine v_get g M9.o fl_X8_177 rfl (by decide +kernel) ?_
                    refine v_blk g [.iload_n 1] (pc' := 209) (lv' := [(4, .int (nI 16384)), (0, .ref m), (1, .int pr9), (2, .int pa9)]) (st' := [.int pr9, .int (nI c), .ref (R 5)]) (by decide +kernel) rfl rfl ?_
                    refine v_iast g M9.k5 c rfl c20 (Nat.le_of_ble_eq_true rfl) (by decide +kernel) ?_
                    refine v_h (fun g8 eg8 => ?_)
                    have M_g8 : MC h0 g8 m R (oM R (0 : Int32) 0 0 (nI c) ha un dm wk hl pd pm cu ct dt hlt pdt pt (nI (0 + 1)) (0 : Int32) (nI q) (nI n)) SC PN V B LX (upd PR c pr9) PA VD DV Z P SC2 PN2 LN2 PR2 PA2 VD2 DV2 Z2 P2 PL2 O12 O22 := by rw [eg8]; exact M9.s5 _
                    have g8_c := mcc M.c M_g8.c
                    refine v_blk g [.aload_n 0] (pc' := 211) (lv' := [(4, .int (nI 16384)), (0, .ref m), (1, .int pr9), (2, .int pa9)]) (st' := [.ref m]) (by decide +kernel) rfl rfl ?_
                    refine v_get g M_g8.o fl_X8_28 rfl (by decide +kernel) ?_
                    refine v_blk g [.aload_n 0] (pc' := 215) (lv' := [(4, .int (nI 16384)), (0, .ref m), (1, .int pr9), (2, .int pa9)]) (st' := [.ref m, .ref (R 6)]) (by decide +kernel) rfl rfl ?_
                    refine v_get g M_g8.o fl_X8_177 rfl (by decide +kernel) ?_
                    refine v_blk g [.iload_n 2] (pc' := 219) (lv' := [(4, .int (nI 16384)), (0, .ref m), (1, .int pr9), (2, .int pa9)]) (st' := [.int pa9, .int (nI c), .ref (R 6)]) (by decide +kernel) rfl rfl ?_
                    refine v_iast g M_g8.k6 c rfl c20 (Nat.le_of_ble_eq_true rfl) (by decide +kernel) ?_
                    refine v_h (fun g9 eg9 => ?_)
                    have M_g9 : MC h0 g9 m R (oM R (0 : Int32) 0 0 (nI c) ha un dm wk hl pd pm cu ct dt hlt pdt pt (nI (0 + 1)) (0 : Int32) (nI q) (nI n)) SC PN V B LX (upd PR c pr9) (upd PA c pa9) VD DV Z P SC2 PN2 LN2 PR2 PA2 VD2 DV2 Z2 P2 PL2 O12 O22 := by rw [eg9]; exact M_g8.s6 _
                    have g9_c := mcc M.c M_g9.c
                    refine v_blk g [.aload_n 0] (pc' := 221) (lv' := [(4, .int (nI 16384)), (0, .ref m), (1, .int pr9), (2, .int pa9)]) (st' := [.ref m]) (by decide +kernel) rfl rfl ?_
                    refine v_get g M_g9.o fl_X8_31 rfl (by decide +kernel) ?_
                    refine v_blk g [.aload_n 0] (pc' := 225) (lv' := [(4, .int (nI 16384)), (0, .ref m), (1, .int pr9), (2, .int pa9)]) (st' := [.ref m, .ref (R 7)]) (by decide +kernel) rfl rfl ?_
                    refine v_get g M_g9.o fl_X8_177 rfl (by decide +kernel) ?_
                    refine v_blk g [.iconst 0] (pc' := 229) (lv' := [(4, .int (nI 16384)), (0, .ref m), (1, .int pr9), (2, .int pa9)]) (st' := [.int (0 : Int32), .int (nI c), .ref (R 7)]) (by decide +kernel) rfl rfl ?_
                    refine v_zast g M_g9.k7 (Or.inl rfl) c rfl c20 (Nat.le_of_ble_eq_true rfl) (by decide +kernel) ?_
                    refine v_h (fun g10 eg10 => ?_)
                    have M_g10 : MC h0 g10 m R (oM R (0 : Int32) 0 0 (nI c) ha un dm wk hl pd pm cu ct dt hlt pdt pt (nI (0 + 1)) (0 : Int32) (nI q) (nI n)) SC PN V B LX (upd PR c pr9) (upd PA c pa9) (upd VD c (0 : Int32)) DV Z P SC2 PN2 LN2 PR2 PA2 VD2 DV2 Z2 P2 PL2 O12 O22 := by rw [eg10]; exact M_g9.s7 _
                    have g10_c := mcc M.c M_g10.c
                    refine v_blk g [.aload_n 0, .dup] (pc' := 232) (lv' := [(4, .int (nI 16384)), (0, .ref m), (1, .int pr9), (2, .int pa9)]) (st' := [.ref m, .ref m]) (by decide +kernel) rfl rfl ?_
                    refine v_get g M_g10.o fl_X8_177 rfl (by decide +kernel) ?_
                    refine v_blk g [.iconst 1, .iadd] (pc' := 237) (lv' := [(4, .int (nI 16384)), (0, .ref m), (1, .int pr9), (2, .int pa9)]) (st' := [.int ((nI c) + (1 : Int32)), .ref m]) (by decide +kernel) rfl rfl ?_
                    refine v_ti (z := nI (c + 1)) (nI_1 c) ?_
                    refine v_put g (fs' := oMl R (0 : Int32) 0 0 (nI (c + 1)) ha un dm wk hl pd pm cu ct dt hlt pdt pt (nI (0 + 1)) (0 : Int32) (nI q) (nI n)) M_g10.o fl_X8_177 rfl rfl (Nat.le_of_ble_eq_true rfl) rfl (by decide +kernel) ?_
                    refine v_h (fun h15 eh15 => ?_)
                    have M_h15 : MC h0 h15 m R (oM R (0 : Int32) 0 0 (nI (c + 1)) ha un dm wk hl pd pm cu ct dt hlt pdt pt (nI (0 + 1)) (0 : Int32) (nI q) (nI n)) SC PN V B LX (upd PR c pr9) (upd PA c pa9) (upd VD c (0 : Int32)) DV Z P SC2 PN2 LN2 PR2 PA2 VD2 DV2 Z2 P2 PL2 O12 O22 := by rw [eh15]; exact M_g10.so _
                    have h15_c := mcc M.c M_h15.c
                    refine v_blk g [.aload_n 0] (pc' := 241) (lv' := [(4, .int (nI 16384)), (0, .ref m), (1, .int pr9), (2, .int pa9)]) (st' := [.ref m]) (by decide +kernel) rfl rfl ?_
                    refine v_get g M_h15.o fl_X8_177 rfl (by decide +kernel) ?_
                    refine v_blk g [.iconst 1, .isub] (pc' := 246) (lv' := [(4, .int (nI 16384)), (0, .ref m), (1, .int pr9), (2, .int pa9)]) (st' := [.int ((nI (c + 1)) - (1 : Int32))]) (by decide +kernel) rfl rfl ?_
                    refine v_ti (z := nI c) (nI_pred c) ?_
                    exact v_iret g z rfl (by decide +kernel) (Or.inr (Or.inr ⟨okc, q, S, nI (0 + 1), nI q, LX, PL2, O12, O22, e9, rfl, M_h15, hpre.1, fun l hl => (hpre.2 l hl).trans ⟨fun t => (lv8 l hl).mp (by rw [show 16384 * 0 + l = l by omega]; exact t.2), fun t => ⟨hl, by have := (lv8 l hl).mpr t; rw [show 16384 * 0 + l = l by omega] at this; exact this⟩⟩⟩)) (zcrn 0 0 h15_c.1 h15_c.2 (Nat.le_of_ble_eq_true rfl) (Nat.le_of_ble_eq_true rfl))
                  · intro i hi ih g9 LX M9 hpre
                    have g9_c := mcc M.c M9.c
                    refine v_blk g [.iload 4, .sipush 16384] (pc' := 152) (lv' := [(4, .int (nI i)), (0, .ref m), (1, .int pr9), (2, .int pa9)]) (st' := [.int (16384 : Int32), .int (nI i)]) (by decide +kernel) rfl rfl ?_
                    refine v_icmp_ge g (off := 48) (tgt := 200) (by decide +kernel) (by decide) (fun c => absurd c (nI_ge (b := 16384) hi (by decide))) (fun _ => ?_)
                    refine v_blk g [.aload_n 0] (pc' := 156) (lv' := [(4, .int (nI i)), (0, .ref m), (1, .int pr9), (2, .int pa9)]) (st' := [.ref m]) (by decide +kernel) rfl rfl ?_
                    refine v_get g M9.o fl_X8_80 rfl (by decide +kernel) ?_
                    refine v_blk g [.iload 4] (pc' := 161) (lv' := [(4, .int (nI i)), (0, .ref m), (1, .int pr9), (2, .int pa9)]) (st' := [.int (nI i), .ref (R 20)]) (by decide +kernel) rfl rfl ?_
                    refine v_zald g M9.k20 i rfl (by omega) (Nat.le_of_ble_eq_true rfl) (by decide +kernel) ?_
                    refine v_if_eq g (off := 32) (tgt := 194) (by decide +kernel) (by decide) (fun c7 => ?_) (fun c7 => ?_)
                    · refine v_blk g [.iinc 4 1] (pc' := 197) (lv' := [(4, .int ((nI i) + (1 : Int32))), (0, .ref m), (1, .int pr9), (2, .int pa9)]) (st' := []) (by decide +kernel) rfl rfl ?_
                      refine v_goto g (off := -50) (tgt := 147) (by decide +kernel) (by decide) ?_
                      refine v_lv [0, 1, 2, 3] (lv' := [(4, .int ((nI i) + (1 : Int32))), (0, .ref m), (1, .int pr9), (2, .int pa9)]) rfl ?_
                      exact v_eq (by rw [nI_1]) rfl (ih _ _ M9 (lnI_no hpre c7))
                    · refine v_blk g [.aload_n 0] (pc' := 166) (lv' := [(4, .int (nI i)), (0, .ref m), (1, .int pr9), (2, .int pa9)]) (st' := [.ref m]) (by decide +kernel) rfl rfl ?_
                      refine v_get g M9.o fl_X8_22 rfl (by decide +kernel) ?_
                      refine v_blk g [.sipush 512, .aload_n 0] (pc' := 173) (lv' := [(4, .int (nI i)), (0, .ref m), (1, .int pr9), (2, .int pa9)]) (st' := [.ref m, .int (512 : Int32), .ref (R 4)]) (by decide +kernel) rfl rfl ?_
                      refine v_get g M9.o fl_X8_177 rfl (by decide +kernel) ?_
                      refine v_blk g [.imul, .iload 4, .bipush 32] (pc' := 181) (lv' := [(4, .int (nI i)), (0, .ref m), (1, .int pr9), (2, .int pa9)]) (st' := [.int (32 : Int32), .int (nI i), .int ((512 : Int32) * (nI c)), .ref (R 4)]) (by decide +kernel) rfl rfl ?_
                      refine v_idiv g (by decide +kernel) (by decide) ?_
                      refine v_ti (z := nI (i / 32)) (pk_div (by omega) (by decide) (by decide)) ?_
                      refine v_blk g [.iadd] (pc' := 183) (lv' := [(4, .int (nI i)), (0, .ref m), (1, .int pr9), (2, .int pa9)]) (st' := [.int (((512 : Int32) * (nI c)) + (nI (i / 32))), .ref (R 4)]) (by decide +kernel) rfl rfl ?_
                      refine v_ti (z := nI (512 * c + i / 32)) (by rw [show (512 : Int32) = nI 512 from rfl, pk_mul, nI_add]) ?_
                      refine v_blk g [.dup2] (pc' := 184) (lv' := [(4, .int (nI i)), (0, .ref m), (1, .int pr9), (2, .int pa9)]) (st' := [.int (nI (512 * c + i / 32)), .ref (R 4), .int (nI (512 * c + i / 32)), .ref (R 4)]) (by decide +kernel) rfl rfl ?_
                      refine v_iald g M9.k4 (512 * c + i / 32) rfl (by omega) (Nat.le_of_ble_eq_true rfl) (by decide +kernel) ?_
                      refine v_blk g [.iconst 1, .iload 4, .bipush 32] (pc' := 190) (lv' := [(4, .int (nI i)), (0, .ref m), (1, .int pr9), (2, .int pa9)]) (st' := [.int (32 : Int32), .int (nI i), .int (1 : Int32), .int (LX (512 * c + i / 32)), .int (nI (512 * c + i / 32)), .ref (R 4)]) (by decide +kernel) rfl rfl ?_
                      refine v_irem g (by decide +kernel) (by decide) ?_
                      refine v_ti (z := nI (i % 32)) (pk_rem (by omega) (by decide) (by decide)) ?_
                      refine v_blk g [.ishl, .ior] (pc' := 193) (lv' := [(4, .int (nI i)), (0, .ref m), (1, .int pr9), (2, .int pa9)]) (st' := [.int ((LX (512 * c + i / 32)) ||| ((1 : Int32) <<< ((nI (i % 32)) &&& (31 : Int32)))), .int (nI (512 * c + i / 32)), .ref (R 4)]) (by decide +kernel) rfl rfl ?_
                      refine v_iast g M9.k4 (512 * c + i / 32) rfl (by omega) (Nat.le_of_ble_eq_true rfl) (by decide +kernel) ?_
                      refine v_h (fun h12 eh12 => ?_)
                      have M_h12 : MC h0 h12 m R (oM R (0 : Int32) 0 0 (nI c) ha un dm wk hl pd pm cu ct dt hlt pdt pt (nI (0 + 1)) (0 : Int32) (nI q) (nI n)) SC PN V B (upd LX (512 * c + i / 32) ((LX (512 * c + i / 32)) ||| ((1 : Int32) <<< ((nI (i % 32)) &&& (31 : Int32))))) PR PA VD DV Z P SC2 PN2 LN2 PR2 PA2 VD2 DV2 Z2 P2 PL2 O12 O22 := by rw [eh12]; exact M9.s4 _
                      have h12_c := mcc M.c M_h12.c
                      refine v_blk g [.iinc 4 1] (pc' := 197) (lv' := [(4, .int ((nI i) + (1 : Int32))), (0, .ref m), (1, .int pr9), (2, .int pa9)]) (st' := []) (by decide +kernel) rfl rfl ?_
                      refine v_goto g (off := -50) (tgt := 147) (by decide +kernel) (by decide) ?_
                      refine v_lv [0, 1, 2, 3] (lv' := [(4, .int ((nI i) + (1 : Int32))), (0, .ref m), (1, .int pr9), (2, .int pa9)]) rfl ?_
                      exact v_eq (by rw [nI_1]) rfl (ih _ _ M_h12 (lnI_yes hpre hi c7))
                exact keyl 0 (by omega) _ _ M7 lnI_0
              · intro i hi ih g8 M7
                have g8_c := mcc M.c M7.c
                refine v_blk g [.iload 4, .sipush 512] (pc' := 118) (lv' := [(4, .int (nI i)), (0, .ref m), (1, .int pr9), (2, .int pa9)]) (st' := [.int (512 : Int32), .int (nI i)]) (by decide +kernel) rfl rfl ?_
                refine v_icmp_ge g (off := 26) (tgt := 144) (by decide +kernel) (by decide) (fun c => absurd c (nI_ge (b := 512) hi (by decide))) (fun _ => ?_)
                refine v_blk g [.aload_n 0] (pc' := 122) (lv' := [(4, .int (nI i)), (0, .ref m), (1, .int pr9), (2, .int pa9)]) (st' := [.ref m]) (by decide +kernel) rfl rfl ?_
                refine v_get g M7.o fl_X8_22 rfl (by decide +kernel) ?_
                refine v_blk g [.sipush 512, .aload_n 0] (pc' := 129) (lv' := [(4, .int (nI i)), (0, .ref m), (1, .int pr9), (2, .int pa9)]) (st' := [.ref m, .int (512 : Int32), .ref (R 4)]) (by decide +kernel) rfl rfl ?_
                refine v_get g M7.o fl_X8_177 rfl (by decide +kernel) ?_
                refine v_blk g [.imul, .iload 4, .iadd, .iconst 0] (pc' := 137) (lv' := [(4, .int (nI i)), (0, .ref m), (1, .int pr9), (2, .int pa9)]) (st' := [.int (0 : Int32), .int (((512 : Int32) * (nI c)) + (nI i)), .ref (R 4)]) (by decide +kernel) rfl rfl ?_
                refine v_iast g M7.k4 (512 * c + i) (by rw [show (512 : Int32) = nI 512 from rfl, pk_mul, nI_add]) (by omega) (Nat.le_of_ble_eq_true rfl) (by decide +kernel) ?_
                refine v_h (fun h11 eh11 => ?_)
                have M_h11 : MC h0 h11 m R (oM R (0 : Int32) 0 0 (nI c) ha un dm wk hl pd pm cu ct dt hlt pdt pt (nI (0 + 1)) (0 : Int32) (nI q) (nI n)) SC PN V B (upd (fb_put LN (fun _ => 0) (512 * c) i) (512 * c + i) (0 : Int32)) PR PA VD DV Z P SC2 PN2 LN2 PR2 PA2 VD2 DV2 Z2 P2 PL2 O12 O22 := by rw [eh11]; exact M7.s4 _
                have h11_c := mcc M.c M_h11.c
                refine v_blk g [.iinc 4 1] (pc' := 141) (lv' := [(4, .int ((nI i) + (1 : Int32))), (0, .ref m), (1, .int pr9), (2, .int pa9)]) (st' := []) (by decide +kernel) rfl rfl ?_
                refine v_goto g (off := -28) (tgt := 113) (by decide +kernel) (by decide) ?_
                refine v_lv [0, 1, 2, 3] (lv' := [(4, .int ((nI i) + (1 : Int32))), (0, .ref m), (1, .int pr9), (2, .int pa9)]) rfl ?_
                exact v_eq (by rw [nI_1]) rfl (ih _ (by rw [← fb_put_succ]; exact M_h11))
            exact keyz 0 (by omega) _ (by rw [fb_put_0]; exact M8)
          · have qn : q < n := Classical.byContradiction (fun e => c4 (nI_le (by omega) (by omega)))
            refine v_blk g [.aload_n 0, .iconst 1, .aload_n 0] (pc' := 97) (lv' := [(3, .int 1), (0, .ref m), (1, .int pr9), (2, .int pa9)]) (st' := [.ref m, .int (1 : Int32), .ref m]) (by decide +kernel) rfl rfl ?_
            refine v_get g M8.o fl_X8_117 rfl (by decide +kernel) ?_
            refine v_callVp g (rest := []) (m_fails M8.o _ _) cl_X8_137 M8.o rfl rfl (Nat.le_of_ble_eq_true rfl) (by decide +kernel) ⟨Nat.le_of_ble_eq_true rfl, Nat.le_of_ble_eq_true rfl⟩ (zcsn 0 0 h8_c.1 h8_c.2 (Nat.le_of_ble_eq_true rfl) (Nat.le_of_ble_eq_true rfl)) ?_
            show zV F X (z_s h8 m (oM R (0 : Int32) (nI 1) (nI q) (nI c) ha un dm wk hl pd pm cu ct dt hlt pdt pt (nI (0 + 1)) (0 : Int32) (nI q) (nI n))) 103 [(3, .int 1), (0, .ref m), (1, .int pr9), (2, .int pa9)] [.int 0]
            have M9 := M8.so (oM R (0 : Int32) (nI 1) (nI q) (nI c) ha un dm wk hl pd pm cu ct dt hlt pdt pt (nI (0 + 1)) (0 : Int32) (nI q) (nI n))
            refine v_h (fun h9 eh9 => ?_)
            rw [← eh9] at M9
            have h9_c := mcc M.c M9.c
            refine v_blk g [.istore_n 3] (pc' := 104) (lv' := [(3, .int 0), (0, .ref m), (1, .int pr9), (2, .int pa9)]) (st' := []) (by decide +kernel) rfl rfl ?_
            refine v_blk g [.iload_n 3] (pc' := 105) (lv' := [(3, .int 0), (0, .ref m), (1, .int pr9), (2, .int pa9)]) (st' := [.int 0]) (by decide +kernel) rfl rfl ?_
            refine v_if_ne g (off := 5) (tgt := 110) (by decide +kernel) (by decide) (fun c => absurd c (fun q => q rfl)) (fun _ => ?_)
            refine v_blk g [.iconst (-1)] (pc' := 109) (lv' := [(3, .int 0), (0, .ref m), (1, .int pr9), (2, .int pa9)]) (st' := [.int (-1 : Int32)]) (by decide +kernel) rfl rfl ?_
            exact v_iret g z rfl (by decide +kernel) (Or.inr (Or.inl ⟨okc, 1, q, nI (0 + 1), nI q, PL2, O12, O22, by rw [par9, e8]; exact if_pos qn, rfl, M9⟩)) (zcrn 0 0 h9_c.1 h9_c.2 (Nat.le_of_ble_eq_true rfl) (Nat.le_of_ble_eq_true rfl))
      · refine v_blk g [.iconst (-1)] (pc' := 62) (lv' := [(0, .ref m), (1, .int pr9), (2, .int pa9)]) (st' := [.int (-1 : Int32)]) (by decide +kernel) rfl rfl ?_
        exact v_iret g z rfl (by decide +kernel) (Or.inl ⟨(fun q => by have := (nI_eq (a := c) (b := 20) (by omega) (by decide)).mp c3; have := q.2.2; omega), rfl, M_h5⟩) (zcrn 0 0 h5_c.1 h5_c.2 (Nat.le_of_ble_eq_true rfl) (Nat.le_of_ble_eq_true rfl))
