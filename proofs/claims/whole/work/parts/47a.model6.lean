/-! the reference: a week kept, and taken back -/
theorem mcc {h0 h h5 : zH} (a : h.2 = h0.2) (b : h5.2 = h0.2) : h5.2.1 = h.2.1 + 0 ∧ h5.2.2 = h.2.2 + 0 := by
  rw [b, a]; exact ⟨rfl, rfl⟩

set_option maxRecDepth 100000 in
set_option maxHeartbeats 4000000 in
theorem m_keep {F : zF} {h : zH} {h0 : zH} {m : Nat} {R : Nat → Nat} {tp fk fp cn ha un dm wk pm cu ct dt pt hg th at9 sz : Int32} {hl pd hlt pdt : Int64} {SC PN V B LN PR PA VD P SC2 PN2 LN2 PR2 PA2 VD2 P2 PL O1 O2 : Nat → Int32} {DV Z DV2 Z2 : Nat → Int64} (M : MC h0 h m R (oM R tp fk fp cn ha un dm wk hl pd pm cu ct dt hlt pdt pt hg th at9 sz) SC PN V B LN PR PA VD DV Z P SC2 PN2 LN2 PR2 PA2 VD2 DV2 Z2 P2 PL O1 O2) (h01 : ∀ q, q < 20 → VD q = 0 ∨ VD q = 1) : zMet F yX8_keepThen cX8_keepThen 2 none { frames := 2, cells := 0, slots := 0, locals := 60 } [.ref m] h (fun v h2 => v = none ∧ MC h0 h2 m R (oM R tp fk fp cn ha un dm wk hl pd pm (1 : Int32) cn dm hl pd pm hg th at9 sz) SC PN V B LN PR PA VD DV Z P (mx SC SC2 14) (mx PN PN2 14) (mx LN LN2 10240) (mx PR PR2 20) (mx PA PA2 20) (mx VD VD2 20) (mx DV DV2 24) (mx Z Z2 20) (mx P P2 20) PL O1 O2) := by
  refine zMet_of (lv := [(0, .ref m)]) (by decide) (by simp [lg_sl, Value.category]) rfl ?_
  intro X g z
  refine v_blk g [.aload_n 0] (pc' := 1) (lv' := [(0, .ref m)]) (st' := [.ref m]) (by decide +kernel) rfl rfl ?_
  refine v_get g M.o fl_X8_9 rfl (by decide +kernel) ?_
  refine v_blk g [.aload_n 0] (pc' := 5) (lv' := [(0, .ref m)]) (st' := [.ref m, .ref (R 0)]) (by decide +kernel) rfl rfl ?_
  refine v_get g M.o fl_X8_52 rfl (by decide +kernel) ?_
  refine v_callSp g (rest := []) (m_copyI M.k0 M.k11 (M.hR 0 11 (by decide) (by decide) (by decide)) (Nat.le_of_ble_eq_true rfl)) cl_X8_227 rfl (Nat.le_of_ble_eq_true rfl) (by decide +kernel) ⟨Nat.le_of_ble_eq_true rfl, Nat.le_of_ble_eq_true rfl⟩ (zcsn 0 0 rfl rfl (Nat.le_of_ble_eq_true rfl) (Nat.le_of_ble_eq_true rfl)) ?_
  show zV F X (z_s h (R 11) (aI 14 (mx SC SC2 14))) 11 [(0, .ref m)] []
  refine v_h (fun h1 eh1 => ?_)
  have M_h1 : MC h0 h1 m R (oM R tp fk fp cn ha un dm wk hl pd pm cu ct dt hlt pdt pt hg th at9 sz) SC PN V B LN PR PA VD DV Z P (mx SC SC2 14) PN2 LN2 PR2 PA2 VD2 DV2 Z2 P2 PL O1 O2 := by rw [eh1]; exact M.s11 _
  have h1_c := mcc M.c M_h1.c
  refine v_blk g [.aload_n 0] (pc' := 12) (lv' := [(0, .ref m)]) (st' := [.ref m]) (by decide +kernel) rfl rfl ?_
  refine v_get g M_h1.o fl_X8_13 rfl (by decide +kernel) ?_
  refine v_blk g [.aload_n 0] (pc' := 16) (lv' := [(0, .ref m)]) (st' := [.ref m, .ref (R 1)]) (by decide +kernel) rfl rfl ?_
  refine v_get g M_h1.o fl_X8_55 rfl (by decide +kernel) ?_
  refine v_callSp g (rest := []) (m_copyI M_h1.k1 M_h1.k12 (M_h1.hR 1 12 (by decide) (by decide) (by decide)) (Nat.le_of_ble_eq_true rfl)) cl_X8_227 rfl (Nat.le_of_ble_eq_true rfl) (by decide +kernel) ⟨Nat.le_of_ble_eq_true rfl, Nat.le_of_ble_eq_true rfl⟩ (zcsn 0 0 h1_c.1 h1_c.2 (Nat.le_of_ble_eq_true rfl) (Nat.le_of_ble_eq_true rfl)) ?_
  show zV F X (z_s h1 (R 12) (aI 14 (mx PN PN2 14))) 22 [(0, .ref m)] []
  refine v_h (fun h2 eh2 => ?_)
  have M_h2 : MC h0 h2 m R (oM R tp fk fp cn ha un dm wk hl pd pm cu ct dt hlt pdt pt hg th at9 sz) SC PN V B LN PR PA VD DV Z P (mx SC SC2 14) (mx PN PN2 14) LN2 PR2 PA2 VD2 DV2 Z2 P2 PL O1 O2 := by rw [eh2]; exact M_h1.s12 _
  have h2_c := mcc M.c M_h2.c
  refine v_blk g [.aload_n 0] (pc' := 23) (lv' := [(0, .ref m)]) (st' := [.ref m]) (by decide +kernel) rfl rfl ?_
  refine v_get g M_h2.o fl_X8_22 rfl (by decide +kernel) ?_
  refine v_blk g [.aload_n 0] (pc' := 27) (lv' := [(0, .ref m)]) (st' := [.ref m, .ref (R 4)]) (by decide +kernel) rfl rfl ?_
  refine v_get g M_h2.o fl_X8_58 rfl (by decide +kernel) ?_
  refine v_callSp g (rest := []) (m_copyI M_h2.k4 M_h2.k13 (M_h2.hR 4 13 (by decide) (by decide) (by decide)) (Nat.le_of_ble_eq_true rfl)) cl_X8_227 rfl (Nat.le_of_ble_eq_true rfl) (by decide +kernel) ⟨Nat.le_of_ble_eq_true rfl, Nat.le_of_ble_eq_true rfl⟩ (zcsn 0 0 h2_c.1 h2_c.2 (Nat.le_of_ble_eq_true rfl) (Nat.le_of_ble_eq_true rfl)) ?_
  show zV F X (z_s h2 (R 13) (aI 10240 (mx LN LN2 10240))) 33 [(0, .ref m)] []
  refine v_h (fun h3 eh3 => ?_)
  have M_h3 : MC h0 h3 m R (oM R tp fk fp cn ha un dm wk hl pd pm cu ct dt hlt pdt pt hg th at9 sz) SC PN V B LN PR PA VD DV Z P (mx SC SC2 14) (mx PN PN2 14) (mx LN LN2 10240) PR2 PA2 VD2 DV2 Z2 P2 PL O1 O2 := by rw [eh3]; exact M_h2.s13 _
  have h3_c := mcc M.c M_h3.c
  refine v_blk g [.aload_n 0] (pc' := 34) (lv' := [(0, .ref m)]) (st' := [.ref m]) (by decide +kernel) rfl rfl ?_
  refine v_get g M_h3.o fl_X8_25 rfl (by decide +kernel) ?_
  refine v_blk g [.aload_n 0] (pc' := 38) (lv' := [(0, .ref m)]) (st' := [.ref m, .ref (R 5)]) (by decide +kernel) rfl rfl ?_
  refine v_get g M_h3.o fl_X8_61 rfl (by decide +kernel) ?_
  refine v_callSp g (rest := []) (m_copyI M_h3.k5 M_h3.k14 (M_h3.hR 5 14 (by decide) (by decide) (by decide)) (Nat.le_of_ble_eq_true rfl)) cl_X8_227 rfl (Nat.le_of_ble_eq_true rfl) (by decide +kernel) ⟨Nat.le_of_ble_eq_true rfl, Nat.le_of_ble_eq_true rfl⟩ (zcsn 0 0 h3_c.1 h3_c.2 (Nat.le_of_ble_eq_true rfl) (Nat.le_of_ble_eq_true rfl)) ?_
  show zV F X (z_s h3 (R 14) (aI 20 (mx PR PR2 20))) 44 [(0, .ref m)] []
  refine v_h (fun h4 eh4 => ?_)
  have M_h4 : MC h0 h4 m R (oM R tp fk fp cn ha un dm wk hl pd pm cu ct dt hlt pdt pt hg th at9 sz) SC PN V B LN PR PA VD DV Z P (mx SC SC2 14) (mx PN PN2 14) (mx LN LN2 10240) (mx PR PR2 20) PA2 VD2 DV2 Z2 P2 PL O1 O2 := by rw [eh4]; exact M_h3.s14 _
  have h4_c := mcc M.c M_h4.c
  refine v_blk g [.aload_n 0] (pc' := 45) (lv' := [(0, .ref m)]) (st' := [.ref m]) (by decide +kernel) rfl rfl ?_
  refine v_get g M_h4.o fl_X8_28 rfl (by decide +kernel) ?_
  refine v_blk g [.aload_n 0] (pc' := 49) (lv' := [(0, .ref m)]) (st' := [.ref m, .ref (R 6)]) (by decide +kernel) rfl rfl ?_
  refine v_get g M_h4.o fl_X8_64 rfl (by decide +kernel) ?_
  refine v_callSp g (rest := []) (m_copyI M_h4.k6 M_h4.k15 (M_h4.hR 6 15 (by decide) (by decide) (by decide)) (Nat.le_of_ble_eq_true rfl)) cl_X8_227 rfl (Nat.le_of_ble_eq_true rfl) (by decide +kernel) ⟨Nat.le_of_ble_eq_true rfl, Nat.le_of_ble_eq_true rfl⟩ (zcsn 0 0 h4_c.1 h4_c.2 (Nat.le_of_ble_eq_true rfl) (Nat.le_of_ble_eq_true rfl)) ?_
  show zV F X (z_s h4 (R 15) (aI 20 (mx PA PA2 20))) 55 [(0, .ref m)] []
  refine v_h (fun h5 eh5 => ?_)
  have M_h5 : MC h0 h5 m R (oM R tp fk fp cn ha un dm wk hl pd pm cu ct dt hlt pdt pt hg th at9 sz) SC PN V B LN PR PA VD DV Z P (mx SC SC2 14) (mx PN PN2 14) (mx LN LN2 10240) (mx PR PR2 20) (mx PA PA2 20) VD2 DV2 Z2 P2 PL O1 O2 := by rw [eh5]; exact M_h4.s15 _
  have h5_c := mcc M.c M_h5.c
  refine v_blk g [.iconst 0, .istore_n 1] (pc' := 57) (lv' := [(1, .int (0 : Int32)), (0, .ref m)]) (st' := []) (by decide +kernel) rfl rfl ?_
  have key : ∀ i, i ≤ 20 → ∀ g9 : zH, MC h0 g9 m R (oM R tp fk fp cn ha un dm wk hl pd pm cu ct dt hlt pdt pt hg th at9 sz) SC PN V B LN PR PA VD DV Z P (mx SC SC2 14) (mx PN PN2 14) (mx LN LN2 10240) (mx PR PR2 20) (mx PA PA2 20) (mx VD VD2 i) DV2 Z2 P2 PL O1 O2 → zV F X g9 57 [(1, .int (nI i)), (0, .ref m)] [] := by
    refine z_up (P := fun i => ∀ g9 : zH, MC h0 g9 m R (oM R tp fk fp cn ha un dm wk hl pd pm cu ct dt hlt pdt pt hg th at9 sz) SC PN V B LN PR PA VD DV Z P (mx SC SC2 14) (mx PN PN2 14) (mx LN LN2 10240) (mx PR PR2 20) (mx PA PA2 20) (mx VD VD2 i) DV2 Z2 P2 PL O1 O2 → zV F X g9 57 [(1, .int (nI i)), (0, .ref m)] []) 20 ?_ ?_
    · intro g9 M9
      have g9_c := mcc M.c M9.c
      refine v_blk g [.iload_n 1, .bipush 20] (pc' := 60) (lv' := [(1, .int (nI 20)), (0, .ref m)]) (st' := [.int (20 : Int32), .int (nI 20)]) (by decide +kernel) rfl rfl ?_
      refine v_icmp_ge g (off := 21) (tgt := 81) (by decide +kernel) (by decide) (fun _ => ?_) (fun c => absurd c (fun q => q (by decide)))
      refine v_blk g [.aload_n 0, .aload_n 0] (pc' := 83) (lv' := [(1, .int (nI 20)), (0, .ref m)]) (st' := [.ref m, .ref m]) (by decide +kernel) rfl rfl ?_
      refine v_get g M9.o fl_X8_177 rfl (by decide +kernel) ?_
      refine v_put g (fs' := oMl R tp fk fp cn ha un dm wk hl pd pm cu cn dt hlt pdt pt hg th at9 sz) M9.o fl_X8_231 rfl rfl (Nat.le_of_ble_eq_true rfl) rfl (by decide +kernel) ?_
      refine v_h (fun g6 eg6 => ?_)
      have M_g6 : MC h0 g6 m R (oM R tp fk fp cn ha un dm wk hl pd pm cu cn dt hlt pdt pt hg th at9 sz) SC PN V B LN PR PA VD DV Z P (mx SC SC2 14) (mx PN PN2 14) (mx LN LN2 10240) (mx PR PR2 20) (mx PA PA2 20) (mx VD VD2 20) DV2 Z2 P2 PL O1 O2 := by rw [eg6]; exact M9.so _
      have g6_c := mcc M.c M_g6.c
      refine v_blk g [.aload_n 0] (pc' := 90) (lv' := [(1, .int (nI 20)), (0, .ref m)]) (st' := [.ref m]) (by decide +kernel) rfl rfl ?_
      refine v_get g M_g6.o fl_X8_42 rfl (by decide +kernel) ?_
      refine v_blk g [.aload_n 0] (pc' := 94) (lv' := [(1, .int (nI 20)), (0, .ref m)]) (st' := [.ref m, .ref (R 8)]) (by decide +kernel) rfl rfl ?_
      refine v_get g M_g6.o fl_X8_70 rfl (by decide +kernel) ?_
      refine v_callSp g (rest := []) (m_copyJ M_g6.k8 M_g6.k17 (M_g6.hR 8 17 (by decide) (by decide) (by decide)) (Nat.le_of_ble_eq_true rfl)) cl_X8_234 rfl (Nat.le_of_ble_eq_true rfl) (by decide +kernel) ⟨Nat.le_of_ble_eq_true rfl, Nat.le_of_ble_eq_true rfl⟩ (zcsn 0 0 g6_c.1 g6_c.2 (Nat.le_of_ble_eq_true rfl) (Nat.le_of_ble_eq_true rfl)) ?_
      show zV F X (z_s g6 (R 17) (aJ 24 (mx DV DV2 24))) 100 [(1, .int (nI 20)), (0, .ref m)] []
      refine v_h (fun g7 eg7 => ?_)
      have M_g7 : MC h0 g7 m R (oM R tp fk fp cn ha un dm wk hl pd pm cu cn dt hlt pdt pt hg th at9 sz) SC PN V B LN PR PA VD DV Z P (mx SC SC2 14) (mx PN PN2 14) (mx LN LN2 10240) (mx PR PR2 20) (mx PA PA2 20) (mx VD VD2 20) (mx DV DV2 24) Z2 P2 PL O1 O2 := by rw [eg7]; exact M_g6.s17 _
      have g7_c := mcc M.c M_g7.c
      refine v_blk g [.aload_n 0, .aload_n 0] (pc' := 102) (lv' := [(1, .int (nI 20)), (0, .ref m)]) (st' := [.ref m, .ref m]) (by decide +kernel) rfl rfl ?_
      refine v_get g M_g7.o fl_X8_212 rfl (by decide +kernel) ?_
      refine v_put g (fs' := oMl R tp fk fp cn ha un dm wk hl pd pm cu cn dm hlt pdt pt hg th at9 sz) M_g7.o fl_X8_237 rfl rfl (Nat.le_of_ble_eq_true rfl) rfl (by decide +kernel) ?_
      refine v_h (fun g8 eg8 => ?_)
      have M_g8 : MC h0 g8 m R (oM R tp fk fp cn ha un dm wk hl pd pm cu cn dm hlt pdt pt hg th at9 sz) SC PN V B LN PR PA VD DV Z P (mx SC SC2 14) (mx PN PN2 14) (mx LN LN2 10240) (mx PR PR2 20) (mx PA PA2 20) (mx VD VD2 20) (mx DV DV2 24) Z2 P2 PL O1 O2 := by rw [eg8]; exact M_g7.so _
      have g8_c := mcc M.c M_g8.c
      refine v_blk g [.aload_n 0, .aload_n 0] (pc' := 110) (lv' := [(1, .int (nI 20)), (0, .ref m)]) (st' := [.ref m, .ref m]) (by decide +kernel) rfl rfl ?_
      refine v_get g M_g8.o fl_X8_219 rfl (by decide +kernel) ?_
      refine v_put g (fs' := oMl R tp fk fp cn ha un dm wk hl pd pm cu cn dm hl pdt pt hg th at9 sz) M_g8.o fl_X8_240 rfl rfl (Nat.le_of_ble_eq_true rfl) rfl (by decide +kernel) ?_
      refine v_h (fun g9 eg9 => ?_)
      have M_g9 : MC h0 g9 m R (oM R tp fk fp cn ha un dm wk hl pd pm cu cn dm hl pdt pt hg th at9 sz) SC PN V B LN PR PA VD DV Z P (mx SC SC2 14) (mx PN PN2 14) (mx LN LN2 10240) (mx PR PR2 20) (mx PA PA2 20) (mx VD VD2 20) (mx DV DV2 24) Z2 P2 PL O1 O2 := by rw [eg9]; exact M_g8.so _
      have g9_c := mcc M.c M_g9.c
      refine v_blk g [.aload_n 0, .aload_n 0] (pc' := 118) (lv' := [(1, .int (nI 20)), (0, .ref m)]) (st' := [.ref m, .ref m]) (by decide +kernel) rfl rfl ?_
      refine v_get g M_g9.o fl_X8_243 rfl (by decide +kernel) ?_
      refine v_put g (fs' := oMl R tp fk fp cn ha un dm wk hl pd pm cu cn dm hl pd pt hg th at9 sz) M_g9.o fl_X8_246 rfl rfl (Nat.le_of_ble_eq_true rfl) rfl (by decide +kernel) ?_
      refine v_h (fun g10 eg10 => ?_)
      have M_g10 : MC h0 g10 m R (oM R tp fk fp cn ha un dm wk hl pd pm cu cn dm hl pd pt hg th at9 sz) SC PN V B LN PR PA VD DV Z P (mx SC SC2 14) (mx PN PN2 14) (mx LN LN2 10240) (mx PR PR2 20) (mx PA PA2 20) (mx VD VD2 20) (mx DV DV2 24) Z2 P2 PL O1 O2 := by rw [eg10]; exact M_g9.so _
      have g10_c := mcc M.c M_g10.c
      refine v_blk g [.aload_n 0] (pc' := 125) (lv' := [(1, .int (nI 20)), (0, .ref m)]) (st' := [.ref m]) (by decide +kernel) rfl rfl ?_
      refine v_get g M_g10.o fl_X8_46 rfl (by decide +kernel) ?_
      refine v_blk g [.aload_n 0] (pc' := 129) (lv' := [(1, .int (nI 20)), (0, .ref m)]) (st' := [.ref m, .ref (R 9)]) (by decide +kernel) rfl rfl ?_
      refine v_get g M_g10.o fl_X8_73 rfl (by decide +kernel) ?_
      refine v_callSp g (rest := []) (m_copyJ M_g10.k9 M_g10.k18 (M_g10.hR 9 18 (by decide) (by decide) (by decide)) (Nat.le_of_ble_eq_true rfl)) cl_X8_234 rfl (Nat.le_of_ble_eq_true rfl) (by decide +kernel) ⟨Nat.le_of_ble_eq_true rfl, Nat.le_of_ble_eq_true rfl⟩ (zcsn 0 0 g10_c.1 g10_c.2 (Nat.le_of_ble_eq_true rfl) (Nat.le_of_ble_eq_true rfl)) ?_
      show zV F X (z_s g10 (R 18) (aJ 20 (mx Z Z2 20))) 135 [(1, .int (nI 20)), (0, .ref m)] []
      refine v_h (fun g11 eg11 => ?_)
      have M_g11 : MC h0 g11 m R (oM R tp fk fp cn ha un dm wk hl pd pm cu cn dm hl pd pt hg th at9 sz) SC PN V B LN PR PA VD DV Z P (mx SC SC2 14) (mx PN PN2 14) (mx LN LN2 10240) (mx PR PR2 20) (mx PA PA2 20) (mx VD VD2 20) (mx DV DV2 24) (mx Z Z2 20) P2 PL O1 O2 := by rw [eg11]; exact M_g10.s18 _
      have g11_c := mcc M.c M_g11.c
      refine v_blk g [.aload_n 0] (pc' := 136) (lv' := [(1, .int (nI 20)), (0, .ref m)]) (st' := [.ref m]) (by decide +kernel) rfl rfl ?_
      refine v_get g M_g11.o fl_X8_49 rfl (by decide +kernel) ?_
      refine v_blk g [.aload_n 0] (pc' := 140) (lv' := [(1, .int (nI 20)), (0, .ref m)]) (st' := [.ref m, .ref (R 10)]) (by decide +kernel) rfl rfl ?_
      refine v_get g M_g11.o fl_X8_76 rfl (by decide +kernel) ?_
      refine v_callSp g (rest := []) (m_copyI M_g11.k10 M_g11.k19 (M_g11.hR 10 19 (by decide) (by decide) (by decide)) (Nat.le_of_ble_eq_true rfl)) cl_X8_227 rfl (Nat.le_of_ble_eq_true rfl) (by decide +kernel) ⟨Nat.le_of_ble_eq_true rfl, Nat.le_of_ble_eq_true rfl⟩ (zcsn 0 0 g11_c.1 g11_c.2 (Nat.le_of_ble_eq_true rfl) (Nat.le_of_ble_eq_true rfl)) ?_
      show zV F X (z_s g11 (R 19) (aI 20 (mx P P2 20))) 146 [(1, .int (nI 20)), (0, .ref m)] []
      refine v_h (fun g12 eg12 => ?_)
      have M_g12 : MC h0 g12 m R (oM R tp fk fp cn ha un dm wk hl pd pm cu cn dm hl pd pt hg th at9 sz) SC PN V B LN PR PA VD DV Z P (mx SC SC2 14) (mx PN PN2 14) (mx LN LN2 10240) (mx PR PR2 20) (mx PA PA2 20) (mx VD VD2 20) (mx DV DV2 24) (mx Z Z2 20) (mx P P2 20) PL O1 O2 := by rw [eg12]; exact M_g11.s19 _
      have g12_c := mcc M.c M_g12.c
      refine v_blk g [.aload_n 0, .aload_n 0] (pc' := 148) (lv' := [(1, .int (nI 20)), (0, .ref m)]) (st' := [.ref m, .ref m]) (by decide +kernel) rfl rfl ?_
      refine v_get g M_g12.o fl_X8_249 rfl (by decide +kernel) ?_
      refine v_put g (fs' := oMl R tp fk fp cn ha un dm wk hl pd pm cu cn dm hl pd pm hg th at9 sz) M_g12.o fl_X8_252 rfl rfl (Nat.le_of_ble_eq_true rfl) rfl (by decide +kernel) ?_
      refine v_h (fun g13 eg13 => ?_)
      have M_g13 : MC h0 g13 m R (oM R tp fk fp cn ha un dm wk hl pd pm cu cn dm hl pd pm hg th at9 sz) SC PN V B LN PR PA VD DV Z P (mx SC SC2 14) (mx PN PN2 14) (mx LN LN2 10240) (mx PR PR2 20) (mx PA PA2 20) (mx VD VD2 20) (mx DV DV2 24) (mx Z Z2 20) (mx P P2 20) PL O1 O2 := by rw [eg13]; exact M_g12.so _
      have g13_c := mcc M.c M_g13.c
      refine v_blk g [.aload_n 0, .iconst 1] (pc' := 156) (lv' := [(1, .int (nI 20)), (0, .ref m)]) (st' := [.int (1 : Int32), .ref m]) (by decide +kernel) rfl rfl ?_
      refine v_put g (fs' := oMl R tp fk fp cn ha un dm wk hl pd pm (1 : Int32) cn dm hl pd pm hg th at9 sz) M_g13.o fl_X8_255 rfl rfl (Nat.le_of_ble_eq_true rfl) rfl (by decide +kernel) ?_
      refine v_h (fun g14 eg14 => ?_)
      have M_g14 : MC h0 g14 m R (oM R tp fk fp cn ha un dm wk hl pd pm (1 : Int32) cn dm hl pd pm hg th at9 sz) SC PN V B LN PR PA VD DV Z P (mx SC SC2 14) (mx PN PN2 14) (mx LN LN2 10240) (mx PR PR2 20) (mx PA PA2 20) (mx VD VD2 20) (mx DV DV2 24) (mx Z Z2 20) (mx P P2 20) PL O1 O2 := by rw [eg14]; exact M_g13.so _
      have g14_c := mcc M.c M_g14.c
      exact v_vret g z rfl (by decide +kernel) ⟨rfl, M_g14⟩ (zcrn 0 0 g14_c.1 g14_c.2 (Nat.le_of_ble_eq_true rfl) (Nat.le_of_ble_eq_true rfl))
    · intro i hi ih g9 M9
      have g9_c := mcc M.c M9.c
      refine v_blk g [.iload_n 1, .bipush 20] (pc' := 60) (lv' := [(1, .int (nI i)), (0, .ref m)]) (st' := [.int (20 : Int32), .int (nI i)]) (by decide +kernel) rfl rfl ?_
      refine v_icmp_ge g (off := 21) (tgt := 81) (by decide +kernel) (by decide) (fun c => absurd c (nI_ge (b := 20) hi (by decide))) (fun _ => ?_)
      refine v_blk g [.aload_n 0] (pc' := 64) (lv' := [(1, .int (nI i)), (0, .ref m)]) (st' := [.ref m]) (by decide +kernel) rfl rfl ?_
      refine v_get g M9.o fl_X8_67 rfl (by decide +kernel) ?_
      refine v_blk g [.iload_n 1, .aload_n 0] (pc' := 69) (lv' := [(1, .int (nI i)), (0, .ref m)]) (st' := [.ref m, .int (nI i), .ref (R 16)]) (by decide +kernel) rfl rfl ?_
      refine v_get g M9.o fl_X8_31 rfl (by decide +kernel) ?_
      refine v_blk g [.iload_n 1] (pc' := 73) (lv' := [(1, .int (nI i)), (0, .ref m)]) (st' := [.int (nI i), .ref (R 7), .int (nI i), .ref (R 16)]) (by decide +kernel) rfl rfl ?_
      refine v_zald g M9.k7 i rfl hi (Nat.le_of_ble_eq_true rfl) (by decide +kernel) ?_
      refine v_zast g M9.k16 (h01 i hi) i rfl hi (Nat.le_of_ble_eq_true rfl) (by decide +kernel) ?_
      refine v_h (fun h70 eh70 => ?_)
      have M_h70 : MC h0 h70 m R (oM R tp fk fp cn ha un dm wk hl pd pm cu ct dt hlt pdt pt hg th at9 sz) SC PN V B LN PR PA VD DV Z P (mx SC SC2 14) (mx PN PN2 14) (mx LN LN2 10240) (mx PR PR2 20) (mx PA PA2 20) (upd (mx VD VD2 i) i (VD i)) DV2 Z2 P2 PL O1 O2 := by rw [eh70]; exact M9.s16 _
      have h70_c := mcc M.c M_h70.c
      refine v_blk g [.iinc 1 1] (pc' := 78) (lv' := [(1, .int ((nI i) + (1 : Int32))), (0, .ref m)]) (st' := []) (by decide +kernel) rfl rfl ?_
      refine v_goto g (off := -21) (tgt := 57) (by decide +kernel) (by decide) ?_
      refine v_lv [0, 1] (lv' := [(1, .int ((nI i) + (1 : Int32))), (0, .ref m)]) rfl ?_
      exact v_eq (by rw [nI_1]) rfl (ih _ (by rw [← mx_I VD VD2 i]; exact M_h70))
  exact key 0 (by omega) _ (by rw [mx_0]; exact M_h5)
