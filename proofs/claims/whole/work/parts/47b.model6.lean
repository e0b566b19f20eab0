set_option maxRecDepth 100000 in
set_option maxHeartbeats 4000000 in
theorem m_undo {F : zF} {h : zH} {h0 : zH} {m : Nat} {R : Nat → Nat} {tp fk fp cn ha un dm wk pm cu ct dt pt hg th at9 sz : Int32} {hl pd hlt pdt : Int64} {SC PN V B LN PR PA VD P SC2 PN2 LN2 PR2 PA2 VD2 P2 PL O1 O2 : Nat → Int32} {DV Z DV2 Z2 : Nat → Int64} (M : MC h0 h m R (oM R tp fk fp cn ha un dm wk hl pd pm cu ct dt hlt pdt pt hg th at9 sz) SC PN V B LN PR PA VD DV Z P SC2 PN2 LN2 PR2 PA2 VD2 DV2 Z2 P2 PL O1 O2) (h01 : ∀ q, q < 20 → VD2 q = 0 ∨ VD2 q = 1) : zMet F yX8_undo cX8_undo 2 (some .int) { frames := 2, cells := 0, slots := 0, locals := 60 } [.ref m] h (fun v h2 => (cu = 0 ∧ v = some (.int (-1)) ∧ MC h0 h2 m R (oM R tp fk fp cn ha un dm wk hl pd pm cu ct dt hlt pdt pt hg 0 at9 sz) SC PN V B LN PR PA VD DV Z P SC2 PN2 LN2 PR2 PA2 VD2 DV2 Z2 P2 PL O1 O2) ∨ (¬ cu = 0 ∧ v = some (.int (wk - 1)) ∧ MC h0 h2 m R (oM R tp fk fp ct ha un dt (wk - (1 : Int32)) hlt pdt pt (0 : Int32) ct dt hlt pdt pt hg (0 : Int32) at9 sz) (mx SC2 SC 14) (mx PN2 PN 14) V B (mx LN2 LN 10240) (mx PR2 PR 20) (mx PA2 PA 20) (mx VD2 VD 20) (mx DV2 DV 24) (mx Z2 Z 20) (mx P2 P 20) SC2 PN2 LN2 PR2 PA2 VD2 DV2 Z2 P2 PL O1 O2)) := by
  refine zMet_of (lv := [(0, .ref m)]) (by decide) (by simp [lg_sl, Value.category]) rfl ?_
  intro X g z
  refine v_blk g [.aload_n 0, .iconst 0] (pc' := 2) (lv' := [(0, .ref m)]) (st' := [.int (0 : Int32), .ref m]) (by decide +kernel) rfl rfl ?_
  refine v_put g (fs' := oMl R tp fk fp cn ha un dm wk hl pd pm cu ct dt hlt pdt pt hg (0 : Int32) at9 sz) M.o fl_X8_89 rfl rfl (Nat.le_of_ble_eq_true rfl) rfl (by decide +kernel) ?_
  refine v_h (fun h1 eh1 => ?_)
  have M_h1 : MC h0 h1 m R (oM R tp fk fp cn ha un dm wk hl pd pm cu ct dt hlt pdt pt hg (0 : Int32) at9 sz) SC PN V B LN PR PA VD DV Z P SC2 PN2 LN2 PR2 PA2 VD2 DV2 Z2 P2 PL O1 O2 := by rw [eh1]; exact M.so _
  have h1_c := mcc M.c M_h1.c
  refine v_blk g [.aload_n 0] (pc' := 6) (lv' := [(0, .ref m)]) (st' := [.ref m]) (by decide +kernel) rfl rfl ?_
  refine v_get g M_h1.o fl_X8_255 rfl (by decide +kernel) ?_
  refine v_if_ne g (off := 5) (tgt := 14) (by decide +kernel) (by decide) (fun c => ?_) (fun c => ?_)
  · refine v_blk g [.aload_n 0, .iconst 0] (pc' := 16) (lv' := [(0, .ref m)]) (st' := [.int (0 : Int32), .ref m]) (by decide +kernel) rfl rfl ?_
    refine v_put g (fs' := oMl R tp fk fp cn ha un dm wk hl pd pm (0 : Int32) ct dt hlt pdt pt hg (0 : Int32) at9 sz) M_h1.o fl_X8_255 rfl rfl (Nat.le_of_ble_eq_true rfl) rfl (by decide +kernel) ?_
    refine v_h (fun h2 eh2 => ?_)
    have M_h2 : MC h0 h2 m R (oM R tp fk fp cn ha un dm wk hl pd pm (0 : Int32) ct dt hlt pdt pt hg (0 : Int32) at9 sz) SC PN V B LN PR PA VD DV Z P SC2 PN2 LN2 PR2 PA2 VD2 DV2 Z2 P2 PL O1 O2 := by rw [eh2]; exact M_h1.so _
    have h2_c := mcc M.c M_h2.c
    refine v_blk g [.aload_n 0] (pc' := 20) (lv' := [(0, .ref m)]) (st' := [.ref m]) (by decide +kernel) rfl rfl ?_
    refine v_get g M_h2.o fl_X8_52 rfl (by decide +kernel) ?_
    refine v_blk g [.aload_n 0] (pc' := 24) (lv' := [(0, .ref m)]) (st' := [.ref m, .ref (R 11)]) (by decide +kernel) rfl rfl ?_
    refine v_get g M_h2.o fl_X8_9 rfl (by decide +kernel) ?_
    refine v_callSp g (rest := []) (m_copyI M_h2.k11 M_h2.k0 (M_h2.hR 11 0 (by decide) (by decide) (by decide)) (Nat.le_of_ble_eq_true rfl)) cl_X8_227 rfl (Nat.le_of_ble_eq_true rfl) (by decide +kernel) ⟨Nat.le_of_ble_eq_true rfl, Nat.le_of_ble_eq_true rfl⟩ (zcsn 0 0 h2_c.1 h2_c.2 (Nat.le_of_ble_eq_true rfl) (Nat.le_of_ble_eq_true rfl)) ?_
    show zV F X (z_s h2 (R 0) (aI 14 (mx SC2 SC 14))) 30 [(0, .ref m)] []
    refine v_h (fun h3 eh3 => ?_)
    have M_h3 : MC h0 h3 m R (oM R tp fk fp cn ha un dm wk hl pd pm (0 : Int32) ct dt hlt pdt pt hg (0 : Int32) at9 sz) (mx SC2 SC 14) PN V B LN PR PA VD DV Z P SC2 PN2 LN2 PR2 PA2 VD2 DV2 Z2 P2 PL O1 O2 := by rw [eh3]; exact M_h2.s0 _
    have h3_c := mcc M.c M_h3.c
    refine v_blk g [.aload_n 0] (pc' := 31) (lv' := [(0, .ref m)]) (st' := [.ref m]) (by decide +kernel) rfl rfl ?_
    refine v_get g M_h3.o fl_X8_55 rfl (by decide +kernel) ?_
    refine v_blk g [.aload_n 0] (pc' := 35) (lv' := [(0, .ref m)]) (st' := [.ref m, .ref (R 12)]) (by decide +kernel) rfl rfl ?_
    refine v_get g M_h3.o fl_X8_13 rfl (by decide +kernel) ?_
    refine v_callSp g (rest := []) (m_copyI M_h3.k12 M_h3.k1 (M_h3.hR 12 1 (by decide) (by decide) (by decide)) (Nat.le_of_ble_eq_true rfl)) cl_X8_227 rfl (Nat.le_of_ble_eq_true rfl) (by decide +kernel) ⟨Nat.le_of_ble_eq_true rfl, Nat.le_of_ble_eq_true rfl⟩ (zcsn 0 0 h3_c.1 h3_c.2 (Nat.le_of_ble_eq_true rfl) (Nat.le_of_ble_eq_true rfl)) ?_
    show zV F X (z_s h3 (R 1) (aI 14 (mx PN2 PN 14))) 41 [(0, .ref m)] []
    refine v_h (fun h4 eh4 => ?_)
    have M_h4 : MC h0 h4 m R (oM R tp fk fp cn ha un dm wk hl pd pm (0 : Int32) ct dt hlt pdt pt hg (0 : Int32) at9 sz) (mx SC2 SC 14) (mx PN2 PN 14) V B LN PR PA VD DV Z P SC2 PN2 LN2 PR2 PA2 VD2 DV2 Z2 P2 PL O1 O2 := by rw [eh4]; exact M_h3.s1 _
    have h4_c := mcc M.c M_h4.c
    refine v_blk g [.aload_n 0] (pc' := 42) (lv' := [(0, .ref m)]) (st' := [.ref m]) (by decide +kernel) rfl rfl ?_
    refine v_get g M_h4.o fl_X8_58 rfl (by decide +kernel) ?_
    refine v_blk g [.aload_n 0] (pc' := 46) (lv' := [(0, .ref m)]) (st' := [.ref m, .ref (R 13)]) (by decide +kernel) rfl rfl ?_
    refine v_get g M_h4.o fl_X8_22 rfl (by decide +kernel) ?_
    refine v_callSp g (rest := []) (m_copyI M_h4.k13 M_h4.k4 (M_h4.hR 13 4 (by decide) (by decide) (by decide)) (Nat.le_of_ble_eq_true rfl)) cl_X8_227 rfl (Nat.le_of_ble_eq_true rfl) (by decide +kernel) ⟨Nat.le_of_ble_eq_true rfl, Nat.le_of_ble_eq_true rfl⟩ (zcsn 0 0 h4_c.1 h4_c.2 (Nat.le_of_ble_eq_true rfl) (Nat.le_of_ble_eq_true rfl)) ?_
    show zV F X (z_s h4 (R 4) (aI 10240 (mx LN2 LN 10240))) 52 [(0, .ref m)] []
    refine v_h (fun h5 eh5 => ?_)
    have M_h5 : MC h0 h5 m R (oM R tp fk fp cn ha un dm wk hl pd pm (0 : Int32) ct dt hlt pdt pt hg (0 : Int32) at9 sz) (mx SC2 SC 14) (mx PN2 PN 14) V B (mx LN2 LN 10240) PR PA VD DV Z P SC2 PN2 LN2 PR2 PA2 VD2 DV2 Z2 P2 PL O1 O2 := by rw [eh5]; exact M_h4.s4 _
    have h5_c := mcc M.c M_h5.c
    refine v_blk g [.aload_n 0] (pc' := 53) (lv' := [(0, .ref m)]) (st' := [.ref m]) (by decide +kernel) rfl rfl ?_
    refine v_get g M_h5.o fl_X8_61 rfl (by decide +kernel) ?_
    refine v_blk g [.aload_n 0] (pc' := 57) (lv' := [(0, .ref m)]) (st' := [.ref m, .ref (R 14)]) (by decide +kernel) rfl rfl ?_
    refine v_get g M_h5.o fl_X8_25 rfl (by decide +kernel) ?_
    refine v_callSp g (rest := []) (m_copyI M_h5.k14 M_h5.k5 (M_h5.hR 14 5 (by decide) (by decide) (by decide)) (Nat.le_of_ble_eq_true rfl)) cl_X8_227 rfl (Nat.le_of_ble_eq_true rfl) (by decide +kernel) ⟨Nat.le_of_ble_eq_true rfl, Nat.le_of_ble_eq_true rfl⟩ (zcsn 0 0 h5_c.1 h5_c.2 (Nat.le_of_ble_eq_true rfl) (Nat.le_of_ble_eq_true rfl)) ?_
    show zV F X (z_s h5 (R 5) (aI 20 (mx PR2 PR 20))) 63 [(0, .ref m)] []
    refine v_h (fun h6 eh6 => ?_)
    have M_h6 : MC h0 h6 m R (oM R tp fk fp cn ha un dm wk hl pd pm (0 : Int32) ct dt hlt pdt pt hg (0 : Int32) at9 sz) (mx SC2 SC 14) (mx PN2 PN 14) V B (mx LN2 LN 10240) (mx PR2 PR 20) PA VD DV Z P SC2 PN2 LN2 PR2 PA2 VD2 DV2 Z2 P2 PL O1 O2 := by rw [eh6]; exact M_h5.s5 _
    have h6_c := mcc M.c M_h6.c
    refine v_blk g [.aload_n 0] (pc' := 64) (lv' := [(0, .ref m)]) (st' := [.ref m]) (by decide +kernel) rfl rfl ?_
    refine v_get g M_h6.o fl_X8_64 rfl (by decide +kernel) ?_
    refine v_blk g [.aload_n 0] (pc' := 68) (lv' := [(0, .ref m)]) (st' := [.ref m, .ref (R 15)]) (by decide +kernel) rfl rfl ?_
    refine v_get g M_h6.o fl_X8_28 rfl (by decide +kernel) ?_
    refine v_callSp g (rest := []) (m_copyI M_h6.k15 M_h6.k6 (M_h6.hR 15 6 (by decide) (by decide) (by decide)) (Nat.le_of_ble_eq_true rfl)) cl_X8_227 rfl (Nat.le_of_ble_eq_true rfl) (by decide +kernel) ⟨Nat.le_of_ble_eq_true rfl, Nat.le_of_ble_eq_true rfl⟩ (zcsn 0 0 h6_c.1 h6_c.2 (Nat.le_of_ble_eq_true rfl) (Nat.le_of_ble_eq_true rfl)) ?_
    show zV F X (z_s h6 (R 6) (aI 20 (mx PA2 PA 20))) 74 [(0, .ref m)] []
    refine v_h (fun h7 eh7 => ?_)
    have M_h7 : MC h0 h7 m R (oM R tp fk fp cn ha un dm wk hl pd pm (0 : Int32) ct dt hlt pdt pt hg (0 : Int32) at9 sz) (mx SC2 SC 14) (mx PN2 PN 14) V B (mx LN2 LN 10240) (mx PR2 PR 20) (mx PA2 PA 20) VD DV Z P SC2 PN2 LN2 PR2 PA2 VD2 DV2 Z2 P2 PL O1 O2 := by rw [eh7]; exact M_h6.s6 _
    have h7_c := mcc M.c M_h7.c
    refine v_blk g [.iconst 0, .istore_n 1] (pc' := 76) (lv' := [(1, .int (0 : Int32)), (0, .ref m)]) (st' := []) (by decide +kernel) rfl rfl ?_
    have key : ∀ i, i ≤ 20 → ∀ g9 : zH, MC h0 g9 m R (oM R tp fk fp cn ha un dm wk hl pd pm (0 : Int32) ct dt hlt pdt pt hg (0 : Int32) at9 sz) (mx SC2 SC 14) (mx PN2 PN 14) V B (mx LN2 LN 10240) (mx PR2 PR 20) (mx PA2 PA 20) (mx VD2 VD i) DV Z P SC2 PN2 LN2 PR2 PA2 VD2 DV2 Z2 P2 PL O1 O2 → zV F X g9 76 [(1, .int (nI i)), (0, .ref m)] [] := by
      refine z_up (P := fun i => ∀ g9 : zH, MC h0 g9 m R (oM R tp fk fp cn ha un dm wk hl pd pm (0 : Int32) ct dt hlt pdt pt hg (0 : Int32) at9 sz) (mx SC2 SC 14) (mx PN2 PN 14) V B (mx LN2 LN 10240) (mx PR2 PR 20) (mx PA2 PA 20) (mx VD2 VD i) DV Z P SC2 PN2 LN2 PR2 PA2 VD2 DV2 Z2 P2 PL O1 O2 → zV F X g9 76 [(1, .int (nI i)), (0, .ref m)] []) 20 ?_ ?_
      · intro g9 M9
        have g9_c := mcc M.c M9.c
        refine v_blk g [.iload_n 1, .bipush 20] (pc' := 79) (lv' := [(1, .int (nI 20)), (0, .ref m)]) (st' := [.int (20 : Int32), .int (nI 20)]) (by decide +kernel) rfl rfl ?_
        refine v_icmp_ge g (off := 21) (tgt := 100) (by decide +kernel) (by decide) (fun _ => ?_) (fun c => absurd c (fun q => q (by decide)))
        refine v_blk g [.aload_n 0, .aload_n 0] (pc' := 102) (lv' := [(1, .int (nI 20)), (0, .ref m)]) (st' := [.ref m, .ref m]) (by decide +kernel) rfl rfl ?_
        refine v_get g M9.o fl_X8_231 rfl (by decide +kernel) ?_
        refine v_put g (fs' := oMl R tp fk fp ct ha un dm wk hl pd pm (0 : Int32) ct dt hlt pdt pt hg (0 : Int32) at9 sz) M9.o fl_X8_177 rfl rfl (Nat.le_of_ble_eq_true rfl) rfl (by decide +kernel) ?_
        refine v_h (fun g8 eg8 => ?_)
        have M_g8 : MC h0 g8 m R (oM R tp fk fp ct ha un dm wk hl pd pm (0 : Int32) ct dt hlt pdt pt hg (0 : Int32) at9 sz) (mx SC2 SC 14) (mx PN2 PN 14) V B (mx LN2 LN 10240) (mx PR2 PR 20) (mx PA2 PA 20) (mx VD2 VD 20) DV Z P SC2 PN2 LN2 PR2 PA2 VD2 DV2 Z2 P2 PL O1 O2 := by rw [eg8]; exact M9.so _
        have g8_c := mcc M.c M_g8.c
        refine v_blk g [.aload_n 0] (pc' := 109) (lv' := [(1, .int (nI 20)), (0, .ref m)]) (st' := [.ref m]) (by decide +kernel) rfl rfl ?_
        refine v_get g M_g8.o fl_X8_70 rfl (by decide +kernel) ?_
        refine v_blk g [.aload_n 0] (pc' := 113) (lv' := [(1, .int (nI 20)), (0, .ref m)]) (st' := [.ref m, .ref (R 17)]) (by decide +kernel) rfl rfl ?_
        refine v_get g M_g8.o fl_X8_42 rfl (by decide +kernel) ?_
        refine v_callSp g (rest := []) (m_copyJ M_g8.k17 M_g8.k8 (M_g8.hR 17 8 (by decide) (by decide) (by decide)) (Nat.le_of_ble_eq_true rfl)) cl_X8_234 rfl (Nat.le_of_ble_eq_true rfl) (by decide +kernel) ⟨Nat.le_of_ble_eq_true rfl, Nat.le_of_ble_eq_true rfl⟩ (zcsn 0 0 g8_c.1 g8_c.2 (Nat.le_of_ble_eq_true rfl) (Nat.le_of_ble_eq_true rfl)) ?_
        show zV F X (z_s g8 (R 8) (aJ 24 (mx DV2 DV 24))) 119 [(1, .int (nI 20)), (0, .ref m)] []
        refine v_h (fun g9 eg9 => ?_)
        have M_g9 : MC h0 g9 m R (oM R tp fk fp ct ha un dm wk hl pd pm (0 : Int32) ct dt hlt pdt pt hg (0 : Int32) at9 sz) (mx SC2 SC 14) (mx PN2 PN 14) V B (mx LN2 LN 10240) (mx PR2 PR 20) (mx PA2 PA 20) (mx VD2 VD 20) (mx DV2 DV 24) Z P SC2 PN2 LN2 PR2 PA2 VD2 DV2 Z2 P2 PL O1 O2 := by rw [eg9]; exact M_g8.s8 _
        have g9_c := mcc M.c M_g9.c
        refine v_blk g [.aload_n 0, .aload_n 0] (pc' := 121) (lv' := [(1, .int (nI 20)), (0, .ref m)]) (st' := [.ref m, .ref m]) (by decide +kernel) rfl rfl ?_
        refine v_get g M_g9.o fl_X8_237 rfl (by decide +kernel) ?_
        refine v_put g (fs' := oMl R tp fk fp ct ha un dt wk hl pd pm (0 : Int32) ct dt hlt pdt pt hg (0 : Int32) at9 sz) M_g9.o fl_X8_212 rfl rfl (Nat.le_of_ble_eq_true rfl) rfl (by decide +kernel) ?_
        refine v_h (fun g10 eg10 => ?_)
        have M_g10 : MC h0 g10 m R (oM R tp fk fp ct ha un dt wk hl pd pm (0 : Int32) ct dt hlt pdt pt hg (0 : Int32) at9 sz) (mx SC2 SC 14) (mx PN2 PN 14) V B (mx LN2 LN 10240) (mx PR2 PR 20) (mx PA2 PA 20) (mx VD2 VD 20) (mx DV2 DV 24) Z P SC2 PN2 LN2 PR2 PA2 VD2 DV2 Z2 P2 PL O1 O2 := by rw [eg10]; exact M_g9.so _
        have g10_c := mcc M.c M_g10.c
        refine v_blk g [.aload_n 0, .aload_n 0] (pc' := 129) (lv' := [(1, .int (nI 20)), (0, .ref m)]) (st' := [.ref m, .ref m]) (by decide +kernel) rfl rfl ?_
        refine v_get g M_g10.o fl_X8_240 rfl (by decide +kernel) ?_
        refine v_put g (fs' := oMl R tp fk fp ct ha un dt wk hlt pd pm (0 : Int32) ct dt hlt pdt pt hg (0 : Int32) at9 sz) M_g10.o fl_X8_219 rfl rfl (Nat.le_of_ble_eq_true rfl) rfl (by decide +kernel) ?_
        refine v_h (fun g11 eg11 => ?_)
        have M_g11 : MC h0 g11 m R (oM R tp fk fp ct ha un dt wk hlt pd pm (0 : Int32) ct dt hlt pdt pt hg (0 : Int32) at9 sz) (mx SC2 SC 14) (mx PN2 PN 14) V B (mx LN2 LN 10240) (mx PR2 PR 20) (mx PA2 PA 20) (mx VD2 VD 20) (mx DV2 DV 24) Z P SC2 PN2 LN2 PR2 PA2 VD2 DV2 Z2 P2 PL O1 O2 := by rw [eg11]; exact M_g10.so _
        have g11_c := mcc M.c M_g11.c
        refine v_blk g [.aload_n 0, .aload_n 0] (pc' := 137) (lv' := [(1, .int (nI 20)), (0, .ref m)]) (st' := [.ref m, .ref m]) (by decide +kernel) rfl rfl ?_
        refine v_get g M_g11.o fl_X8_246 rfl (by decide +kernel) ?_
        refine v_put g (fs' := oMl R tp fk fp ct ha un dt wk hlt pdt pm (0 : Int32) ct dt hlt pdt pt hg (0 : Int32) at9 sz) M_g11.o fl_X8_243 rfl rfl (Nat.le_of_ble_eq_true rfl) rfl (by decide +kernel) ?_
        refine v_h (fun g12 eg12 => ?_)
        have M_g12 : MC h0 g12 m R (oM R tp fk fp ct ha un dt wk hlt pdt pm (0 : Int32) ct dt hlt pdt pt hg (0 : Int32) at9 sz) (mx SC2 SC 14) (mx PN2 PN 14) V B (mx LN2 LN 10240) (mx PR2 PR 20) (mx PA2 PA 20) (mx VD2 VD 20) (mx DV2 DV 24) Z P SC2 PN2 LN2 PR2 PA2 VD2 DV2 Z2 P2 PL O1 O2 := by rw [eg12]; exact M_g11.so _
        have g12_c := mcc M.c M_g12.c
        refine v_blk g [.aload_n 0] (pc' := 144) (lv' := [(1, .int (nI 20)), (0, .ref m)]) (st' := [.ref m]) (by decide +kernel) rfl rfl ?_
        refine v_get g M_g12.o fl_X8_73 rfl (by decide +kernel) ?_
        refine v_blk g [.aload_n 0] (pc' := 148) (lv' := [(1, .int (nI 20)), (0, .ref m)]) (st' := [.ref m, .ref (R 18)]) (by decide +kernel) rfl rfl ?_
        refine v_get g M_g12.o fl_X8_46 rfl (by decide +kernel) ?_
        refine v_callSp g (rest := []) (m_copyJ M_g12.k18 M_g12.k9 (M_g12.hR 18 9 (by decide) (by decide) (by decide)) (Nat.le_of_ble_eq_true rfl)) cl_X8_234 rfl (Nat.le_of_ble_eq_true rfl) (by decide +kernel) ⟨Nat.le_of_ble_eq_true rfl, Nat.le_of_ble_eq_true rfl⟩ (zcsn 0 0 g12_c.1 g12_c.2 (Nat.le_of_ble_eq_true rfl) (Nat.le_of_ble_eq_true rfl)) ?_
        show zV F X (z_s g12 (R 9) (aJ 20 (mx Z2 Z 20))) 154 [(1, .int (nI 20)), (0, .ref m)] []
        refine v_h (fun g13 eg13 => ?_)
        have M_g13 : MC h0 g13 m R (oM R tp fk fp ct ha un dt wk hlt pdt pm (0 : Int32) ct dt hlt pdt pt hg (0 : Int32) at9 sz) (mx SC2 SC 14) (mx PN2 PN 14) V B (mx LN2 LN 10240) (mx PR2 PR 20) (mx PA2 PA 20) (mx VD2 VD 20) (mx DV2 DV 24) (mx Z2 Z 20) P SC2 PN2 LN2 PR2 PA2 VD2 DV2 Z2 P2 PL O1 O2 := by rw [eg13]; exact M_g12.s9 _
        have g13_c := mcc M.c M_g13.c
        refine v_blk g [.aload_n 0] (pc' := 155) (lv' := [(1, .int (nI 20)), (0, .ref m)]) (st' := [.ref m]) (by decide +kernel) rfl rfl ?_
        refine v_get g M_g13.o fl_X8_76 rfl (by decide +kernel) ?_
        refine v_blk g [.aload_n 0] (pc' := 159) (lv' := [(1, .int (nI 20)), (0, .ref m)]) (st' := [.ref m, .ref (R 19)]) (by decide +kernel) rfl rfl ?_
        refine v_get g M_g13.o fl_X8_49 rfl (by decide +kernel) ?_
        refine v_callSp g (rest := []) (m_copyI M_g13.k19 M_g13.k10 (M_g13.hR 19 10 (by decide) (by decide) (by decide)) (Nat.le_of_ble_eq_true rfl)) cl_X8_227 rfl (Nat.le_of_ble_eq_true rfl) (by decide +kernel) ⟨Nat.le_of_ble_eq_true rfl, Nat.le_of_ble_eq_true rfl⟩ (zcsn 0 0 g13_c.1 g13_c.2 (Nat.le_of_ble_eq_true rfl) (Nat.le_of_ble_eq_true rfl)) ?_
        show zV F X (z_s g13 (R 10) (aI 20 (mx P2 P 20))) 165 [(1, .int (nI 20)), (0, .ref m)] []
        refine v_h (fun g14 eg14 => ?_)
        have M_g14 : MC h0 g14 m R (oM R tp fk fp ct ha un dt wk hlt pdt pm (0 : Int32) ct dt hlt pdt pt hg (0 : Int32) at9 sz) (mx SC2 SC 14) (mx PN2 PN 14) V B (mx LN2 LN 10240) (mx PR2 PR 20) (mx PA2 PA 20) (mx VD2 VD 20) (mx DV2 DV 24) (mx Z2 Z 20) (mx P2 P 20) SC2 PN2 LN2 PR2 PA2 VD2 DV2 Z2 P2 PL O1 O2 := by rw [eg14]; exact M_g13.s10 _
        have g14_c := mcc M.c M_g14.c
        refine v_blk g [.aload_n 0, .aload_n 0] (pc' := 167) (lv' := [(1, .int (nI 20)), (0, .ref m)]) (st' := [.ref m, .ref m]) (by decide +kernel) rfl rfl ?_
        refine v_get g M_g14.o fl_X8_252 rfl (by decide +kernel) ?_
        refine v_put g (fs' := oMl R tp fk fp ct ha un dt wk hlt pdt pt (0 : Int32) ct dt hlt pdt pt hg (0 : Int32) at9 sz) M_g14.o fl_X8_249 rfl rfl (Nat.le_of_ble_eq_true rfl) rfl (by decide +kernel) ?_
        refine v_h (fun g15 eg15 => ?_)
        have M_g15 : MC h0 g15 m R (oM R tp fk fp ct ha un dt wk hlt pdt pt (0 : Int32) ct dt hlt pdt pt hg (0 : Int32) at9 sz) (mx SC2 SC 14) (mx PN2 PN 14) V B (mx LN2 LN 10240) (mx PR2 PR 20) (mx PA2 PA 20) (mx VD2 VD 20) (mx DV2 DV 24) (mx Z2 Z 20) (mx P2 P 20) SC2 PN2 LN2 PR2 PA2 VD2 DV2 Z2 P2 PL O1 O2 := by rw [eg15]; exact M_g14.so _
        have g15_c := mcc M.c M_g15.c
        refine v_blk g [.aload_n 0, .dup] (pc' := 175) (lv' := [(1, .int (nI 20)), (0, .ref m)]) (st' := [.ref m, .ref m]) (by decide +kernel) rfl rfl ?_
        refine v_get g M_g15.o fl_X8_265 rfl (by decide +kernel) ?_
        refine v_blk g [.iconst 1, .isub] (pc' := 180) (lv' := [(1, .int (nI 20)), (0, .ref m)]) (st' := [.int (wk - (1 : Int32)), .ref m]) (by decide +kernel) rfl rfl ?_
        refine v_put g (fs' := oMl R tp fk fp ct ha un dt (wk - (1 : Int32)) hlt pdt pt (0 : Int32) ct dt hlt pdt pt hg (0 : Int32) at9 sz) M_g15.o fl_X8_265 rfl rfl (Nat.le_of_ble_eq_true rfl) rfl (by decide +kernel) ?_
        refine v_h (fun g16 eg16 => ?_)
        have M_g16 : MC h0 g16 m R (oM R tp fk fp ct ha un dt (wk - (1 : Int32)) hlt pdt pt (0 : Int32) ct dt hlt pdt pt hg (0 : Int32) at9 sz) (mx SC2 SC 14) (mx PN2 PN 14) V B (mx LN2 LN 10240) (mx PR2 PR 20) (mx PA2 PA 20) (mx VD2 VD 20) (mx DV2 DV 24) (mx Z2 Z 20) (mx P2 P 20) SC2 PN2 LN2 PR2 PA2 VD2 DV2 Z2 P2 PL O1 O2 := by rw [eg16]; exact M_g15.so _
        have g16_c := mcc M.c M_g16.c
        refine v_blk g [.aload_n 0] (pc' := 184) (lv' := [(1, .int (nI 20)), (0, .ref m)]) (st' := [.ref m]) (by decide +kernel) rfl rfl ?_
        refine v_get g M_g16.o fl_X8_265 rfl (by decide +kernel) ?_
        exact v_iret g z rfl (by decide +kernel) (Or.inr ⟨c, rfl, M_g16⟩) (zcrn 0 0 g16_c.1 g16_c.2 (Nat.le_of_ble_eq_true rfl) (Nat.le_of_ble_eq_true rfl))
      · intro i hi ih g9 M9
        have g9_c := mcc M.c M9.c
        refine v_blk g [.iload_n 1, .bipush 20] (pc' := 79) (lv' := [(1, .int (nI i)), (0, .ref m)]) (st' := [.int (20 : Int32), .int (nI i)]) (by decide +kernel) rfl rfl ?_
        refine v_icmp_ge g (off := 21) (tgt := 100) (by decide +kernel) (by decide) (fun c => absurd c (nI_ge (b := 20) hi (by decide))) (fun _ => ?_)
        refine v_blk g [.aload_n 0] (pc' := 83) (lv' := [(1, .int (nI i)), (0, .ref m)]) (st' := [.ref m]) (by decide +kernel) rfl rfl ?_
        refine v_get g M9.o fl_X8_31 rfl (by decide +kernel) ?_
        refine v_blk g [.iload_n 1, .aload_n 0] (pc' := 88) (lv' := [(1, .int (nI i)), (0, .ref m)]) (st' := [.ref m, .int (nI i), .ref (R 7)]) (by decide +kernel) rfl rfl ?_
        refine v_get g M9.o fl_X8_67 rfl (by decide +kernel) ?_
        refine v_blk g [.iload_n 1] (pc' := 92) (lv' := [(1, .int (nI i)), (0, .ref m)]) (st' := [.int (nI i), .ref (R 16), .int (nI i), .ref (R 7)]) (by decide +kernel) rfl rfl ?_
        refine v_zald g M9.k16 i rfl hi (Nat.le_of_ble_eq_true rfl) (by decide +kernel) ?_
        refine v_zast g M9.k7 (h01 i hi) i rfl hi (Nat.le_of_ble_eq_true rfl) (by decide +kernel) ?_
        refine v_h (fun h70 eh70 => ?_)
        have M_h70 : MC h0 h70 m R (oM R tp fk fp cn ha un dm wk hl pd pm (0 : Int32) ct dt hlt pdt pt hg (0 : Int32) at9 sz) (mx SC2 SC 14) (mx PN2 PN 14) V B (mx LN2 LN 10240) (mx PR2 PR 20) (mx PA2 PA 20) (upd (mx VD2 VD i) i (VD2 i)) DV Z P SC2 PN2 LN2 PR2 PA2 VD2 DV2 Z2 P2 PL O1 O2 := by rw [eh70]; exact M9.s7 _
        have h70_c := mcc M.c M_h70.c
        refine v_blk g [.iinc 1 1] (pc' := 97) (lv' := [(1, .int ((nI i) + (1 : Int32))), (0, .ref m)]) (st' := []) (by decide +kernel) rfl rfl ?_
        refine v_goto g (off := -21) (tgt := 76) (by decide +kernel) (by decide) ?_
        refine v_lv [0, 1] (lv' := [(1, .int ((nI i) + (1 : Int32))), (0, .ref m)]) rfl ?_
        exact v_eq (by rw [nI_1]) rfl (ih _ (by rw [← mx_I VD2 VD i]; exact M_h70))
    exact key 0 (by omega) _ (by rw [mx_0]; exact M_h7)
  · refine v_blk g [.iconst (-1)] (pc' := 13) (lv' := [(0, .ref m)]) (st' := [.int (-1 : Int32)]) (by decide +kernel) rfl rfl ?_
    exact v_iret g z rfl (by decide +kernel) (Or.inl ⟨c, rfl, M_h1⟩) (zcrn 0 0 h1_c.1 h1_c.2 (Nat.le_of_ble_eq_true rfl) (Nat.le_of_ble_eq_true rfl))
