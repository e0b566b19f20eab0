set_option maxRecDepth 100000 in
set_option maxHeartbeats 4000000 in
theorem m_pln {F : zF} {h : zH} {d : Nat} (hA : KAlt F d) {h0 : zH} {m : Nat} {R : Nat → Nat} {tp fp cn ha un dm wk pm cu ct dt pt th : Int32} {hl pd hlt pdt : Int64} {SC PN V B LN PR PA VD P SC2 PN2 LN2 PR2 PA2 VD2 P2 : Nat → Int32} {DV Z DV2 Z2 : Nat → Int64} {n p k o : Nat} {PL O1 O2 : Nat → Int32} (M : MC h0 h m R (oM R tp 0 fp cn ha un dm wk hl pd pm cu ct dt hlt pdt pt (nI k) th (nI p) (nI n)) SC PN V B LN PR PA VD DV Z P SC2 PN2 LN2 PR2 PA2 VD2 DV2 Z2 P2 PL O1 O2) (ho : o + d = 6) (hk : k ≤ 2 * o) (hn : n ≤ 200) (hp : p ≤ 200) : zMet F yX8_readPlan cX8_readPlan 3 (some .boolean) { frames := 7 + 3 * d, cells := 0, slots := 0, locals := 210 + 90 * d } [.ref m, .int (nI o)] h (MPo h0 m R tp fp cn ha un dm wk pm cu ct dt pt th hl pd hlt pdt SC PN V B LN PR PA VD P SC2 PN2 LN2 PR2 PA2 VD2 P2 DV Z DV2 Z2 n k PL (pln (alt (prt (txt B n) d) (txt B n)) (txt B n) p)) := by
  refine zMet_of (lv := [(0, .ref m), (1, .int (nI o))]) (by decide) (by simp [lg_sl, Value.category]) rfl ?_
  intro X g z
  refine v_blk g [.aload_n 0, .iload_n 1] (pc' := 2) (lv' := [(0, .ref m), (1, .int (nI o))]) (st' := [.int (nI o), .ref m]) (by decide +kernel) rfl rfl ?_
  refine v_callV g (rest := []) (hA h h0 m R tp fp cn ha un dm wk pm cu ct dt pt th hl pd hlt pdt SC PN V B LN PR PA VD P SC2 PN2 LN2 PR2 PA2 VD2 P2 DV Z DV2 Z2 n p k o PL O1 O2 M (by omega) (by omega) hn (by omega)) cl_X8_169 M.o rfl rfl (Nat.le_of_ble_eq_true rfl) (by decide +kernel) ⟨by dsimp only; omega, by dsimp only; omega⟩ (zcsn 0 0 rfl rfl (Nat.le_of_ble_eq_true rfl) (Nat.le_of_ble_eq_true rfl)) (fun v9 h9 q9 => ?_)
  rcases q9 with ⟨kd, pl9, hg2, at2, PL2, O12, O22, e9, rfl, M9⟩ | ⟨q, S, PL2, O12, O22, e9, rfl, M9, lo9, lv9⟩
  · show zV F X h9 5 [(0, .ref m), (1, .int (nI o))] [.int 0]
    have h9_c := mcc M.c M9.c
    refine v_if_ne g (off := 5) (tgt := 10) (by decide +kernel) (by decide) (fun c => absurd c (fun q => q rfl)) (fun _ => ?_)
    refine v_blk g [.iconst 0] (pc' := 9) (lv' := [(0, .ref m), (1, .int (nI o))]) (st' := [.int (0 : Int32)]) (by decide +kernel) rfl rfl ?_
    exact v_zret g z rfl (by decide) (by decide +kernel) (Or.inl ⟨kd, pl9, hg2, at2, PL2, O12, O22, by rw [pln, e9], rfl, M9⟩) (zcrn 0 0 h9_c.1 h9_c.2 (Nat.le_of_ble_eq_true rfl) (Nat.le_of_ble_eq_true rfl))
  · show zV F X h9 5 [(0, .ref m), (1, .int (nI o))] [.int 1]
    have h9_c := mcc M.c M9.c
    have qe := alt_end (prt_end d) _ _ _ e9
    refine v_if_ne g (off := 5) (tgt := 10) (by decide +kernel) (by decide) (fun _ => ?_) (fun c => absurd c (by decide))
    have er : pln (alt (prt (txt B n) d) (txt B n)) (txt B n) p = plnL (alt (prt (txt B n) d) (txt B n)) (txt B n) 200 q S := by rw [pln, e9]
    have loop : ∀ (kf q : Nat) (S : Nat → Prop) (PL9 O19 O29 : Nat → Int32) (g9 : zH), MC h0 g9 m R (oM R tp 0 fp cn ha un dm wk hl pd pm cu ct dt hlt pdt pt (nI (k + 1)) th (nI q) (nI n)) SC PN V B LN PR PA VD DV Z P SC2 PN2 LN2 PR2 PA2 VD2 DV2 Z2 P2 PL9 O19 O29 → (∀ j, j < 16384 * k → PL9 j = PL j) → lev PL9 k S → pln (alt (prt (txt B n) d) (txt B n)) (txt B n) p = plnL (alt (prt (txt B n) d) (txt B n)) (txt B n) kf q S → q ≤ n → n < q + kf → zV F X g9 10 [(0, .ref m), (1, .int (nI o))] [] := by
      refine z_ind ?_ ?_
      · intro q S PL9 O19 O29 g9 M8 lo8 lv8 er8 q1 q2; omega
      · intro kf ih q S PL9 O19 O29 g9 M8 lo8 lv8 er8 q1 q2
        rw [plnL] at er8
        have g9_c := mcc M.c M8.c
        have more : (txt B n q = 124 ∨ txt B n q = 38 ∨ txt B n q = 45) → zV F X g9 37 [(0, .ref m), (1, .int (nI o))] [] := by
          intro sg
          have cs : ¬ x_sign (txt B n q) = 0 := by rcases sg with e | e | e <;> rw [e] <;> decide
          rw [if_pos cs] at er8
          have hin : q < n := by rcases sg with e | e | e <;> exact txt_in e (by decide)
          refine v_blk g [.aload_n 0] (pc' := 38) (lv' := [(0, .ref m), (1, .int (nI o))]) (st' := [.ref m]) (by decide +kernel) rfl rfl ?_
          refine v_callVp g (rest := []) (m_here M8.o M8.k3 hn (by omega)) cl_X8_123 M8.o rfl rfl (Nat.le_of_ble_eq_true rfl) (by decide +kernel) ⟨by dsimp only; omega, by dsimp only; omega⟩ (zcsn 0 0 g9_c.1 g9_c.2 (Nat.le_of_ble_eq_true rfl) (Nat.le_of_ble_eq_true rfl)) ?_
          show zV F X g9 41 [(0, .ref m), (1, .int (nI o))] [.int (txt B n q)]
          refine v_blk g [.istore_n 2, .aload_n 0, .dup] (pc' := 44) (lv' := [(2, .int (txt B n q)), (0, .ref m), (1, .int (nI o))]) (st' := [.ref m, .ref m]) (by decide +kernel) rfl rfl ?_
          refine v_get g M8.o fl_X8_117 rfl (by decide +kernel) ?_
          refine v_blk g [.iconst 1, .iadd] (pc' := 49) (lv' := [(2, .int (txt B n q)), (0, .ref m), (1, .int (nI o))]) (st' := [.int ((nI q) + (1 : Int32)), .ref m]) (by decide +kernel) rfl rfl ?_
          refine v_ti (z := nI (q + 1)) (nI_1 q) ?_
          refine v_put g (fs' := oMl R tp 0 fp cn ha un dm wk hl pd pm cu ct dt hlt pdt pt (nI (k + 1)) th (nI (q + 1)) (nI n)) M8.o fl_X8_117 rfl rfl (Nat.le_of_ble_eq_true rfl) rfl (by decide +kernel) ?_
          refine v_h (fun h2 eh2 => ?_)
          have M_h2 : MC h0 h2 m R (oM R tp 0 fp cn ha un dm wk hl pd pm cu ct dt hlt pdt pt (nI (k + 1)) th (nI (q + 1)) (nI n)) SC PN V B LN PR PA VD DV Z P SC2 PN2 LN2 PR2 PA2 VD2 DV2 Z2 P2 PL9 O19 O29 := by rw [eh2]; exact M8.so _
          have h2_c := mcc M.c M_h2.c
          refine v_blk g [.aload_n 0, .iload_n 1] (pc' := 54) (lv' := [(2, .int (txt B n q)), (0, .ref m), (1, .int (nI o))]) (st' := [.int (nI o), .ref m]) (by decide +kernel) rfl rfl ?_
          refine v_callV g (rest := []) (hA h2 h0 m R tp fp cn ha un dm wk pm cu ct dt pt th hl pd hlt pdt SC PN V B LN PR PA VD P SC2 PN2 LN2 PR2 PA2 VD2 P2 DV Z DV2 Z2 n (q + 1) (k + 1) o PL9 O19 O29 M_h2 (by omega) (by omega) hn (by omega)) cl_X8_169 M_h2.o rfl rfl (Nat.le_of_ble_eq_true rfl) (by decide +kernel) ⟨by dsimp only; omega, by dsimp only; omega⟩ (zcsn 0 0 h2_c.1 h2_c.2 (Nat.le_of_ble_eq_true rfl) (Nat.le_of_ble_eq_true rfl)) (fun v7 h7 q7 => ?_)
          rcases q7 with ⟨kd, pl9, hg2, at2, PL2, O12, O22, e7, rfl, M7⟩ | ⟨t, U, PL2, O12, O22, e7, rfl, M7, lo7, lv7⟩
          · show zV F X h7 57 [(2, .int (txt B n q)), (0, .ref m), (1, .int (nI o))] [.int 0]
            have h7_c := mcc M.c M7.c
            refine v_if_ne g (off := 5) (tgt := 62) (by decide +kernel) (by decide) (fun c => absurd c (fun q => q rfl)) (fun _ => ?_)
            refine v_blk g [.iconst 0] (pc' := 61) (lv' := [(2, .int (txt B n q)), (0, .ref m), (1, .int (nI o))]) (st' := [.int (0 : Int32)]) (by decide +kernel) rfl rfl ?_
            exact v_zret g z rfl (by decide) (by decide +kernel) (Or.inl ⟨kd, pl9, hg2, at2, PL2, O12, O22, by rw [er8, e7], rfl, M7⟩) (zcrn 0 0 h7_c.1 h7_c.2 (Nat.le_of_ble_eq_true rfl) (Nat.le_of_ble_eq_true rfl))
          · show zV F X h7 57 [(2, .int (txt B n q)), (0, .ref m), (1, .int (nI o))] [.int 1]
            have h7_c := mcc M.c M7.c
            have te := alt_end (prt_end d) _ _ _ e7
            rw [e7] at er8
            refine v_if_ne g (off := 5) (tgt := 62) (by decide +kernel) (by decide) (fun _ => ?_) (fun c => absurd c (by decide))
            refine v_blk g [.aload_n 0, .iload_n 2] (pc' := 64) (lv' := [(2, .int (txt B n q)), (0, .ref m), (1, .int (nI o))]) (st' := [.int (txt B n q), .ref m]) (by decide +kernel) rfl rfl ?_
            refine v_callV g (rest := []) (m_join (k := k) M7 sg (by omega)) cl_X8_172 M7.o rfl rfl (Nat.le_of_ble_eq_true rfl) (by decide +kernel) ⟨by dsimp only; omega, by dsimp only; omega⟩ (zcsn 0 0 h7_c.1 h7_c.2 (Nat.le_of_ble_eq_true rfl) (Nat.le_of_ble_eq_true rfl)) (fun v6 h6 q6 => ?_)
            obtain ⟨rfl, PX, M6, lo6, lv6⟩ := q6
            show zV F X h6 67 [(2, .int (txt B n q)), (0, .ref m), (1, .int (nI o))] []
            have h6_c := mcc M.c M6.c
            refine v_goto g (off := -57) (tgt := 10) (by decide +kernel) (by decide) ?_
            refine v_lv [1, 2] (lv' := [(0, .ref m), (1, .int (nI o))]) rfl ?_
            refine ih t _ PX O12 O22 h6 M6 (fun j hj => by rw [lo6 j hj, lo7 j (by omega)]; exact lo8 j hj) (fun l hl => (lv6 l hl).trans (opS_cong (fun x hx => by rw [lo7 _ (by omega)]; exact lv8 x hx) (fun x hx => lv7 x hx) hl)) er8 (by omega) (by omega)
        refine v_blk g [.aload_n 0] (pc' := 11) (lv' := [(0, .ref m), (1, .int (nI o))]) (st' := [.ref m]) (by decide +kernel) rfl rfl ?_
        refine v_callVp g (rest := []) (m_here M8.o M8.k3 hn (by omega)) cl_X8_123 M8.o rfl rfl (Nat.le_of_ble_eq_true rfl) (by decide +kernel) ⟨by dsimp only; omega, by dsimp only; omega⟩ (zcsn 0 0 g9_c.1 g9_c.2 (Nat.le_of_ble_eq_true rfl) (Nat.le_of_ble_eq_true rfl)) ?_
        show zV F X g9 14 [(0, .ref m), (1, .int (nI o))] [.int (txt B n q)]
        refine v_blk g [.bipush 124] (pc' := 16) (lv' := [(0, .ref m), (1, .int (nI o))]) (st' := [.int (124 : Int32), .int (txt B n q)]) (by decide +kernel) rfl rfl ?_
        refine v_icmp_eq g (off := 21) (tgt := 37) (by decide +kernel) (by decide) (fun c1 => ?_) (fun c1 => ?_)
        · exact more (Or.inl c1)
        · refine v_blk g [.aload_n 0] (pc' := 20) (lv' := [(0, .ref m), (1, .int (nI o))]) (st' := [.ref m]) (by decide +kernel) rfl rfl ?_
          refine v_callVp g (rest := []) (m_here M8.o M8.k3 hn (by omega)) cl_X8_123 M8.o rfl rfl (Nat.le_of_ble_eq_true rfl) (by decide +kernel) ⟨by dsimp only; omega, by dsimp only; omega⟩ (zcsn 0 0 g9_c.1 g9_c.2 (Nat.le_of_ble_eq_true rfl) (Nat.le_of_ble_eq_true rfl)) ?_
          show zV F X g9 23 [(0, .ref m), (1, .int (nI o))] [.int (txt B n q)]
          refine v_blk g [.bipush 38] (pc' := 25) (lv' := [(0, .ref m), (1, .int (nI o))]) (st' := [.int (38 : Int32), .int (txt B n q)]) (by decide +kernel) rfl rfl ?_
          refine v_icmp_eq g (off := 12) (tgt := 37) (by decide +kernel) (by decide) (fun c2 => ?_) (fun c2 => ?_)
          · exact more (Or.inr (Or.inl c2))
          · refine v_blk g [.aload_n 0] (pc' := 29) (lv' := [(0, .ref m), (1, .int (nI o))]) (st' := [.ref m]) (by decide +kernel) rfl rfl ?_
            refine v_callVp g (rest := []) (m_here M8.o M8.k3 hn (by omega)) cl_X8_123 M8.o rfl rfl (Nat.le_of_ble_eq_true rfl) (by decide +kernel) ⟨by dsimp only; omega, by dsimp only; omega⟩ (zcsn 0 0 g9_c.1 g9_c.2 (Nat.le_of_ble_eq_true rfl) (Nat.le_of_ble_eq_true rfl)) ?_
            show zV F X g9 32 [(0, .ref m), (1, .int (nI o))] [.int (txt B n q)]
            refine v_blk g [.bipush 45] (pc' := 34) (lv' := [(0, .ref m), (1, .int (nI o))]) (st' := [.int (45 : Int32), .int (txt B n q)]) (by decide +kernel) rfl rfl ?_
            refine v_icmp_ne g (off := 36) (tgt := 70) (by decide +kernel) (by decide) (fun c3 => ?_) (fun c3 => ?_)
            · rw [if_neg (fun e => e (by rw [x_sign, if_neg c1, if_neg c2, if_pos c3]))] at er8
              refine v_blk g [.iconst 1] (pc' := 71) (lv' := [(0, .ref m), (1, .int (nI o))]) (st' := [.int (1 : Int32)]) (by decide +kernel) rfl rfl ?_
              exact v_zret g z rfl (by decide) (by decide +kernel) (Or.inr ⟨q, S, PL9, O19, O29, er8, rfl, M8, lo8, lv8⟩) (zcrn 0 0 g9_c.1 g9_c.2 (Nat.le_of_ble_eq_true rfl) (Nat.le_of_ble_eq_true rfl))
            · exact more (Or.inr (Or.inr c3))
    exact loop 200 q S PL2 O12 O22 h9 M9 lo9 lv9 er (by omega) (by omega)

theorem m_all {F : zF} : ∀ d, KPln F d := by
  have st : ∀ d, KOne F d → KPln F d := fun d hO => by
    have hA : KAlt F d := fun h h0 m R tp fp cn ha un dm wk pm cu ct dt pt th hl pd hlt pdt SC PN V B LN PR PA VD P SC2 PN2 LN2 PR2 PA2 VD2 P2 DV Z DV2 Z2 n p k o PL O1 O2 M ho hk hn hp => m_alt hO M ho hk hn hp
    exact fun h h0 m R tp fp cn ha un dm wk pm cu ct dt pt th hl pd hlt pdt SC PN V B LN PR PA VD P SC2 PN2 LN2 PR2 PA2 VD2 P2 DV Z DV2 Z2 n p k o PL O1 O2 M ho hk hn hp => m_pln hA M ho hk hn hp
  intro d
  induction d with
  | zero => exact st 0 (fun h h0 m R tp fp cn ha un dm wk pm cu ct dt pt th hl pd hlt pdt SC PN V B LN PR PA VD P SC2 PN2 LN2 PR2 PA2 VD2 P2 DV Z DV2 Z2 n p k o PL O1 O2 M ho hk hn hp => m_one0 M ho hk hn hp)
  | succ d ih => exact st (d + 1) (fun h h0 m R tp fp cn ha un dm wk pm cu ct dt pt th hl pd hlt pdt SC PN V B LN PR PA VD P SC2 PN2 LN2 PR2 PA2 VD2 P2 DV Z DV2 Z2 n p k o PL O1 O2 M ho hk hn hp => m_one1 ih M ho hk hn hp)
