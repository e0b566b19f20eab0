def opG (sg x y : Int32) : Int32 := if sg = 124 then (if ¬ x = 0 ∨ ¬ y = 0 then 1 else 0) else if sg = 38 then (if ¬ x = 0 ∧ ¬ y = 0 then 1 else 0) else (if ¬ x = 0 ∧ y = 0 then 1 else 0)
theorem opG_01 (sg x y : Int32) : opG sg x y = 0 ∨ opG sg x y = 1 := by
  unfold opG
  split
  · split <;> simp
  · split
    · split <;> simp
    · split <;> simp
theorem opG_S {sg : Int32} (hs : sg = 124 ∨ sg = 38 ∨ sg = 45) {X Y : Nat → Int32} {l : Nat} : ¬ opG sg (X l) (Y l) = 0 ↔ opS sg (fun l => ¬ X l = 0) (fun l => ¬ Y l = 0) l := by
  unfold opG opS
  rcases hs with rfl | rfl | rfl
  · rw [if_pos rfl, if_pos rfl]; by_cases q : ¬ X l = 0 ∨ ¬ Y l = 0
    · rw [if_pos q]; simp only [q]; decide
    · rw [if_neg q]; simp only [q]; decide
  · rw [if_neg (show ¬ (38 : Int32) = 124 by decide), if_neg (show ¬ (38 : Int32) = 124 by decide), if_pos (rfl : (38 : Int32) = 38), if_pos (rfl : (38 : Int32) = 38)]; by_cases q : ¬ X l = 0 ∧ ¬ Y l = 0
    · rw [if_pos q]; simp only [q]; decide
    · rw [if_neg q]; simp only [q]; decide
  · rw [if_neg (show ¬ (45 : Int32) = 124 by decide), if_neg (show ¬ (45 : Int32) = 124 by decide), if_neg (show ¬ (45 : Int32) = 38 by decide), if_neg (show ¬ (45 : Int32) = 38 by decide), if_pos (rfl : (45 : Int32) = 45)]; by_cases q : ¬ X l = 0 ∧ Y l = 0
    · rw [if_pos q]; simp [q.1, q.2]
    · rw [if_neg q]; simp; intro e1 e2; exact q ⟨e1, e2⟩

set_option maxRecDepth 100000 in
set_option maxHeartbeats 4000000 in
theorem m_join {F : zF} {h : zH} {h0 : zH} {m : Nat} {R : Nat → Nat} {tp fk fp cn ha un dm wk pm cu ct dt pt th at9 sz : Int32} {hl pd hlt pdt : Int64} {SC PN V B LN PR PA VD P SC2 PN2 LN2 PR2 PA2 VD2 P2 PL O1 O2 : Nat → Int32} {DV Z DV2 Z2 : Nat → Int64} {k : Nat} (M : MC h0 h m R (oM R tp fk fp cn ha un dm wk hl pd pm cu ct dt hlt pdt pt (nI (k + 2)) th at9 sz) SC PN V B LN PR PA VD DV Z P SC2 PN2 LN2 PR2 PA2 VD2 DV2 Z2 P2 PL O1 O2) {sg : Int32} (hs : sg = 124 ∨ sg = 38 ∨ sg = 45) (hk : k + 2 ≤ 16) : zMet F yX8_join cX8_join 7 none { frames := 1, cells := 0, slots := 0, locals := 30 } [.ref m, .int sg] h (fun v h2 => v = none ∧ ∃ PX : Nat → Int32, MC h0 h2 m R (oM R tp fk fp cn ha un dm wk hl pd pm cu ct dt hlt pdt pt (nI (k + 1)) th at9 sz) SC PN V B LN PR PA VD DV Z P SC2 PN2 LN2 PR2 PA2 VD2 DV2 Z2 P2 PX O1 O2 ∧ (∀ j, j < 16384 * k → PX j = PL j) ∧ lev PX k (opS sg (fun l => ¬ PL (16384 * k + l) = 0) (fun l => ¬ PL (16384 * (k + 1) + l) = 0))) := by
  refine zMet_of (lv := [(0, .ref m), (1, .int sg)]) (by decide) (by simp [lg_sl, Value.category]) rfl ?_
  intro X g z
  refine v_blk g [.sipush 16384, .aload_n 0] (pc' := 4) (lv' := [(0, .ref m), (1, .int sg)]) (st' := [.ref m, .int (16384 : Int32)]) (by decide +kernel) rfl rfl ?_
  refine v_get g M.o fl_X8_144 rfl (by decide +kernel) ?_
  refine v_blk g [.iconst 2, .isub] (pc' := 9) (lv' := [(0, .ref m), (1, .int sg)]) (st' := [.int ((nI (k + 2)) - (2 : Int32)), .int (16384 : Int32)]) (by decide +kernel) rfl rfl ?_
  refine v_ti (z := nI k) (by rw [show (2 : Int32) = nI 2 from rfl, pk_sub (by omega)]; rfl) ?_
  refine v_blk g [.imul] (pc' := 10) (lv' := [(0, .ref m), (1, .int sg)]) (st' := [.int ((16384 : Int32) * (nI k))]) (by decide +kernel) rfl rfl ?_
  refine v_ti (z := nI (16384 * k)) (by rw [show (16384 : Int32) = nI 16384 from rfl, pk_mul]) ?_
  refine v_blk g [.istore_n 2, .sipush 16384, .aload_n 0] (pc' := 15) (lv' := [(2, .int (nI (16384 * k))), (0, .ref m), (1, .int sg)]) (st' := [.ref m, .int (16384 : Int32)]) (by decide +kernel) rfl rfl ?_
  refine v_get g M.o fl_X8_144 rfl (by decide +kernel) ?_
  refine v_blk g [.iconst 1, .isub] (pc' := 20) (lv' := [(2, .int (nI (16384 * k))), (0, .ref m), (1, .int sg)]) (st' := [.int ((nI (k + 2)) - (1 : Int32)), .int (16384 : Int32)]) (by decide +kernel) rfl rfl ?_
  refine v_ti (z := nI (k + 1)) (nI_pred (k + 1)) ?_
  refine v_blk g [.imul] (pc' := 21) (lv' := [(2, .int (nI (16384 * k))), (0, .ref m), (1, .int sg)]) (st' := [.int ((16384 : Int32) * (nI (k + 1)))]) (by decide +kernel) rfl rfl ?_
  refine v_ti (z := nI (16384 * (k + 1))) (by rw [show (16384 : Int32) = nI 16384 from rfl, pk_mul]) ?_
  refine v_blk g [.istore_n 3, .iconst 0, .istore 4] (pc' := 25) (lv' := [(4, .int (0 : Int32)), (3, .int (nI (16384 * (k + 1)))), (2, .int (nI (16384 * k))), (0, .ref m), (1, .int sg)]) (st' := []) (by decide +kernel) rfl rfl ?_
  refine v_lv [0, 2, 1, 3, 4] (lv' := [(4, .int (0 : Int32)), (2, .int (nI (16384 * k))), (3, .int (nI (16384 * (k + 1)))), (0, .ref m), (1, .int sg)]) rfl ?_
  have key : ∀ i, i ≤ 16384 → ∀ g9 : zH, MC h0 g9 m R (oM R tp fk fp cn ha un dm wk hl pd pm cu ct dt hlt pdt pt (nI (k + 2)) th at9 sz) SC PN V B LN PR PA VD DV Z P SC2 PN2 LN2 PR2 PA2 VD2 DV2 Z2 P2 (fb_put PL (fun l => opG sg (PL (16384 * k + l)) (PL (16384 * (k + 1) + l))) (16384 * k) i) O1 O2 → zV F X g9 25 [(4, .int (nI i)), (2, .int (nI (16384 * k))), (3, .int (nI (16384 * (k + 1)))), (0, .ref m), (1, .int sg)] [] := by
    refine z_up (P := fun i => ∀ g9 : zH, MC h0 g9 m R (oM R tp fk fp cn ha un dm wk hl pd pm cu ct dt hlt pdt pt (nI (k + 2)) th at9 sz) SC PN V B LN PR PA VD DV Z P SC2 PN2 LN2 PR2 PA2 VD2 DV2 Z2 P2 (fb_put PL (fun l => opG sg (PL (16384 * k + l)) (PL (16384 * (k + 1) + l))) (16384 * k) i) O1 O2 → zV F X g9 25 [(4, .int (nI i)), (2, .int (nI (16384 * k))), (3, .int (nI (16384 * (k + 1)))), (0, .ref m), (1, .int sg)] []) 16384 ?_ ?_
    · intro g9 M9
      have g9_c := mcc M.c M9.c
      refine v_blk g [.iload 4, .sipush 16384] (pc' := 30) (lv' := [(4, .int (nI 16384)), (2, .int (nI (16384 * k))), (3, .int (nI (16384 * (k + 1)))), (0, .ref m), (1, .int sg)]) (st' := [.int (16384 : Int32), .int (nI 16384)]) (by decide +kernel) rfl rfl ?_
      refine v_icmp_ge g (off := 103) (tgt := 133) (by decide +kernel) (by decide) (fun _ => ?_) (fun c => absurd c (fun q => q (by decide)))
      refine v_blk g [.aload_n 0, .dup] (pc' := 135) (lv' := [(4, .int (nI 16384)), (2, .int (nI (16384 * k))), (3, .int (nI (16384 * (k + 1)))), (0, .ref m), (1, .int sg)]) (st' := [.ref m, .ref m]) (by decide +kernel) rfl rfl ?_
      refine v_get g M9.o fl_X8_144 rfl (by decide +kernel) ?_
      refine v_blk g [.iconst 1, .isub] (pc' := 140) (lv' := [(4, .int (nI 16384)), (2, .int (nI (16384 * k))), (3, .int (nI (16384 * (k + 1)))), (0, .ref m), (1, .int sg)]) (st' := [.int ((nI (k + 2)) - (1 : Int32)), .ref m]) (by decide +kernel) rfl rfl ?_
      refine v_ti (z := nI (k + 1)) (nI_pred (k + 1)) ?_
      refine v_put g (fs' := oMl R tp fk fp cn ha un dm wk hl pd pm cu ct dt hlt pdt pt (nI (k + 1)) th at9 sz) M9.o fl_X8_144 rfl rfl (Nat.le_of_ble_eq_true rfl) rfl (by decide +kernel) ?_
      refine v_h (fun h5 eh5 => ?_)
      have M_h5 : MC h0 h5 m R (oM R tp fk fp cn ha un dm wk hl pd pm cu ct dt hlt pdt pt (nI (k + 1)) th at9 sz) SC PN V B LN PR PA VD DV Z P SC2 PN2 LN2 PR2 PA2 VD2 DV2 Z2 P2 (fb_put PL (fun l => opG sg (PL (16384 * k + l)) (PL (16384 * (k + 1) + l))) (16384 * k) 16384) O1 O2 := by rw [eh5]; exact M9.so _
      have h5_c := mcc M.c M_h5.c
      exact v_vret g z rfl (by decide +kernel) ⟨rfl, _, M_h5, fun j hj => fb_put_out (Or.inl hj), fun l hl => by rw [fb_put_in (by omega) (by omega), show 16384 * k + l - 16384 * k = l by omega]; exact opG_S (X := fun l => PL (16384 * k + l)) (Y := fun l => PL (16384 * (k + 1) + l)) hs⟩ (zcrn 0 0 h5_c.1 h5_c.2 (Nat.le_of_ble_eq_true rfl) (Nat.le_of_ble_eq_true rfl))
    · intro i hi ih g9 M9
      have g9_c := mcc M.c M9.c
      refine v_blk g [.iload 4, .sipush 16384] (pc' := 30) (lv' := [(4, .int (nI i)), (2, .int (nI (16384 * k))), (3, .int (nI (16384 * (k + 1)))), (0, .ref m), (1, .int sg)]) (st' := [.int (16384 : Int32), .int (nI i)]) (by decide +kernel) rfl rfl ?_
      refine v_icmp_ge g (off := 103) (tgt := 133) (by decide +kernel) (by decide) (fun c => absurd c (nI_ge (b := 16384) hi (by decide))) (fun _ => ?_)
      refine v_blk g [.aload_n 0] (pc' := 34) (lv' := [(4, .int (nI i)), (2, .int (nI (16384 * k))), (3, .int (nI (16384 * (k + 1)))), (0, .ref m), (1, .int sg)]) (st' := [.ref m]) (by decide +kernel) rfl rfl ?_
      refine v_get g M9.o fl_X8_80 rfl (by decide +kernel) ?_
      refine v_blk g [.iload_n 2, .iload 4, .iadd] (pc' := 41) (lv' := [(4, .int (nI i)), (2, .int (nI (16384 * k))), (3, .int (nI (16384 * (k + 1)))), (0, .ref m), (1, .int sg)]) (st' := [.int ((nI (16384 * k)) + (nI i)), .ref (R 20)]) (by decide +kernel) rfl rfl ?_
      refine v_zald g M9.k20 (16384 * k + i) (nI_add _ _) (by omega) (Nat.le_of_ble_eq_true rfl) (by decide +kernel) ?_
      refine v_ti (z := PL (16384 * k + i)) (fb_put_out (Or.inr (Nat.le_refl _))) ?_
      refine v_blk g [.istore 5, .aload_n 0] (pc' := 45) (lv' := [(5, .int (PL (16384 * k + i))), (4, .int (nI i)), (2, .int (nI (16384 * k))), (3, .int (nI (16384 * (k + 1)))), (0, .ref m), (1, .int sg)]) (st' := [.ref m]) (by decide +kernel) rfl rfl ?_
      refine v_get g M9.o fl_X8_80 rfl (by decide +kernel) ?_
      refine v_blk g [.iload_n 3, .iload 4, .iadd] (pc' := 52) (lv' := [(5, .int (PL (16384 * k + i))), (4, .int (nI i)), (2, .int (nI (16384 * k))), (3, .int (nI (16384 * (k + 1)))), (0, .ref m), (1, .int sg)]) (st' := [.int ((nI (16384 * (k + 1))) + (nI i)), .ref (R 20)]) (by decide +kernel) rfl rfl ?_
      refine v_zald g M9.k20 (16384 * (k + 1) + i) (nI_add _ _) (by omega) (Nat.le_of_ble_eq_true rfl) (by decide +kernel) ?_
      refine v_ti (z := PL (16384 * (k + 1) + i)) (fb_put_out (Or.inr (by omega))) ?_
      refine v_blk g [.istore 6, .aload_n 0] (pc' := 56) (lv' := [(6, .int (PL (16384 * (k + 1) + i))), (5, .int (PL (16384 * k + i))), (4, .int (nI i)), (2, .int (nI (16384 * k))), (3, .int (nI (16384 * (k + 1)))), (0, .ref m), (1, .int sg)]) (st' := [.ref m]) (by decide +kernel) rfl rfl ?_
      refine v_get g M9.o fl_X8_80 rfl (by decide +kernel) ?_
      refine v_blk g [.iload_n 2, .iload 4, .iadd, .iload_n 1, .bipush 124] (pc' := 66) (lv' := [(6, .int (PL (16384 * (k + 1) + i))), (5, .int (PL (16384 * k + i))), (4, .int (nI i)), (2, .int (nI (16384 * k))), (3, .int (nI (16384 * (k + 1)))), (0, .ref m), (1, .int sg)]) (st' := [.int (124 : Int32), .int sg, .int ((nI (16384 * k)) + (nI i)), .ref (R 20)]) (by decide +kernel) rfl rfl ?_
      refine v_icmp_ne g (off := 21) (tgt := 87) (by decide +kernel) (by decide) (fun c1 => ?_) (fun c1 => ?_)
      · refine v_blk g [.iload_n 1, .bipush 38] (pc' := 90) (lv' := [(6, .int (PL (16384 * (k + 1) + i))), (5, .int (PL (16384 * k + i))), (4, .int (nI i)), (2, .int (nI (16384 * k))), (3, .int (nI (16384 * (k + 1)))), (0, .ref m), (1, .int sg)]) (st' := [.int (38 : Int32), .int sg, .int ((nI (16384 * k)) + (nI i)), .ref (R 20)]) (by decide +kernel) rfl rfl ?_
        refine v_icmp_ne g (off := 21) (tgt := 111) (by decide +kernel) (by decide) (fun c2 => ?_) (fun c2 => ?_)
        · refine v_blk g [.iload 5] (pc' := 113) (lv' := [(6, .int (PL (16384 * (k + 1) + i))), (5, .int (PL (16384 * k + i))), (4, .int (nI i)), (2, .int (nI (16384 * k))), (3, .int (nI (16384 * (k + 1)))), (0, .ref m), (1, .int sg)]) (st' := [.int (PL (16384 * k + i)), .int ((nI (16384 * k)) + (nI i)), .ref (R 20)]) (by decide +kernel) rfl rfl ?_
          refine v_if_eq g (off := 12) (tgt := 125) (by decide +kernel) (by decide) (fun c3 => ?_) (fun c3 => ?_)
          · refine v_blk g [.iconst 0] (pc' := 126) (lv' := [(6, .int (PL (16384 * (k + 1) + i))), (5, .int (PL (16384 * k + i))), (4, .int (nI i)), (2, .int (nI (16384 * k))), (3, .int (nI (16384 * (k + 1)))), (0, .ref m), (1, .int sg)]) (st' := [.int (0 : Int32), .int ((nI (16384 * k)) + (nI i)), .ref (R 20)]) (by decide +kernel) rfl rfl ?_
            refine v_ti (z := opG sg (PL (16384 * k + i)) (PL (16384 * (k + 1) + i))) (by rw [opG, if_neg c1, if_neg c2, if_neg (fun e => e.1 c3)]) ?_
            refine v_zast g M9.k20 (opG_01 _ _ _) (16384 * k + i) (nI_add _ _) (by omega) (Nat.le_of_ble_eq_true rfl) (by decide +kernel) ?_
            refine v_h (fun h6 eh6 => ?_)
            have M_h6 : MC h0 h6 m R (oM R tp fk fp cn ha un dm wk hl pd pm cu ct dt hlt pdt pt (nI (k + 2)) th at9 sz) SC PN V B LN PR PA VD DV Z P SC2 PN2 LN2 PR2 PA2 VD2 DV2 Z2 P2 (upd (fb_put PL (fun l => opG sg (PL (16384 * k + l)) (PL (16384 * (k + 1) + l))) (16384 * k) i) (16384 * k + i) (opG sg (PL (16384 * k + i)) (PL (16384 * (k + 1) + i)))) O1 O2 := by rw [eh6]; exact M9.s20 _
            have h6_c := mcc M.c M_h6.c
            refine v_blk g [.iinc 4 1] (pc' := 130) (lv' := [(4, .int ((nI i) + (1 : Int32))), (6, .int (PL (16384 * (k + 1) + i))), (5, .int (PL (16384 * k + i))), (2, .int (nI (16384 * k))), (3, .int (nI (16384 * (k + 1)))), (0, .ref m), (1, .int sg)]) (st' := []) (by decide +kernel) rfl rfl ?_
            refine v_goto g (off := -105) (tgt := 25) (by decide +kernel) (by decide) ?_
            refine v_lv [0, 3, 4, 5, 6] (lv' := [(4, .int ((nI i) + (1 : Int32))), (2, .int (nI (16384 * k))), (3, .int (nI (16384 * (k + 1)))), (0, .ref m), (1, .int sg)]) rfl ?_
            exact v_eq (by rw [nI_1]) rfl (ih _ (by rw [← fb_put_succ]; exact M_h6))
          · refine v_blk g [.iload 6] (pc' := 118) (lv' := [(6, .int (PL (16384 * (k + 1) + i))), (5, .int (PL (16384 * k + i))), (4, .int (nI i)), (2, .int (nI (16384 * k))), (3, .int (nI (16384 * (k + 1)))), (0, .ref m), (1, .int sg)]) (st' := [.int (PL (16384 * (k + 1) + i)), .int ((nI (16384 * k)) + (nI i)), .ref (R 20)]) (by decide +kernel) rfl rfl ?_
            refine v_if_ne g (off := 7) (tgt := 125) (by decide +kernel) (by decide) (fun c4 => ?_) (fun c4 => ?_)
            · refine v_blk g [.iconst 0] (pc' := 126) (lv' := [(6, .int (PL (16384 * (k + 1) + i))), (5, .int (PL (16384 * k + i))), (4, .int (nI i)), (2, .int (nI (16384 * k))), (3, .int (nI (16384 * (k + 1)))), (0, .ref m), (1, .int sg)]) (st' := [.int (0 : Int32), .int ((nI (16384 * k)) + (nI i)), .ref (R 20)]) (by decide +kernel) rfl rfl ?_
              refine v_ti (z := opG sg (PL (16384 * k + i)) (PL (16384 * (k + 1) + i))) (by rw [opG, if_neg c1, if_neg c2, if_neg (fun e => c4 e.2)]) ?_
              refine v_zast g M9.k20 (opG_01 _ _ _) (16384 * k + i) (nI_add _ _) (by omega) (Nat.le_of_ble_eq_true rfl) (by decide +kernel) ?_
              refine v_h (fun h6 eh6 => ?_)
              have M_h6 : MC h0 h6 m R (oM R tp fk fp cn ha un dm wk hl pd pm cu ct dt hlt pdt pt (nI (k + 2)) th at9 sz) SC PN V B LN PR PA VD DV Z P SC2 PN2 LN2 PR2 PA2 VD2 DV2 Z2 P2 (upd (fb_put PL (fun l => opG sg (PL (16384 * k + l)) (PL (16384 * (k + 1) + l))) (16384 * k) i) (16384 * k + i) (opG sg (PL (16384 * k + i)) (PL (16384 * (k + 1) + i)))) O1 O2 := by rw [eh6]; exact M9.s20 _
              have h6_c := mcc M.c M_h6.c
              refine v_blk g [.iinc 4 1] (pc' := 130) (lv' := [(4, .int ((nI i) + (1 : Int32))), (6, .int (PL (16384 * (k + 1) + i))), (5, .int (PL (16384 * k + i))), (2, .int (nI (16384 * k))), (3, .int (nI (16384 * (k + 1)))), (0, .ref m), (1, .int sg)]) (st' := []) (by decide +kernel) rfl rfl ?_
              refine v_goto g (off := -105) (tgt := 25) (by decide +kernel) (by decide) ?_
              refine v_lv [0, 3, 4, 5, 6] (lv' := [(4, .int ((nI i) + (1 : Int32))), (2, .int (nI (16384 * k))), (3, .int (nI (16384 * (k + 1)))), (0, .ref m), (1, .int sg)]) rfl ?_
              exact v_eq (by rw [nI_1]) rfl (ih _ (by rw [← fb_put_succ]; exact M_h6))
            · refine v_blk g [.iconst 1] (pc' := 122) (lv' := [(6, .int (PL (16384 * (k + 1) + i))), (5, .int (PL (16384 * k + i))), (4, .int (nI i)), (2, .int (nI (16384 * k))), (3, .int (nI (16384 * (k + 1)))), (0, .ref m), (1, .int sg)]) (st' := [.int (1 : Int32), .int ((nI (16384 * k)) + (nI i)), .ref (R 20)]) (by decide +kernel) rfl rfl ?_
              refine v_goto g (off := 4) (tgt := 126) (by decide +kernel) (by decide) ?_
              refine v_ti (z := opG sg (PL (16384 * k + i)) (PL (16384 * (k + 1) + i))) (by rw [opG, if_neg c1, if_neg c2, if_pos ⟨c3, c4⟩]) ?_
              refine v_zast g M9.k20 (opG_01 _ _ _) (16384 * k + i) (nI_add _ _) (by omega) (Nat.le_of_ble_eq_true rfl) (by decide +kernel) ?_
              refine v_h (fun h6 eh6 => ?_)
              have M_h6 : MC h0 h6 m R (oM R tp fk fp cn ha un dm wk hl pd pm cu ct dt hlt pdt pt (nI (k + 2)) th at9 sz) SC PN V B LN PR PA VD DV Z P SC2 PN2 LN2 PR2 PA2 VD2 DV2 Z2 P2 (upd (fb_put PL (fun l => opG sg (PL (16384 * k + l)) (PL (16384 * (k + 1) + l))) (16384 * k) i) (16384 * k + i) (opG sg (PL (16384 * k + i)) (PL (16384 * (k + 1) + i)))) O1 O2 := by rw [eh6]; exact M9.s20 _
              have h6_c := mcc M.c M_h6.c
              refine v_blk g [.iinc 4 1] (pc' := 130) (lv' := [(4, .int ((nI i) + (1 : Int32))), (6, .int (PL (16384 * (k + 1) + i))), (5, .int (PL (16384 * k + i))), (2, .int (nI (16384 * k))), (3, .int (nI (16384 * (k + 1)))), (0, .ref m), (1, .int sg)]) (st' := []) (by decide +kernel) rfl rfl ?_
              refine v_goto g (off := -105) (tgt := 25) (by decide +kernel) (by decide) ?_
              refine v_lv [0, 3, 4, 5, 6] (lv' := [(4, .int ((nI i) + (1 : Int32))), (2, .int (nI (16384 * k))), (3, .int (nI (16384 * (k + 1)))), (0, .ref m), (1, .int sg)]) rfl ?_
              exact v_eq (by rw [nI_1]) rfl (ih _ (by rw [← fb_put_succ]; exact M_h6))
        · refine v_blk g [.iload 5] (pc' := 95) (lv' := [(6, .int (PL (16384 * (k + 1) + i))), (5, .int (PL (16384 * k + i))), (4, .int (nI i)), (2, .int (nI (16384 * k))), (3, .int (nI (16384 * (k + 1)))), (0, .ref m), (1, .int sg)]) (st' := [.int (PL (16384 * k + i)), .int ((nI (16384 * k)) + (nI i)), .ref (R 20)]) (by decide +kernel) rfl rfl ?_
          refine v_if_eq g (off := 12) (tgt := 107) (by decide +kernel) (by decide) (fun c3 => ?_) (fun c3 => ?_)
          · refine v_blk g [.iconst 0] (pc' := 108) (lv' := [(6, .int (PL (16384 * (k + 1) + i))), (5, .int (PL (16384 * k + i))), (4, .int (nI i)), (2, .int (nI (16384 * k))), (3, .int (nI (16384 * (k + 1)))), (0, .ref m), (1, .int sg)]) (st' := [.int (0 : Int32), .int ((nI (16384 * k)) + (nI i)), .ref (R 20)]) (by decide +kernel) rfl rfl ?_
            refine v_goto g (off := 18) (tgt := 126) (by decide +kernel) (by decide) ?_
            refine v_ti (z := opG sg (PL (16384 * k + i)) (PL (16384 * (k + 1) + i))) (by rw [opG, if_neg c1, if_pos c2, if_neg (fun e => e.1 c3)]) ?_
            refine v_zast g M9.k20 (opG_01 _ _ _) (16384 * k + i) (nI_add _ _) (by omega) (Nat.le_of_ble_eq_true rfl) (by decide +kernel) ?_
            refine v_h (fun h6 eh6 => ?_)
            have M_h6 : MC h0 h6 m R (oM R tp fk fp cn ha un dm wk hl pd pm cu ct dt hlt pdt pt (nI (k + 2)) th at9 sz) SC PN V B LN PR PA VD DV Z P SC2 PN2 LN2 PR2 PA2 VD2 DV2 Z2 P2 (upd (fb_put PL (fun l => opG sg (PL (16384 * k + l)) (PL (16384 * (k + 1) + l))) (16384 * k) i) (16384 * k + i) (opG sg (PL (16384 * k + i)) (PL (16384 * (k + 1) + i)))) O1 O2 := by rw [eh6]; exact M9.s20 _
            have h6_c := mcc M.c M_h6.c
            refine v_blk g [.iinc 4 1] (pc' := 130) (lv' := [(4, .int ((nI i) + (1 : Int32))), (6, .int (PL (16384 * (k + 1) + i))), (5, .int (PL (16384 * k + i))), (2, .int (nI (16384 * k))), (3, .int (nI (16384 * (k + 1)))), (0, .ref m), (1, .int sg)]) (st' := []) (by decide +kernel) rfl rfl ?_
            refine v_goto g (off := -105) (tgt := 25) (by decide +kernel) (by decide) ?_
            refine v_lv [0, 3, 4, 5, 6] (lv' := [(4, .int ((nI i) + (1 : Int32))), (2, .int (nI (16384 * k))), (3, .int (nI (16384 * (k + 1)))), (0, .ref m), (1, .int sg)]) rfl ?_
            exact v_eq (by rw [nI_1]) rfl (ih _ (by rw [← fb_put_succ]; exact M_h6))
          · refine v_blk g [.iload 6] (pc' := 100) (lv' := [(6, .int (PL (16384 * (k + 1) + i))), (5, .int (PL (16384 * k + i))), (4, .int (nI i)), (2, .int (nI (16384 * k))), (3, .int (nI (16384 * (k + 1)))), (0, .ref m), (1, .int sg)]) (st' := [.int (PL (16384 * (k + 1) + i)), .int ((nI (16384 * k)) + (nI i)), .ref (R 20)]) (by decide +kernel) rfl rfl ?_
            refine v_if_eq g (off := 7) (tgt := 107) (by decide +kernel) (by decide) (fun c4 => ?_) (fun c4 => ?_)
            · refine v_blk g [.iconst 0] (pc' := 108) (lv' := [(6, .int (PL (16384 * (k + 1) + i))), (5, .int (PL (16384 * k + i))), (4, .int (nI i)), (2, .int (nI (16384 * k))), (3, .int (nI (16384 * (k + 1)))), (0, .ref m), (1, .int sg)]) (st' := [.int (0 : Int32), .int ((nI (16384 * k)) + (nI i)), .ref (R 20)]) (by decide +kernel) rfl rfl ?_
              refine v_goto g (off := 18) (tgt := 126) (by decide +kernel) (by decide) ?_
              refine v_ti (z := opG sg (PL (16384 * k + i)) (PL (16384 * (k + 1) + i))) (by rw [opG, if_neg c1, if_pos c2, if_neg (fun e => e.2 c4)]) ?_
              refine v_zast g M9.k20 (opG_01 _ _ _) (16384 * k + i) (nI_add _ _) (by omega) (Nat.le_of_ble_eq_true rfl) (by decide +kernel) ?_
              refine v_h (fun h6 eh6 => ?_)
              have M_h6 : MC h0 h6 m R (oM R tp fk fp cn ha un dm wk hl pd pm cu ct dt hlt pdt pt (nI (k + 2)) th at9 sz) SC PN V B LN PR PA VD DV Z P SC2 PN2 LN2 PR2 PA2 VD2 DV2 Z2 P2 (upd (fb_put PL (fun l => opG sg (PL (16384 * k + l)) (PL (16384 * (k + 1) + l))) (16384 * k) i) (16384 * k + i) (opG sg (PL (16384 * k + i)) (PL (16384 * (k + 1) + i)))) O1 O2 := by rw [eh6]; exact M9.s20 _
              have h6_c := mcc M.c M_h6.c
              refine v_blk g [.iinc 4 1] (pc' := 130) (lv' := [(4, .int ((nI i) + (1 : Int32))), (6, .int (PL (16384 * (k + 1) + i))), (5, .int (PL (16384 * k + i))), (2, .int (nI (16384 * k))), (3, .int (nI (16384 * (k + 1)))), (0, .ref m), (1, .int sg)]) (st' := []) (by decide +kernel) rfl rfl ?_
              refine v_goto g (off := -105) (tgt := 25) (by decide +kernel) (by decide) ?_
              refine v_lv [0, 3, 4, 5, 6] (lv' := [(4, .int ((nI i) + (1 : Int32))), (2, .int (nI (16384 * k))), (3, .int (nI (16384 * (k + 1)))), (0, .ref m), (1, .int sg)]) rfl ?_
              exact v_eq (by rw [nI_1]) rfl (ih _ (by rw [← fb_put_succ]; exact M_h6))
            · refine v_blk g [.iconst 1] (pc' := 104) (lv' := [(6, .int (PL (16384 * (k + 1) + i))), (5, .int (PL (16384 * k + i))), (4, .int (nI i)), (2, .int (nI (16384 * k))), (3, .int (nI (16384 * (k + 1)))), (0, .ref m), (1, .int sg)]) (st' := [.int (1 : Int32), .int ((nI (16384 * k)) + (nI i)), .ref (R 20)]) (by decide +kernel) rfl rfl ?_
              refine v_goto g (off := 22) (tgt := 126) (by decide +kernel) (by decide) ?_
              refine v_ti (z := opG sg (PL (16384 * k + i)) (PL (16384 * (k + 1) + i))) (by rw [opG, if_neg c1, if_pos c2, if_pos ⟨c3, c4⟩]) ?_
              refine v_zast g M9.k20 (opG_01 _ _ _) (16384 * k + i) (nI_add _ _) (by omega) (Nat.le_of_ble_eq_true rfl) (by decide +kernel) ?_
              refine v_h (fun h6 eh6 => ?_)
              have M_h6 : MC h0 h6 m R (oM R tp fk fp cn ha un dm wk hl pd pm cu ct dt hlt pdt pt (nI (k + 2)) th at9 sz) SC PN V B LN PR PA VD DV Z P SC2 PN2 LN2 PR2 PA2 VD2 DV2 Z2 P2 (upd (fb_put PL (fun l => opG sg (PL (16384 * k + l)) (PL (16384 * (k + 1) + l))) (16384 * k) i) (16384 * k + i) (opG sg (PL (16384 * k + i)) (PL (16384 * (k + 1) + i)))) O1 O2 := by rw [eh6]; exact M9.s20 _
              have h6_c := mcc M.c M_h6.c
              refine v_blk g [.iinc 4 1] (pc' := 130) (lv' := [(4, .int ((nI i) + (1 : Int32))), (6, .int (PL (16384 * (k + 1) + i))), (5, .int (PL (16384 * k + i))), (2, .int (nI (16384 * k))), (3, .int (nI (16384 * (k + 1)))), (0, .ref m), (1, .int sg)]) (st' := []) (by decide +kernel) rfl rfl ?_
              refine v_goto g (off := -105) (tgt := 25) (by decide +kernel) (by decide) ?_
              refine v_lv [0, 3, 4, 5, 6] (lv' := [(4, .int ((nI i) + (1 : Int32))), (2, .int (nI (16384 * k))), (3, .int (nI (16384 * (k + 1)))), (0, .ref m), (1, .int sg)]) rfl ?_
              exact v_eq (by rw [nI_1]) rfl (ih _ (by rw [← fb_put_succ]; exact M_h6))
      · refine v_blk g [.iload 5] (pc' := 71) (lv' := [(6, .int (PL (16384 * (k + 1) + i))), (5, .int (PL (16384 * k + i))), (4, .int (nI i)), (2, .int (nI (16384 * k))), (3, .int (nI (16384 * (k + 1)))), (0, .ref m), (1, .int sg)]) (st' := [.int (PL (16384 * k + i)), .int ((nI (16384 * k)) + (nI i)), .ref (R 20)]) (by decide +kernel) rfl rfl ?_
        refine v_if_ne g (off := 8) (tgt := 79) (by decide +kernel) (by decide) (fun c3 => ?_) (fun c3 => ?_)
        · refine v_blk g [.iconst 1] (pc' := 80) (lv' := [(6, .int (PL (16384 * (k + 1) + i))), (5, .int (PL (16384 * k + i))), (4, .int (nI i)), (2, .int (nI (16384 * k))), (3, .int (nI (16384 * (k + 1)))), (0, .ref m), (1, .int sg)]) (st' := [.int (1 : Int32), .int ((nI (16384 * k)) + (nI i)), .ref (R 20)]) (by decide +kernel) rfl rfl ?_
          refine v_goto g (off := 46) (tgt := 126) (by decide +kernel) (by decide) ?_
          refine v_ti (z := opG sg (PL (16384 * k + i)) (PL (16384 * (k + 1) + i))) (by rw [opG, if_pos c1, if_pos (Or.inl c3)]) ?_
          refine v_zast g M9.k20 (opG_01 _ _ _) (16384 * k + i) (nI_add _ _) (by omega) (Nat.le_of_ble_eq_true rfl) (by decide +kernel) ?_
          refine v_h (fun h6 eh6 => ?_)
          have M_h6 : MC h0 h6 m R (oM R tp fk fp cn ha un dm wk hl pd pm cu ct dt hlt pdt pt (nI (k + 2)) th at9 sz) SC PN V B LN PR PA VD DV Z P SC2 PN2 LN2 PR2 PA2 VD2 DV2 Z2 P2 (upd (fb_put PL (fun l => opG sg (PL (16384 * k + l)) (PL (16384 * (k + 1) + l))) (16384 * k) i) (16384 * k + i) (opG sg (PL (16384 * k + i)) (PL (16384 * (k + 1) + i)))) O1 O2 := by rw [eh6]; exact M9.s20 _
          have h6_c := mcc M.c M_h6.c
          refine v_blk g [.iinc 4 1] (pc' := 130) (lv' := [(4, .int ((nI i) + (1 : Int32))), (6, .int (PL (16384 * (k + 1) + i))), (5, .int (PL (16384 * k + i))), (2, .int (nI (16384 * k))), (3, .int (nI (16384 * (k + 1)))), (0, .ref m), (1, .int sg)]) (st' := []) (by decide +kernel) rfl rfl ?_
          refine v_goto g (off := -105) (tgt := 25) (by decide +kernel) (by decide) ?_
          refine v_lv [0, 3, 4, 5, 6] (lv' := [(4, .int ((nI i) + (1 : Int32))), (2, .int (nI (16384 * k))), (3, .int (nI (16384 * (k + 1)))), (0, .ref m), (1, .int sg)]) rfl ?_
          exact v_eq (by rw [nI_1]) rfl (ih _ (by rw [← fb_put_succ]; exact M_h6))
        · refine v_blk g [.iload 6] (pc' := 76) (lv' := [(6, .int (PL (16384 * (k + 1) + i))), (5, .int (PL (16384 * k + i))), (4, .int (nI i)), (2, .int (nI (16384 * k))), (3, .int (nI (16384 * (k + 1)))), (0, .ref m), (1, .int sg)]) (st' := [.int (PL (16384 * (k + 1) + i)), .int ((nI (16384 * k)) + (nI i)), .ref (R 20)]) (by decide +kernel) rfl rfl ?_
          refine v_if_eq g (off := 7) (tgt := 83) (by decide +kernel) (by decide) (fun c4 => ?_) (fun c4 => ?_)
          · refine v_blk g [.iconst 0] (pc' := 84) (lv' := [(6, .int (PL (16384 * (k + 1) + i))), (5, .int (PL (16384 * k + i))), (4, .int (nI i)), (2, .int (nI (16384 * k))), (3, .int (nI (16384 * (k + 1)))), (0, .ref m), (1, .int sg)]) (st' := [.int (0 : Int32), .int ((nI (16384 * k)) + (nI i)), .ref (R 20)]) (by decide +kernel) rfl rfl ?_
            refine v_goto g (off := 42) (tgt := 126) (by decide +kernel) (by decide) ?_
            refine v_ti (z := opG sg (PL (16384 * k + i)) (PL (16384 * (k + 1) + i))) (by rw [opG, if_pos c1, if_neg (fun e => e.elim (fun q => q c3) (fun q => q c4))]) ?_
            refine v_zast g M9.k20 (opG_01 _ _ _) (16384 * k + i) (nI_add _ _) (by omega) (Nat.le_of_ble_eq_true rfl) (by decide +kernel) ?_
            refine v_h (fun h6 eh6 => ?_)
            have M_h6 : MC h0 h6 m R (oM R tp fk fp cn ha un dm wk hl pd pm cu ct dt hlt pdt pt (nI (k + 2)) th at9 sz) SC PN V B LN PR PA VD DV Z P SC2 PN2 LN2 PR2 PA2 VD2 DV2 Z2 P2 (upd (fb_put PL (fun l => opG sg (PL (16384 * k + l)) (PL (16384 * (k + 1) + l))) (16384 * k) i) (16384 * k + i) (opG sg (PL (16384 * k + i)) (PL (16384 * (k + 1) + i)))) O1 O2 := by rw [eh6]; exact M9.s20 _
            have h6_c := mcc M.c M_h6.c
            refine v_blk g [.iinc 4 1] (pc' := 130) (lv' := [(4, .int ((nI i) + (1 : Int32))), (6, .int (PL (16384 * (k + 1) + i))), (5, .int (PL (16384 * k + i))), (2, .int (nI (16384 * k))), (3, .int (nI (16384 * (k + 1)))), (0, .ref m), (1, .int sg)]) (st' := []) (by decide +kernel) rfl rfl ?_
            refine v_goto g (off := -105) (tgt := 25) (by decide +kernel) (by decide) ?_
            refine v_lv [0, 3, 4, 5, 6] (lv' := [(4, .int ((nI i) + (1 : Int32))), (2, .int (nI (16384 * k))), (3, .int (nI (16384 * (k + 1)))), (0, .ref m), (1, .int sg)]) rfl ?_
            exact v_eq (by rw [nI_1]) rfl (ih _ (by rw [← fb_put_succ]; exact M_h6))
          · refine v_blk g [.iconst 1] (pc' := 80) (lv' := [(6, .int (PL (16384 * (k + 1) + i))), (5, .int (PL (16384 * k + i))), (4, .int (nI i)), (2, .int (nI (16384 * k))), (3, .int (nI (16384 * (k + 1)))), (0, .ref m), (1, .int sg)]) (st' := [.int (1 : Int32), .int ((nI (16384 * k)) + (nI i)), .ref (R 20)]) (by decide +kernel) rfl rfl ?_
            refine v_goto g (off := 46) (tgt := 126) (by decide +kernel) (by decide) ?_
            refine v_ti (z := opG sg (PL (16384 * k + i)) (PL (16384 * (k + 1) + i))) (by rw [opG, if_pos c1, if_pos (Or.inr c4)]) ?_
            refine v_zast g M9.k20 (opG_01 _ _ _) (16384 * k + i) (nI_add _ _) (by omega) (Nat.le_of_ble_eq_true rfl) (by decide +kernel) ?_
            refine v_h (fun h6 eh6 => ?_)
            have M_h6 : MC h0 h6 m R (oM R tp fk fp cn ha un dm wk hl pd pm cu ct dt hlt pdt pt (nI (k + 2)) th at9 sz) SC PN V B LN PR PA VD DV Z P SC2 PN2 LN2 PR2 PA2 VD2 DV2 Z2 P2 (upd (fb_put PL (fun l => opG sg (PL (16384 * k + l)) (PL (16384 * (k + 1) + l))) (16384 * k) i) (16384 * k + i) (opG sg (PL (16384 * k + i)) (PL (16384 * (k + 1) + i)))) O1 O2 := by rw [eh6]; exact M9.s20 _
            have h6_c := mcc M.c M_h6.c
            refine v_blk g [.iinc 4 1] (pc' := 130) (lv' := [(4, .int ((nI i) + (1 : Int32))), (6, .int (PL (16384 * (k + 1) + i))), (5, .int (PL (16384 * k + i))), (2, .int (nI (16384 * k))), (3, .int (nI (16384 * (k + 1)))), (0, .ref m), (1, .int sg)]) (st' := []) (by decide +kernel) rfl rfl ?_
            refine v_goto g (off := -105) (tgt := 25) (by decide +kernel) (by decide) ?_
            refine v_lv [0, 3, 4, 5, 6] (lv' := [(4, .int ((nI i) + (1 : Int32))), (2, .int (nI (16384 * k))), (3, .int (nI (16384 * (k + 1)))), (0, .ref m), (1, .int sg)]) rfl ?_
            exact v_eq (by rw [nI_1]) rfl (ih _ (by rw [← fb_put_succ]; exact M_h6))
  exact key 0 (by omega) _ (by rw [fb_put_0]; exact M)
