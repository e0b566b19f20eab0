def pjn (P Q : Nat → Bool) (a b : Nat) (l : Nat) : Prop := ∃ l1 l2, l1 < 16384 ∧ l2 < 16384 ∧ P l1 = true ∧ Q l2 = true ∧ (fb_ct P l1 < a ∨ (fb_ct P l1 = a ∧ fb_ct Q l2 < b)) ∧ l2 &&& l1 = 0 ∧ l2 ||| l1 = l
theorem pjn_0 {P Q : Nat → Bool} {l : Nat} : ¬ pjn P Q 0 0 l := fun ⟨_, _, _, _, _, _, h, _, _⟩ => by omega
theorem pjn_row {P Q : Nat → Bool} {a l : Nat} : pjn P Q a (fb_ct Q 16384) l ↔ pjn P Q (a + 1) 0 l := by
  constructor
  · rintro ⟨l1, l2, h1, h2, p1, p2, h, h3, h4⟩
    exact ⟨l1, l2, h1, h2, p1, p2, Or.inl (by omega), h3, h4⟩
  · rintro ⟨l1, l2, h1, h2, p1, p2, h, h3, h4⟩
    have : fb_ct Q l2 < fb_ct Q 16384 := by
      have := fb_ct_mono Q (show l2 + 1 ≤ 16384 from h2)
      rw [fb_ct_succ, p2] at this
      simp at this; omega
    exact ⟨l1, l2, h1, h2, p1, p2, by omega, h3, h4⟩
theorem pjn_step {P Q : Nat → Bool} {a b l x y : Nat} (hx : x < 16384) (hy : y < 16384) (px : P x = true) (py : Q y = true) (ex : fb_ct P x = a) (ey : fb_ct Q y = b) : pjn P Q a (b + 1) l ↔ (pjn P Q a b l ∨ (y &&& x = 0 ∧ y ||| x = l)) := by
  constructor
  · rintro ⟨l1, l2, h1, h2, p1, p2, h, h3, h4⟩
    rcases h with h | ⟨h, h'⟩
    · exact Or.inl ⟨l1, l2, h1, h2, p1, p2, Or.inl h, h3, h4⟩
    · by_cases e : fb_ct Q l2 < b
      · exact Or.inl ⟨l1, l2, h1, h2, p1, p2, Or.inr ⟨h, e⟩, h3, h4⟩
      · have e1 : l1 = x := fb_ct_kth_one p1 px (by omega)
        have e2 : l2 = y := fb_ct_kth_one p2 py (by omega)
        subst e1; subst e2
        exact Or.inr ⟨h3, h4⟩
  · rintro (⟨l1, l2, h1, h2, p1, p2, h, h3, h4⟩ | ⟨h3, h4⟩)
    · exact ⟨l1, l2, h1, h2, p1, p2, by omega, h3, h4⟩
    · exact ⟨x, y, hx, hy, px, py, Or.inr ⟨ex, by omega⟩, h3, h4⟩
theorem pjn_all {P Q : Nat → Bool} {S T : Nat → Prop} (hP : ∀ l, l < 16384 → (P l = true ↔ S l)) (hQ : ∀ l, l < 16384 → (Q l = true ↔ T l)) {l : Nat} : pjn P Q (fb_ct P 16384) 0 l ↔ opS 43 S T l := by
  unfold opS
  rw [if_neg (by decide), if_neg (by decide), if_neg (by decide)]
  constructor
  · rintro ⟨l1, l2, h1, h2, p1, p2, h, h3, h4⟩
    exact ⟨l1, h1, (hP l1 h1).mp p1, l2, h2, (hQ l2 h2).mp p2, h3, h4⟩
  · rintro ⟨l1, h1, p1, l2, h2, p2, h3, h4⟩
    have p1' := (hP l1 h1).mpr p1
    have : fb_ct P l1 < fb_ct P 16384 := by
      have := fb_ct_mono P (show l1 + 1 ≤ 16384 from h1)
      rw [fb_ct_succ, p1'] at this
      simp at this; omega
    exact ⟨l1, l2, h1, h2, p1', (hQ l2 h2).mpr p2, Or.inl this, h3, h4⟩

set_option maxRecDepth 100000 in
set_option maxHeartbeats 4000000 in
theorem m_put {F : zF} {h : zH} {h0 : zH} {m : Nat} {R : Nat → Nat} {tp fk fp cn ha un dm wk pm cu ct dt pt th at9 sz : Int32} {hl pd hlt pdt : Int64} {SC PN V B LN PR PA VD P SC2 PN2 LN2 PR2 PA2 VD2 P2 PL O1 O2 : Nat → Int32} {DV Z DV2 Z2 : Nat → Int64} {k : Nat} (M : MC h0 h m R (oM R tp fk fp cn ha un dm wk hl pd pm cu ct dt hlt pdt pt (nI (k + 2)) th at9 sz) SC PN V B LN PR PA VD DV Z P SC2 PN2 LN2 PR2 PA2 VD2 DV2 Z2 P2 PL O1 O2) (hk : k + 2 ≤ 16) : zMet F yX8_put cX8_put 7 none { frames := 2, cells := 0, slots := 0, locals := 60 } [.ref m] h (fun v h2 => v = none ∧ ∃ PX G1 G2 : Nat → Int32, MC h0 h2 m R (oM R tp fk fp cn ha un dm wk hl pd pm cu ct dt hlt pdt pt (nI (k + 1)) th at9 sz) SC PN V B LN PR PA VD DV Z P SC2 PN2 LN2 PR2 PA2 VD2 DV2 Z2 P2 PX G1 G2 ∧ (∀ j, j < 16384 * k → PX j = PL j) ∧ lev PX k (opS 43 (fun l => ¬ PL (16384 * k + l) = 0) (fun l => ¬ PL (16384 * (k + 1) + l) = 0))) := by
  refine zMet_of (lv := [(0, .ref m)]) (by decide) (by simp [lg_sl, Value.category]) rfl ?_
  intro X g z
  have n1 := fb_ct_le (pP PL k) 16384
  have n2 := fb_ct_le (pP PL (k + 1)) 16384
  refine v_blk g [.aload_n 0] (pc' := 1) (lv' := [(0, .ref m)]) (st' := [.ref m]) (by decide +kernel) rfl rfl ?_
  refine v_get g M.o fl_X8_144 rfl (by decide +kernel) ?_
  refine v_blk g [.iconst 2, .isub] (pc' := 6) (lv' := [(0, .ref m)]) (st' := [.int ((nI (k + 2)) - (2 : Int32))]) (by decide +kernel) rfl rfl ?_
  refine v_ti (z := nI k) (by rw [show (2 : Int32) = nI 2 from rfl, pk_sub (by omega)]; rfl) ?_
  refine v_blk g [.istore_n 1, .aload_n 0] (pc' := 8) (lv' := [(1, .int (nI k)), (0, .ref m)]) (st' := [.ref m]) (by decide +kernel) rfl rfl ?_
  refine v_get g M.o fl_X8_144 rfl (by decide +kernel) ?_
  refine v_blk g [.iconst 1, .isub] (pc' := 13) (lv' := [(1, .int (nI k)), (0, .ref m)]) (st' := [.int ((nI (k + 2)) - (1 : Int32))]) (by decide +kernel) rfl rfl ?_
  refine v_ti (z := nI (k + 1)) (nI_pred (k + 1)) ?_
  refine v_blk g [.istore_n 2, .aload_n 0, .iload_n 1, .aload_n 0] (pc' := 17) (lv' := [(2, .int (nI (k + 1))), (1, .int (nI k)), (0, .ref m)]) (st' := [.ref m, .int (nI k), .ref m]) (by decide +kernel) rfl rfl ?_
  refine v_get g M.o fl_X8_83 rfl (by decide +kernel) ?_
  refine v_callV g (rest := []) (m_cnt M.o M.k20 M.k21 (by omega)) cl_X8_152 M.o rfl rfl (Nat.le_of_ble_eq_true rfl) (by decide +kernel) ⟨Nat.le_of_ble_eq_true rfl, Nat.le_of_ble_eq_true rfl⟩ (zcsn 0 0 rfl rfl (Nat.le_of_ble_eq_true rfl) (Nat.le_of_ble_eq_true rfl)) (fun v1 h1 q1 => ?_)
  obtain ⟨rfl, G1, rfl, E1⟩ := q1
  have M1 := M.s21 G1
  show zV F X (z_s h (R 21) (aI 16384 G1)) 23 [(2, .int (nI (k + 1))), (1, .int (nI k)), (0, .ref m)] [.int (nI (fb_ct (pP PL k) 16384))]
  refine v_h (fun h1 eh1 => ?_)
  rw [← eh1] at M1
  have h1_c := mcc M.c M1.c
  refine v_blk g [.istore_n 3, .aload_n 0, .iload_n 2, .aload_n 0] (pc' := 27) (lv' := [(3, .int (nI (fb_ct (pP PL k) 16384))), (2, .int (nI (k + 1))), (1, .int (nI k)), (0, .ref m)]) (st' := [.ref m, .int (nI (k + 1)), .ref m]) (by decide +kernel) rfl rfl ?_
  refine v_get g M1.o fl_X8_86 rfl (by decide +kernel) ?_
  refine v_callV g (rest := []) (m_cnt M1.o M1.k20 M1.k22 (by omega)) cl_X8_152 M1.o rfl rfl (Nat.le_of_ble_eq_true rfl) (by decide +kernel) ⟨Nat.le_of_ble_eq_true rfl, Nat.le_of_ble_eq_true rfl⟩ (zcsn 0 0 h1_c.1 h1_c.2 (Nat.le_of_ble_eq_true rfl) (Nat.le_of_ble_eq_true rfl)) (fun v2 h2 q2 => ?_)
  obtain ⟨rfl, G2, rfl, E2⟩ := q2
  have M2 := M1.s22 G2
  show zV F X (z_s h1 (R 22) (aI 16384 G2)) 33 [(3, .int (nI (fb_ct (pP PL k) 16384))), (2, .int (nI (k + 1))), (1, .int (nI k)), (0, .ref m)] [.int (nI (fb_ct (pP PL (k + 1)) 16384))]
  refine v_h (fun h2 eh2 => ?_)
  rw [← eh2] at M2
  have h2_c := mcc M.c M2.c
  refine v_blk g [.istore 4, .iconst 0, .istore 5] (pc' := 38) (lv' := [(5, .int (0 : Int32)), (4, .int (nI (fb_ct (pP PL (k + 1)) 16384))), (3, .int (nI (fb_ct (pP PL k) 16384))), (2, .int (nI (k + 1))), (1, .int (nI k)), (0, .ref m)]) (st' := []) (by decide +kernel) rfl rfl ?_
  refine v_lv [0, 5, 4, 2, 1] (lv' := [(5, .int (0 : Int32)), (0, .ref m), (1, .int (nI k)), (3, .int (nI (fb_ct (pP PL k) 16384))), (4, .int (nI (fb_ct (pP PL (k + 1)) 16384)))]) rfl ?_
  have key : ∀ i, i ≤ 16384 → ∀ g9 : zH, MC h0 g9 m R (oM R tp fk fp cn ha un dm wk hl pd pm cu ct dt hlt pdt pt (nI (k + 2)) th at9 sz) SC PN V B LN PR PA VD DV Z P SC2 PN2 LN2 PR2 PA2 VD2 DV2 Z2 P2 (fb_put PL (fun _ => 0) (16384 * k) i) G1 G2 → zV F X g9 38 [(5, .int (nI i)), (0, .ref m), (1, .int (nI k)), (3, .int (nI (fb_ct (pP PL k) 16384))), (4, .int (nI (fb_ct (pP PL (k + 1)) 16384)))] [] := by
    refine z_up (P := fun i => ∀ g9 : zH, MC h0 g9 m R (oM R tp fk fp cn ha un dm wk hl pd pm cu ct dt hlt pdt pt (nI (k + 2)) th at9 sz) SC PN V B LN PR PA VD DV Z P SC2 PN2 LN2 PR2 PA2 VD2 DV2 Z2 P2 (fb_put PL (fun _ => 0) (16384 * k) i) G1 G2 → zV F X g9 38 [(5, .int (nI i)), (0, .ref m), (1, .int (nI k)), (3, .int (nI (fb_ct (pP PL k) 16384))), (4, .int (nI (fb_ct (pP PL (k + 1)) 16384)))] []) 16384 ?_ ?_
    · intro g9 M9
      have g9_c := mcc M.c M9.c
      refine v_blk g [.iload 5, .sipush 16384] (pc' := 43) (lv' := [(5, .int (nI 16384)), (0, .ref m), (1, .int (nI k)), (3, .int (nI (fb_ct (pP PL k) 16384))), (4, .int (nI (fb_ct (pP PL (k + 1)) 16384)))]) (st' := [.int (16384 : Int32), .int (nI 16384)]) (by decide +kernel) rfl rfl ?_
      refine v_icmp_ge g (off := 23) (tgt := 66) (by decide +kernel) (by decide) (fun _ => ?_) (fun c => absurd c (fun q => q (by decide)))
      refine v_blk g [.iconst 0, .istore 5] (pc' := 69) (lv' := [(5, .int (0 : Int32)), (0, .ref m), (1, .int (nI k)), (3, .int (nI (fb_ct (pP PL k) 16384))), (4, .int (nI (fb_ct (pP PL (k + 1)) 16384)))]) (st' := []) (by decide +kernel) rfl rfl ?_
      have keyo : ∀ i, i ≤ (fb_ct (pP PL k) 16384) → ∀ g7 : zH, ∀ (PX : Nat → Int32), MC h0 g7 m R (oM R tp fk fp cn ha un dm wk hl pd pm cu ct dt hlt pdt pt (nI (k + 2)) th at9 sz) SC PN V B LN PR PA VD DV Z P SC2 PN2 LN2 PR2 PA2 VD2 DV2 Z2 P2 PX G1 G2 → ((∀ j, j < 16384 * k → PX j = PL j) ∧ ∀ l, l < 16384 → (¬ PX (16384 * k + l) = 0 ↔ pjn (pP PL k) (pP PL (k + 1)) i 0 l)) → zV F X g7 69 [(5, .int (nI i)), (0, .ref m), (1, .int (nI k)), (3, .int (nI (fb_ct (pP PL k) 16384))), (4, .int (nI (fb_ct (pP PL (k + 1)) 16384)))] [] := by
        refine z_up (P := fun i => ∀ g7 : zH, ∀ (PX : Nat → Int32), MC h0 g7 m R (oM R tp fk fp cn ha un dm wk hl pd pm cu ct dt hlt pdt pt (nI (k + 2)) th at9 sz) SC PN V B LN PR PA VD DV Z P SC2 PN2 LN2 PR2 PA2 VD2 DV2 Z2 P2 PX G1 G2 → ((∀ j, j < 16384 * k → PX j = PL j) ∧ ∀ l, l < 16384 → (¬ PX (16384 * k + l) = 0 ↔ pjn (pP PL k) (pP PL (k + 1)) i 0 l)) → zV F X g7 69 [(5, .int (nI i)), (0, .ref m), (1, .int (nI k)), (3, .int (nI (fb_ct (pP PL k) 16384))), (4, .int (nI (fb_ct (pP PL (k + 1)) 16384)))] []) (fb_ct (pP PL k) 16384) ?_ ?_
        · intro g7 PX M7 hpre
          have g7_c := mcc M.c M7.c
          refine v_blk g [.iload 5, .iload_n 3] (pc' := 72) (lv' := [(5, .int (nI (fb_ct (pP PL k) 16384))), (0, .ref m), (1, .int (nI k)), (3, .int (nI (fb_ct (pP PL k) 16384))), (4, .int (nI (fb_ct (pP PL (k + 1)) 16384)))]) (st' := [.int (nI (fb_ct (pP PL k) 16384)), .int (nI (fb_ct (pP PL k) 16384))]) (by decide +kernel) rfl rfl ?_
          refine v_icmp_ge g (off := 70) (tgt := 142) (by decide +kernel) (by decide) (fun _ => ?_) (fun c => absurd c (fun q => q (nI_le (Nat.le_refl _) (by omega))))
          refine v_blk g [.aload_n 0, .dup] (pc' := 144) (lv' := [(5, .int (nI (fb_ct (pP PL k) 16384))), (0, .ref m), (1, .int (nI k)), (3, .int (nI (fb_ct (pP PL k) 16384))), (4, .int (nI (fb_ct (pP PL (k + 1)) 16384)))]) (st' := [.ref m, .ref m]) (by decide +kernel) rfl rfl ?_
          refine v_get g M7.o fl_X8_144 rfl (by decide +kernel) ?_
          refine v_blk g [.iconst 1, .isub] (pc' := 149) (lv' := [(5, .int (nI (fb_ct (pP PL k) 16384))), (0, .ref m), (1, .int (nI k)), (3, .int (nI (fb_ct (pP PL k) 16384))), (4, .int (nI (fb_ct (pP PL (k + 1)) 16384)))]) (st' := [.int ((nI (k + 2)) - (1 : Int32)), .ref m]) (by decide +kernel) rfl rfl ?_
          refine v_ti (z := nI (k + 1)) (nI_pred (k + 1)) ?_
          refine v_put g (fs' := oMl R tp fk fp cn ha un dm wk hl pd pm cu ct dt hlt pdt pt (nI (k + 1)) th at9 sz) M7.o fl_X8_144 rfl rfl (Nat.le_of_ble_eq_true rfl) rfl (by decide +kernel) ?_
          refine v_h (fun h5 eh5 => ?_)
          have M_h5 : MC h0 h5 m R (oM R tp fk fp cn ha un dm wk hl pd pm cu ct dt hlt pdt pt (nI (k + 1)) th at9 sz) SC PN V B LN PR PA VD DV Z P SC2 PN2 LN2 PR2 PA2 VD2 DV2 Z2 P2 PX G1 G2 := by rw [eh5]; exact M7.so _
          have h5_c := mcc M.c M_h5.c
          exact v_vret g z rfl (by decide +kernel) ⟨rfl, PX, G1, G2, M_h5, hpre.1, fun l hl => (hpre.2 l hl).trans (pjn_all (fun l _ => decide_eq_true_iff) (fun l _ => decide_eq_true_iff))⟩ (zcrn 0 0 h5_c.1 h5_c.2 (Nat.le_of_ble_eq_true rfl) (Nat.le_of_ble_eq_true rfl))
        · intro i hi ih g7 PX M7 hpre
          have g7_c := mcc M.c M7.c
          obtain ⟨x, hx, px, ex⟩ := fb_ct_kth (p := (pP PL k)) hi
          have gx := E1 x hx px
          rw [ex] at gx
          refine v_blk g [.iload 5, .iload_n 3] (pc' := 72) (lv' := [(5, .int (nI i)), (0, .ref m), (1, .int (nI k)), (3, .int (nI (fb_ct (pP PL k) 16384))), (4, .int (nI (fb_ct (pP PL (k + 1)) 16384)))]) (st' := [.int (nI (fb_ct (pP PL k) 16384)), .int (nI i)]) (by decide +kernel) rfl rfl ?_
          refine v_icmp_ge g (off := 70) (tgt := 142) (by decide +kernel) (by decide) (fun c => absurd c (nI_ge hi (by omega))) (fun _ => ?_)
          refine v_blk g [.iconst 0, .istore 6] (pc' := 78) (lv' := [(6, .int (0 : Int32)), (5, .int (nI i)), (0, .ref m), (1, .int (nI k)), (3, .int (nI (fb_ct (pP PL k) 16384))), (4, .int (nI (fb_ct (pP PL (k + 1)) 16384)))]) (st' := []) (by decide +kernel) rfl rfl ?_
          have keyi : ∀ c, c ≤ (fb_ct (pP PL (k + 1)) 16384) → ∀ g8 : zH, ∀ (PX : Nat → Int32), MC h0 g8 m R (oM R tp fk fp cn ha un dm wk hl pd pm cu ct dt hlt pdt pt (nI (k + 2)) th at9 sz) SC PN V B LN PR PA VD DV Z P SC2 PN2 LN2 PR2 PA2 VD2 DV2 Z2 P2 PX G1 G2 → ((∀ j, j < 16384 * k → PX j = PL j) ∧ ∀ l, l < 16384 → (¬ PX (16384 * k + l) = 0 ↔ pjn (pP PL k) (pP PL (k + 1)) i c l)) → zV F X g8 78 [(6, .int (nI c)), (5, .int (nI i)), (0, .ref m), (1, .int (nI k)), (3, .int (nI (fb_ct (pP PL k) 16384))), (4, .int (nI (fb_ct (pP PL (k + 1)) 16384)))] [] := by
            refine z_up (P := fun c => ∀ g8 : zH, ∀ (PX : Nat → Int32), MC h0 g8 m R (oM R tp fk fp cn ha un dm wk hl pd pm cu ct dt hlt pdt pt (nI (k + 2)) th at9 sz) SC PN V B LN PR PA VD DV Z P SC2 PN2 LN2 PR2 PA2 VD2 DV2 Z2 P2 PX G1 G2 → ((∀ j, j < 16384 * k → PX j = PL j) ∧ ∀ l, l < 16384 → (¬ PX (16384 * k + l) = 0 ↔ pjn (pP PL k) (pP PL (k + 1)) i c l)) → zV F X g8 78 [(6, .int (nI c)), (5, .int (nI i)), (0, .ref m), (1, .int (nI k)), (3, .int (nI (fb_ct (pP PL k) 16384))), (4, .int (nI (fb_ct (pP PL (k + 1)) 16384)))] []) (fb_ct (pP PL (k + 1)) 16384) ?_ ?_
            · intro g8 PX M8 hq
              have g8_c := mcc M.c M8.c
              refine v_blk g [.iload 6, .iload 4] (pc' := 82) (lv' := [(6, .int (nI (fb_ct (pP PL (k + 1)) 16384))), (5, .int (nI i)), (0, .ref m), (1, .int (nI k)), (3, .int (nI (fb_ct (pP PL k) 16384))), (4, .int (nI (fb_ct (pP PL (k + 1)) 16384)))]) (st' := [.int (nI (fb_ct (pP PL (k + 1)) 16384)), .int (nI (fb_ct (pP PL (k + 1)) 16384))]) (by decide +kernel) rfl rfl ?_
              refine v_icmp_ge g (off := 54) (tgt := 136) (by decide +kernel) (by decide) (fun _ => ?_) (fun c => absurd c (fun q => q (nI_le (Nat.le_refl _) (by omega))))
              refine v_blk g [.iinc 5 1] (pc' := 139) (lv' := [(5, .int ((nI i) + (1 : Int32))), (6, .int (nI (fb_ct (pP PL (k + 1)) 16384))), (0, .ref m), (1, .int (nI k)), (3, .int (nI (fb_ct (pP PL k) 16384))), (4, .int (nI (fb_ct (pP PL (k + 1)) 16384)))]) (st' := []) (by decide +kernel) rfl rfl ?_
              refine v_goto g (off := -70) (tgt := 69) (by decide +kernel) (by decide) ?_
              refine v_lv [0, 2, 3, 4, 5] (lv' := [(5, .int ((nI i) + (1 : Int32))), (0, .ref m), (1, .int (nI k)), (3, .int (nI (fb_ct (pP PL k) 16384))), (4, .int (nI (fb_ct (pP PL (k + 1)) 16384)))]) rfl ?_
              exact v_eq (by rw [nI_1]) rfl (ih _ _ M8 ⟨hq.1, fun l hl => (hq.2 l hl).trans pjn_row⟩)
            · intro c hc ihc g8 PX M8 hq
              have g8_c := mcc M.c M8.c
              obtain ⟨y, hy, py, ey⟩ := fb_ct_kth (p := (pP PL (k + 1))) hc
              have gy := E2 y hy py
              rw [ey] at gy
              refine v_blk g [.iload 6, .iload 4] (pc' := 82) (lv' := [(6, .int (nI c)), (5, .int (nI i)), (0, .ref m), (1, .int (nI k)), (3, .int (nI (fb_ct (pP PL k) 16384))), (4, .int (nI (fb_ct (pP PL (k + 1)) 16384)))]) (st' := [.int (nI (fb_ct (pP PL (k + 1)) 16384)), .int (nI c)]) (by decide +kernel) rfl rfl ?_
              refine v_icmp_ge g (off := 54) (tgt := 136) (by decide +kernel) (by decide) (fun c => absurd c (nI_ge hc (by omega))) (fun _ => ?_)
              refine v_blk g [.aload_n 0] (pc' := 86) (lv' := [(6, .int (nI c)), (5, .int (nI i)), (0, .ref m), (1, .int (nI k)), (3, .int (nI (fb_ct (pP PL k) 16384))), (4, .int (nI (fb_ct (pP PL (k + 1)) 16384)))]) (st' := [.ref m]) (by decide +kernel) rfl rfl ?_
              refine v_get g M8.o fl_X8_83 rfl (by decide +kernel) ?_
              refine v_blk g [.iload 5] (pc' := 91) (lv' := [(6, .int (nI c)), (5, .int (nI i)), (0, .ref m), (1, .int (nI k)), (3, .int (nI (fb_ct (pP PL k) 16384))), (4, .int (nI (fb_ct (pP PL (k + 1)) 16384)))]) (st' := [.int (nI i), .ref (R 21)]) (by decide +kernel) rfl rfl ?_
              refine v_iald g M8.k21 i rfl (by omega) (Nat.le_of_ble_eq_true rfl) (by decide +kernel) ?_
              refine v_ti (z := nI x) (gx) ?_
              refine v_blk g [.aload_n 0] (pc' := 93) (lv' := [(6, .int (nI c)), (5, .int (nI i)), (0, .ref m), (1, .int (nI k)), (3, .int (nI (fb_ct (pP PL k) 16384))), (4, .int (nI (fb_ct (pP PL (k + 1)) 16384)))]) (st' := [.ref m, .int (nI x)]) (by decide +kernel) rfl rfl ?_
              refine v_get g M8.o fl_X8_86 rfl (by decide +kernel) ?_
              refine v_blk g [.iload 6] (pc' := 98) (lv' := [(6, .int (nI c)), (5, .int (nI i)), (0, .ref m), (1, .int (nI k)), (3, .int (nI (fb_ct (pP PL k) 16384))), (4, .int (nI (fb_ct (pP PL (k + 1)) 16384)))]) (st' := [.int (nI c), .ref (R 22), .int (nI x)]) (by decide +kernel) rfl rfl ?_
              refine v_iald g M8.k22 c rfl (by omega) (Nat.le_of_ble_eq_true rfl) (by decide +kernel) ?_
              refine v_ti (z := nI y) (gy) ?_
              refine v_blk g [.iand] (pc' := 100) (lv' := [(6, .int (nI c)), (5, .int (nI i)), (0, .ref m), (1, .int (nI k)), (3, .int (nI (fb_ct (pP PL k) 16384))), (4, .int (nI (fb_ct (pP PL (k + 1)) 16384)))]) (st' := [.int ((nI x) &&& (nI y))]) (by decide +kernel) rfl rfl ?_
              refine v_if_ne g (off := 30) (tgt := 130) (by decide +kernel) (by decide) (fun c9 => ?_) (fun c9 => ?_)
              · have cz : ¬ y &&& x = 0 := fun e => c9 (by rw [fa_and, Nat.and_comm, e]; rfl)
                refine v_blk g [.iinc 6 1] (pc' := 133) (lv' := [(6, .int ((nI c) + (1 : Int32))), (5, .int (nI i)), (0, .ref m), (1, .int (nI k)), (3, .int (nI (fb_ct (pP PL k) 16384))), (4, .int (nI (fb_ct (pP PL (k + 1)) 16384)))]) (st' := []) (by decide +kernel) rfl rfl ?_
                refine v_goto g (off := -55) (tgt := 78) (by decide +kernel) (by decide) ?_
                refine v_lv [0, 1, 2, 3, 4, 5] (lv' := [(6, .int ((nI c) + (1 : Int32))), (5, .int (nI i)), (0, .ref m), (1, .int (nI k)), (3, .int (nI (fb_ct (pP PL k) 16384))), (4, .int (nI (fb_ct (pP PL (k + 1)) 16384)))]) rfl ?_
                exact v_eq (by rw [nI_1]) rfl (ihc _ _ M8 ⟨hq.1, fun l hl => (hq.2 l hl).trans ((pjn_step hx hy px py ex ey).trans (or_iff_left (fun e => cz e.1))).symm⟩)
              · have cz : y &&& x = 0 := by rw [fa_and] at c9; rw [Nat.and_comm]; exact (nI_eq (a := x &&& y) (b := 0) (by have := Nat.and_le_left (n := x) (m := y); omega) (by decide)).mp c9
                have xy : x ||| y < 16384 := Nat.or_lt_two_pow (n := 14) hx hy
                refine v_blk g [.aload_n 0] (pc' := 104) (lv' := [(6, .int (nI c)), (5, .int (nI i)), (0, .ref m), (1, .int (nI k)), (3, .int (nI (fb_ct (pP PL k) 16384))), (4, .int (nI (fb_ct (pP PL (k + 1)) 16384)))]) (st' := [.ref m]) (by decide +kernel) rfl rfl ?_
                refine v_get g M8.o fl_X8_80 rfl (by decide +kernel) ?_
                refine v_blk g [.sipush 16384, .iload_n 1, .imul, .aload_n 0] (pc' := 113) (lv' := [(6, .int (nI c)), (5, .int (nI i)), (0, .ref m), (1, .int (nI k)), (3, .int (nI (fb_ct (pP PL k) 16384))), (4, .int (nI (fb_ct (pP PL (k + 1)) 16384)))]) (st' := [.ref m, .int ((16384 : Int32) * (nI k)), .ref (R 20)]) (by decide +kernel) rfl rfl ?_
                refine v_get g M8.o fl_X8_83 rfl (by decide +kernel) ?_
                refine v_blk g [.iload 5] (pc' := 118) (lv' := [(6, .int (nI c)), (5, .int (nI i)), (0, .ref m), (1, .int (nI k)), (3, .int (nI (fb_ct (pP PL k) 16384))), (4, .int (nI (fb_ct (pP PL (k + 1)) 16384)))]) (st' := [.int (nI i), .ref (R 21), .int ((16384 : Int32) * (nI k)), .ref (R 20)]) (by decide +kernel) rfl rfl ?_
                refine v_iald g M8.k21 i rfl (by omega) (Nat.le_of_ble_eq_true rfl) (by decide +kernel) ?_
                refine v_ti (z := nI x) (gx) ?_
                refine v_blk g [.aload_n 0] (pc' := 120) (lv' := [(6, .int (nI c)), (5, .int (nI i)), (0, .ref m), (1, .int (nI k)), (3, .int (nI (fb_ct (pP PL k) 16384))), (4, .int (nI (fb_ct (pP PL (k + 1)) 16384)))]) (st' := [.ref m, .int (nI x), .int ((16384 : Int32) * (nI k)), .ref (R 20)]) (by decide +kernel) rfl rfl ?_
                refine v_get g M8.o fl_X8_86 rfl (by decide +kernel) ?_
                refine v_blk g [.iload 6] (pc' := 125) (lv' := [(6, .int (nI c)), (5, .int (nI i)), (0, .ref m), (1, .int (nI k)), (3, .int (nI (fb_ct (pP PL k) 16384))), (4, .int (nI (fb_ct (pP PL (k + 1)) 16384)))]) (st' := [.int (nI c), .ref (R 22), .int (nI x), .int ((16384 : Int32) * (nI k)), .ref (R 20)]) (by decide +kernel) rfl rfl ?_
                refine v_iald g M8.k22 c rfl (by omega) (Nat.le_of_ble_eq_true rfl) (by decide +kernel) ?_
                refine v_ti (z := nI y) (gy) ?_
                refine v_blk g [.ior, .iadd] (pc' := 128) (lv' := [(6, .int (nI c)), (5, .int (nI i)), (0, .ref m), (1, .int (nI k)), (3, .int (nI (fb_ct (pP PL k) 16384))), (4, .int (nI (fb_ct (pP PL (k + 1)) 16384)))]) (st' := [.int (((16384 : Int32) * (nI k)) + ((nI x) ||| (nI y))), .ref (R 20)]) (by decide +kernel) rfl rfl ?_
                refine v_ti (z := nI (16384 * k + (x ||| y))) (by rw [fa_or, show (16384 : Int32) = nI 16384 from rfl, pk_mul, nI_add]) ?_
                refine v_blk g [.iconst 1] (pc' := 129) (lv' := [(6, .int (nI c)), (5, .int (nI i)), (0, .ref m), (1, .int (nI k)), (3, .int (nI (fb_ct (pP PL k) 16384))), (4, .int (nI (fb_ct (pP PL (k + 1)) 16384)))]) (st' := [.int (1 : Int32), .int (nI (16384 * k + (x ||| y))), .ref (R 20)]) (by decide +kernel) rfl rfl ?_
                refine v_zast g M8.k20 (Or.inr rfl) (16384 * k + (x ||| y)) rfl (by omega) (Nat.le_of_ble_eq_true rfl) (by decide +kernel) ?_
                refine v_h (fun h7 eh7 => ?_)
                have M_h7 : MC h0 h7 m R (oM R tp fk fp cn ha un dm wk hl pd pm cu ct dt hlt pdt pt (nI (k + 2)) th at9 sz) SC PN V B LN PR PA VD DV Z P SC2 PN2 LN2 PR2 PA2 VD2 DV2 Z2 P2 (upd PX (16384 * k + (x ||| y)) (1 : Int32)) G1 G2 := by rw [eh7]; exact M8.s20 _
                have h7_c := mcc M.c M_h7.c
                refine v_blk g [.iinc 6 1] (pc' := 133) (lv' := [(6, .int ((nI c) + (1 : Int32))), (5, .int (nI i)), (0, .ref m), (1, .int (nI k)), (3, .int (nI (fb_ct (pP PL k) 16384))), (4, .int (nI (fb_ct (pP PL (k + 1)) 16384)))]) (st' := []) (by decide +kernel) rfl rfl ?_
                refine v_goto g (off := -55) (tgt := 78) (by decide +kernel) (by decide) ?_
                refine v_lv [0, 1, 2, 3, 4, 5] (lv' := [(6, .int ((nI c) + (1 : Int32))), (5, .int (nI i)), (0, .ref m), (1, .int (nI k)), (3, .int (nI (fb_ct (pP PL k) 16384))), (4, .int (nI (fb_ct (pP PL (k + 1)) 16384)))]) rfl ?_
                refine v_eq (by rw [nI_1]) rfl (ihc _ _ M_h7 ⟨fun j hj => by rw [pk_un (by omega)]; exact hq.1 j hj, fun l hl => ?_⟩)
                rw [pjn_step hx hy px py ex ey]
                by_cases el : l = x ||| y
                · subst el; rw [pk_us]; exact ⟨fun _ => Or.inr ⟨cz, Nat.or_comm y x⟩, fun _ => by decide⟩
                · rw [pk_un (by omega), hq.2 l hl]; exact (or_iff_left (fun e => el (by rw [← e.2, Nat.or_comm]))).symm
          exact keyi 0 (by omega) _ _ M7 hpre
      exact keyo 0 (by omega) _ _ M9 ⟨fun j hj => fb_put_out (Or.inl hj), fun l hl => by rw [fb_put_in (by omega) (by omega)]; exact ⟨fun e => absurd rfl e, fun e => absurd e pjn_0⟩⟩
    · intro i hi ih g9 M9
      have g9_c := mcc M.c M9.c
      refine v_blk g [.iload 5, .sipush 16384] (pc' := 43) (lv' := [(5, .int (nI i)), (0, .ref m), (1, .int (nI k)), (3, .int (nI (fb_ct (pP PL k) 16384))), (4, .int (nI (fb_ct (pP PL (k + 1)) 16384)))]) (st' := [.int (16384 : Int32), .int (nI i)]) (by decide +kernel) rfl rfl ?_
      refine v_icmp_ge g (off := 23) (tgt := 66) (by decide +kernel) (by decide) (fun c => absurd c (nI_ge (b := 16384) hi (by decide))) (fun _ => ?_)
      refine v_blk g [.aload_n 0] (pc' := 47) (lv' := [(5, .int (nI i)), (0, .ref m), (1, .int (nI k)), (3, .int (nI (fb_ct (pP PL k) 16384))), (4, .int (nI (fb_ct (pP PL (k + 1)) 16384)))]) (st' := [.ref m]) (by decide +kernel) rfl rfl ?_
      refine v_get g M9.o fl_X8_80 rfl (by decide +kernel) ?_
      refine v_blk g [.sipush 16384, .iload_n 1, .imul, .iload 5, .iadd, .iconst 0] (pc' := 59) (lv' := [(5, .int (nI i)), (0, .ref m), (1, .int (nI k)), (3, .int (nI (fb_ct (pP PL k) 16384))), (4, .int (nI (fb_ct (pP PL (k + 1)) 16384)))]) (st' := [.int (0 : Int32), .int (((16384 : Int32) * (nI k)) + (nI i)), .ref (R 20)]) (by decide +kernel) rfl rfl ?_
      refine v_zast g M9.k20 (Or.inl rfl) (16384 * k + i) (by rw [show (16384 : Int32) = nI 16384 from rfl, pk_mul, nI_add]) (by omega) (Nat.le_of_ble_eq_true rfl) (by decide +kernel) ?_
      refine v_h (fun h6 eh6 => ?_)
      have M_h6 : MC h0 h6 m R (oM R tp fk fp cn ha un dm wk hl pd pm cu ct dt hlt pdt pt (nI (k + 2)) th at9 sz) SC PN V B LN PR PA VD DV Z P SC2 PN2 LN2 PR2 PA2 VD2 DV2 Z2 P2 (upd (fb_put PL (fun _ => 0) (16384 * k) i) (16384 * k + i) (0 : Int32)) G1 G2 := by rw [eh6]; exact M9.s20 _
      have h6_c := mcc M.c M_h6.c
      refine v_blk g [.iinc 5 1] (pc' := 63) (lv' := [(5, .int ((nI i) + (1 : Int32))), (0, .ref m), (1, .int (nI k)), (3, .int (nI (fb_ct (pP PL k) 16384))), (4, .int (nI (fb_ct (pP PL (k + 1)) 16384)))]) (st' := []) (by decide +kernel) rfl rfl ?_
      refine v_goto g (off := -25) (tgt := 38) (by decide +kernel) (by decide) ?_
      refine v_lv [0, 1, 2, 3, 4] (lv' := [(5, .int ((nI i) + (1 : Int32))), (0, .ref m), (1, .int (nI k)), (3, .int (nI (fb_ct (pP PL k) 16384))), (4, .int (nI (fb_ct (pP PL (k + 1)) 16384)))]) rfl ?_
      exact v_eq (by rw [nI_1]) rfl (ih _ (by rw [← fb_put_succ]; exact M_h6))
  exact key 0 (by omega) _ (by rw [fb_put_0]; exact M2)
