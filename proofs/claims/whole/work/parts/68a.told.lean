/-! told: the class's answer, its throw, the law's catch -/
def told8 (K : Int32 × Int32 × Int32 × Int32) (S : Nat → Bool) (w : Int32) : Int32 := if w = 0 then K.1 else if w = 1 then K.1 * K.2.1 else if w = 2 then (if K.2.2.2 = 0 then 0 else 1) else if w = 3 then K.2.1 else if w = 4 then K.2.2.1 else if w = 5 then nI (s_or S 16384) else nI (s_an S 16384)

set_option maxRecDepth 100000 in
set_option maxHeartbeats 4000000 in
theorem p_toldY {F : zF} {h : zH} {Ω : Nat → Prop} {Q : Nat → Nat} {cu ha un : Int32} {n : Nat} {B : Nat → Int32} {hg at9 fk fp : Int32} {sp : Option Nat} {G : Nat → Option Nat} {T : Nat → zS} {wf lf hf : Nat → Int32} {ff : Nat → Int64} {V : Nat → Int32} {wk : Int32} {hm pm : Int64} {O : Nat → Int32} {C : Nat → Option Nat} {ch : Nat} {D : Nat → Option Nat} {dh : Nat} {E : Nat → zD} {Z : Nat → Int64} {P : Nat → Int32} {ph : Nat} {ca cl cw : Nat → Nat} {K : Nat → Int32 × Int32 × Int32 × Int32} {cf : Nat → Nat → Int64} {wk2 : Int32} {hm2 pm2 : Int64} {O2 : Nat → Int32} {C2 : Nat → Option Nat} {ch2 : Nat} {D2 : Nat → Option Nat} {dh2 : Nat} {E2 : Nat → zD} {Z2 : Nat → Int64} {P2 : Nat → Int32} {ph2 : Nat} {ca2 cl2 cw2 : Nat → Nat} {K2 : Nat → Int32 × Int32 × Int32 × Int32} {cf2 : Nat → Nat → Int64} (W : PC h (Ω) Q cu ha un n B hg at9 fk fp sp G T wf lf hf ff V wk hm pm O C ch D dh E Z P ph ca cl cw K cf wk2 hm2 pm2 O2 C2 ch2 D2 dh2 E2 Z2 P2 ph2 ca2 cl2 cw2 K2 cf2) (hch : ch ≤ 20) (v x : Int32) (hC : ¬ x_C ch v = 0) (hX : ¬ x_isIn x 0 6 = 0) : zMet F yX7_told cX7_told 4 (some .int) { frames := 4, cells := 0, slots := 0, locals := 120 } [.ref (Q 0), .int v, .int x] h (zP h (some (.int (told8 (K v.toNatClampNeg) (lb (cf v.toNatClampNeg)) x)))) := by
  refine zMet_of (lv := [(0, .ref (Q 0)), (1, .int v), (2, .int x)]) (by decide) (by simp [lg_sl, Value.category]) rfl ?_
  intro X g z
  obtain ⟨x0, t1, t2, r3, r4, sp9, gg, ls, lsd, s5, s6, s7, s8, s9, v30, bn, be, kn, ke, hQ⟩ := id W
  obtain ⟨b0, b1, b2, b3, b4, b5, bD, bE, bC⟩ := id bn
  obtain ⟨kn1, kn2, kn3, kn4, kn5, kn6⟩ := id kn
  refine v_blk g [.aload_n 0] (pc' := 1) (lv' := [(0, .ref (Q 0)), (1, .int v), (2, .int x)]) (st' := [.ref (Q 0)]) (by decide +kernel) rfl rfl ?_
  refine v_get g x0.1 fl_X7_35 rfl (by decide +kernel) ?_
  refine v_blk g [.iload_n 1] (pc' := 5) (lv' := [(0, .ref (Q 0)), (1, .int v), (2, .int x)]) (st' := [.int v, .ref (Q 10)]) (by decide +kernel) rfl rfl ?_
  refine v_callVp g (rest := []) (c_Bk_couponAt b0.1 b2.1 hch v) cl_X7_108 b0.1 rfl rfl (Nat.le_of_ble_eq_true rfl) (by decide +kernel) ⟨Nat.le_of_ble_eq_true rfl, Nat.le_of_ble_eq_true rfl⟩ (zcsn 0 0 rfl rfl (Nat.le_of_ble_eq_true rfl) (Nat.le_of_ble_eq_true rfl)) ?_
  show zV F X h 8 [(0, .ref (Q 0)), (1, .int v), (2, .int x)] [va_rf (x_at C ch v)]
  by_cases c0 : x_C ch v = 0
  · refine v_st (st' := [.null]) (by rw [show x_at C ch v = none from x_at_no c0]; rfl) ?_
    exact absurd c0 hC
  · obtain ⟨k, hk, rfl⟩ := x_C_k (by omega) c0
    have ek : (nI k).toNatClampNeg = k := nI_clamp (by omega)
    refine v_st (st' := [.ref (ca k)]) (by rw [show x_at C ch (nI k) = some (ca k) from (x_at_in hk (by omega)).trans (kn1 k hk)]; rfl) ?_
    refine v_blk g [.astore_n 3, .aload_n 3] (pc' := 10) (lv' := [(3, .ref (ca k)), (0, .ref (Q 0)), (1, .int (nI k)), (2, .int x)]) (st' := [.ref (ca k)]) (by decide +kernel) rfl rfl ?_
    refine v_ifnonnull g (r := (some (ca k))) (off := 13) (tgt := 23) (by decide +kernel) (by decide) (fun _ _ => ?_) (fun q => nomatch q)
    refine v_blk g [.iload_n 2] (pc' := 24) (lv' := [(3, .ref (ca k)), (0, .ref (Q 0)), (1, .int (nI k)), (2, .int x)]) (st' := [.int x]) (by decide +kernel) rfl rfl ?_
    obtain ⟨j, hj, rfl⟩ := isIn_k (N := 6) (by decide) hX
    have hj7 : j = 0 ∨ j = 1 ∨ j = 2 ∨ j = 3 ∨ j = 4 ∨ j = 5 ∨ j = 6 := by omega
    rcases hj7 with rfl | rfl | rfl | rfl | rfl | rfl | rfl
    · refine v_tabI g 0 (dflt := 93) (lo := 0) (hi := 6) (offs := #[44, 49, 54, 67, 72, 77, 85]) (len := 44) (off := 44) (tgt := 68) (by decide +kernel) (by decide) (by decide) rfl (by decide) ?_
      refine v_blk g [.aload_n 3] (pc' := 69) (lv' := [(3, .ref (ca k)), (0, .ref (Q 0)), (1, .int (nI k)), (2, .int (nI 0))]) (st' := [.ref (ca k)]) (by decide +kernel) rfl rfl ?_
      refine v_get g (kn2 k hk).1 fl_X7_122 rfl (by decide +kernel) ?_
      exact v_iret g z rfl (by decide +kernel) ⟨by rw [ek]; rfl, rfl⟩ (zcrn 0 0 rfl rfl (Nat.le_of_ble_eq_true rfl) (Nat.le_of_ble_eq_true rfl))
    · refine v_tabI g 1 (dflt := 93) (lo := 0) (hi := 6) (offs := #[44, 49, 54, 67, 72, 77, 85]) (len := 44) (off := 49) (tgt := 73) (by decide +kernel) (by decide) (by decide) rfl (by decide) ?_
      refine v_blk g [.aload_n 3] (pc' := 74) (lv' := [(3, .ref (ca k)), (0, .ref (Q 0)), (1, .int (nI k)), (2, .int (nI 1))]) (st' := [.ref (ca k)]) (by decide +kernel) rfl rfl ?_
      refine v_callVp g (rest := []) (c_Cou_stake (kn2 k hk).1) cl_X7_125 (kn2 k hk).1 rfl rfl (Nat.le_of_ble_eq_true rfl) (by decide +kernel) ⟨Nat.le_of_ble_eq_true rfl, Nat.le_of_ble_eq_true rfl⟩ (zcsn 0 0 rfl rfl (Nat.le_of_ble_eq_true rfl) (Nat.le_of_ble_eq_true rfl)) ?_
      show zV F X h 77 [(3, .ref (ca k)), (0, .ref (Q 0)), (1, .int (nI k)), (2, .int (nI 1))] [.int ((K k).1 * (K k).2.1)]
      exact v_iret g z rfl (by decide +kernel) ⟨by rw [ek]; rfl, rfl⟩ (zcrn 0 0 rfl rfl (Nat.le_of_ble_eq_true rfl) (Nat.le_of_ble_eq_true rfl))
    · refine v_tabI g 2 (dflt := 93) (lo := 0) (hi := 6) (offs := #[44, 49, 54, 67, 72, 77, 85]) (len := 44) (off := 54) (tgt := 78) (by decide +kernel) (by decide) (by decide) rfl (by decide) ?_
      refine v_blk g [.aload_n 3] (pc' := 79) (lv' := [(3, .ref (ca k)), (0, .ref (Q 0)), (1, .int (nI k)), (2, .int (nI 2))]) (st' := [.ref (ca k)]) (by decide +kernel) rfl rfl ?_
      refine v_get g (kn2 k hk).1 fl_X7_112 rfl (by decide +kernel) ?_
      refine v_if_eq g (off := 7) (tgt := 89) (by decide +kernel) (by decide) (fun c5 => ?_) (fun c5 => ?_)
      · refine v_blk g [.iconst 0] (pc' := 90) (lv' := [(3, .ref (ca k)), (0, .ref (Q 0)), (1, .int (nI k)), (2, .int (nI 2))]) (st' := [.int (0 : Int32)]) (by decide +kernel) rfl rfl ?_
        exact v_iret g z rfl (by decide +kernel) ⟨by rw [ek, told8, if_neg (by decide), if_neg (by decide), if_pos (show nI 2 = 2 from rfl), if_pos c5], rfl⟩ (zcrn 0 0 rfl rfl (Nat.le_of_ble_eq_true rfl) (Nat.le_of_ble_eq_true rfl))
      · refine v_blk g [.iconst 1] (pc' := 86) (lv' := [(3, .ref (ca k)), (0, .ref (Q 0)), (1, .int (nI k)), (2, .int (nI 2))]) (st' := [.int (1 : Int32)]) (by decide +kernel) rfl rfl ?_
        refine v_goto g (off := 4) (tgt := 90) (by decide +kernel) (by decide) ?_
        exact v_iret g z rfl (by decide +kernel) ⟨by rw [ek, told8, if_neg (by decide), if_neg (by decide), if_pos (show nI 2 = 2 from rfl), if_neg c5], rfl⟩ (zcrn 0 0 rfl rfl (Nat.le_of_ble_eq_true rfl) (Nat.le_of_ble_eq_true rfl))
    · refine v_tabI g 3 (dflt := 93) (lo := 0) (hi := 6) (offs := #[44, 49, 54, 67, 72, 77, 85]) (len := 44) (off := 67) (tgt := 91) (by decide +kernel) (by decide) (by decide) rfl (by decide) ?_
      refine v_blk g [.aload_n 3] (pc' := 92) (lv' := [(3, .ref (ca k)), (0, .ref (Q 0)), (1, .int (nI k)), (2, .int (nI 3))]) (st' := [.ref (ca k)]) (by decide +kernel) rfl rfl ?_
      refine v_get g (kn2 k hk).1 fl_X7_129 rfl (by decide +kernel) ?_
      exact v_iret g z rfl (by decide +kernel) ⟨by rw [ek]; rfl, rfl⟩ (zcrn 0 0 rfl rfl (Nat.le_of_ble_eq_true rfl) (Nat.le_of_ble_eq_true rfl))
    · refine v_tabI g 4 (dflt := 93) (lo := 0) (hi := 6) (offs := #[44, 49, 54, 67, 72, 77, 85]) (len := 44) (off := 72) (tgt := 96) (by decide +kernel) (by decide) (by decide) rfl (by decide) ?_
      refine v_blk g [.aload_n 3] (pc' := 97) (lv' := [(3, .ref (ca k)), (0, .ref (Q 0)), (1, .int (nI k)), (2, .int (nI 4))]) (st' := [.ref (ca k)]) (by decide +kernel) rfl rfl ?_
      refine v_get g (kn2 k hk).1 fl_X7_132 rfl (by decide +kernel) ?_
      exact v_iret g z rfl (by decide +kernel) ⟨by rw [ek]; rfl, rfl⟩ (zcrn 0 0 rfl rfl (Nat.le_of_ble_eq_true rfl) (Nat.le_of_ble_eq_true rfl))
    · refine v_tabI g 5 (dflt := 93) (lo := 0) (hi := 6) (offs := #[44, 49, 54, 67, 72, 77, 85]) (len := 44) (off := 77) (tgt := 101) (by decide +kernel) (by decide) (by decide) rfl (by decide) ?_
      refine v_blk g [.aload_n 3] (pc' := 102) (lv' := [(3, .ref (ca k)), (0, .ref (Q 0)), (1, .int (nI k)), (2, .int (nI 5))]) (st' := [.ref (ca k)]) (by decide +kernel) rfl rfl ?_
      refine v_get g (kn2 k hk).1 fl_X7_135 rfl (by decide +kernel) ?_
      refine v_callVp g (rest := []) (c_LS_some (kn3 k hk).1 (kn4 k hk).1) cl_X7_139 (kn3 k hk).1 rfl rfl (Nat.le_of_ble_eq_true rfl) (by decide +kernel) ⟨Nat.le_of_ble_eq_true rfl, Nat.le_of_ble_eq_true rfl⟩ (zcsn 0 0 rfl rfl (Nat.le_of_ble_eq_true rfl) (Nat.le_of_ble_eq_true rfl)) ?_
      show zV F X h 108 [(3, .ref (ca k)), (0, .ref (Q 0)), (1, .int (nI k)), (2, .int (nI 5))] [.int (nI (s_or (lb (cf k)) 16384))]
      exact v_iret g z rfl (by decide +kernel) ⟨by rw [ek]; rfl, rfl⟩ (zcrn 0 0 rfl rfl (Nat.le_of_ble_eq_true rfl) (Nat.le_of_ble_eq_true rfl))
    · refine v_tabI g 6 (dflt := 93) (lo := 0) (hi := 6) (offs := #[44, 49, 54, 67, 72, 77, 85]) (len := 44) (off := 85) (tgt := 109) (by decide +kernel) (by decide) (by decide) rfl (by decide) ?_
      refine v_blk g [.aload_n 3] (pc' := 110) (lv' := [(3, .ref (ca k)), (0, .ref (Q 0)), (1, .int (nI k)), (2, .int (nI 6))]) (st' := [.ref (ca k)]) (by decide +kernel) rfl rfl ?_
      refine v_get g (kn2 k hk).1 fl_X7_135 rfl (by decide +kernel) ?_
      refine v_callVp g (rest := []) (c_LS_all (kn3 k hk).1 (kn4 k hk).1) cl_X7_144 (kn3 k hk).1 rfl rfl (Nat.le_of_ble_eq_true rfl) (by decide +kernel) ⟨Nat.le_of_ble_eq_true rfl, Nat.le_of_ble_eq_true rfl⟩ (zcsn 0 0 rfl rfl (Nat.le_of_ble_eq_true rfl) (Nat.le_of_ble_eq_true rfl)) ?_
      show zV F X h 116 [(3, .ref (ca k)), (0, .ref (Q 0)), (1, .int (nI k)), (2, .int (nI 6))] [.int (nI (s_an (lb (cf k)) 16384))]
      exact v_iret g z rfl (by decide +kernel) ⟨by rw [ek]; rfl, rfl⟩ (zcrn 0 0 rfl rfl (Nat.le_of_ble_eq_true rfl) (Nat.le_of_ble_eq_true rfl))

theorem isIn_r {x : Int32} (h : 0 ≤ x.toInt ∧ x.toInt ≤ 6) : ¬ x_isIn x 0 6 = 0 := isIn_p.mpr ⟨(fa_le 0 x).mpr h.1, (fa_le x 6).mpr h.2⟩

set_option maxRecDepth 100000 in
set_option maxHeartbeats 4000000 in
theorem p_toldN {F : zF} {h : zH} {Ω : Nat → Prop} {Q : Nat → Nat} {cu ha un : Int32} {n : Nat} {B : Nat → Int32} {hg at9 fk fp : Int32} {sp : Option Nat} {G : Nat → Option Nat} {T : Nat → zS} {wf lf hf : Nat → Int32} {ff : Nat → Int64} {V : Nat → Int32} {wk : Int32} {hm pm : Int64} {O : Nat → Int32} {C : Nat → Option Nat} {ch : Nat} {D : Nat → Option Nat} {dh : Nat} {E : Nat → zD} {Z : Nat → Int64} {P : Nat → Int32} {ph : Nat} {ca cl cw : Nat → Nat} {K : Nat → Int32 × Int32 × Int32 × Int32} {cf : Nat → Nat → Int64} {wk2 : Int32} {hm2 pm2 : Int64} {O2 : Nat → Int32} {C2 : Nat → Option Nat} {ch2 : Nat} {D2 : Nat → Option Nat} {dh2 : Nat} {E2 : Nat → zD} {Z2 : Nat → Int64} {P2 : Nat → Int32} {ph2 : Nat} {ca2 cl2 cw2 : Nat → Nat} {K2 : Nat → Int32 × Int32 × Int32 × Int32} {cf2 : Nat → Nat → Int64} (W : PC h (Ω) Q cu ha un n B hg at9 fk fp sp G T wf lf hf ff V wk hm pm O C ch D dh E Z P ph ca cl cw K cf wk2 hm2 pm2 O2 C2 ch2 D2 dh2 E2 Z2 P2 ph2 ca2 cl2 cw2 K2 cf2) (hch : ch ≤ 20) (hl : F.1.stackTraces = false) (v x : Int32) (hB : ¬ (¬ x_C ch v = 0 ∧ ¬ x_isIn x 0 6 = 0)) : zMetX F yX7_told cX7_told 4 (some .int) { frames := 8, cells := 1, slots := 6, locals := 300 } [.ref (Q 0), .int v, .int x] h (fun _ _ => False) := by
  refine zMetX_of (lv := [(0, .ref (Q 0)), (1, .int v), (2, .int x)]) (by decide) (by simp [lg_sl, Value.category]) rfl ?_
  intro X g gx z
  obtain ⟨x0, t1, t2, r3, r4, sp9, gg, ls, lsd, s5, s6, s7, s8, s9, v30, bn, be, kn, ke, hQ⟩ := id W
  obtain ⟨b0, b1, b2, b3, b4, b5, bD, bE, bC⟩ := id bn
  obtain ⟨kn1, kn2, kn3, kn4, kn5, kn6⟩ := id kn
  refine v_blk g [.aload_n 0] (pc' := 1) (lv' := [(0, .ref (Q 0)), (1, .int v), (2, .int x)]) (st' := [.ref (Q 0)]) (by decide +kernel) rfl rfl ?_
  refine v_get g x0.1 fl_X7_35 rfl (by decide +kernel) ?_
  refine v_blk g [.iload_n 1] (pc' := 5) (lv' := [(0, .ref (Q 0)), (1, .int v), (2, .int x)]) (st' := [.int v, .ref (Q 10)]) (by decide +kernel) rfl rfl ?_
  refine v_callVp g (rest := []) (c_Bk_couponAt b0.1 b2.1 hch v) cl_X7_108 b0.1 rfl rfl (Nat.le_of_ble_eq_true rfl) (by decide +kernel) ⟨Nat.le_of_ble_eq_true rfl, Nat.le_of_ble_eq_true rfl⟩ (zcsn 0 0 rfl rfl (Nat.le_of_ble_eq_true rfl) (Nat.le_of_ble_eq_true rfl)) ?_
  show zV F X h 8 [(0, .ref (Q 0)), (1, .int v), (2, .int x)] [va_rf (x_at C ch v)]
  by_cases c0 : x_C ch v = 0
  · refine v_st (st' := [.null]) (by rw [show x_at C ch v = none from x_at_no c0]; rfl) ?_
    refine v_blk g [.astore_n 3, .aload_n 3] (pc' := 10) (lv' := [(3, .null), (0, .ref (Q 0)), (1, .int v), (2, .int x)]) (st' := [.null]) (by decide +kernel) rfl rfl ?_
    refine v_ifnonnull g (r := none) (off := 13) (tgt := 23) (by decide +kernel) (by decide) (fun _ q => nomatch q) (fun _ => ?_)
    exact v_throwN g gx z rfl hl (zi 726 (by decide +kernel) (by decide +kernel)) (zi 69 (by decide +kernel) (by decide +kernel)) (is := 117) (fun _ _ q => q.2.2.1) (by decide +kernel) (by decide +kernel) (by decide +kernel) (by decide +kernel) (by decide +kernel) (by decide) (by decide)
  · obtain ⟨k, hk, rfl⟩ := x_C_k (by omega) c0
    have ek : (nI k).toNatClampNeg = k := nI_clamp (by omega)
    refine v_st (st' := [.ref (ca k)]) (by rw [show x_at C ch (nI k) = some (ca k) from (x_at_in hk (by omega)).trans (kn1 k hk)]; rfl) ?_
    refine v_blk g [.astore_n 3, .aload_n 3] (pc' := 10) (lv' := [(3, .ref (ca k)), (0, .ref (Q 0)), (1, .int (nI k)), (2, .int x)]) (st' := [.ref (ca k)]) (by decide +kernel) rfl rfl ?_
    refine v_ifnonnull g (r := (some (ca k))) (off := 13) (tgt := 23) (by decide +kernel) (by decide) (fun _ _ => ?_) (fun q => nomatch q)
    refine v_blk g [.iload_n 2] (pc' := 24) (lv' := [(3, .ref (ca k)), (0, .ref (Q 0)), (1, .int (nI k)), (2, .int x)]) (st' := [.int x]) (by decide +kernel) rfl rfl ?_
    have hx6 : x.toInt < 0 ∨ 6 < x.toInt := Classical.byContradiction (fun q => hB ⟨c0, isIn_r (by omega)⟩)
    refine v_tabO g (dflt := 93) (lo := 0) (hi := 6) (offs := #[44, 49, 54, 67, 72, 77, 85]) (len := 44) (tgt := 117) (by decide +kernel) hx6 (by decide) ?_
    exact v_throwN g gx z rfl hl (zi 726 (by decide +kernel) (by decide +kernel)) (zi 69 (by decide +kernel) (by decide +kernel)) (is := 147) (fun _ _ q => q.2.2.2) (by decide +kernel) (by decide +kernel) (by decide +kernel) (by decide +kernel) (by decide +kernel) (by decide) (by decide)
