/-! the class: matches, tape, coupons' questions -/
theorem x_at_no {C : Nat → Option Nat} {n : Nat} {v : Int32} (h : x_C n v = 0) : x_at C n v = none := by
  unfold x_C at h
  unfold x_at
  by_cases c : v < 0
  · rw [if_pos c]
  · rw [if_neg c] at h ⊢
    by_cases c2 : nI n ≤ v
    · rw [if_pos c2]
    · rw [if_neg c2] at h; exact absurd h (by decide)

set_option maxRecDepth 100000 in
set_option maxHeartbeats 4000000 in
theorem p_score {F : zF} {h : zH} {Ω : Nat → Prop} {Q : Nat → Nat} {cu ha un : Int32} {n : Nat} {B : Nat → Int32} {hg at9 fk fp : Int32} {sp : Option Nat} {G : Nat → Option Nat} {T : Nat → zS} {wf lf hf : Nat → Int32} {ff : Nat → Int64} {V : Nat → Int32} {wk : Int32} {hm pm : Int64} {O : Nat → Int32} {C : Nat → Option Nat} {ch : Nat} {D : Nat → Option Nat} {dh : Nat} {E : Nat → zD} {Z : Nat → Int64} {P : Nat → Int32} {ph : Nat} {ca cl cw : Nat → Nat} {K : Nat → Int32 × Int32 × Int32 × Int32} {cf : Nat → Nat → Int64} {wk2 : Int32} {hm2 pm2 : Int64} {O2 : Nat → Int32} {C2 : Nat → Option Nat} {ch2 : Nat} {D2 : Nat → Option Nat} {dh2 : Nat} {E2 : Nat → zD} {Z2 : Nat → Int64} {P2 : Nat → Int32} {ph2 : Nat} {ca2 cl2 cw2 : Nat → Nat} {K2 : Nat → Int32 × Int32 × Int32 × Int32} {cf2 : Nat → Nat → Int64} (W : PC h (Ω) Q cu ha un n B hg at9 fk fp sp G T wf lf hf ff V wk hm pm O C ch D dh E Z P ph ca cl cw K cf wk2 hm2 pm2 O2 C2 ch2 D2 dh2 E2 Z2 P2 ph2 ca2 cl2 cw2 K2 cf2) (mt ho aw : Int32) : zMet F yX7_score cX7_score 4 (some .boolean) { frames := 2, cells := 0, slots := 0, locals := 60 } [.ref (Q 0), .int mt, .int ho, .int aw] h (zP (if okS mt ho aw then z_s h (Q (10 + 1)) (aI 14 (upd O mt.toNatClampNeg (x_goals ho aw))) else h) (some (.int (if okS mt ho aw then 1 else 0)))) := by
  refine zMet_of (lv := [(0, .ref (Q 0)), (1, .int mt), (2, .int ho), (3, .int aw)]) (by decide) (by simp [lg_sl, Value.category]) rfl ?_
  intro X g z
  obtain ⟨x0, t1, t2, r3, r4, sp9, gg, ls, lsd, s5, s6, s7, s8, s9, v30, bn, be, kn, ke, hQ⟩ := id W
  obtain ⟨b0, b1, b2, b3, b4, b5, bD, bE, bC⟩ := id bn
  obtain ⟨kn1, kn2, kn3, kn4, kn5, kn6⟩ := id kn
  refine v_blk g [.iload_n 1, .iconst 0, .bipush 13] (pc' := 4) (lv' := [(0, .ref (Q 0)), (1, .int mt), (2, .int ho), (3, .int aw)]) (st' := [.int (13 : Int32), .int (0 : Int32), .int mt]) (by decide +kernel) rfl rfl ?_
  refine v_callSp g (rest := []) (c_isIn _ _ _) cl_X7_57 rfl (Nat.le_of_ble_eq_true rfl) (by decide +kernel) ⟨Nat.le_of_ble_eq_true rfl, Nat.le_of_ble_eq_true rfl⟩ (zcsn 0 0 rfl rfl (Nat.le_of_ble_eq_true rfl) (Nat.le_of_ble_eq_true rfl)) ?_
  show zV F X h 7 [(0, .ref (Q 0)), (1, .int mt), (2, .int ho), (3, .int aw)] [.int (x_isIn mt (0) (13))]
  refine v_if_eq g (off := 23) (tgt := 30) (by decide +kernel) (by decide) (fun c0 => ?_) (fun c0 => ?_)
  · refine v_blk g [.iconst 0] (pc' := 31) (lv' := [(0, .ref (Q 0)), (1, .int mt), (2, .int ho), (3, .int aw)]) (st' := [.int (0 : Int32)]) (by decide +kernel) rfl rfl ?_
    exact v_zret g z rfl (by decide) (by decide +kernel) ⟨by rw [if_neg (fun q => q.1 c0)], by rw [if_neg (fun q => q.1 c0)]⟩ (zcrn 0 0 rfl rfl (Nat.le_of_ble_eq_true rfl) (Nat.le_of_ble_eq_true rfl))
  · refine v_blk g [.iload_n 2, .iconst 0, .bipush 20] (pc' := 14) (lv' := [(0, .ref (Q 0)), (1, .int mt), (2, .int ho), (3, .int aw)]) (st' := [.int (20 : Int32), .int (0 : Int32), .int ho]) (by decide +kernel) rfl rfl ?_
    refine v_callSp g (rest := []) (c_isIn _ _ _) cl_X7_57 rfl (Nat.le_of_ble_eq_true rfl) (by decide +kernel) ⟨Nat.le_of_ble_eq_true rfl, Nat.le_of_ble_eq_true rfl⟩ (zcsn 0 0 rfl rfl (Nat.le_of_ble_eq_true rfl) (Nat.le_of_ble_eq_true rfl)) ?_
    show zV F X h 17 [(0, .ref (Q 0)), (1, .int mt), (2, .int ho), (3, .int aw)] [.int (x_isIn ho (0) (20))]
    refine v_if_eq g (off := 13) (tgt := 30) (by decide +kernel) (by decide) (fun c1 => ?_) (fun c1 => ?_)
    · refine v_blk g [.iconst 0] (pc' := 31) (lv' := [(0, .ref (Q 0)), (1, .int mt), (2, .int ho), (3, .int aw)]) (st' := [.int (0 : Int32)]) (by decide +kernel) rfl rfl ?_
      exact v_zret g z rfl (by decide) (by decide +kernel) ⟨by rw [if_neg (fun q => q.2.1 c1)], by rw [if_neg (fun q => q.2.1 c1)]⟩ (zcrn 0 0 rfl rfl (Nat.le_of_ble_eq_true rfl) (Nat.le_of_ble_eq_true rfl))
    · refine v_blk g [.iload_n 3, .iconst 0, .bipush 20] (pc' := 24) (lv' := [(0, .ref (Q 0)), (1, .int mt), (2, .int ho), (3, .int aw)]) (st' := [.int (20 : Int32), .int (0 : Int32), .int aw]) (by decide +kernel) rfl rfl ?_
      refine v_callSp g (rest := []) (c_isIn _ _ _) cl_X7_57 rfl (Nat.le_of_ble_eq_true rfl) (by decide +kernel) ⟨Nat.le_of_ble_eq_true rfl, Nat.le_of_ble_eq_true rfl⟩ (zcsn 0 0 rfl rfl (Nat.le_of_ble_eq_true rfl) (Nat.le_of_ble_eq_true rfl)) ?_
      show zV F X h 27 [(0, .ref (Q 0)), (1, .int mt), (2, .int ho), (3, .int aw)] [.int (x_isIn aw (0) (20))]
      refine v_if_ne g (off := 5) (tgt := 32) (by decide +kernel) (by decide) (fun c2 => ?_) (fun c2 => ?_)
      · obtain ⟨k, hk, rfl⟩ := isIn_k (N := 13) (by decide) c0
        have ek : (nI k).toNatClampNeg = k := nI_clamp (by omega)
        refine v_blk g [.aload_n 0] (pc' := 33) (lv' := [(0, .ref (Q 0)), (1, .int (nI k)), (2, .int ho), (3, .int aw)]) (st' := [.ref (Q 0)]) (by decide +kernel) rfl rfl ?_
        refine v_get g x0.1 fl_X7_35 rfl (by decide +kernel) ?_
        refine v_get g b0.1 fl_X7_61 rfl (by decide +kernel) ?_
        refine v_blk g [.iload_n 1, .iload_n 2, .iload_n 3] (pc' := 42) (lv' := [(0, .ref (Q 0)), (1, .int (nI k)), (2, .int ho), (3, .int aw)]) (st' := [.int aw, .int ho, .int (nI k), .ref (Q (10 + 1))]) (by decide +kernel) rfl rfl ?_
        refine v_callSp g (rest := [.int (nI k), .ref (Q (10 + 1))]) (c_goals _ _) cl_X7_64 rfl (Nat.le_of_ble_eq_true rfl) (by decide +kernel) ⟨Nat.le_of_ble_eq_true rfl, Nat.le_of_ble_eq_true rfl⟩ (zcsn 0 0 rfl rfl (Nat.le_of_ble_eq_true rfl) (Nat.le_of_ble_eq_true rfl)) ?_
        show zV F X h 45 [(0, .ref (Q 0)), (1, .int (nI k)), (2, .int ho), (3, .int aw)] [.int (x_goals ho aw), .int (nI k), .ref (Q (10 + 1))]
        refine v_iast g b1.1 k rfl (by omega) (Nat.le_of_ble_eq_true rfl) (by decide +kernel) ?_
        refine v_h (fun h1 eh1 => ?_)
        have h1_c : h1.2.1 = h.2.1 + 0 ∧ h1.2.2 = h.2.2 + 0 := zcs eh1 ⟨rfl, rfl⟩
        have h1_Q0 : h1.1 (Q 0) = some (oB 7 [.ref (Q 1), .ref (Q 3), .ref (Q 5), .ref (Q 10), .ref (Q 20), .ref (Q 30), .int cu, .int ha, .int un]) := by rw [eh1]; exact z_so x0.1 (hQ 0 (10 + 1) (by decide) (by decide) (by decide))
        have h1_Q10 : h1.1 (Q 10) = some (oB 0 [.int wk, .long hm, .long pm, .ref (Q (10 + 1)), .ref (Q (10 + 2)), .int (nI ch), .ref (Q (10 + 3)), .int (nI dh), .ref (Q (10 + 4)), .ref (Q (10 + 5)), .int (nI ph)]) := by rw [eh1]; exact z_so b0.1 (hQ 10 (10 + 1) (by decide) (by decide) (by decide))
        have h1_Q101 : h1.1 (Q (10 + 1)) = some (aI 14 (upd O k (x_goals ho aw))) := by rw [eh1]; exact z_s_self _ _ _
        refine v_blk g [.iconst 1] (pc' := 47) (lv' := [(0, .ref (Q 0)), (1, .int (nI k)), (2, .int ho), (3, .int aw)]) (st' := [.int (1 : Int32)]) (by decide +kernel) rfl rfl ?_
        exact v_zret g z rfl (by decide) (by decide +kernel) ⟨by rw [if_pos ⟨c0, c1, c2⟩], by rw [if_pos ⟨c0, c1, c2⟩, eh1, ek]⟩ (zcrn 0 0 h1_c.1 h1_c.2 (Nat.le_of_ble_eq_true rfl) (Nat.le_of_ble_eq_true rfl))
      · refine v_blk g [.iconst 0] (pc' := 31) (lv' := [(0, .ref (Q 0)), (1, .int mt), (2, .int ho), (3, .int aw)]) (st' := [.int (0 : Int32)]) (by decide +kernel) rfl rfl ?_
        exact v_zret g z rfl (by decide) (by decide +kernel) ⟨by rw [if_neg (fun q => q.2.2 c2)], by rw [if_neg (fun q => q.2.2 c2)]⟩ (zcrn 0 0 rfl rfl (Nat.le_of_ble_eq_true rfl) (Nat.le_of_ble_eq_true rfl))

set_option maxRecDepth 100000 in
set_option maxHeartbeats 4000000 in
theorem p_panel {F : zF} {h : zH} {Ω : Nat → Prop} {Q : Nat → Nat} {cu ha un : Int32} {n : Nat} {B : Nat → Int32} {hg at9 fk fp : Int32} {sp : Option Nat} {G : Nat → Option Nat} {T : Nat → zS} {wf lf hf : Nat → Int32} {ff : Nat → Int64} {V : Nat → Int32} {wk : Int32} {hm pm : Int64} {O : Nat → Int32} {C : Nat → Option Nat} {ch : Nat} {D : Nat → Option Nat} {dh : Nat} {E : Nat → zD} {Z : Nat → Int64} {P : Nat → Int32} {ph : Nat} {ca cl cw : Nat → Nat} {K : Nat → Int32 × Int32 × Int32 × Int32} {cf : Nat → Nat → Int64} {wk2 : Int32} {hm2 pm2 : Int64} {O2 : Nat → Int32} {C2 : Nat → Option Nat} {ch2 : Nat} {D2 : Nat → Option Nat} {dh2 : Nat} {E2 : Nat → zD} {Z2 : Nat → Int64} {P2 : Nat → Int32} {ph2 : Nat} {ca2 cl2 cw2 : Nat → Nat} {K2 : Nat → Int32 × Int32 × Int32 × Int32} {cf2 : Nat → Nat → Int64} (W : PC h (Ω) Q cu ha un n B hg at9 fk fp sp G T wf lf hf ff V wk hm pm O C ch D dh E Z P ph ca cl cw K cf wk2 hm2 pm2 O2 C2 ch2 D2 dh2 E2 Z2 P2 ph2 ca2 cl2 cw2 K2 cf2) (mt o : Int32) : zMet F yX7_panel cX7_panel 3 (some .boolean) { frames := 2, cells := 0, slots := 0, locals := 60 } [.ref (Q 0), .int mt, .int o] h (zP (if okP mt o then z_s h (Q (10 + 1)) (aI 14 (upd O mt.toNatClampNeg o)) else h) (some (.int (if okP mt o then 1 else 0)))) := by
  refine zMet_of (lv := [(0, .ref (Q 0)), (1, .int mt), (2, .int o)]) (by decide) (by simp [lg_sl, Value.category]) rfl ?_
  intro X g z
  obtain ⟨x0, t1, t2, r3, r4, sp9, gg, ls, lsd, s5, s6, s7, s8, s9, v30, bn, be, kn, ke, hQ⟩ := id W
  obtain ⟨b0, b1, b2, b3, b4, b5, bD, bE, bC⟩ := id bn
  obtain ⟨kn1, kn2, kn3, kn4, kn5, kn6⟩ := id kn
  refine v_blk g [.iload_n 1, .iconst 0, .bipush 13] (pc' := 4) (lv' := [(0, .ref (Q 0)), (1, .int mt), (2, .int o)]) (st' := [.int (13 : Int32), .int (0 : Int32), .int mt]) (by decide +kernel) rfl rfl ?_
  refine v_callSp g (rest := []) (c_isIn _ _ _) cl_X7_57 rfl (Nat.le_of_ble_eq_true rfl) (by decide +kernel) ⟨Nat.le_of_ble_eq_true rfl, Nat.le_of_ble_eq_true rfl⟩ (zcsn 0 0 rfl rfl (Nat.le_of_ble_eq_true rfl) (Nat.le_of_ble_eq_true rfl)) ?_
  show zV F X h 7 [(0, .ref (Q 0)), (1, .int mt), (2, .int o)] [.int (x_isIn mt (0) (13))]
  refine v_if_eq g (off := 12) (tgt := 19) (by decide +kernel) (by decide) (fun c0 => ?_) (fun c0 => ?_)
  · refine v_blk g [.iconst 0] (pc' := 20) (lv' := [(0, .ref (Q 0)), (1, .int mt), (2, .int o)]) (st' := [.int (0 : Int32)]) (by decide +kernel) rfl rfl ?_
    exact v_zret g z rfl (by decide) (by decide +kernel) ⟨by rw [if_neg (fun q => q.1 c0)], by rw [if_neg (fun q => q.1 c0)]⟩ (zcrn 0 0 rfl rfl (Nat.le_of_ble_eq_true rfl) (Nat.le_of_ble_eq_true rfl))
  · refine v_blk g [.iload_n 2, .iconst (-1), .iconst 3] (pc' := 13) (lv' := [(0, .ref (Q 0)), (1, .int mt), (2, .int o)]) (st' := [.int (3 : Int32), .int (-1 : Int32), .int o]) (by decide +kernel) rfl rfl ?_
    refine v_callSp g (rest := []) (c_isIn _ _ _) cl_X7_57 rfl (Nat.le_of_ble_eq_true rfl) (by decide +kernel) ⟨Nat.le_of_ble_eq_true rfl, Nat.le_of_ble_eq_true rfl⟩ (zcsn 0 0 rfl rfl (Nat.le_of_ble_eq_true rfl) (Nat.le_of_ble_eq_true rfl)) ?_
    show zV F X h 16 [(0, .ref (Q 0)), (1, .int mt), (2, .int o)] [.int (x_isIn o (-1) (3))]
    refine v_if_ne g (off := 5) (tgt := 21) (by decide +kernel) (by decide) (fun c1 => ?_) (fun c1 => ?_)
    · obtain ⟨k, hk, rfl⟩ := isIn_k (N := 13) (by decide) c0
      have ek : (nI k).toNatClampNeg = k := nI_clamp (by omega)
      refine v_blk g [.aload_n 0] (pc' := 22) (lv' := [(0, .ref (Q 0)), (1, .int (nI k)), (2, .int o)]) (st' := [.ref (Q 0)]) (by decide +kernel) rfl rfl ?_
      refine v_get g x0.1 fl_X7_35 rfl (by decide +kernel) ?_
      refine v_get g b0.1 fl_X7_61 rfl (by decide +kernel) ?_
      refine v_blk g [.iload_n 1, .iload_n 2] (pc' := 30) (lv' := [(0, .ref (Q 0)), (1, .int (nI k)), (2, .int o)]) (st' := [.int o, .int (nI k), .ref (Q (10 + 1))]) (by decide +kernel) rfl rfl ?_
      refine v_iast g b1.1 k rfl (by omega) (Nat.le_of_ble_eq_true rfl) (by decide +kernel) ?_
      refine v_h (fun h1 eh1 => ?_)
      have h1_c : h1.2.1 = h.2.1 + 0 ∧ h1.2.2 = h.2.2 + 0 := zcs eh1 ⟨rfl, rfl⟩
      have h1_Q0 : h1.1 (Q 0) = some (oB 7 [.ref (Q 1), .ref (Q 3), .ref (Q 5), .ref (Q 10), .ref (Q 20), .ref (Q 30), .int cu, .int ha, .int un]) := by rw [eh1]; exact z_so x0.1 (hQ 0 (10 + 1) (by decide) (by decide) (by decide))
      have h1_Q10 : h1.1 (Q 10) = some (oB 0 [.int wk, .long hm, .long pm, .ref (Q (10 + 1)), .ref (Q (10 + 2)), .int (nI ch), .ref (Q (10 + 3)), .int (nI dh), .ref (Q (10 + 4)), .ref (Q (10 + 5)), .int (nI ph)]) := by rw [eh1]; exact z_so b0.1 (hQ 10 (10 + 1) (by decide) (by decide) (by decide))
      have h1_Q101 : h1.1 (Q (10 + 1)) = some (aI 14 (upd O k o)) := by rw [eh1]; exact z_s_self _ _ _
      refine v_blk g [.iconst 1] (pc' := 32) (lv' := [(0, .ref (Q 0)), (1, .int (nI k)), (2, .int o)]) (st' := [.int (1 : Int32)]) (by decide +kernel) rfl rfl ?_
      exact v_zret g z rfl (by decide) (by decide +kernel) ⟨by rw [if_pos ⟨c0, c1⟩], by rw [if_pos ⟨c0, c1⟩, eh1, ek]⟩ (zcrn 0 0 h1_c.1 h1_c.2 (Nat.le_of_ble_eq_true rfl) (Nat.le_of_ble_eq_true rfl))
    · refine v_blk g [.iconst 0] (pc' := 20) (lv' := [(0, .ref (Q 0)), (1, .int mt), (2, .int o)]) (st' := [.int (0 : Int32)]) (by decide +kernel) rfl rfl ?_
      exact v_zret g z rfl (by decide) (by decide +kernel) ⟨by rw [if_neg (fun q => q.2 c1)], by rw [if_neg (fun q => q.2 c1)]⟩ (zcrn 0 0 rfl rfl (Nat.le_of_ble_eq_true rfl) (Nat.le_of_ble_eq_true rfl))

set_option maxRecDepth 100000 in
set_option maxHeartbeats 4000000 in
theorem p_outcome {F : zF} {h : zH} {Ω : Nat → Prop} {Q : Nat → Nat} {cu ha un : Int32} {n : Nat} {B : Nat → Int32} {hg at9 fk fp : Int32} {sp : Option Nat} {G : Nat → Option Nat} {T : Nat → zS} {wf lf hf : Nat → Int32} {ff : Nat → Int64} {V : Nat → Int32} {wk : Int32} {hm pm : Int64} {O : Nat → Int32} {C : Nat → Option Nat} {ch : Nat} {D : Nat → Option Nat} {dh : Nat} {E : Nat → zD} {Z : Nat → Int64} {P : Nat → Int32} {ph : Nat} {ca cl cw : Nat → Nat} {K : Nat → Int32 × Int32 × Int32 × Int32} {cf : Nat → Nat → Int64} {wk2 : Int32} {hm2 pm2 : Int64} {O2 : Nat → Int32} {C2 : Nat → Option Nat} {ch2 : Nat} {D2 : Nat → Option Nat} {dh2 : Nat} {E2 : Nat → zD} {Z2 : Nat → Int64} {P2 : Nat → Int32} {ph2 : Nat} {ca2 cl2 cw2 : Nat → Nat} {K2 : Nat → Int32 × Int32 × Int32 × Int32} {cf2 : Nat → Nat → Int64} (W : PC h (Ω) Q cu ha un n B hg at9 fk fp sp G T wf lf hf ff V wk hm pm O C ch D dh E Z P ph ca cl cw K cf wk2 hm2 pm2 O2 C2 ch2 D2 dh2 E2 Z2 P2 ph2 ca2 cl2 cw2 K2 cf2) (mt : Int32) : zMet F yX7_outcome cX7_outcome 2 (some .int) { frames := 2, cells := 0, slots := 0, locals := 60 } [.ref (Q 0), .int mt] h (zP h (some (.int (if x_isIn mt 0 13 = 0 then -1 else O mt.toNatClampNeg)))) := by
  refine zMet_of (lv := [(0, .ref (Q 0)), (1, .int mt)]) (by decide) (by simp [lg_sl, Value.category]) rfl ?_
  intro X g z
  obtain ⟨x0, t1, t2, r3, r4, sp9, gg, ls, lsd, s5, s6, s7, s8, s9, v30, bn, be, kn, ke, hQ⟩ := id W
  obtain ⟨b0, b1, b2, b3, b4, b5, bD, bE, bC⟩ := id bn
  obtain ⟨kn1, kn2, kn3, kn4, kn5, kn6⟩ := id kn
  refine v_blk g [.iload_n 1, .iconst 0, .bipush 13] (pc' := 4) (lv' := [(0, .ref (Q 0)), (1, .int mt)]) (st' := [.int (13 : Int32), .int (0 : Int32), .int mt]) (by decide +kernel) rfl rfl ?_
  refine v_callSp g (rest := []) (c_isIn _ _ _) cl_X7_57 rfl (Nat.le_of_ble_eq_true rfl) (by decide +kernel) ⟨Nat.le_of_ble_eq_true rfl, Nat.le_of_ble_eq_true rfl⟩ (zcsn 0 0 rfl rfl (Nat.le_of_ble_eq_true rfl) (Nat.le_of_ble_eq_true rfl)) ?_
  show zV F X h 7 [(0, .ref (Q 0)), (1, .int mt)] [.int (x_isIn mt (0) (13))]
  refine v_if_eq g (off := 15) (tgt := 22) (by decide +kernel) (by decide) (fun c0 => ?_) (fun c0 => ?_)
  · refine v_blk g [.iconst (-1)] (pc' := 23) (lv' := [(0, .ref (Q 0)), (1, .int mt)]) (st' := [.int (-1 : Int32)]) (by decide +kernel) rfl rfl ?_
    exact v_iret g z rfl (by decide +kernel) ⟨by rw [if_pos c0], rfl⟩ (zcrn 0 0 rfl rfl (Nat.le_of_ble_eq_true rfl) (Nat.le_of_ble_eq_true rfl))
  · obtain ⟨k, hk, rfl⟩ := isIn_k (N := 13) (by decide) c0
    have ek : (nI k).toNatClampNeg = k := nI_clamp (by omega)
    refine v_blk g [.aload_n 0] (pc' := 11) (lv' := [(0, .ref (Q 0)), (1, .int (nI k))]) (st' := [.ref (Q 0)]) (by decide +kernel) rfl rfl ?_
    refine v_get g x0.1 fl_X7_35 rfl (by decide +kernel) ?_
    refine v_get g b0.1 fl_X7_61 rfl (by decide +kernel) ?_
    refine v_blk g [.iload_n 1] (pc' := 18) (lv' := [(0, .ref (Q 0)), (1, .int (nI k))]) (st' := [.int (nI k), .ref (Q (10 + 1))]) (by decide +kernel) rfl rfl ?_
    refine v_iald g b1.1 k rfl (by omega) (Nat.le_of_ble_eq_true rfl) (by decide +kernel) ?_
    refine v_goto g (off := 4) (tgt := 23) (by decide +kernel) (by decide) ?_
    exact v_iret g z rfl (by decide +kernel) ⟨by rw [if_neg c0, ek], rfl⟩ (zcrn 0 0 rfl rfl (Nat.le_of_ble_eq_true rfl) (Nat.le_of_ble_eq_true rfl))

set_option maxRecDepth 100000 in
set_option maxHeartbeats 4000000 in
theorem p_points {F : zF} {h : zH} {Ω : Nat → Prop} {Q : Nat → Nat} {cu ha un : Int32} {n : Nat} {B : Nat → Int32} {hg at9 fk fp : Int32} {sp : Option Nat} {G : Nat → Option Nat} {T : Nat → zS} {wf lf hf : Nat → Int32} {ff : Nat → Int64} {V : Nat → Int32} {wk : Int32} {hm pm : Int64} {O : Nat → Int32} {C : Nat → Option Nat} {ch : Nat} {D : Nat → Option Nat} {dh : Nat} {E : Nat → zD} {Z : Nat → Int64} {P : Nat → Int32} {ph : Nat} {ca cl cw : Nat → Nat} {K : Nat → Int32 × Int32 × Int32 × Int32} {cf : Nat → Nat → Int64} {wk2 : Int32} {hm2 pm2 : Int64} {O2 : Nat → Int32} {C2 : Nat → Option Nat} {ch2 : Nat} {D2 : Nat → Option Nat} {dh2 : Nat} {E2 : Nat → zD} {Z2 : Nat → Int64} {P2 : Nat → Int32} {ph2 : Nat} {ca2 cl2 cw2 : Nat → Nat} {K2 : Nat → Int32 × Int32 × Int32 × Int32} {cf2 : Nat → Nat → Int64} (W : PC h (Ω) Q cu ha un n B hg at9 fk fp sp G T wf lf hf ff V wk hm pm O C ch D dh E Z P ph ca cl cw K cf wk2 hm2 pm2 O2 C2 ch2 D2 dh2 E2 Z2 P2 ph2 ca2 cl2 cw2 K2 cf2) (mt o : Int32) : zMet F yX7_points cX7_points 3 (some .boolean) { frames := 2, cells := 0, slots := 0, locals := 60 } [.ref (Q 0), .int mt, .int o] h (zP (if okV mt o then z_s h (Q 30) (aI 4 (upd V mt.toNatClampNeg o)) else h) (some (.int (if okV mt o then 1 else 0)))) := by
  refine zMet_of (lv := [(0, .ref (Q 0)), (1, .int mt), (2, .int o)]) (by decide) (by simp [lg_sl, Value.category]) rfl ?_
  intro X g z
  obtain ⟨x0, t1, t2, r3, r4, sp9, gg, ls, lsd, s5, s6, s7, s8, s9, v30, bn, be, kn, ke, hQ⟩ := id W
  obtain ⟨b0, b1, b2, b3, b4, b5, bD, bE, bC⟩ := id bn
  obtain ⟨kn1, kn2, kn3, kn4, kn5, kn6⟩ := id kn
  refine v_blk g [.iload_n 1, .iconst 0, .iconst 3] (pc' := 3) (lv' := [(0, .ref (Q 0)), (1, .int mt), (2, .int o)]) (st' := [.int (3 : Int32), .int (0 : Int32), .int mt]) (by decide +kernel) rfl rfl ?_
  refine v_callSp g (rest := []) (c_isIn _ _ _) cl_X7_57 rfl (Nat.le_of_ble_eq_true rfl) (by decide +kernel) ⟨Nat.le_of_ble_eq_true rfl, Nat.le_of_ble_eq_true rfl⟩ (zcsn 0 0 rfl rfl (Nat.le_of_ble_eq_true rfl) (Nat.le_of_ble_eq_true rfl)) ?_
  show zV F X h 6 [(0, .ref (Q 0)), (1, .int mt), (2, .int o)] [.int (x_isIn mt (0) (3))]
  refine v_if_eq g (off := 13) (tgt := 19) (by decide +kernel) (by decide) (fun c0 => ?_) (fun c0 => ?_)
  · refine v_blk g [.iconst 0] (pc' := 20) (lv' := [(0, .ref (Q 0)), (1, .int mt), (2, .int o)]) (st' := [.int (0 : Int32)]) (by decide +kernel) rfl rfl ?_
    exact v_zret g z rfl (by decide) (by decide +kernel) ⟨by rw [if_neg (fun q => q.1 c0)], by rw [if_neg (fun q => q.1 c0)]⟩ (zcrn 0 0 rfl rfl (Nat.le_of_ble_eq_true rfl) (Nat.le_of_ble_eq_true rfl))
  · refine v_blk g [.iload_n 2, .iconst 0, .bipush 9] (pc' := 13) (lv' := [(0, .ref (Q 0)), (1, .int mt), (2, .int o)]) (st' := [.int (9 : Int32), .int (0 : Int32), .int o]) (by decide +kernel) rfl rfl ?_
    refine v_callSp g (rest := []) (c_isIn _ _ _) cl_X7_57 rfl (Nat.le_of_ble_eq_true rfl) (by decide +kernel) ⟨Nat.le_of_ble_eq_true rfl, Nat.le_of_ble_eq_true rfl⟩ (zcsn 0 0 rfl rfl (Nat.le_of_ble_eq_true rfl) (Nat.le_of_ble_eq_true rfl)) ?_
    show zV F X h 16 [(0, .ref (Q 0)), (1, .int mt), (2, .int o)] [.int (x_isIn o (0) (9))]
    refine v_if_ne g (off := 5) (tgt := 21) (by decide +kernel) (by decide) (fun c1 => ?_) (fun c1 => ?_)
    · obtain ⟨k, hk, rfl⟩ := isIn_k (N := 3) (by decide) c0
      have ek : (nI k).toNatClampNeg = k := nI_clamp (by omega)
      refine v_blk g [.aload_n 0] (pc' := 22) (lv' := [(0, .ref (Q 0)), (1, .int (nI k)), (2, .int o)]) (st' := [.ref (Q 0)]) (by decide +kernel) rfl rfl ?_
      refine v_get g x0.1 fl_X7_42 rfl (by decide +kernel) ?_
      refine v_blk g [.iload_n 1, .iload_n 2] (pc' := 27) (lv' := [(0, .ref (Q 0)), (1, .int (nI k)), (2, .int o)]) (st' := [.int o, .int (nI k), .ref (Q 30)]) (by decide +kernel) rfl rfl ?_
      refine v_iast g v30.1 k rfl (by omega) (Nat.le_of_ble_eq_true rfl) (by decide +kernel) ?_
      refine v_h (fun h1 eh1 => ?_)
      have h1_c : h1.2.1 = h.2.1 + 0 ∧ h1.2.2 = h.2.2 + 0 := zcs eh1 ⟨rfl, rfl⟩
      have h1_Q0 : h1.1 (Q 0) = some (oB 7 [.ref (Q 1), .ref (Q 3), .ref (Q 5), .ref (Q 10), .ref (Q 20), .ref (Q 30), .int cu, .int ha, .int un]) := by rw [eh1]; exact z_so x0.1 (hQ 0 30 (by decide) (by decide) (by decide))
      have h1_Q30 : h1.1 (Q 30) = some (aI 4 (upd V k o)) := by rw [eh1]; exact z_s_self _ _ _
      refine v_blk g [.iconst 1] (pc' := 29) (lv' := [(0, .ref (Q 0)), (1, .int (nI k)), (2, .int o)]) (st' := [.int (1 : Int32)]) (by decide +kernel) rfl rfl ?_
      exact v_zret g z rfl (by decide) (by decide +kernel) ⟨by rw [if_pos ⟨c0, c1⟩], by rw [if_pos ⟨c0, c1⟩, eh1, ek]⟩ (zcrn 0 0 h1_c.1 h1_c.2 (Nat.le_of_ble_eq_true rfl) (Nat.le_of_ble_eq_true rfl))
    · refine v_blk g [.iconst 0] (pc' := 20) (lv' := [(0, .ref (Q 0)), (1, .int mt), (2, .int o)]) (st' := [.int (0 : Int32)]) (by decide +kernel) rfl rfl ?_
      exact v_zret g z rfl (by decide) (by decide +kernel) ⟨by rw [if_neg (fun q => q.2 c1)], by rw [if_neg (fun q => q.2 c1)]⟩ (zcrn 0 0 rfl rfl (Nat.le_of_ble_eq_true rfl) (Nat.le_of_ble_eq_true rfl))

set_option maxRecDepth 100000 in
set_option maxHeartbeats 4000000 in
theorem p_feed {F : zF} {h : zH} {Ω : Nat → Prop} {Q : Nat → Nat} {cu ha un : Int32} {n : Nat} {B : Nat → Int32} {hg at9 fk fp : Int32} {sp : Option Nat} {G : Nat → Option Nat} {T : Nat → zS} {wf lf hf : Nat → Int32} {ff : Nat → Int64} {V : Nat → Int32} {wk : Int32} {hm pm : Int64} {O : Nat → Int32} {C : Nat → Option Nat} {ch : Nat} {D : Nat → Option Nat} {dh : Nat} {E : Nat → zD} {Z : Nat → Int64} {P : Nat → Int32} {ph : Nat} {ca cl cw : Nat → Nat} {K : Nat → Int32 × Int32 × Int32 × Int32} {cf : Nat → Nat → Int64} {wk2 : Int32} {hm2 pm2 : Int64} {O2 : Nat → Int32} {C2 : Nat → Option Nat} {ch2 : Nat} {D2 : Nat → Option Nat} {dh2 : Nat} {E2 : Nat → zD} {Z2 : Nat → Int64} {P2 : Nat → Int32} {ph2 : Nat} {ca2 cl2 cw2 : Nat → Nat} {K2 : Nat → Int32 × Int32 × Int32 × Int32} {cf2 : Nat → Nat → Int64} (W : PC h (Ω) Q cu ha un n B hg at9 fk fp sp G T wf lf hf ff V wk hm pm O C ch D dh E Z P ph ca cl cw K cf wk2 hm2 pm2 O2 C2 ch2 D2 dh2 E2 Z2 P2 ph2 ca2 cl2 cw2 K2 cf2) (a1 b9 c9 d9 e9 : Int32) (hn : n ≤ 200) : zMet F yX7_feed cX7_feed 6 (some .int) { frames := 2, cells := 0, slots := 0, locals := 60 } [.ref (Q 0), .int a1, .int b9, .int c9, .int d9, .int e9] h (zP (if n ≤ 180 then z_s (z_s h (Q 2) (aI 200 (ap20 B n a1 b9 c9 d9 e9))) (Q 1) (oB 6 [.ref (Q 2), .int (nI (n + 20))]) else h) (some (.int (if n ≤ 180 then nI (n + 20) else -1)))) := by
  refine zMet_of (lv := [(0, .ref (Q 0)), (1, .int a1), (2, .int b9), (3, .int c9), (4, .int d9), (5, .int e9)]) (by decide) (by simp [lg_sl, Value.category]) rfl ?_
  intro X g z
  obtain ⟨x0, t1, t2, r3, r4, sp9, gg, ls, lsd, s5, s6, s7, s8, s9, v30, bn, be, kn, ke, hQ⟩ := id W
  obtain ⟨b0, b1, b2, b3, b4, b5, bD, bE, bC⟩ := id bn
  obtain ⟨kn1, kn2, kn3, kn4, kn5, kn6⟩ := id kn
  refine v_blk g [.aload_n 0] (pc' := 1) (lv' := [(0, .ref (Q 0)), (1, .int a1), (2, .int b9), (3, .int c9), (4, .int d9), (5, .int e9)]) (st' := [.ref (Q 0)]) (by decide +kernel) rfl rfl ?_
  refine v_get g x0.1 fl_X7_10 rfl (by decide +kernel) ?_
  refine v_callVp g (rest := []) (c_Tape_room t1.1 t2.1) cl_X7_68 t1.1 rfl rfl (Nat.le_of_ble_eq_true rfl) (by decide +kernel) ⟨Nat.le_of_ble_eq_true rfl, Nat.le_of_ble_eq_true rfl⟩ (zcsn 0 0 rfl rfl (Nat.le_of_ble_eq_true rfl) (Nat.le_of_ble_eq_true rfl)) ?_
  show zV F X h 7 [(0, .ref (Q 0)), (1, .int a1), (2, .int b9), (3, .int c9), (4, .int d9), (5, .int e9)] [.int (if (180 : Int32) < nI n then 0 else 1)]
  have cq : ((180 : Int32) < nI n) ↔ ¬ n ≤ 180 := by rw [show (180 : Int32) = nI 180 from rfl, nI_lti (by decide) (by omega)]; omega
  refine v_if_ne g (off := 5) (tgt := 12) (by decide +kernel) (by decide) (fun c7 => ?_) (fun c7 => ?_)
  · have c0 : n ≤ 180 := Classical.byContradiction (fun q => c7 (by rw [if_pos (cq.mpr q)]))
    refine v_blk g [.aload_n 0] (pc' := 13) (lv' := [(0, .ref (Q 0)), (1, .int a1), (2, .int b9), (3, .int c9), (4, .int d9), (5, .int e9)]) (st' := [.ref (Q 0)]) (by decide +kernel) rfl rfl ?_
    refine v_get g x0.1 fl_X7_10 rfl (by decide +kernel) ?_
    refine v_blk g [.iload_n 1] (pc' := 17) (lv' := [(0, .ref (Q 0)), (1, .int a1), (2, .int b9), (3, .int c9), (4, .int d9), (5, .int e9)]) (st' := [.int a1, .ref (Q 1)]) (by decide +kernel) rfl rfl ?_
    refine v_callVp g (rest := []) (c_Tape_append (n := n) t1.1 t2.1 a1 (by omega)) cl_X7_72 t1.1 rfl rfl (Nat.le_of_ble_eq_true rfl) (by decide +kernel) ⟨Nat.le_of_ble_eq_true rfl, Nat.le_of_ble_eq_true rfl⟩ (zcsn 0 0 rfl rfl (Nat.le_of_ble_eq_true rfl) (Nat.le_of_ble_eq_true rfl)) ?_
    show zV F X (z_s (z_s h (Q 2) (aI 200 (ap4 B n a1))) (Q 1) (oB 6 [.ref (Q 2), .int (nI (n + 4))])) 20 [(0, .ref (Q 0)), (1, .int a1), (2, .int b9), (3, .int c9), (4, .int d9), (5, .int e9)] []
    refine v_h (fun g0 eg0 => ?_)
    have g0_t : g0.1 (Q 1) = some (oB 6 [.ref (Q 2), .int (nI (n + 4))]) := by rw [eg0]; exact z_s_self _ _ _
    have g0_b : g0.1 (Q 2) = some (aI 200 (ap4 B n a1)) := by rw [eg0]; exact z_so (z_s_self _ _ _) (z_ne t2.1 t1.1 rfl)
    have g0_x : g0.1 (Q 0) = some (oB 7 [.ref (Q 1), .ref (Q 3), .ref (Q 5), .ref (Q 10), .ref (Q 20), .ref (Q 30), .int cu, .int ha, .int un]) := by rw [eg0]; exact z_so (z_so x0.1 (z_ne x0.1 t2.1 rfl)) (z_ne x0.1 t1.1 rfl)
    have g0_c : g0.2.1 = h.2.1 + 0 ∧ g0.2.2 = h.2.2 + 0 := by rw [eg0]; exact (⟨rfl, rfl⟩ : _ ∧ _)
    refine v_blk g [.aload_n 0] (pc' := 21) (lv' := [(0, .ref (Q 0)), (1, .int a1), (2, .int b9), (3, .int c9), (4, .int d9), (5, .int e9)]) (st' := [.ref (Q 0)]) (by decide +kernel) rfl rfl ?_
    refine v_get g g0_x fl_X7_10 rfl (by decide +kernel) ?_
    refine v_blk g [.iload_n 2] (pc' := 25) (lv' := [(0, .ref (Q 0)), (1, .int a1), (2, .int b9), (3, .int c9), (4, .int d9), (5, .int e9)]) (st' := [.int b9, .ref (Q 1)]) (by decide +kernel) rfl rfl ?_
    refine v_callVp g (rest := []) (c_Tape_append (n := (n + 4)) g0_t g0_b b9 (by omega)) cl_X7_72 g0_t rfl rfl (Nat.le_of_ble_eq_true rfl) (by decide +kernel) ⟨Nat.le_of_ble_eq_true rfl, Nat.le_of_ble_eq_true rfl⟩ (zcsn 0 0 g0_c.1 g0_c.2 (Nat.le_of_ble_eq_true rfl) (Nat.le_of_ble_eq_true rfl)) ?_
    show zV F X (z_s (z_s g0 (Q 2) (aI 200 (ap4 (ap4 B n a1) (n + 4) b9))) (Q 1) (oB 6 [.ref (Q 2), .int (nI (n + 8))])) 28 [(0, .ref (Q 0)), (1, .int a1), (2, .int b9), (3, .int c9), (4, .int d9), (5, .int e9)] []
    refine v_h (fun g1 eg1 => ?_)
    have g1_t : g1.1 (Q 1) = some (oB 6 [.ref (Q 2), .int (nI (n + 8))]) := by rw [eg1]; exact z_s_self _ _ _
    have g1_b : g1.1 (Q 2) = some (aI 200 (ap4 (ap4 B n a1) (n + 4) b9)) := by rw [eg1]; exact z_so (z_s_self _ _ _) (z_ne t2.1 t1.1 rfl)
    have g1_x : g1.1 (Q 0) = some (oB 7 [.ref (Q 1), .ref (Q 3), .ref (Q 5), .ref (Q 10), .ref (Q 20), .ref (Q 30), .int cu, .int ha, .int un]) := by rw [eg1]; exact z_so (z_so g0_x (z_ne x0.1 t2.1 rfl)) (z_ne x0.1 t1.1 rfl)
    have g1_c : g1.2.1 = h.2.1 + 0 ∧ g1.2.2 = h.2.2 + 0 := by rw [eg1]; exact g0_c
    refine v_blk g [.aload_n 0] (pc' := 29) (lv' := [(0, .ref (Q 0)), (1, .int a1), (2, .int b9), (3, .int c9), (4, .int d9), (5, .int e9)]) (st' := [.ref (Q 0)]) (by decide +kernel) rfl rfl ?_
    refine v_get g g1_x fl_X7_10 rfl (by decide +kernel) ?_
    refine v_blk g [.iload_n 3] (pc' := 33) (lv' := [(0, .ref (Q 0)), (1, .int a1), (2, .int b9), (3, .int c9), (4, .int d9), (5, .int e9)]) (st' := [.int c9, .ref (Q 1)]) (by decide +kernel) rfl rfl ?_
    refine v_callVp g (rest := []) (c_Tape_append (n := (n + 8)) g1_t g1_b c9 (by omega)) cl_X7_72 g1_t rfl rfl (Nat.le_of_ble_eq_true rfl) (by decide +kernel) ⟨Nat.le_of_ble_eq_true rfl, Nat.le_of_ble_eq_true rfl⟩ (zcsn 0 0 g1_c.1 g1_c.2 (Nat.le_of_ble_eq_true rfl) (Nat.le_of_ble_eq_true rfl)) ?_
    show zV F X (z_s (z_s g1 (Q 2) (aI 200 (ap4 (ap4 (ap4 B n a1) (n + 4) b9) (n + 8) c9))) (Q 1) (oB 6 [.ref (Q 2), .int (nI (n + 12))])) 36 [(0, .ref (Q 0)), (1, .int a1), (2, .int b9), (3, .int c9), (4, .int d9), (5, .int e9)] []
    refine v_h (fun g2 eg2 => ?_)
    have g2_t : g2.1 (Q 1) = some (oB 6 [.ref (Q 2), .int (nI (n + 12))]) := by rw [eg2]; exact z_s_self _ _ _
    have g2_b : g2.1 (Q 2) = some (aI 200 (ap4 (ap4 (ap4 B n a1) (n + 4) b9) (n + 8) c9)) := by rw [eg2]; exact z_so (z_s_self _ _ _) (z_ne t2.1 t1.1 rfl)
    have g2_x : g2.1 (Q 0) = some (oB 7 [.ref (Q 1), .ref (Q 3), .ref (Q 5), .ref (Q 10), .ref (Q 20), .ref (Q 30), .int cu, .int ha, .int un]) := by rw [eg2]; exact z_so (z_so g1_x (z_ne x0.1 t2.1 rfl)) (z_ne x0.1 t1.1 rfl)
    have g2_c : g2.2.1 = h.2.1 + 0 ∧ g2.2.2 = h.2.2 + 0 := by rw [eg2]; exact g1_c
    refine v_blk g [.aload_n 0] (pc' := 37) (lv' := [(0, .ref (Q 0)), (1, .int a1), (2, .int b9), (3, .int c9), (4, .int d9), (5, .int e9)]) (st' := [.ref (Q 0)]) (by decide +kernel) rfl rfl ?_
    refine v_get g g2_x fl_X7_10 rfl (by decide +kernel) ?_
    refine v_blk g [.iload 4] (pc' := 42) (lv' := [(0, .ref (Q 0)), (1, .int a1), (2, .int b9), (3, .int c9), (4, .int d9), (5, .int e9)]) (st' := [.int d9, .ref (Q 1)]) (by decide +kernel) rfl rfl ?_
    refine v_callVp g (rest := []) (c_Tape_append (n := (n + 12)) g2_t g2_b d9 (by omega)) cl_X7_72 g2_t rfl rfl (Nat.le_of_ble_eq_true rfl) (by decide +kernel) ⟨Nat.le_of_ble_eq_true rfl, Nat.le_of_ble_eq_true rfl⟩ (zcsn 0 0 g2_c.1 g2_c.2 (Nat.le_of_ble_eq_true rfl) (Nat.le_of_ble_eq_true rfl)) ?_
    show zV F X (z_s (z_s g2 (Q 2) (aI 200 (ap4 (ap4 (ap4 (ap4 B n a1) (n + 4) b9) (n + 8) c9) (n + 12) d9))) (Q 1) (oB 6 [.ref (Q 2), .int (nI (n + 16))])) 45 [(0, .ref (Q 0)), (1, .int a1), (2, .int b9), (3, .int c9), (4, .int d9), (5, .int e9)] []
    refine v_h (fun g3 eg3 => ?_)
    have g3_t : g3.1 (Q 1) = some (oB 6 [.ref (Q 2), .int (nI (n + 16))]) := by rw [eg3]; exact z_s_self _ _ _
    have g3_b : g3.1 (Q 2) = some (aI 200 (ap4 (ap4 (ap4 (ap4 B n a1) (n + 4) b9) (n + 8) c9) (n + 12) d9)) := by rw [eg3]; exact z_so (z_s_self _ _ _) (z_ne t2.1 t1.1 rfl)
    have g3_x : g3.1 (Q 0) = some (oB 7 [.ref (Q 1), .ref (Q 3), .ref (Q 5), .ref (Q 10), .ref (Q 20), .ref (Q 30), .int cu, .int ha, .int un]) := by rw [eg3]; exact z_so (z_so g2_x (z_ne x0.1 t2.1 rfl)) (z_ne x0.1 t1.1 rfl)
    have g3_c : g3.2.1 = h.2.1 + 0 ∧ g3.2.2 = h.2.2 + 0 := by rw [eg3]; exact g2_c
    refine v_blk g [.aload_n 0] (pc' := 46) (lv' := [(0, .ref (Q 0)), (1, .int a1), (2, .int b9), (3, .int c9), (4, .int d9), (5, .int e9)]) (st' := [.ref (Q 0)]) (by decide +kernel) rfl rfl ?_
    refine v_get g g3_x fl_X7_10 rfl (by decide +kernel) ?_
    refine v_blk g [.iload 5] (pc' := 51) (lv' := [(0, .ref (Q 0)), (1, .int a1), (2, .int b9), (3, .int c9), (4, .int d9), (5, .int e9)]) (st' := [.int e9, .ref (Q 1)]) (by decide +kernel) rfl rfl ?_
    refine v_callVp g (rest := []) (c_Tape_append (n := (n + 16)) g3_t g3_b e9 (by omega)) cl_X7_72 g3_t rfl rfl (Nat.le_of_ble_eq_true rfl) (by decide +kernel) ⟨Nat.le_of_ble_eq_true rfl, Nat.le_of_ble_eq_true rfl⟩ (zcsn 0 0 g3_c.1 g3_c.2 (Nat.le_of_ble_eq_true rfl) (Nat.le_of_ble_eq_true rfl)) ?_
    show zV F X (z_s (z_s g3 (Q 2) (aI 200 (ap4 (ap4 (ap4 (ap4 (ap4 B n a1) (n + 4) b9) (n + 8) c9) (n + 12) d9) (n + 16) e9))) (Q 1) (oB 6 [.ref (Q 2), .int (nI (n + 20))])) 54 [(0, .ref (Q 0)), (1, .int a1), (2, .int b9), (3, .int c9), (4, .int d9), (5, .int e9)] []
    refine v_h (fun g4 eg4 => ?_)
    have g4_t : g4.1 (Q 1) = some (oB 6 [.ref (Q 2), .int (nI (n + 20))]) := by rw [eg4]; exact z_s_self _ _ _
    have g4_b : g4.1 (Q 2) = some (aI 200 (ap4 (ap4 (ap4 (ap4 (ap4 B n a1) (n + 4) b9) (n + 8) c9) (n + 12) d9) (n + 16) e9)) := by rw [eg4]; exact z_so (z_s_self _ _ _) (z_ne t2.1 t1.1 rfl)
    have g4_x : g4.1 (Q 0) = some (oB 7 [.ref (Q 1), .ref (Q 3), .ref (Q 5), .ref (Q 10), .ref (Q 20), .ref (Q 30), .int cu, .int ha, .int un]) := by rw [eg4]; exact z_so (z_so g3_x (z_ne x0.1 t2.1 rfl)) (z_ne x0.1 t1.1 rfl)
    have g4_c : g4.2.1 = h.2.1 + 0 ∧ g4.2.2 = h.2.2 + 0 := by rw [eg4]; exact g3_c
    refine v_blk g [.aload_n 0] (pc' := 55) (lv' := [(0, .ref (Q 0)), (1, .int a1), (2, .int b9), (3, .int c9), (4, .int d9), (5, .int e9)]) (st' := [.ref (Q 0)]) (by decide +kernel) rfl rfl ?_
    refine v_get g g4_x fl_X7_10 rfl (by decide +kernel) ?_
    refine v_get g g4_t fl_X7_76 rfl (by decide +kernel) ?_
    exact v_iret g z rfl (by decide +kernel) ⟨by rw [if_pos c0], by rw [if_pos c0, eg4, eg3, eg2, eg1, eg0]; simp only [z_s2 _ _ _ _ (z_ne t2.1 t1.1 rfl)]; rfl⟩ (zcrn 0 0 g4_c.1 g4_c.2 (Nat.le_of_ble_eq_true rfl) (Nat.le_of_ble_eq_true rfl))
  · have c0 : ¬ n ≤ 180 := fun q => by rw [if_neg (fun e => cq.mp e q)] at c7; exact absurd c7 (by decide)
    refine v_blk g [.iconst (-1)] (pc' := 11) (lv' := [(0, .ref (Q 0)), (1, .int a1), (2, .int b9), (3, .int c9), (4, .int d9), (5, .int e9)]) (st' := [.int (-1 : Int32)]) (by decide +kernel) rfl rfl ?_
    exact v_iret g z rfl (by decide +kernel) ⟨by rw [if_neg c0], by rw [if_neg c0]⟩ (zcrn 0 0 rfl rfl (Nat.le_of_ble_eq_true rfl) (Nat.le_of_ble_eq_true rfl))

set_option maxRecDepth 100000 in
set_option maxHeartbeats 4000000 in
theorem p_end {F : zF} {h : zH} {Ω : Nat → Prop} {Q : Nat → Nat} {cu ha un : Int32} {n : Nat} {B : Nat → Int32} {hg at9 fk fp : Int32} {sp : Option Nat} {G : Nat → Option Nat} {T : Nat → zS} {wf lf hf : Nat → Int32} {ff : Nat → Int64} {V : Nat → Int32} {wk : Int32} {hm pm : Int64} {O : Nat → Int32} {C : Nat → Option Nat} {ch : Nat} {D : Nat → Option Nat} {dh : Nat} {E : Nat → zD} {Z : Nat → Int64} {P : Nat → Int32} {ph : Nat} {ca cl cw : Nat → Nat} {K : Nat → Int32 × Int32 × Int32 × Int32} {cf : Nat → Nat → Int64} {wk2 : Int32} {hm2 pm2 : Int64} {O2 : Nat → Int32} {C2 : Nat → Option Nat} {ch2 : Nat} {D2 : Nat → Option Nat} {dh2 : Nat} {E2 : Nat → zD} {Z2 : Nat → Int64} {P2 : Nat → Int32} {ph2 : Nat} {ca2 cl2 cw2 : Nat → Nat} {K2 : Nat → Int32 × Int32 × Int32 × Int32} {cf2 : Nat → Nat → Int64} (W : PC h (Ω) Q cu ha un n B hg at9 fk fp sp G T wf lf hf ff V wk hm pm O C ch D dh E Z P ph ca cl cw K cf wk2 hm2 pm2 O2 C2 ch2 D2 dh2 E2 Z2 P2 ph2 ca2 cl2 cw2 K2 cf2) (v : Int32) : zMet F yX7_end cX7_end 2 (some .boolean) { frames := 2, cells := 0, slots := 0, locals := 60 } [.ref (Q 0), .int v] h (zP (if x_cut n v = 0 then h else z_s h (Q 1) (oB 6 [.ref (Q 2), .int v])) (some (.int (x_cut n v)))) := by
  refine zMet_of (lv := [(0, .ref (Q 0)), (1, .int v)]) (by decide) (by simp [lg_sl, Value.category]) rfl ?_
  intro X g z
  obtain ⟨x0, t1, t2, r3, r4, sp9, gg, ls, lsd, s5, s6, s7, s8, s9, v30, bn, be, kn, ke, hQ⟩ := id W
  obtain ⟨b0, b1, b2, b3, b4, b5, bD, bE, bC⟩ := id bn
  obtain ⟨kn1, kn2, kn3, kn4, kn5, kn6⟩ := id kn
  refine v_blk g [.aload_n 0] (pc' := 1) (lv' := [(0, .ref (Q 0)), (1, .int v)]) (st' := [.ref (Q 0)]) (by decide +kernel) rfl rfl ?_
  refine v_get g x0.1 fl_X7_10 rfl (by decide +kernel) ?_
  refine v_blk g [.iload_n 1] (pc' := 5) (lv' := [(0, .ref (Q 0)), (1, .int v)]) (st' := [.int v, .ref (Q 1)]) (by decide +kernel) rfl rfl ?_
  refine v_callVp g (rest := []) (c_Tape_cut t1.1 t2.1 v) cl_X7_79 t1.1 rfl rfl (Nat.le_of_ble_eq_true rfl) (by decide +kernel) ⟨Nat.le_of_ble_eq_true rfl, Nat.le_of_ble_eq_true rfl⟩ (zcsn 0 0 rfl rfl (Nat.le_of_ble_eq_true rfl) (Nat.le_of_ble_eq_true rfl)) ?_
  show zV F X (if x_cut n v = 0 then h else z_s h (Q 1) (oB 6 [.ref (Q 2), .int v])) 8 [(0, .ref (Q 0)), (1, .int v)] [.int (x_cut n v)]
  exact v_zret g z rfl (by unfold x_cut; split; exact Or.inl rfl; split; exact Or.inr rfl; exact Or.inl rfl) (by decide +kernel) ⟨rfl, rfl⟩ (by split <;> exact ⟨Nat.le_refl _, Nat.le_refl _⟩)

set_option maxRecDepth 100000 in
set_option maxHeartbeats 4000000 in
theorem p_fault {F : zF} {h : zH} {Ω : Nat → Prop} {Q : Nat → Nat} {cu ha un : Int32} {n : Nat} {B : Nat → Int32} {hg at9 fk fp : Int32} {sp : Option Nat} {G : Nat → Option Nat} {T : Nat → zS} {wf lf hf : Nat → Int32} {ff : Nat → Int64} {V : Nat → Int32} {wk : Int32} {hm pm : Int64} {O : Nat → Int32} {C : Nat → Option Nat} {ch : Nat} {D : Nat → Option Nat} {dh : Nat} {E : Nat → zD} {Z : Nat → Int64} {P : Nat → Int32} {ph : Nat} {ca cl cw : Nat → Nat} {K : Nat → Int32 × Int32 × Int32 × Int32} {cf : Nat → Nat → Int64} {wk2 : Int32} {hm2 pm2 : Int64} {O2 : Nat → Int32} {C2 : Nat → Option Nat} {ch2 : Nat} {D2 : Nat → Option Nat} {dh2 : Nat} {E2 : Nat → zD} {Z2 : Nat → Int64} {P2 : Nat → Int32} {ph2 : Nat} {ca2 cl2 cw2 : Nat → Nat} {K2 : Nat → Int32 × Int32 × Int32 × Int32} {cf2 : Nat → Nat → Int64} (W : PC h (Ω) Q cu ha un n B hg at9 fk fp sp G T wf lf hf ff V wk hm pm O C ch D dh E Z P ph ca cl cw K cf wk2 hm2 pm2 O2 C2 ch2 D2 dh2 E2 Z2 P2 ph2 ca2 cl2 cw2 K2 cf2) (v : Int32) : zMet F yX7_fault cX7_fault 2 (some .int) { frames := 1, cells := 0, slots := 0, locals := 30 } [.ref (Q 0), .int v] h (zP h (some (.int (if v = 0 then fk else if v = 1 then fp else -1)))) := by
  refine zMet_of (lv := [(0, .ref (Q 0)), (1, .int v)]) (by decide) (by simp [lg_sl, Value.category]) rfl ?_
  intro X g z
  obtain ⟨x0, t1, t2, r3, r4, sp9, gg, ls, lsd, s5, s6, s7, s8, s9, v30, bn, be, kn, ke, hQ⟩ := id W
  obtain ⟨b0, b1, b2, b3, b4, b5, bD, bE, bC⟩ := id bn
  obtain ⟨kn1, kn2, kn3, kn4, kn5, kn6⟩ := id kn
  refine v_blk g [.iload_n 1] (pc' := 1) (lv' := [(0, .ref (Q 0)), (1, .int v)]) (st' := [.int v]) (by decide +kernel) rfl rfl ?_
  by_cases c0 : v = 0
  · refine v_lookup g (dflt := 43) (ps := #[(0, 27), (1, 35)]) (len := 27) (off := 27) (by decide +kernel) (by decide) (by rw [c0]; decide) (tgt := 28) (by decide) ?_
    refine v_blk g [.aload_n 0] (pc' := 29) (lv' := [(0, .ref (Q 0)), (1, .int v)]) (st' := [.ref (Q 0)]) (by decide +kernel) rfl rfl ?_
    refine v_get g x0.1 fl_X7_21 rfl (by decide +kernel) ?_
    refine v_get g r3.1 fl_X7_102 rfl (by decide +kernel) ?_
    exact v_iret g z rfl (by decide +kernel) ⟨by rw [if_pos c0], rfl⟩ (zcrn 0 0 rfl rfl (Nat.le_of_ble_eq_true rfl) (Nat.le_of_ble_eq_true rfl))
  · by_cases c1 : v = 1
    · refine v_lookup g (dflt := 43) (ps := #[(0, 27), (1, 35)]) (len := 27) (off := 35) (by decide +kernel) (by decide) (by rw [c1]; decide) (tgt := 36) (by decide) ?_
      refine v_blk g [.aload_n 0] (pc' := 37) (lv' := [(0, .ref (Q 0)), (1, .int v)]) (st' := [.ref (Q 0)]) (by decide +kernel) rfl rfl ?_
      refine v_get g x0.1 fl_X7_21 rfl (by decide +kernel) ?_
      refine v_get g r3.1 fl_X7_105 rfl (by decide +kernel) ?_
      exact v_iret g z rfl (by decide +kernel) ⟨by rw [if_neg c0, if_pos c1], rfl⟩ (zcrn 0 0 rfl rfl (Nat.le_of_ble_eq_true rfl) (Nat.le_of_ble_eq_true rfl))
    · refine v_lookup g (dflt := 43) (ps := #[(0, 27), (1, 35)]) (len := 27) (off := 43) (by decide +kernel) (by decide) (by have e0 : ¬ v.toInt = 0 := fun e => c0 ((fa_eq v 0).mpr e); have e1 : ¬ v.toInt = 1 := fun e => c1 ((fa_eq v 1).mpr e); simp [Op.lookupswitch.offset, e0, e1]; omega) (tgt := 44) (by decide) ?_
      refine v_blk g [.iconst (-1)] (pc' := 45) (lv' := [(0, .ref (Q 0)), (1, .int v)]) (st' := [.int (-1 : Int32)]) (by decide +kernel) rfl rfl ?_
      exact v_iret g z rfl (by decide +kernel) ⟨by rw [if_neg c0, if_neg c1], rfl⟩ (zcrn 0 0 rfl rfl (Nat.le_of_ble_eq_true rfl) (Nat.le_of_ble_eq_true rfl))
