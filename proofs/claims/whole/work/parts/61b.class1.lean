set_option maxRecDepth 100000 in
set_option maxHeartbeats 4000000 in
theorem p_tear {F : zF} {h : zH} {Ω : Nat → Prop} {Q : Nat → Nat} {cu ha un : Int32} {n : Nat} {B : Nat → Int32} {hg at9 fk fp : Int32} {sp : Option Nat} {G : Nat → Option Nat} {T : Nat → zS} {wf lf hf : Nat → Int32} {ff : Nat → Int64} {V : Nat → Int32} {wk : Int32} {hm pm : Int64} {O : Nat → Int32} {C : Nat → Option Nat} {ch : Nat} {D : Nat → Option Nat} {dh : Nat} {E : Nat → zD} {Z : Nat → Int64} {P : Nat → Int32} {ph : Nat} {ca cl cw : Nat → Nat} {K : Nat → Int32 × Int32 × Int32 × Int32} {cf : Nat → Nat → Int64} {wk2 : Int32} {hm2 pm2 : Int64} {O2 : Nat → Int32} {C2 : Nat → Option Nat} {ch2 : Nat} {D2 : Nat → Option Nat} {dh2 : Nat} {E2 : Nat → zD} {Z2 : Nat → Int64} {P2 : Nat → Int32} {ph2 : Nat} {ca2 cl2 cw2 : Nat → Nat} {K2 : Nat → Int32 × Int32 × Int32 × Int32} {cf2 : Nat → Nat → Int64} (W : PC h (Ω) Q cu ha un n B hg at9 fk fp sp G T wf lf hf ff V wk hm pm O C ch D dh E Z P ph ca cl cw K cf wk2 hm2 pm2 O2 C2 ch2 D2 dh2 E2 Z2 P2 ph2 ca2 cl2 cw2 K2 cf2) (hch : ch ≤ 20) (v is9 : Int32) (h01 : is9 = 0 ∨ is9 = 1) : zMet F yX7_tear cX7_tear 4 (some .boolean) { frames := 2, cells := 0, slots := 0, locals := 60 } [.ref (Q 0), .int v, .int is9] h (zP (if x_C ch v = 0 then h else z_s h (ca v.toNatClampNeg) (oB 1 [.ref (cl v.toNatClampNeg), .int (K v.toNatClampNeg).1, .int (K v.toNatClampNeg).2.1, .int (K v.toNatClampNeg).2.2.1, .int is9])) (some (.int (x_C ch v)))) := by
  refine zMet_of (lv := [(0, .ref (Q 0)), (1, .int v), (2, .int is9)]) (by decide) (by simp [lg_sl, Value.category]) rfl ?_
  intro X g z
  obtain ⟨x0, t1, t2, r3, r4, sp9, gg, ls, lsd, s5, s6, s7, s8, s9, v30, bn, be, kn, ke, hQ⟩ := id W
  obtain ⟨b0, b1, b2, b3, b4, b5, bD, bE, bC⟩ := id bn
  obtain ⟨kn1, kn2, kn3, kn4, kn5, kn6⟩ := id kn
  refine v_blk g [.aload_n 0] (pc' := 1) (lv' := [(0, .ref (Q 0)), (1, .int v), (2, .int is9)]) (st' := [.ref (Q 0)]) (by decide +kernel) rfl rfl ?_
  refine v_get g x0.1 fl_X7_35 rfl (by decide +kernel) ?_
  refine v_blk g [.iload_n 1] (pc' := 5) (lv' := [(0, .ref (Q 0)), (1, .int v), (2, .int is9)]) (st' := [.int v, .ref (Q 10)]) (by decide +kernel) rfl rfl ?_
  refine v_callVp g (rest := []) (c_Bk_couponAt b0.1 b2.1 hch v) cl_X7_108 b0.1 rfl rfl (Nat.le_of_ble_eq_true rfl) (by decide +kernel) ⟨Nat.le_of_ble_eq_true rfl, Nat.le_of_ble_eq_true rfl⟩ (zcsn 0 0 rfl rfl (Nat.le_of_ble_eq_true rfl) (Nat.le_of_ble_eq_true rfl)) ?_
  show zV F X h 8 [(0, .ref (Q 0)), (1, .int v), (2, .int is9)] [va_rf (x_at C ch v)]
  by_cases c0 : x_C ch v = 0
  · refine v_st (st' := [.null]) (by rw [show x_at C ch v = none from x_at_no c0]; rfl) ?_
    refine v_blk g [.astore_n 3, .aload_n 3] (pc' := 10) (lv' := [(3, .null), (0, .ref (Q 0)), (1, .int v), (2, .int is9)]) (st' := [.null]) (by decide +kernel) rfl rfl ?_
    refine v_ifnonnull g (r := none) (off := 5) (tgt := 15) (by decide +kernel) (by decide) (fun _ q => nomatch q) (fun _ => ?_)
    refine v_blk g [.iconst 0] (pc' := 14) (lv' := [(3, .null), (0, .ref (Q 0)), (1, .int v), (2, .int is9)]) (st' := [.int (0 : Int32)]) (by decide +kernel) rfl rfl ?_
    exact v_zret g z rfl (by decide) (by decide +kernel) ⟨by rw [c0], by rw [if_pos c0]⟩ (zcrn 0 0 rfl rfl (Nat.le_of_ble_eq_true rfl) (Nat.le_of_ble_eq_true rfl))
  · obtain ⟨k, hk, rfl⟩ := x_C_k (by omega) c0
    have ek : (nI k).toNatClampNeg = k := nI_clamp (by omega)
    refine v_st (st' := [.ref (ca k)]) (by rw [show x_at C ch (nI k) = some (ca k) from (x_at_in hk (by omega)).trans (kn1 k hk)]; rfl) ?_
    refine v_blk g [.astore_n 3, .aload_n 3] (pc' := 10) (lv' := [(3, .ref (ca k)), (0, .ref (Q 0)), (1, .int (nI k)), (2, .int is9)]) (st' := [.ref (ca k)]) (by decide +kernel) rfl rfl ?_
    refine v_ifnonnull g (r := (some (ca k))) (off := 5) (tgt := 15) (by decide +kernel) (by decide) (fun _ _ => ?_) (fun q => nomatch q)
    refine v_blk g [.aload_n 3, .iload_n 2] (pc' := 17) (lv' := [(3, .ref (ca k)), (0, .ref (Q 0)), (1, .int (nI k)), (2, .int is9)]) (st' := [.int is9, .ref (ca k)]) (by decide +kernel) rfl rfl ?_
    refine v_put g (fs' := [.ref (cl k), .int ((K k).1), .int ((K k).2.1), .int ((K k).2.2.1), .int is9]) (kn2 k hk).1 fl_X7_112 (by rcases h01 with e | e <;> rw [e] <;> rfl) (by rcases h01 with e | e <;> rw [e] <;> rfl) (Nat.le_of_ble_eq_true rfl) rfl (by decide +kernel) ?_
    refine v_h (fun h1 eh1 => ?_)
    have h1_c : h1.2.1 = h.2.1 + 0 ∧ h1.2.2 = h.2.2 + 0 := zcs eh1 ⟨rfl, rfl⟩
    have h1_cak : h1.1 (ca k) = some (oB 1 [.ref (cl k), .int ((K k).1), .int ((K k).2.1), .int ((K k).2.2.1), .int is9]) := by rw [eh1]; exact z_s_self _ _ _
    refine v_blk g [.iconst 1] (pc' := 21) (lv' := [(3, .ref (ca k)), (0, .ref (Q 0)), (1, .int (nI k)), (2, .int is9)]) (st' := [.int (1 : Int32)]) (by decide +kernel) rfl rfl ?_
    exact v_zret g z rfl (by decide) (by decide +kernel) ⟨by rw [x_C_in (by omega) hk], by rw [x_C_in (by omega) hk, if_neg (by decide), eh1, ek]⟩ (zcrn 0 0 h1_c.1 h1_c.2 (Nat.le_of_ble_eq_true rfl) (Nat.le_of_ble_eq_true rfl))

set_option maxRecDepth 100000 in
set_option maxHeartbeats 4000000 in
theorem p_line {F : zF} {h : zH} {Ω : Nat → Prop} {Q : Nat → Nat} {cu ha un : Int32} {n : Nat} {B : Nat → Int32} {hg at9 fk fp : Int32} {sp : Option Nat} {G : Nat → Option Nat} {T : Nat → zS} {wf lf hf : Nat → Int32} {ff : Nat → Int64} {V : Nat → Int32} {wk : Int32} {hm pm : Int64} {O : Nat → Int32} {C : Nat → Option Nat} {ch : Nat} {D : Nat → Option Nat} {dh : Nat} {E : Nat → zD} {Z : Nat → Int64} {P : Nat → Int32} {ph : Nat} {ca cl cw : Nat → Nat} {K : Nat → Int32 × Int32 × Int32 × Int32} {cf : Nat → Nat → Int64} {wk2 : Int32} {hm2 pm2 : Int64} {O2 : Nat → Int32} {C2 : Nat → Option Nat} {ch2 : Nat} {D2 : Nat → Option Nat} {dh2 : Nat} {E2 : Nat → zD} {Z2 : Nat → Int64} {P2 : Nat → Int32} {ph2 : Nat} {ca2 cl2 cw2 : Nat → Nat} {K2 : Nat → Int32 × Int32 × Int32 × Int32} {cf2 : Nat → Nat → Int64} (W : PC h (Ω) Q cu ha un n B hg at9 fk fp sp G T wf lf hf ff V wk hm pm O C ch D dh E Z P ph ca cl cw K cf wk2 hm2 pm2 O2 C2 ch2 D2 dh2 E2 Z2 P2 ph2 ca2 cl2 cw2 K2 cf2) (hch : ch ≤ 20) (v y : Int32) : zMet F yX7_line cX7_line 4 (some .int) { frames := 5, cells := 0, slots := 0, locals := 150 } [.ref (Q 0), .int v, .int y] h (zP h (some (.int (if x_C ch v = 0 then -1 else s_line (lb (cf v.toNatClampNeg)) y)))) := by
  refine zMet_of (lv := [(0, .ref (Q 0)), (1, .int v), (2, .int y)]) (by decide) (by simp [lg_sl, Value.category]) rfl ?_
  intro X g z
  obtain ⟨x0, t1, t2, r3, r4, sp9, gg, ls, lsd, s5, s6, s7, s8, s9, v30, bn, be, kn, ke, hQ⟩ := id W
  obtain ⟨b0, b1, b2, b3, b4, b5, bD, bE, bC⟩ := id bn
  obtain ⟨kn1, kn2, kn3, kn4, kn5, kn6⟩ := id kn
  refine v_blk g [.aload_n 0] (pc' := 1) (lv' := [(0, .ref (Q 0)), (1, .int v), (2, .int y)]) (st' := [.ref (Q 0)]) (by decide +kernel) rfl rfl ?_
  refine v_get g x0.1 fl_X7_35 rfl (by decide +kernel) ?_
  refine v_blk g [.iload_n 1] (pc' := 5) (lv' := [(0, .ref (Q 0)), (1, .int v), (2, .int y)]) (st' := [.int v, .ref (Q 10)]) (by decide +kernel) rfl rfl ?_
  refine v_callVp g (rest := []) (c_Bk_couponAt b0.1 b2.1 hch v) cl_X7_108 b0.1 rfl rfl (Nat.le_of_ble_eq_true rfl) (by decide +kernel) ⟨Nat.le_of_ble_eq_true rfl, Nat.le_of_ble_eq_true rfl⟩ (zcsn 0 0 rfl rfl (Nat.le_of_ble_eq_true rfl) (Nat.le_of_ble_eq_true rfl)) ?_
  show zV F X h 8 [(0, .ref (Q 0)), (1, .int v), (2, .int y)] [va_rf (x_at C ch v)]
  by_cases c0 : x_C ch v = 0
  · refine v_st (st' := [.null]) (by rw [show x_at C ch v = none from x_at_no c0]; rfl) ?_
    refine v_blk g [.astore_n 3, .aload_n 3] (pc' := 10) (lv' := [(3, .null), (0, .ref (Q 0)), (1, .int v), (2, .int y)]) (st' := [.null]) (by decide +kernel) rfl rfl ?_
    refine v_ifnonnull g (r := none) (off := 7) (tgt := 17) (by decide +kernel) (by decide) (fun _ q => nomatch q) (fun _ => ?_)
    refine v_blk g [.iconst (-1)] (pc' := 14) (lv' := [(3, .null), (0, .ref (Q 0)), (1, .int v), (2, .int y)]) (st' := [.int (-1 : Int32)]) (by decide +kernel) rfl rfl ?_
    refine v_goto g (off := 11) (tgt := 25) (by decide +kernel) (by decide) ?_
    exact v_iret g z rfl (by decide +kernel) ⟨by rw [if_pos c0], rfl⟩ (zcrn 0 0 rfl rfl (Nat.le_of_ble_eq_true rfl) (Nat.le_of_ble_eq_true rfl))
  · obtain ⟨k, hk, rfl⟩ := x_C_k (by omega) c0
    have ek : (nI k).toNatClampNeg = k := nI_clamp (by omega)
    refine v_st (st' := [.ref (ca k)]) (by rw [show x_at C ch (nI k) = some (ca k) from (x_at_in hk (by omega)).trans (kn1 k hk)]; rfl) ?_
    refine v_blk g [.astore_n 3, .aload_n 3] (pc' := 10) (lv' := [(3, .ref (ca k)), (0, .ref (Q 0)), (1, .int (nI k)), (2, .int y)]) (st' := [.ref (ca k)]) (by decide +kernel) rfl rfl ?_
    refine v_ifnonnull g (r := (some (ca k))) (off := 7) (tgt := 17) (by decide +kernel) (by decide) (fun _ _ => ?_) (fun q => nomatch q)
    refine v_blk g [.aload_n 3] (pc' := 18) (lv' := [(3, .ref (ca k)), (0, .ref (Q 0)), (1, .int (nI k)), (2, .int y)]) (st' := [.ref (ca k)]) (by decide +kernel) rfl rfl ?_
    refine v_get g (kn2 k hk).1 fl_X7_135 rfl (by decide +kernel) ?_
    refine v_blk g [.iload_n 2] (pc' := 22) (lv' := [(3, .ref (ca k)), (0, .ref (Q 0)), (1, .int (nI k)), (2, .int y)]) (st' := [.int y, .ref (cl k)]) (by decide +kernel) rfl rfl ?_
    refine v_callVp g (rest := []) (c_LS_numberAt (kn3 k hk).1 (kn4 k hk).1 y) cl_X7_149 (kn3 k hk).1 rfl rfl (Nat.le_of_ble_eq_true rfl) (by decide +kernel) ⟨Nat.le_of_ble_eq_true rfl, Nat.le_of_ble_eq_true rfl⟩ (zcsn 0 0 rfl rfl (Nat.le_of_ble_eq_true rfl) (Nat.le_of_ble_eq_true rfl)) ?_
    show zV F X h 25 [(3, .ref (ca k)), (0, .ref (Q 0)), (1, .int (nI k)), (2, .int y)] [.int (s_line (lb (cf k)) y)]
    exact v_iret g z rfl (by decide +kernel) ⟨by rw [if_neg c0, ek], rfl⟩ (zcrn 0 0 rfl rfl (Nat.le_of_ble_eq_true rfl) (Nat.le_of_ble_eq_true rfl))

set_option maxRecDepth 100000 in
set_option maxHeartbeats 4000000 in
theorem p_below {F : zF} {h : zH} {Ω : Nat → Prop} {Q : Nat → Nat} {cu ha un : Int32} {n : Nat} {B : Nat → Int32} {hg at9 fk fp : Int32} {sp : Option Nat} {G : Nat → Option Nat} {T : Nat → zS} {wf lf hf : Nat → Int32} {ff : Nat → Int64} {V : Nat → Int32} {wk : Int32} {hm pm : Int64} {O : Nat → Int32} {C : Nat → Option Nat} {ch : Nat} {D : Nat → Option Nat} {dh : Nat} {E : Nat → zD} {Z : Nat → Int64} {P : Nat → Int32} {ph : Nat} {ca cl cw : Nat → Nat} {K : Nat → Int32 × Int32 × Int32 × Int32} {cf : Nat → Nat → Int64} {wk2 : Int32} {hm2 pm2 : Int64} {O2 : Nat → Int32} {C2 : Nat → Option Nat} {ch2 : Nat} {D2 : Nat → Option Nat} {dh2 : Nat} {E2 : Nat → zD} {Z2 : Nat → Int64} {P2 : Nat → Int32} {ph2 : Nat} {ca2 cl2 cw2 : Nat → Nat} {K2 : Nat → Int32 × Int32 × Int32 × Int32} {cf2 : Nat → Nat → Int64} (W : PC h (Ω) Q cu ha un n B hg at9 fk fp sp G T wf lf hf ff V wk hm pm O C ch D dh E Z P ph ca cl cw K cf wk2 hm2 pm2 O2 C2 ch2 D2 dh2 E2 Z2 P2 ph2 ca2 cl2 cw2 K2 cf2) (hch : ch ≤ 20) (v y : Int32) : zMet F yX7_below cX7_below 4 (some .int) { frames := 3, cells := 0, slots := 0, locals := 90 } [.ref (Q 0), .int v, .int y] h (zP h (some (.int (if ¬ x_C ch v = 0 ∧ ¬ x_isIn y 0 16384 = 0 then nI (fb_ct (lb (cf v.toNatClampNeg)) y.toNatClampNeg) else -1)))) := by
  refine zMet_of (lv := [(0, .ref (Q 0)), (1, .int v), (2, .int y)]) (by decide) (by simp [lg_sl, Value.category]) rfl ?_
  intro X g z
  obtain ⟨x0, t1, t2, r3, r4, sp9, gg, ls, lsd, s5, s6, s7, s8, s9, v30, bn, be, kn, ke, hQ⟩ := id W
  obtain ⟨b0, b1, b2, b3, b4, b5, bD, bE, bC⟩ := id bn
  obtain ⟨kn1, kn2, kn3, kn4, kn5, kn6⟩ := id kn
  refine v_blk g [.aload_n 0] (pc' := 1) (lv' := [(0, .ref (Q 0)), (1, .int v), (2, .int y)]) (st' := [.ref (Q 0)]) (by decide +kernel) rfl rfl ?_
  refine v_get g x0.1 fl_X7_35 rfl (by decide +kernel) ?_
  refine v_blk g [.iload_n 1] (pc' := 5) (lv' := [(0, .ref (Q 0)), (1, .int v), (2, .int y)]) (st' := [.int v, .ref (Q 10)]) (by decide +kernel) rfl rfl ?_
  refine v_callVp g (rest := []) (c_Bk_couponAt b0.1 b2.1 hch v) cl_X7_108 b0.1 rfl rfl (Nat.le_of_ble_eq_true rfl) (by decide +kernel) ⟨Nat.le_of_ble_eq_true rfl, Nat.le_of_ble_eq_true rfl⟩ (zcsn 0 0 rfl rfl (Nat.le_of_ble_eq_true rfl) (Nat.le_of_ble_eq_true rfl)) ?_
  show zV F X h 8 [(0, .ref (Q 0)), (1, .int v), (2, .int y)] [va_rf (x_at C ch v)]
  by_cases c0 : x_C ch v = 0
  · refine v_st (st' := [.null]) (by rw [show x_at C ch v = none from x_at_no c0]; rfl) ?_
    refine v_blk g [.astore_n 3, .aload_n 3] (pc' := 10) (lv' := [(3, .null), (0, .ref (Q 0)), (1, .int v), (2, .int y)]) (st' := [.null]) (by decide +kernel) rfl rfl ?_
    refine v_ifnull g (r := none) (off := 14) (tgt := 24) (by decide +kernel) (by decide) (fun _ => ?_) (fun _ q => nomatch q)
    refine v_blk g [.iconst (-1)] (pc' := 25) (lv' := [(3, .null), (0, .ref (Q 0)), (1, .int v), (2, .int y)]) (st' := [.int (-1 : Int32)]) (by decide +kernel) rfl rfl ?_
    refine v_goto g (off := 11) (tgt := 36) (by decide +kernel) (by decide) ?_
    exact v_iret g z rfl (by decide +kernel) ⟨by rw [if_neg (fun q => q.1 c0)], rfl⟩ (zcrn 0 0 rfl rfl (Nat.le_of_ble_eq_true rfl) (Nat.le_of_ble_eq_true rfl))
  · obtain ⟨k, hk, rfl⟩ := x_C_k (by omega) c0
    have ek : (nI k).toNatClampNeg = k := nI_clamp (by omega)
    refine v_st (st' := [.ref (ca k)]) (by rw [show x_at C ch (nI k) = some (ca k) from (x_at_in hk (by omega)).trans (kn1 k hk)]; rfl) ?_
    refine v_blk g [.astore_n 3, .aload_n 3] (pc' := 10) (lv' := [(3, .ref (ca k)), (0, .ref (Q 0)), (1, .int (nI k)), (2, .int y)]) (st' := [.ref (ca k)]) (by decide +kernel) rfl rfl ?_
    refine v_ifnull g (r := (some (ca k))) (off := 14) (tgt := 24) (by decide +kernel) (by decide) (fun q => nomatch q) (fun _ _ => ?_)
    refine v_blk g [.iload_n 2, .iconst 0, .sipush 16384] (pc' := 18) (lv' := [(3, .ref (ca k)), (0, .ref (Q 0)), (1, .int (nI k)), (2, .int y)]) (st' := [.int (16384 : Int32), .int (0 : Int32), .int y]) (by decide +kernel) rfl rfl ?_
    refine v_callSp g (rest := []) (c_isIn _ _ _) cl_X7_57 rfl (Nat.le_of_ble_eq_true rfl) (by decide +kernel) ⟨Nat.le_of_ble_eq_true rfl, Nat.le_of_ble_eq_true rfl⟩ (zcsn 0 0 rfl rfl (Nat.le_of_ble_eq_true rfl) (Nat.le_of_ble_eq_true rfl)) ?_
    show zV F X h 21 [(3, .ref (ca k)), (0, .ref (Q 0)), (1, .int (nI k)), (2, .int y)] [.int (x_isIn y (0) (16384))]
    refine v_if_ne g (off := 7) (tgt := 28) (by decide +kernel) (by decide) (fun c1 => ?_) (fun c1 => ?_)
    · obtain ⟨t, ht, rfl⟩ := isIn_k (N := 16384) (by decide) c1
      have et : (nI t).toNatClampNeg = t := nI_clamp (by omega)
      refine v_blk g [.aload_n 3] (pc' := 29) (lv' := [(3, .ref (ca k)), (0, .ref (Q 0)), (1, .int (nI k)), (2, .int (nI t))]) (st' := [.ref (ca k)]) (by decide +kernel) rfl rfl ?_
      refine v_get g (kn2 k hk).1 fl_X7_135 rfl (by decide +kernel) ?_
      refine v_blk g [.iload_n 2] (pc' := 33) (lv' := [(3, .ref (ca k)), (0, .ref (Q 0)), (1, .int (nI k)), (2, .int (nI t))]) (st' := [.int (nI t), .ref (cl k)]) (by decide +kernel) rfl rfl ?_
      refine v_callVp g (rest := []) (c_LS_under (kn3 k hk).1 (kn4 k hk).1 ht) cl_X7_153 (kn3 k hk).1 rfl rfl (Nat.le_of_ble_eq_true rfl) (by decide +kernel) ⟨Nat.le_of_ble_eq_true rfl, Nat.le_of_ble_eq_true rfl⟩ (zcsn 0 0 rfl rfl (Nat.le_of_ble_eq_true rfl) (Nat.le_of_ble_eq_true rfl)) ?_
      show zV F X h 36 [(3, .ref (ca k)), (0, .ref (Q 0)), (1, .int (nI k)), (2, .int (nI t))] [.int (nI (fb_ct (lb (cf k)) t))]
      exact v_iret g z rfl (by decide +kernel) ⟨by rw [if_pos ⟨c0, c1⟩, ek, et], rfl⟩ (zcrn 0 0 rfl rfl (Nat.le_of_ble_eq_true rfl) (Nat.le_of_ble_eq_true rfl))
    · refine v_blk g [.iconst (-1)] (pc' := 25) (lv' := [(3, .ref (ca k)), (0, .ref (Q 0)), (1, .int (nI k)), (2, .int y)]) (st' := [.int (-1 : Int32)]) (by decide +kernel) rfl rfl ?_
      refine v_goto g (off := 11) (tgt := 36) (by decide +kernel) (by decide) ?_
      exact v_iret g z rfl (by decide +kernel) ⟨by rw [if_neg (fun q => q.2 c1)], rfl⟩ (zcrn 0 0 rfl rfl (Nat.le_of_ble_eq_true rfl) (Nat.le_of_ble_eq_true rfl))

set_option maxRecDepth 100000 in
set_option maxHeartbeats 4000000 in
theorem p_unlike {F : zF} {h : zH} {Ω : Nat → Prop} {Q : Nat → Nat} {cu ha un : Int32} {n : Nat} {B : Nat → Int32} {hg at9 fk fp : Int32} {sp : Option Nat} {G : Nat → Option Nat} {T : Nat → zS} {wf lf hf : Nat → Int32} {ff : Nat → Int64} {V : Nat → Int32} {wk : Int32} {hm pm : Int64} {O : Nat → Int32} {C : Nat → Option Nat} {ch : Nat} {D : Nat → Option Nat} {dh : Nat} {E : Nat → zD} {Z : Nat → Int64} {P : Nat → Int32} {ph : Nat} {ca cl cw : Nat → Nat} {K : Nat → Int32 × Int32 × Int32 × Int32} {cf : Nat → Nat → Int64} {wk2 : Int32} {hm2 pm2 : Int64} {O2 : Nat → Int32} {C2 : Nat → Option Nat} {ch2 : Nat} {D2 : Nat → Option Nat} {dh2 : Nat} {E2 : Nat → zD} {Z2 : Nat → Int64} {P2 : Nat → Int32} {ph2 : Nat} {ca2 cl2 cw2 : Nat → Nat} {K2 : Nat → Int32 × Int32 × Int32 × Int32} {cf2 : Nat → Nat → Int64} (W : PC h (Ω) Q cu ha un n B hg at9 fk fp sp G T wf lf hf ff V wk hm pm O C ch D dh E Z P ph ca cl cw K cf wk2 hm2 pm2 O2 C2 ch2 D2 dh2 E2 Z2 P2 ph2 ca2 cl2 cw2 K2 cf2) (hch : ch ≤ 20) (v y : Int32) : zMet F yX7_unlike cX7_unlike 5 (some .int) { frames := 4, cells := 0, slots := 0, locals := 120 } [.ref (Q 0), .int v, .int y] h (zP h (some (.int (if ¬ x_C ch v = 0 ∧ ¬ x_C ch y = 0 then s_unl (lb (cf v.toNatClampNeg)) (lb (cf y.toNatClampNeg)) else -2)))) := by
  refine zMet_of (lv := [(0, .ref (Q 0)), (1, .int v), (2, .int y)]) (by decide) (by simp [lg_sl, Value.category]) rfl ?_
  intro X g z
  obtain ⟨x0, t1, t2, r3, r4, sp9, gg, ls, lsd, s5, s6, s7, s8, s9, v30, bn, be, kn, ke, hQ⟩ := id W
  obtain ⟨b0, b1, b2, b3, b4, b5, bD, bE, bC⟩ := id bn
  obtain ⟨kn1, kn2, kn3, kn4, kn5, kn6⟩ := id kn
  refine v_blk g [.aload_n 0] (pc' := 1) (lv' := [(0, .ref (Q 0)), (1, .int v), (2, .int y)]) (st' := [.ref (Q 0)]) (by decide +kernel) rfl rfl ?_
  refine v_get g x0.1 fl_X7_35 rfl (by decide +kernel) ?_
  refine v_blk g [.iload_n 1] (pc' := 5) (lv' := [(0, .ref (Q 0)), (1, .int v), (2, .int y)]) (st' := [.int v, .ref (Q 10)]) (by decide +kernel) rfl rfl ?_
  refine v_callVp g (rest := []) (c_Bk_couponAt b0.1 b2.1 hch v) cl_X7_108 b0.1 rfl rfl (Nat.le_of_ble_eq_true rfl) (by decide +kernel) ⟨Nat.le_of_ble_eq_true rfl, Nat.le_of_ble_eq_true rfl⟩ (zcsn 0 0 rfl rfl (Nat.le_of_ble_eq_true rfl) (Nat.le_of_ble_eq_true rfl)) ?_
  show zV F X h 8 [(0, .ref (Q 0)), (1, .int v), (2, .int y)] [va_rf (x_at C ch v)]
  by_cases c0 : x_C ch v = 0
  · refine v_st (st' := [.null]) (by rw [show x_at C ch v = none from x_at_no c0]; rfl) ?_
    refine v_blk g [.astore_n 3, .aload_n 0] (pc' := 10) (lv' := [(3, .null), (0, .ref (Q 0)), (1, .int v), (2, .int y)]) (st' := [.ref (Q 0)]) (by decide +kernel) rfl rfl ?_
    refine v_get g x0.1 fl_X7_35 rfl (by decide +kernel) ?_
    refine v_blk g [.iload_n 2] (pc' := 14) (lv' := [(3, .null), (0, .ref (Q 0)), (1, .int v), (2, .int y)]) (st' := [.int y, .ref (Q 10)]) (by decide +kernel) rfl rfl ?_
    refine v_callVp g (rest := []) (c_Bk_couponAt b0.1 b2.1 hch y) cl_X7_108 b0.1 rfl rfl (Nat.le_of_ble_eq_true rfl) (by decide +kernel) ⟨Nat.le_of_ble_eq_true rfl, Nat.le_of_ble_eq_true rfl⟩ (zcsn 0 0 rfl rfl (Nat.le_of_ble_eq_true rfl) (Nat.le_of_ble_eq_true rfl)) ?_
    show zV F X h 17 [(3, .null), (0, .ref (Q 0)), (1, .int v), (2, .int y)] [va_rf (x_at C ch y)]
    by_cases c1 : x_C ch y = 0
    · refine v_st (st' := [.null]) (by rw [show x_at C ch y = none from x_at_no c1]; rfl) ?_
      refine v_blk g [.astore 4, .aload_n 3] (pc' := 20) (lv' := [(4, .null), (3, .null), (0, .ref (Q 0)), (1, .int v), (2, .int y)]) (st' := [.null]) (by decide +kernel) rfl rfl ?_
      refine v_ifnull g (r := none) (off := 8) (tgt := 28) (by decide +kernel) (by decide) (fun _ => ?_) (fun _ q => nomatch q)
      refine v_blk g [.bipush (-2)] (pc' := 30) (lv' := [(4, .null), (3, .null), (0, .ref (Q 0)), (1, .int v), (2, .int y)]) (st' := [.int (-2 : Int32)]) (by decide +kernel) rfl rfl ?_
      refine v_goto g (off := 15) (tgt := 45) (by decide +kernel) (by decide) ?_
      exact v_iret g z rfl (by decide +kernel) ⟨by rw [if_neg (fun q => q.1 c0)], rfl⟩ (zcrn 0 0 rfl rfl (Nat.le_of_ble_eq_true rfl) (Nat.le_of_ble_eq_true rfl))
    · obtain ⟨t, ht, rfl⟩ := x_C_k (by omega) c1
      have et : (nI t).toNatClampNeg = t := nI_clamp (by omega)
      refine v_st (st' := [.ref (ca t)]) (by rw [show x_at C ch (nI t) = some (ca t) from (x_at_in ht (by omega)).trans (kn1 t ht)]; rfl) ?_
      refine v_blk g [.astore 4, .aload_n 3] (pc' := 20) (lv' := [(4, .ref (ca t)), (3, .null), (0, .ref (Q 0)), (1, .int v), (2, .int (nI t))]) (st' := [.null]) (by decide +kernel) rfl rfl ?_
      refine v_ifnull g (r := none) (off := 8) (tgt := 28) (by decide +kernel) (by decide) (fun _ => ?_) (fun _ q => nomatch q)
      refine v_blk g [.bipush (-2)] (pc' := 30) (lv' := [(4, .ref (ca t)), (3, .null), (0, .ref (Q 0)), (1, .int v), (2, .int (nI t))]) (st' := [.int (-2 : Int32)]) (by decide +kernel) rfl rfl ?_
      refine v_goto g (off := 15) (tgt := 45) (by decide +kernel) (by decide) ?_
      exact v_iret g z rfl (by decide +kernel) ⟨by rw [if_neg (fun q => q.1 c0)], rfl⟩ (zcrn 0 0 rfl rfl (Nat.le_of_ble_eq_true rfl) (Nat.le_of_ble_eq_true rfl))
  · obtain ⟨k, hk, rfl⟩ := x_C_k (by omega) c0
    have ek : (nI k).toNatClampNeg = k := nI_clamp (by omega)
    refine v_st (st' := [.ref (ca k)]) (by rw [show x_at C ch (nI k) = some (ca k) from (x_at_in hk (by omega)).trans (kn1 k hk)]; rfl) ?_
    refine v_blk g [.astore_n 3, .aload_n 0] (pc' := 10) (lv' := [(3, .ref (ca k)), (0, .ref (Q 0)), (1, .int (nI k)), (2, .int y)]) (st' := [.ref (Q 0)]) (by decide +kernel) rfl rfl ?_
    refine v_get g x0.1 fl_X7_35 rfl (by decide +kernel) ?_
    refine v_blk g [.iload_n 2] (pc' := 14) (lv' := [(3, .ref (ca k)), (0, .ref (Q 0)), (1, .int (nI k)), (2, .int y)]) (st' := [.int y, .ref (Q 10)]) (by decide +kernel) rfl rfl ?_
    refine v_callVp g (rest := []) (c_Bk_couponAt b0.1 b2.1 hch y) cl_X7_108 b0.1 rfl rfl (Nat.le_of_ble_eq_true rfl) (by decide +kernel) ⟨Nat.le_of_ble_eq_true rfl, Nat.le_of_ble_eq_true rfl⟩ (zcsn 0 0 rfl rfl (Nat.le_of_ble_eq_true rfl) (Nat.le_of_ble_eq_true rfl)) ?_
    show zV F X h 17 [(3, .ref (ca k)), (0, .ref (Q 0)), (1, .int (nI k)), (2, .int y)] [va_rf (x_at C ch y)]
    by_cases c1 : x_C ch y = 0
    · refine v_st (st' := [.null]) (by rw [show x_at C ch y = none from x_at_no c1]; rfl) ?_
      refine v_blk g [.astore 4, .aload_n 3] (pc' := 20) (lv' := [(4, .null), (3, .ref (ca k)), (0, .ref (Q 0)), (1, .int (nI k)), (2, .int y)]) (st' := [.ref (ca k)]) (by decide +kernel) rfl rfl ?_
      refine v_ifnull g (r := (some (ca k))) (off := 8) (tgt := 28) (by decide +kernel) (by decide) (fun q => nomatch q) (fun _ _ => ?_)
      refine v_blk g [.aload 4] (pc' := 25) (lv' := [(4, .null), (3, .ref (ca k)), (0, .ref (Q 0)), (1, .int (nI k)), (2, .int y)]) (st' := [.null]) (by decide +kernel) rfl rfl ?_
      refine v_ifnonnull g (r := none) (off := 8) (tgt := 33) (by decide +kernel) (by decide) (fun _ q => nomatch q) (fun _ => ?_)
      refine v_blk g [.bipush (-2)] (pc' := 30) (lv' := [(4, .null), (3, .ref (ca k)), (0, .ref (Q 0)), (1, .int (nI k)), (2, .int y)]) (st' := [.int (-2 : Int32)]) (by decide +kernel) rfl rfl ?_
      refine v_goto g (off := 15) (tgt := 45) (by decide +kernel) (by decide) ?_
      exact v_iret g z rfl (by decide +kernel) ⟨by rw [if_neg (fun q => q.2 c1)], rfl⟩ (zcrn 0 0 rfl rfl (Nat.le_of_ble_eq_true rfl) (Nat.le_of_ble_eq_true rfl))
    · obtain ⟨t, ht, rfl⟩ := x_C_k (by omega) c1
      have et : (nI t).toNatClampNeg = t := nI_clamp (by omega)
      refine v_st (st' := [.ref (ca t)]) (by rw [show x_at C ch (nI t) = some (ca t) from (x_at_in ht (by omega)).trans (kn1 t ht)]; rfl) ?_
      refine v_blk g [.astore 4, .aload_n 3] (pc' := 20) (lv' := [(4, .ref (ca t)), (3, .ref (ca k)), (0, .ref (Q 0)), (1, .int (nI k)), (2, .int (nI t))]) (st' := [.ref (ca k)]) (by decide +kernel) rfl rfl ?_
      refine v_ifnull g (r := (some (ca k))) (off := 8) (tgt := 28) (by decide +kernel) (by decide) (fun q => nomatch q) (fun _ _ => ?_)
      refine v_blk g [.aload 4] (pc' := 25) (lv' := [(4, .ref (ca t)), (3, .ref (ca k)), (0, .ref (Q 0)), (1, .int (nI k)), (2, .int (nI t))]) (st' := [.ref (ca t)]) (by decide +kernel) rfl rfl ?_
      refine v_ifnonnull g (r := (some (ca t))) (off := 8) (tgt := 33) (by decide +kernel) (by decide) (fun _ _ => ?_) (fun q => nomatch q)
      refine v_blk g [.aload_n 3] (pc' := 34) (lv' := [(4, .ref (ca t)), (3, .ref (ca k)), (0, .ref (Q 0)), (1, .int (nI k)), (2, .int (nI t))]) (st' := [.ref (ca k)]) (by decide +kernel) rfl rfl ?_
      refine v_get g (kn2 k hk).1 fl_X7_135 rfl (by decide +kernel) ?_
      refine v_blk g [.aload 4] (pc' := 39) (lv' := [(4, .ref (ca t)), (3, .ref (ca k)), (0, .ref (Q 0)), (1, .int (nI k)), (2, .int (nI t))]) (st' := [.ref (ca t), .ref (cl k)]) (by decide +kernel) rfl rfl ?_
      refine v_get g (kn2 t ht).1 fl_X7_135 rfl (by decide +kernel) ?_
      refine v_callVp g (rest := []) (c_LS_least (kn3 k hk).1 (kn4 k hk).1 (kn3 t ht).1 (kn4 t ht).1) cl_X7_156 (kn3 k hk).1 rfl rfl (Nat.le_of_ble_eq_true rfl) (by decide +kernel) ⟨Nat.le_of_ble_eq_true rfl, Nat.le_of_ble_eq_true rfl⟩ (zcsn 0 0 rfl rfl (Nat.le_of_ble_eq_true rfl) (Nat.le_of_ble_eq_true rfl)) ?_
      show zV F X h 45 [(4, .ref (ca t)), (3, .ref (ca k)), (0, .ref (Q 0)), (1, .int (nI k)), (2, .int (nI t))] [.int (s_unl (lb (cf k)) (lb (cf t)))]
      exact v_iret g z rfl (by decide +kernel) ⟨by rw [if_pos ⟨c0, c1⟩, ek, et], rfl⟩ (zcrn 0 0 rfl rfl (Nat.le_of_ble_eq_true rfl) (Nat.le_of_ble_eq_true rfl))

set_option maxRecDepth 100000 in
set_option maxHeartbeats 4000000 in
theorem p_house {F : zF} {h : zH} {Ω : Nat → Prop} {Q : Nat → Nat} {cu ha un : Int32} {n : Nat} {B : Nat → Int32} {hg at9 fk fp : Int32} {sp : Option Nat} {G : Nat → Option Nat} {T : Nat → zS} {wf lf hf : Nat → Int32} {ff : Nat → Int64} {V : Nat → Int32} {wk : Int32} {hm pm : Int64} {O : Nat → Int32} {C : Nat → Option Nat} {ch : Nat} {D : Nat → Option Nat} {dh : Nat} {E : Nat → zD} {Z : Nat → Int64} {P : Nat → Int32} {ph : Nat} {ca cl cw : Nat → Nat} {K : Nat → Int32 × Int32 × Int32 × Int32} {cf : Nat → Nat → Int64} {wk2 : Int32} {hm2 pm2 : Int64} {O2 : Nat → Int32} {C2 : Nat → Option Nat} {ch2 : Nat} {D2 : Nat → Option Nat} {dh2 : Nat} {E2 : Nat → zD} {Z2 : Nat → Int64} {P2 : Nat → Int32} {ph2 : Nat} {ca2 cl2 cw2 : Nat → Nat} {K2 : Nat → Int32 × Int32 × Int32 × Int32} {cf2 : Nat → Nat → Int64} (W : PC h (Ω) Q cu ha un n B hg at9 fk fp sp G T wf lf hf ff V wk hm pm O C ch D dh E Z P ph ca cl cw K cf wk2 hm2 pm2 O2 C2 ch2 D2 dh2 E2 Z2 P2 ph2 ca2 cl2 cw2 K2 cf2) (a1 v : Int32) : zMet F yX7_house cX7_house 4 (some .int) { frames := 2, cells := 0, slots := 0, locals := 60 } [.ref (Q 0), .int a1, .int v] h (zP (if okH0 a1 v then z_s h (Q 0) (oB 7 [.ref (Q 1), .ref (Q 3), .ref (Q 5), .ref (Q 10), .ref (Q 20), .ref (Q 30), .int cu, .int v, .int un]) else if okH1 a1 v then z_s h (Q 0) (oB 7 [.ref (Q 1), .ref (Q 3), .ref (Q 5), .ref (Q 10), .ref (Q 20), .ref (Q 30), .int cu, .int ha, .int v]) else h) (some (.int (if okH0 a1 v then ha else if okH1 a1 v then un else -2)))) := by
  refine zMet_of (lv := [(0, .ref (Q 0)), (1, .int a1), (2, .int v)]) (by decide) (by simp [lg_sl, Value.category]) rfl ?_
  intro X g z
  obtain ⟨x0, t1, t2, r3, r4, sp9, gg, ls, lsd, s5, s6, s7, s8, s9, v30, bn, be, kn, ke, hQ⟩ := id W
  obtain ⟨b0, b1, b2, b3, b4, b5, bD, bE, bC⟩ := id bn
  obtain ⟨kn1, kn2, kn3, kn4, kn5, kn6⟩ := id kn
  refine v_blk g [.bipush (-2), .istore_n 3, .iload_n 1] (pc' := 4) (lv' := [(3, .int (-2 : Int32)), (0, .ref (Q 0)), (1, .int a1), (2, .int v)]) (st' := [.int a1]) (by decide +kernel) rfl rfl ?_
  refine v_if_ne g (off := 26) (tgt := 30) (by decide +kernel) (by decide) (fun c0 => ?_) (fun c0 => ?_)
  · refine v_blk g [.iload_n 1, .iconst 1] (pc' := 32) (lv' := [(3, .int (-2 : Int32)), (0, .ref (Q 0)), (1, .int a1), (2, .int v)]) (st' := [.int (1 : Int32), .int a1]) (by decide +kernel) rfl rfl ?_
    refine v_icmp_ne g (off := 24) (tgt := 56) (by decide +kernel) (by decide) (fun c2 => ?_) (fun c2 => ?_)
    · refine v_blk g [.iload_n 3] (pc' := 57) (lv' := [(3, .int (-2 : Int32)), (0, .ref (Q 0)), (1, .int a1), (2, .int v)]) (st' := [.int (-2 : Int32)]) (by decide +kernel) rfl rfl ?_
      exact v_iret g z rfl (by decide +kernel) ⟨by rw [if_neg (fun q => c0 q.1), if_neg (fun q => c2 q.1)], by rw [if_neg (fun q => c0 q.1), if_neg (fun q => c2 q.1)]⟩ (zcrn 0 0 rfl rfl (Nat.le_of_ble_eq_true rfl) (Nat.le_of_ble_eq_true rfl))
    · refine v_blk g [.iload_n 2, .iconst 1, .sipush 1000] (pc' := 40) (lv' := [(3, .int (-2 : Int32)), (0, .ref (Q 0)), (1, .int a1), (2, .int v)]) (st' := [.int (1000 : Int32), .int (1 : Int32), .int v]) (by decide +kernel) rfl rfl ?_
      refine v_callSp g (rest := []) (c_isIn _ _ _) cl_X7_57 rfl (Nat.le_of_ble_eq_true rfl) (by decide +kernel) ⟨Nat.le_of_ble_eq_true rfl, Nat.le_of_ble_eq_true rfl⟩ (zcsn 0 0 rfl rfl (Nat.le_of_ble_eq_true rfl) (Nat.le_of_ble_eq_true rfl)) ?_
      show zV F X h 43 [(3, .int (-2 : Int32)), (0, .ref (Q 0)), (1, .int a1), (2, .int v)] [.int (x_isIn v (1) (1000))]
      refine v_if_eq g (off := 13) (tgt := 56) (by decide +kernel) (by decide) (fun c3 => ?_) (fun c3 => ?_)
      · refine v_blk g [.iload_n 3] (pc' := 57) (lv' := [(3, .int (-2 : Int32)), (0, .ref (Q 0)), (1, .int a1), (2, .int v)]) (st' := [.int (-2 : Int32)]) (by decide +kernel) rfl rfl ?_
        exact v_iret g z rfl (by decide +kernel) ⟨by rw [if_neg (fun q => c0 q.1), if_neg (fun q => q.2 c3)], by rw [if_neg (fun q => c0 q.1), if_neg (fun q => q.2 c3)]⟩ (zcrn 0 0 rfl rfl (Nat.le_of_ble_eq_true rfl) (Nat.le_of_ble_eq_true rfl))
      · refine v_blk g [.aload_n 0] (pc' := 47) (lv' := [(3, .int (-2 : Int32)), (0, .ref (Q 0)), (1, .int a1), (2, .int v)]) (st' := [.ref (Q 0)]) (by decide +kernel) rfl rfl ?_
        refine v_get g x0.1 fl_X7_54 rfl (by decide +kernel) ?_
        refine v_blk g [.istore_n 3, .aload_n 0, .iload_n 2] (pc' := 53) (lv' := [(3, .int un), (0, .ref (Q 0)), (1, .int a1), (2, .int v)]) (st' := [.int v, .ref (Q 0)]) (by decide +kernel) rfl rfl ?_
        refine v_put g (fs' := [.ref (Q 1), .ref (Q 3), .ref (Q 5), .ref (Q 10), .ref (Q 20), .ref (Q 30), .int cu, .int ha, .int v]) x0.1 fl_X7_54 rfl rfl (Nat.le_of_ble_eq_true rfl) rfl (by decide +kernel) ?_
        refine v_h (fun h1 eh1 => ?_)
        have h1_c : h1.2.1 = h.2.1 + 0 ∧ h1.2.2 = h.2.2 + 0 := zcs eh1 ⟨rfl, rfl⟩
        have h1_Q0 : h1.1 (Q 0) = some (oB 7 [.ref (Q 1), .ref (Q 3), .ref (Q 5), .ref (Q 10), .ref (Q 20), .ref (Q 30), .int cu, .int ha, .int v]) := by rw [eh1]; exact z_s_self _ _ _
        refine v_blk g [.iload_n 3] (pc' := 57) (lv' := [(3, .int un), (0, .ref (Q 0)), (1, .int a1), (2, .int v)]) (st' := [.int un]) (by decide +kernel) rfl rfl ?_
        exact v_iret g z rfl (by decide +kernel) ⟨by rw [if_neg (fun q => c0 q.1), if_pos ⟨c2, c3⟩], by rw [if_neg (fun q => c0 q.1), if_pos ⟨c2, c3⟩, eh1]⟩ (zcrn 0 0 h1_c.1 h1_c.2 (Nat.le_of_ble_eq_true rfl) (Nat.le_of_ble_eq_true rfl))
  · refine v_blk g [.iload_n 2, .iconst 0, .bipush 100] (pc' := 11) (lv' := [(3, .int (-2 : Int32)), (0, .ref (Q 0)), (1, .int a1), (2, .int v)]) (st' := [.int (100 : Int32), .int (0 : Int32), .int v]) (by decide +kernel) rfl rfl ?_
    refine v_callSp g (rest := []) (c_isIn _ _ _) cl_X7_57 rfl (Nat.le_of_ble_eq_true rfl) (by decide +kernel) ⟨Nat.le_of_ble_eq_true rfl, Nat.le_of_ble_eq_true rfl⟩ (zcsn 0 0 rfl rfl (Nat.le_of_ble_eq_true rfl) (Nat.le_of_ble_eq_true rfl)) ?_
    show zV F X h 14 [(3, .int (-2 : Int32)), (0, .ref (Q 0)), (1, .int a1), (2, .int v)] [.int (x_isIn v (0) (100))]
    refine v_if_eq g (off := 16) (tgt := 30) (by decide +kernel) (by decide) (fun c1 => ?_) (fun c1 => ?_)
    · refine v_blk g [.iload_n 1, .iconst 1] (pc' := 32) (lv' := [(3, .int (-2 : Int32)), (0, .ref (Q 0)), (1, .int a1), (2, .int v)]) (st' := [.int (1 : Int32), .int a1]) (by decide +kernel) rfl rfl ?_
      refine v_icmp_ne g (off := 24) (tgt := 56) (by decide +kernel) (by decide) (fun c2 => ?_) (fun c2 => ?_)
      · refine v_blk g [.iload_n 3] (pc' := 57) (lv' := [(3, .int (-2 : Int32)), (0, .ref (Q 0)), (1, .int a1), (2, .int v)]) (st' := [.int (-2 : Int32)]) (by decide +kernel) rfl rfl ?_
        exact v_iret g z rfl (by decide +kernel) ⟨by rw [if_neg (fun q => q.2 c1), if_neg (fun q => c2 q.1)], by rw [if_neg (fun q => q.2 c1), if_neg (fun q => c2 q.1)]⟩ (zcrn 0 0 rfl rfl (Nat.le_of_ble_eq_true rfl) (Nat.le_of_ble_eq_true rfl))
      · refine v_blk g [.iload_n 2, .iconst 1, .sipush 1000] (pc' := 40) (lv' := [(3, .int (-2 : Int32)), (0, .ref (Q 0)), (1, .int a1), (2, .int v)]) (st' := [.int (1000 : Int32), .int (1 : Int32), .int v]) (by decide +kernel) rfl rfl ?_
        refine v_callSp g (rest := []) (c_isIn _ _ _) cl_X7_57 rfl (Nat.le_of_ble_eq_true rfl) (by decide +kernel) ⟨Nat.le_of_ble_eq_true rfl, Nat.le_of_ble_eq_true rfl⟩ (zcsn 0 0 rfl rfl (Nat.le_of_ble_eq_true rfl) (Nat.le_of_ble_eq_true rfl)) ?_
        show zV F X h 43 [(3, .int (-2 : Int32)), (0, .ref (Q 0)), (1, .int a1), (2, .int v)] [.int (x_isIn v (1) (1000))]
        refine v_if_eq g (off := 13) (tgt := 56) (by decide +kernel) (by decide) (fun c3 => ?_) (fun c3 => ?_)
        · refine v_blk g [.iload_n 3] (pc' := 57) (lv' := [(3, .int (-2 : Int32)), (0, .ref (Q 0)), (1, .int a1), (2, .int v)]) (st' := [.int (-2 : Int32)]) (by decide +kernel) rfl rfl ?_
          exact v_iret g z rfl (by decide +kernel) ⟨by rw [if_neg (fun q => q.2 c1), if_neg (fun q => q.2 c3)], by rw [if_neg (fun q => q.2 c1), if_neg (fun q => q.2 c3)]⟩ (zcrn 0 0 rfl rfl (Nat.le_of_ble_eq_true rfl) (Nat.le_of_ble_eq_true rfl))
        · refine v_blk g [.aload_n 0] (pc' := 47) (lv' := [(3, .int (-2 : Int32)), (0, .ref (Q 0)), (1, .int a1), (2, .int v)]) (st' := [.ref (Q 0)]) (by decide +kernel) rfl rfl ?_
          refine v_get g x0.1 fl_X7_54 rfl (by decide +kernel) ?_
          refine v_blk g [.istore_n 3, .aload_n 0, .iload_n 2] (pc' := 53) (lv' := [(3, .int un), (0, .ref (Q 0)), (1, .int a1), (2, .int v)]) (st' := [.int v, .ref (Q 0)]) (by decide +kernel) rfl rfl ?_
          refine v_put g (fs' := [.ref (Q 1), .ref (Q 3), .ref (Q 5), .ref (Q 10), .ref (Q 20), .ref (Q 30), .int cu, .int ha, .int v]) x0.1 fl_X7_54 rfl rfl (Nat.le_of_ble_eq_true rfl) rfl (by decide +kernel) ?_
          refine v_h (fun h1 eh1 => ?_)
          have h1_c : h1.2.1 = h.2.1 + 0 ∧ h1.2.2 = h.2.2 + 0 := zcs eh1 ⟨rfl, rfl⟩
          have h1_Q0 : h1.1 (Q 0) = some (oB 7 [.ref (Q 1), .ref (Q 3), .ref (Q 5), .ref (Q 10), .ref (Q 20), .ref (Q 30), .int cu, .int ha, .int v]) := by rw [eh1]; exact z_s_self _ _ _
          refine v_blk g [.iload_n 3] (pc' := 57) (lv' := [(3, .int un), (0, .ref (Q 0)), (1, .int a1), (2, .int v)]) (st' := [.int un]) (by decide +kernel) rfl rfl ?_
          exact v_iret g z rfl (by decide +kernel) ⟨by rw [if_neg (fun q => q.2 c1), if_pos ⟨c2, c3⟩], by rw [if_neg (fun q => q.2 c1), if_pos ⟨c2, c3⟩, eh1]⟩ (zcrn 0 0 h1_c.1 h1_c.2 (Nat.le_of_ble_eq_true rfl) (Nat.le_of_ble_eq_true rfl))
    · refine v_blk g [.aload_n 0] (pc' := 18) (lv' := [(3, .int (-2 : Int32)), (0, .ref (Q 0)), (1, .int a1), (2, .int v)]) (st' := [.ref (Q 0)]) (by decide +kernel) rfl rfl ?_
      refine v_get g x0.1 fl_X7_50 rfl (by decide +kernel) ?_
      refine v_blk g [.istore_n 3, .aload_n 0, .iload_n 2] (pc' := 24) (lv' := [(3, .int ha), (0, .ref (Q 0)), (1, .int a1), (2, .int v)]) (st' := [.int v, .ref (Q 0)]) (by decide +kernel) rfl rfl ?_
      refine v_put g (fs' := [.ref (Q 1), .ref (Q 3), .ref (Q 5), .ref (Q 10), .ref (Q 20), .ref (Q 30), .int cu, .int v, .int un]) x0.1 fl_X7_50 rfl rfl (Nat.le_of_ble_eq_true rfl) rfl (by decide +kernel) ?_
      refine v_h (fun h1 eh1 => ?_)
      have h1_c : h1.2.1 = h.2.1 + 0 ∧ h1.2.2 = h.2.2 + 0 := zcs eh1 ⟨rfl, rfl⟩
      have h1_Q0 : h1.1 (Q 0) = some (oB 7 [.ref (Q 1), .ref (Q 3), .ref (Q 5), .ref (Q 10), .ref (Q 20), .ref (Q 30), .int cu, .int v, .int un]) := by rw [eh1]; exact z_s_self _ _ _
      refine v_goto g (off := 29) (tgt := 56) (by decide +kernel) (by decide) ?_
      refine v_blk g [.iload_n 3] (pc' := 57) (lv' := [(3, .int ha), (0, .ref (Q 0)), (1, .int a1), (2, .int v)]) (st' := [.int ha]) (by decide +kernel) rfl rfl ?_
      exact v_iret g z rfl (by decide +kernel) ⟨by rw [if_pos ⟨c0, c1⟩], by rw [if_pos ⟨c0, c1⟩, eh1]⟩ (zcrn 0 0 h1_c.1 h1_c.2 (Nat.le_of_ble_eq_true rfl) (Nat.le_of_ble_eq_true rfl))
