/-! Books: what a coupon wins -/
def x_wl (S : Nat → Bool) (W : Nat → Nat) (E : Nat → zD) (d : Nat) : Int32 := if d = 0 then nI (s_from S W (E 0).1) else nI (s_from S W (E d).1) - nI (s_from S W (E (d - 1)).1)
def x_wc (K : Nat → Int32 × Int32 × Int32 × Int32) (cf : Nat → Nat → Int64) (W : Nat → Nat) (E : Nat → zD) (d q : Nat) : Int64 := if (K q).2.2.2 = 0 then (x_wl (lb (cf q)) W E d).toInt64 * (K q).2.1.toInt64 else 0

set_option maxRecDepth 100000 in
set_option maxHeartbeats 4000000 in
theorem c_Bk_wins {F : zF} {h : zH} {b oc cs ds pz pq ch dh ph : Nat} {wk : Int32} {hm pm : Int64} (hb : h.1 b = some (oB 0 [.int wk, .long hm, .long pm, .ref oc, .ref cs, .int (nI ch), .ref ds, .int (nI dh), .ref pz, .ref pq, .int (nI ph)])) {D : Nat → Option Nat} {da : Nat → Nat} {E : Nat → zD} (hds : h.1 ds = some (aQ 5 4 D)) (hD : ∀ e, e < 4 → D e = some (da e)) (hdv : ∀ e, e < 4 → h.1 (da e) = some (oD (E e))) {C : Nat → Option Nat} {ca cl cw : Nat → Nat} {K : Nat → Int32 × Int32 × Int32 × Int32} {cf : Nat → Nat → Int64} (hcs : h.1 cs = some (aQ 4 20 C)) (hC : ∀ q, q < ch → C q = some (ca q)) (hca : ∀ q, q < ch → h.1 (ca q) = some (oB 1 [.ref (cl q), .int (K q).1, .int (K q).2.1, .int (K q).2.2.1, .int (K q).2.2.2])) (hcl : ∀ q, q < ch → h.1 (cl q) = some (oB 3 [.ref (cw q)])) (hcw : ∀ q, q < ch → h.1 (cw q) = some (aJ 256 (cf q))) {a wa la ha9 fa : Nat} {hf : Nat → Int32} {ff : Nat → Int64} {W : Nat → Nat} (ha : h.1 a = some (oB 5 [.ref wa, .ref la, .ref ha9, .ref fa])) (hha : h.1 ha9 = some (aI 256 hf)) (hfa : h.1 fa = some (aJ 55 ff)) (hW : ∀ m, W m ≤ 9) (hhf : nIs hf (fun q => wS W 6 q 8) 256) (hff : okLow ff W) {q d : Nat} (hn : ch ≤ 20) (hdh : dh ≤ 4) (hq : q < ch) (hd : d < dh) : zMet F yX0_winningCoins cX0_winningCoins 8 (some .long) { frames := 4, cells := 0, slots := 0, locals := 120 } [.ref b, .int (nI q), .int (nI d), .ref a] h (zP h (some (.long (x_wc K cf W E d q)))) := by
  refine zMet_of (lv := [(0, .ref b), (1, .int (nI q)), (2, .int (nI d)), (3, .ref a)]) (by decide) (by simp [lg_sl, Value.category]) rfl ?_
  intro X g z
  refine v_blk g [.aload_n 0, .iload_n 1] (pc' := 2) (lv' := [(0, .ref b), (1, .int (nI q)), (2, .int (nI d)), (3, .ref a)]) (st' := [.int (nI q), .ref b]) (by decide +kernel) rfl rfl ?_
  refine v_callVp g (rest := []) (c_Bk_couponAt hb hcs hn _) cl_X0_96 hb rfl rfl (Nat.le_of_ble_eq_true rfl) (by decide +kernel) ⟨Nat.le_of_ble_eq_true rfl, Nat.le_of_ble_eq_true rfl⟩ (zcsn 0 0 rfl rfl (Nat.le_of_ble_eq_true rfl) (Nat.le_of_ble_eq_true rfl)) ?_
  show zV F X h 5 [(0, .ref b), (1, .int (nI q)), (2, .int (nI d)), (3, .ref a)] [va_rf (x_at C ch (nI q))]
  refine v_st (st' := [.ref (ca q)]) (by rw [show x_at C ch (nI q) = some (ca q) from (x_at_in hq (by omega)).trans (hC q hq)]; rfl) ?_
  refine v_blk g [.astore 4, .aload_n 0, .iload_n 2] (pc' := 9) (lv' := [(4, .ref (ca q)), (0, .ref b), (1, .int (nI q)), (2, .int (nI d)), (3, .ref a)]) (st' := [.int (nI d), .ref b]) (by decide +kernel) rfl rfl ?_
  refine v_callVp g (rest := []) (c_Bk_divAt hb hds hdh _) cl_X0_71 hb rfl rfl (Nat.le_of_ble_eq_true rfl) (by decide +kernel) ⟨Nat.le_of_ble_eq_true rfl, Nat.le_of_ble_eq_true rfl⟩ (zcsn 0 0 rfl rfl (Nat.le_of_ble_eq_true rfl) (Nat.le_of_ble_eq_true rfl)) ?_
  show zV F X h 12 [(4, .ref (ca q)), (0, .ref b), (1, .int (nI q)), (2, .int (nI d)), (3, .ref a)] [va_rf (x_at D dh (nI d))]
  refine v_st (st' := [.ref (da d)]) (by rw [show x_at D dh (nI d) = some (da d) from (x_at_in hd (by omega)).trans (hD d (by omega))]; rfl) ?_
  refine v_blk g [.astore 5, .aload 4] (pc' := 16) (lv' := [(5, .ref (da d)), (4, .ref (ca q)), (0, .ref b), (1, .int (nI q)), (2, .int (nI d)), (3, .ref a)]) (st' := [.ref (ca q)]) (by decide +kernel) rfl rfl ?_
  refine v_ifnull g (r := (some (ca q))) (off := 16) (tgt := 32) (by decide +kernel) (by decide) (fun q => nomatch q) (fun _ _ => ?_)
  refine v_blk g [.aload 5] (pc' := 21) (lv' := [(5, .ref (da d)), (4, .ref (ca q)), (0, .ref b), (1, .int (nI q)), (2, .int (nI d)), (3, .ref a)]) (st' := [.ref (da d)]) (by decide +kernel) rfl rfl ?_
  refine v_ifnull g (r := (some (da d))) (off := 11) (tgt := 32) (by decide +kernel) (by decide) (fun q => nomatch q) (fun _ _ => ?_)
  refine v_blk g [.aload 4] (pc' := 26) (lv' := [(5, .ref (da d)), (4, .ref (ca q)), (0, .ref b), (1, .int (nI q)), (2, .int (nI d)), (3, .ref a)]) (st' := [.ref (ca q)]) (by decide +kernel) rfl rfl ?_
  refine v_get g (hca q hq) fl_X0_100 rfl (by decide +kernel) ?_
  refine v_if_eq g (off := 5) (tgt := 34) (by decide +kernel) (by decide) (fun c => ?_) (fun c => ?_)
  · refine v_blk g [.aload_n 0, .iload_n 2, .iconst 1, .isub] (pc' := 38) (lv' := [(5, .ref (da d)), (4, .ref (ca q)), (0, .ref b), (1, .int (nI q)), (2, .int (nI d)), (3, .ref a)]) (st' := [.int ((nI d) - (1 : Int32)), .ref b]) (by decide +kernel) rfl rfl ?_
    rcases Nat.eq_zero_or_pos d with d0 | d0
    · subst d0
      refine v_callVp g (rest := []) (c_Bk_divAt hb hds hdh _) cl_X0_71 hb rfl rfl (Nat.le_of_ble_eq_true rfl) (by decide +kernel) ⟨Nat.le_of_ble_eq_true rfl, Nat.le_of_ble_eq_true rfl⟩ (zcsn 0 0 rfl rfl (Nat.le_of_ble_eq_true rfl) (Nat.le_of_ble_eq_true rfl)) ?_
      show zV F X h 41 [(5, .ref (da 0)), (4, .ref (ca q)), (0, .ref b), (1, .int (nI q)), (2, .int (nI 0)), (3, .ref a)] [va_rf (x_at D dh (nI 0 - (1 : Int32)))]
      refine v_st (st' := [.null]) (by rw [show x_at D dh (nI 0 - (1 : Int32)) = none from by rw [x_at, if_pos (by decide)]]; rfl) ?_
      refine v_blk g [.astore 6, .aload_n 3, .aload 4] (pc' := 46) (lv' := [(6, .null), (5, .ref (da 0)), (4, .ref (ca q)), (0, .ref b), (1, .int (nI q)), (2, .int (nI 0)), (3, .ref a)]) (st' := [.ref (ca q), .ref a]) (by decide +kernel) rfl rfl ?_
      refine v_get g (hca q hq) fl_X0_136 rfl (by decide +kernel) ?_
      refine v_blk g [.aload 5] (pc' := 51) (lv' := [(6, .null), (5, .ref (da 0)), (4, .ref (ca q)), (0, .ref b), (1, .int (nI q)), (2, .int (nI 0)), (3, .ref a)]) (st' := [.ref (da 0), .ref (cl q), .ref a]) (by decide +kernel) rfl rfl ?_
      refine v_get g (hdv 0 (by omega)) fl_X0_75 rfl (by decide +kernel) ?_
      refine v_callVp g (rest := []) (c_Sc_sizeFrom ha hha hfa (hcl q hq) (hcw q hq) hW hhf hff _) cl_X0_140 ha rfl rfl (Nat.le_of_ble_eq_true rfl) (by decide +kernel) ⟨Nat.le_of_ble_eq_true rfl, Nat.le_of_ble_eq_true rfl⟩ (zcsn 0 0 rfl rfl (Nat.le_of_ble_eq_true rfl) (Nat.le_of_ble_eq_true rfl)) ?_
      show zV F X h 57 [(6, .null), (5, .ref (da 0)), (4, .ref (ca q)), (0, .ref b), (1, .int (nI q)), (2, .int (nI 0)), (3, .ref a)] [.int (nI (s_from (lb (cf q)) W (E 0).1))]
      refine v_blk g [.istore 7, .aload 6] (pc' := 61) (lv' := [(7, .int (nI (s_from (lb (cf q)) W (E 0).1))), (6, .null), (5, .ref (da 0)), (4, .ref (ca q)), (0, .ref b), (1, .int (nI q)), (2, .int (nI 0)), (3, .ref a)]) (st' := [.null]) (by decide +kernel) rfl rfl ?_
      refine v_ifnull g (r := none) (off := 22) (tgt := 83) (by decide +kernel) (by decide) (fun _ => ?_) (fun _ q => nomatch q)
      refine v_blk g [.iload 7, .i2l, .aload 4] (pc' := 88) (lv' := [(7, .int (nI (s_from (lb (cf q)) W (E 0).1))), (6, .null), (5, .ref (da 0)), (4, .ref (ca q)), (0, .ref b), (1, .int (nI q)), (2, .int (nI 0)), (3, .ref a)]) (st' := [.ref (ca q), .long ((nI (s_from (lb (cf q)) W (E 0).1)).toInt64)]) (by decide +kernel) rfl rfl ?_
      refine v_get g (hca q hq) fl_X0_146 rfl (by decide +kernel) ?_
      refine v_blk g [.i2l, .lmul] (pc' := 93) (lv' := [(7, .int (nI (s_from (lb (cf q)) W (E 0).1))), (6, .null), (5, .ref (da 0)), (4, .ref (ca q)), (0, .ref b), (1, .int (nI q)), (2, .int (nI 0)), (3, .ref a)]) (st' := [.long (((nI (s_from (lb (cf q)) W (E 0).1)).toInt64) * (((K q).2.1).toInt64))]) (by decide +kernel) rfl rfl ?_
      exact v_lret g z rfl (by decide +kernel) ⟨by rw [x_wc, if_pos c, x_wl, if_pos rfl], rfl⟩ (zcrn 0 0 rfl rfl (Nat.le_of_ble_eq_true rfl) (Nat.le_of_ble_eq_true rfl))
    · refine v_ti (z := nI (d - 1)) (by rw [show (1 : Int32) = nI 1 from rfl, pk_sub (by omega)]) ?_
      refine v_callVp g (rest := []) (c_Bk_divAt hb hds hdh _) cl_X0_71 hb rfl rfl (Nat.le_of_ble_eq_true rfl) (by decide +kernel) ⟨Nat.le_of_ble_eq_true rfl, Nat.le_of_ble_eq_true rfl⟩ (zcsn 0 0 rfl rfl (Nat.le_of_ble_eq_true rfl) (Nat.le_of_ble_eq_true rfl)) ?_
      show zV F X h 41 [(5, .ref (da d)), (4, .ref (ca q)), (0, .ref b), (1, .int (nI q)), (2, .int (nI d)), (3, .ref a)] [va_rf (x_at D dh (nI (d - 1)))]
      refine v_st (st' := [.ref (da (d - 1))]) (by rw [show x_at D dh (nI (d - 1)) = some (da (d - 1)) from (x_at_in (by omega) (by omega)).trans (hD (d - 1) (by omega))]; rfl) ?_
      refine v_blk g [.astore 6, .aload_n 3, .aload 4] (pc' := 46) (lv' := [(6, .ref (da (d - 1))), (5, .ref (da d)), (4, .ref (ca q)), (0, .ref b), (1, .int (nI q)), (2, .int (nI d)), (3, .ref a)]) (st' := [.ref (ca q), .ref a]) (by decide +kernel) rfl rfl ?_
      refine v_get g (hca q hq) fl_X0_136 rfl (by decide +kernel) ?_
      refine v_blk g [.aload 5] (pc' := 51) (lv' := [(6, .ref (da (d - 1))), (5, .ref (da d)), (4, .ref (ca q)), (0, .ref b), (1, .int (nI q)), (2, .int (nI d)), (3, .ref a)]) (st' := [.ref (da d), .ref (cl q), .ref a]) (by decide +kernel) rfl rfl ?_
      refine v_get g (hdv d (by omega)) fl_X0_75 rfl (by decide +kernel) ?_
      refine v_callVp g (rest := []) (c_Sc_sizeFrom ha hha hfa (hcl q hq) (hcw q hq) hW hhf hff _) cl_X0_140 ha rfl rfl (Nat.le_of_ble_eq_true rfl) (by decide +kernel) ⟨Nat.le_of_ble_eq_true rfl, Nat.le_of_ble_eq_true rfl⟩ (zcsn 0 0 rfl rfl (Nat.le_of_ble_eq_true rfl) (Nat.le_of_ble_eq_true rfl)) ?_
      show zV F X h 57 [(6, .ref (da (d - 1))), (5, .ref (da d)), (4, .ref (ca q)), (0, .ref b), (1, .int (nI q)), (2, .int (nI d)), (3, .ref a)] [.int (nI (s_from (lb (cf q)) W (E d).1))]
      refine v_blk g [.istore 7, .aload 6] (pc' := 61) (lv' := [(7, .int (nI (s_from (lb (cf q)) W (E d).1))), (6, .ref (da (d - 1))), (5, .ref (da d)), (4, .ref (ca q)), (0, .ref b), (1, .int (nI q)), (2, .int (nI d)), (3, .ref a)]) (st' := [.ref (da (d - 1))]) (by decide +kernel) rfl rfl ?_
      refine v_ifnull g (r := (some (da (d - 1)))) (off := 22) (tgt := 83) (by decide +kernel) (by decide) (fun q => nomatch q) (fun _ _ => ?_)
      refine v_blk g [.iload 7, .aload_n 3, .aload 4] (pc' := 69) (lv' := [(7, .int (nI (s_from (lb (cf q)) W (E d).1))), (6, .ref (da (d - 1))), (5, .ref (da d)), (4, .ref (ca q)), (0, .ref b), (1, .int (nI q)), (2, .int (nI d)), (3, .ref a)]) (st' := [.ref (ca q), .ref a, .int (nI (s_from (lb (cf q)) W (E d).1))]) (by decide +kernel) rfl rfl ?_
      refine v_get g (hca q hq) fl_X0_136 rfl (by decide +kernel) ?_
      refine v_blk g [.aload 6] (pc' := 74) (lv' := [(7, .int (nI (s_from (lb (cf q)) W (E d).1))), (6, .ref (da (d - 1))), (5, .ref (da d)), (4, .ref (ca q)), (0, .ref b), (1, .int (nI q)), (2, .int (nI d)), (3, .ref a)]) (st' := [.ref (da (d - 1)), .ref (cl q), .ref a, .int (nI (s_from (lb (cf q)) W (E d).1))]) (by decide +kernel) rfl rfl ?_
      refine v_get g (hdv (d - 1) (by omega)) fl_X0_75 rfl (by decide +kernel) ?_
      refine v_callVp g (rest := [.int (nI (s_from (lb (cf q)) W (E d).1))]) (c_Sc_sizeFrom ha hha hfa (hcl q hq) (hcw q hq) hW hhf hff _) cl_X0_140 ha rfl rfl (Nat.le_of_ble_eq_true rfl) (by decide +kernel) ⟨Nat.le_of_ble_eq_true rfl, Nat.le_of_ble_eq_true rfl⟩ (zcsn 0 0 rfl rfl (Nat.le_of_ble_eq_true rfl) (Nat.le_of_ble_eq_true rfl)) ?_
      show zV F X h 80 [(7, .int (nI (s_from (lb (cf q)) W (E d).1))), (6, .ref (da (d - 1))), (5, .ref (da d)), (4, .ref (ca q)), (0, .ref b), (1, .int (nI q)), (2, .int (nI d)), (3, .ref a)] [.int (nI (s_from (lb (cf q)) W (E (d - 1)).1)), .int (nI (s_from (lb (cf q)) W (E d).1))]
      refine v_blk g [.isub, .istore 7, .iload 7, .i2l, .aload 4] (pc' := 88) (lv' := [(7, .int ((nI (s_from (lb (cf q)) W (E d).1)) - (nI (s_from (lb (cf q)) W (E (d - 1)).1)))), (6, .ref (da (d - 1))), (5, .ref (da d)), (4, .ref (ca q)), (0, .ref b), (1, .int (nI q)), (2, .int (nI d)), (3, .ref a)]) (st' := [.ref (ca q), .long (((nI (s_from (lb (cf q)) W (E d).1)) - (nI (s_from (lb (cf q)) W (E (d - 1)).1))).toInt64)]) (by decide +kernel) rfl rfl ?_
      refine v_get g (hca q hq) fl_X0_146 rfl (by decide +kernel) ?_
      refine v_blk g [.i2l, .lmul] (pc' := 93) (lv' := [(7, .int ((nI (s_from (lb (cf q)) W (E d).1)) - (nI (s_from (lb (cf q)) W (E (d - 1)).1)))), (6, .ref (da (d - 1))), (5, .ref (da d)), (4, .ref (ca q)), (0, .ref b), (1, .int (nI q)), (2, .int (nI d)), (3, .ref a)]) (st' := [.long ((((nI (s_from (lb (cf q)) W (E d).1)) - (nI (s_from (lb (cf q)) W (E (d - 1)).1))).toInt64) * (((K q).2.1).toInt64))]) (by decide +kernel) rfl rfl ?_
      exact v_lret g z rfl (by decide +kernel) ⟨by rw [x_wc, if_pos c, x_wl, if_neg (by omega)], rfl⟩ (zcrn 0 0 rfl rfl (Nat.le_of_ble_eq_true rfl) (Nat.le_of_ble_eq_true rfl))
  · refine v_blk g [.lconst 0] (pc' := 33) (lv' := [(5, .ref (da d)), (4, .ref (ca q)), (0, .ref b), (1, .int (nI q)), (2, .int (nI d)), (3, .ref a)]) (st' := [.long (0 : Int64)]) (by decide +kernel) rfl rfl ?_
    exact v_lret g z rfl (by decide +kernel) ⟨by rw [x_wc, if_neg c], rfl⟩ (zcrn 0 0 rfl rfl (Nat.le_of_ble_eq_true rfl) (Nat.le_of_ble_eq_true rfl))

set_option maxRecDepth 100000 in
set_option maxHeartbeats 4000000 in
theorem c_Bk_open {F : zF} {h : zH} {b oc cs ds pz pq ch dh ph : Nat} {wk : Int32} {hm pm : Int64} (hb : h.1 b = some (oB 0 [.int wk, .long hm, .long pm, .ref oc, .ref cs, .int (nI ch), .ref ds, .int (nI dh), .ref pz, .ref pq, .int (nI ph)])) {C : Nat → Option Nat} {ca cl cw : Nat → Nat} {K : Nat → Int32 × Int32 × Int32 × Int32} {cf : Nat → Nat → Int64} (hcs : h.1 cs = some (aQ 4 20 C)) (hC : ∀ q, q < ch → C q = some (ca q)) (hca : ∀ q, q < ch → h.1 (ca q) = some (oB 1 [.ref (cl q), .int (K q).1, .int (K q).2.1, .int (K q).2.2.1, .int (K q).2.2.2])) {Z : Nat → Int64} {P : Nat → Int32} (hpz : h.1 pz = some (aJ 20 Z)) (hpq : h.1 pq = some (aI 20 P)) (hn : ch ≤ 20) : zMet F yX0_openPrizes cX0_openPrizes 3 none { frames := 2, cells := 0, slots := 0, locals := 60 } [.ref b] h (zP (z_s (z_s (z_s h b (oB 0 [.int wk, .long hm, .long pm, .ref oc, .ref cs, .int (nI ch), .ref ds, .int (nI dh), .ref pz, .ref pq, .int (nI ch)])) pz (aJ 20 (mx (fun _ => (0 : Int64)) Z 20))) pq (aI 20 (mx (fun q => if q < ch then (K q).2.2.1 else 0) P 20))) none) := by
  refine zMet_of (lv := [(0, .ref b)]) (by decide) (by simp [lg_sl, Value.category]) rfl ?_
  intro X g z
  refine v_blk g [.aload_n 0, .aload_n 0] (pc' := 2) (lv' := [(0, .ref b)]) (st' := [.ref b, .ref b]) (by decide +kernel) rfl rfl ?_
  refine v_get g hb fl_X0_52 rfl (by decide +kernel) ?_
  refine v_put g (fs' := [.int wk, .long hm, .long pm, .ref oc, .ref cs, .int (nI ch), .ref ds, .int (nI dh), .ref pz, .ref pq, .int (nI ch)]) hb fl_X0_58 rfl rfl (Nat.le_of_ble_eq_true rfl) rfl (by decide +kernel) ?_
  refine v_h (fun h1 eh1 => ?_)
  have h1_c : h1.2.1 = h.2.1 + 0 ∧ h1.2.2 = h.2.2 + 0 := zcs eh1 ⟨rfl, rfl⟩
  have h1_b : h1.1 b = some (oB 0 [.int wk, .long hm, .long pm, .ref oc, .ref cs, .int (nI ch), .ref ds, .int (nI dh), .ref pz, .ref pq, .int (nI ch)]) := by rw [eh1]; exact z_s_self _ _ _
  have h1_cs : h1.1 cs = some (aQ 4 20 C) := by rw [eh1]; exact z_so hcs (Ne.symm (z_ne hb hcs rfl))
  have h1_pz : h1.1 pz = some (aJ 20 Z) := by rw [eh1]; exact z_so hpz (Ne.symm (z_ne hb hpz rfl))
  have h1_pq : h1.1 pq = some (aI 20 P) := by rw [eh1]; exact z_so hpq (Ne.symm (z_ne hb hpq rfl))
  refine v_blk g [.iconst 0, .istore_n 1] (pc' := 10) (lv' := [(1, .int (0 : Int32)), (0, .ref b)]) (st' := []) (by decide +kernel) rfl rfl ?_
  have hca1 : ∀ q, q < ch → h1.1 (ca q) = some (oB 1 [.ref (cl q), .int (K q).1, .int (K q).2.1, .int (K q).2.2.1, .int (K q).2.2.2]) := fun q hq => by rw [eh1]; exact z_so (hca q hq) (z_ne (hca q hq) hb rfl)
  have key : ∀ i, i ≤ 20 → zV F X (z_s (z_s h1 pz (aJ 20 (mx (fun _ => (0 : Int64)) Z i))) pq (aI 20 (mx (fun q => if q < ch then (K q).2.2.1 else 0) P i))) 10 [(1, .int (nI i)), (0, .ref b)] [] := by
    refine z_up (P := fun i => zV F X (z_s (z_s h1 pz (aJ 20 (mx (fun _ => (0 : Int64)) Z i))) pq (aI 20 (mx (fun q => if q < ch then (K q).2.2.1 else 0) P i))) 10 [(1, .int (nI i)), (0, .ref b)] []) 20 ?_ ?_
    · refine v_blk g [.iload_n 1, .bipush 20] (pc' := 13) (lv' := [(1, .int (nI 20)), (0, .ref b)]) (st' := [.int (20 : Int32), .int (nI 20)]) (by decide +kernel) rfl rfl ?_
      refine v_icmp_ge g (off := 40) (tgt := 53) (by decide +kernel) (by decide) (fun _ => ?_) (fun c => absurd c (fun q => q (by decide)))
      exact v_vret g z rfl (by decide +kernel) ⟨rfl, by rw [eh1]⟩ (zcrn 0 0 h1_c.1 h1_c.2 (Nat.le_of_ble_eq_true rfl) (Nat.le_of_ble_eq_true rfl))
    · intro i hi ih
      refine v_blk g [.iload_n 1, .bipush 20] (pc' := 13) (lv' := [(1, .int (nI i)), (0, .ref b)]) (st' := [.int (20 : Int32), .int (nI i)]) (by decide +kernel) rfl rfl ?_
      refine v_icmp_ge g (off := 40) (tgt := 53) (by decide +kernel) (by decide) (fun c => absurd c (nI_ge (b := 20) hi (by decide))) (fun _ => ?_)
      refine v_blk g [.aload_n 0, .iload_n 1] (pc' := 18) (lv' := [(1, .int (nI i)), (0, .ref b)]) (st' := [.int (nI i), .ref b]) (by decide +kernel) rfl rfl ?_
      refine v_callVp g (rest := []) (c_Bk_couponAt (z_so (z_so h1_b (z_ne hb hpz rfl)) (z_ne hb hpq rfl)) (z_so (z_so h1_cs (z_ne hcs hpz rfl)) (z_ne hcs hpq rfl)) hn _) cl_X0_96 (z_so (z_so h1_b (z_ne hb hpz rfl)) (z_ne hb hpq rfl)) rfl rfl (Nat.le_of_ble_eq_true rfl) (by decide +kernel) ⟨Nat.le_of_ble_eq_true rfl, Nat.le_of_ble_eq_true rfl⟩ (zcsn 0 0 h1_c.1 h1_c.2 (Nat.le_of_ble_eq_true rfl) (Nat.le_of_ble_eq_true rfl)) ?_
      show zV F X (z_s (z_s h1 pz (aJ 20 (mx (fun _ => (0 : Int64)) Z i))) pq (aI 20 (mx (fun q => if q < ch then (K q).2.2.1 else 0) P i))) 21 [(1, .int (nI i)), (0, .ref b)] [va_rf (x_at C ch (nI i))]
      rcases Nat.lt_or_ge i ch with hic | hic
      · refine v_st (st' := [.ref (ca i)]) (by rw [show x_at C ch (nI i) = some (ca i) from (x_at_in hic (by omega)).trans (hC i hic)]; rfl) ?_
        refine v_blk g [.astore_n 2, .aload_n 0] (pc' := 23) (lv' := [(2, .ref (ca i)), (1, .int (nI i)), (0, .ref b)]) (st' := [.ref b]) (by decide +kernel) rfl rfl ?_
        refine v_get g (z_so (z_so h1_b (z_ne hb hpz rfl)) (z_ne hb hpq rfl)) fl_X0_34 rfl (by decide +kernel) ?_
        refine v_blk g [.iload_n 1, .lconst 0] (pc' := 28) (lv' := [(2, .ref (ca i)), (1, .int (nI i)), (0, .ref b)]) (st' := [.long (0 : Int64), .int (nI i), .ref pz]) (by decide +kernel) rfl rfl ?_
        refine v_last g (z_so (z_s_self _ _ _) (z_ne hpz hpq rfl)) i rfl hi (Nat.le_of_ble_eq_true rfl) (by decide +kernel) ?_
        refine v_h (fun h2 eh2 => ?_)
        have h2_c : h2.2.1 = h.2.1 + 0 ∧ h2.2.2 = h.2.2 + 0 := zcs eh2 h1_c
        have h2_b : h2.1 b = some (oB 0 [.int wk, .long hm, .long pm, .ref oc, .ref cs, .int (nI ch), .ref ds, .int (nI dh), .ref pz, .ref pq, .int (nI ch)]) := by rw [eh2]; exact z_so (z_so (z_so h1_b (z_ne hb hpz rfl)) (z_ne hb hpq rfl)) (z_ne hb hpz rfl)
        have h2_cs : h2.1 cs = some (aQ 4 20 C) := by rw [eh2]; exact z_so (z_so (z_so h1_cs (z_ne hcs hpz rfl)) (z_ne hcs hpq rfl)) (z_ne hcs hpz rfl)
        have h2_pz : h2.1 pz = some (aJ 20 (vp_updL (mx (fun _ => (0 : Int64)) Z i) i (0 : Int64))) := by rw [eh2]; exact z_s_self _ _ _
        have h2_pq : h2.1 pq = some (aI 20 (mx (fun q => if q < ch then (K q).2.2.1 else 0) P i)) := by rw [eh2]; exact z_so (z_s_self _ _ _) (Ne.symm (z_ne hpz hpq rfl))
        have h2_cai : h2.1 (ca i) = some (oB 1 [.ref (cl i), .int ((K i).1), .int ((K i).2.1), .int ((K i).2.2.1), .int ((K i).2.2.2)]) := by rw [eh2]; exact z_so (z_so (z_so (hca1 i hic) (z_ne (hca i hic) hpz rfl)) (z_ne (hca i hic) hpq rfl)) (z_ne (hca i hic) hpz rfl)
        refine v_blk g [.aload_n 0] (pc' := 30) (lv' := [(2, .ref (ca i)), (1, .int (nI i)), (0, .ref b)]) (st' := [.ref b]) (by decide +kernel) rfl rfl ?_
        refine v_get g h2_b fl_X0_38 rfl (by decide +kernel) ?_
        refine v_blk g [.iload_n 1, .aload_n 2] (pc' := 35) (lv' := [(2, .ref (ca i)), (1, .int (nI i)), (0, .ref b)]) (st' := [.ref (ca i), .int (nI i), .ref pq]) (by decide +kernel) rfl rfl ?_
        refine v_ifnonnull g (r := (some (ca i))) (off := 7) (tgt := 42) (by decide +kernel) (by decide) (fun _ _ => ?_) (fun q => nomatch q)
        refine v_blk g [.aload_n 2] (pc' := 43) (lv' := [(2, .ref (ca i)), (1, .int (nI i)), (0, .ref b)]) (st' := [.ref (ca i), .int (nI i), .ref pq]) (by decide +kernel) rfl rfl ?_
        refine v_get g h2_cai fl_X0_122 rfl (by decide +kernel) ?_
        refine v_iast g h2_pq i rfl hi (Nat.le_of_ble_eq_true rfl) (by decide +kernel) ?_
        refine v_h (fun h3 eh3 => ?_)
        have h3_c : h3.2.1 = h.2.1 + 0 ∧ h3.2.2 = h.2.2 + 0 := zcs eh3 h2_c
        have h3_b : h3.1 b = some (oB 0 [.int wk, .long hm, .long pm, .ref oc, .ref cs, .int (nI ch), .ref ds, .int (nI dh), .ref pz, .ref pq, .int (nI ch)]) := by rw [eh3]; exact z_so h2_b (z_ne hb hpq rfl)
        have h3_cs : h3.1 cs = some (aQ 4 20 C) := by rw [eh3]; exact z_so h2_cs (z_ne hcs hpq rfl)
        have h3_pz : h3.1 pz = some (aJ 20 (vp_updL (mx (fun _ => (0 : Int64)) Z i) i (0 : Int64))) := by rw [eh3]; exact z_so h2_pz (z_ne hpz hpq rfl)
        have h3_pq : h3.1 pq = some (aI 20 (upd (mx (fun q => if q < ch then (K q).2.2.1 else 0) P i) i ((K i).2.2.1))) := by rw [eh3]; exact z_s_self _ _ _
        have h3_cai : h3.1 (ca i) = some (oB 1 [.ref (cl i), .int ((K i).1), .int ((K i).2.1), .int ((K i).2.2.1), .int ((K i).2.2.2)]) := by rw [eh3]; exact z_so h2_cai (z_ne (hca i hic) hpq rfl)
        refine v_blk g [.iinc 1 1] (pc' := 50) (lv' := [(1, .int ((nI i) + (1 : Int32))), (2, .ref (ca i)), (0, .ref b)]) (st' := []) (by decide +kernel) rfl rfl ?_
        refine v_goto g (off := -40) (tgt := 10) (by decide +kernel) (by decide) ?_
        refine v_lv [0, 2] (lv' := [(1, .int ((nI i) + (1 : Int32))), (0, .ref b)]) rfl ?_
        refine v_eqh (h' := z_s (z_s h1 pz (aJ 20 (mx (fun _ => (0 : Int64)) Z (i + 1)))) pq (aI 20 (mx (fun q => if q < ch then (K q).2.2.1 else 0) P (i + 1)))) (by rw [eh3, eh2, z_s2 _ _ _ _ (z_ne hpz hpq rfl)]; exact congrArg (fun q => z_s (z_s h1 pz (aJ 20 (mx (fun _ => (0 : Int64)) Z (i + 1)))) pq (aI 20 q)) (by rw [← mx_I (fun q => if q < ch then (K q).2.2.1 else 0) P i]; exact congrArg (upd (mx (fun q => if q < ch then (K q).2.2.1 else 0) P i) i) (show ((K i).2.2.1 : Int32) = (fun q => if q < ch then (K q).2.2.1 else 0) i from (show (fun q => if q < ch then (K q).2.2.1 else 0) i = (K i).2.2.1 from if_pos hic).symm)) |> fun e => (congrArg (fun q => z_s (z_s h1 pz (aJ 20 q)) pq _) (mx_J (fun _ => (0 : Int64)) Z i)).trans e) ?_
        exact v_eq (by rw [nI_1]) rfl ih
      · refine v_st (st' := [.null]) (by rw [show x_at C ch (nI i) = none from x_at_out hic (by omega)]; rfl) ?_
        refine v_blk g [.astore_n 2, .aload_n 0] (pc' := 23) (lv' := [(2, .null), (1, .int (nI i)), (0, .ref b)]) (st' := [.ref b]) (by decide +kernel) rfl rfl ?_
        refine v_get g (z_so (z_so h1_b (z_ne hb hpz rfl)) (z_ne hb hpq rfl)) fl_X0_34 rfl (by decide +kernel) ?_
        refine v_blk g [.iload_n 1, .lconst 0] (pc' := 28) (lv' := [(2, .null), (1, .int (nI i)), (0, .ref b)]) (st' := [.long (0 : Int64), .int (nI i), .ref pz]) (by decide +kernel) rfl rfl ?_
        refine v_last g (z_so (z_s_self _ _ _) (z_ne hpz hpq rfl)) i rfl hi (Nat.le_of_ble_eq_true rfl) (by decide +kernel) ?_
        refine v_h (fun h2 eh2 => ?_)
        have h2_c : h2.2.1 = h.2.1 + 0 ∧ h2.2.2 = h.2.2 + 0 := zcs eh2 h1_c
        have h2_b : h2.1 b = some (oB 0 [.int wk, .long hm, .long pm, .ref oc, .ref cs, .int (nI ch), .ref ds, .int (nI dh), .ref pz, .ref pq, .int (nI ch)]) := by rw [eh2]; exact z_so (z_so (z_so h1_b (z_ne hb hpz rfl)) (z_ne hb hpq rfl)) (z_ne hb hpz rfl)
        have h2_cs : h2.1 cs = some (aQ 4 20 C) := by rw [eh2]; exact z_so (z_so (z_so h1_cs (z_ne hcs hpz rfl)) (z_ne hcs hpq rfl)) (z_ne hcs hpz rfl)
        have h2_pz : h2.1 pz = some (aJ 20 (vp_updL (mx (fun _ => (0 : Int64)) Z i) i (0 : Int64))) := by rw [eh2]; exact z_s_self _ _ _
        have h2_pq : h2.1 pq = some (aI 20 (mx (fun q => if q < ch then (K q).2.2.1 else 0) P i)) := by rw [eh2]; exact z_so (z_s_self _ _ _) (Ne.symm (z_ne hpz hpq rfl))
        refine v_blk g [.aload_n 0] (pc' := 30) (lv' := [(2, .null), (1, .int (nI i)), (0, .ref b)]) (st' := [.ref b]) (by decide +kernel) rfl rfl ?_
        refine v_get g h2_b fl_X0_38 rfl (by decide +kernel) ?_
        refine v_blk g [.iload_n 1, .aload_n 2] (pc' := 35) (lv' := [(2, .null), (1, .int (nI i)), (0, .ref b)]) (st' := [.null, .int (nI i), .ref pq]) (by decide +kernel) rfl rfl ?_
        refine v_ifnonnull g (r := none) (off := 7) (tgt := 42) (by decide +kernel) (by decide) (fun _ q => nomatch q) (fun _ => ?_)
        refine v_blk g [.iconst 0] (pc' := 39) (lv' := [(2, .null), (1, .int (nI i)), (0, .ref b)]) (st' := [.int (0 : Int32), .int (nI i), .ref pq]) (by decide +kernel) rfl rfl ?_
        refine v_goto g (off := 7) (tgt := 46) (by decide +kernel) (by decide) ?_
        refine v_iast g h2_pq i rfl hi (Nat.le_of_ble_eq_true rfl) (by decide +kernel) ?_
        refine v_h (fun h3 eh3 => ?_)
        have h3_c : h3.2.1 = h.2.1 + 0 ∧ h3.2.2 = h.2.2 + 0 := zcs eh3 h2_c
        have h3_b : h3.1 b = some (oB 0 [.int wk, .long hm, .long pm, .ref oc, .ref cs, .int (nI ch), .ref ds, .int (nI dh), .ref pz, .ref pq, .int (nI ch)]) := by rw [eh3]; exact z_so h2_b (z_ne hb hpq rfl)
        have h3_cs : h3.1 cs = some (aQ 4 20 C) := by rw [eh3]; exact z_so h2_cs (z_ne hcs hpq rfl)
        have h3_pz : h3.1 pz = some (aJ 20 (vp_updL (mx (fun _ => (0 : Int64)) Z i) i (0 : Int64))) := by rw [eh3]; exact z_so h2_pz (z_ne hpz hpq rfl)
        have h3_pq : h3.1 pq = some (aI 20 (upd (mx (fun q => if q < ch then (K q).2.2.1 else 0) P i) i (0 : Int32))) := by rw [eh3]; exact z_s_self _ _ _
        refine v_blk g [.iinc 1 1] (pc' := 50) (lv' := [(1, .int ((nI i) + (1 : Int32))), (2, .null), (0, .ref b)]) (st' := []) (by decide +kernel) rfl rfl ?_
        refine v_goto g (off := -40) (tgt := 10) (by decide +kernel) (by decide) ?_
        refine v_lv [0, 2] (lv' := [(1, .int ((nI i) + (1 : Int32))), (0, .ref b)]) rfl ?_
        refine v_eqh (h' := z_s (z_s h1 pz (aJ 20 (mx (fun _ => (0 : Int64)) Z (i + 1)))) pq (aI 20 (mx (fun q => if q < ch then (K q).2.2.1 else 0) P (i + 1)))) (by rw [eh3, eh2, z_s2 _ _ _ _ (z_ne hpz hpq rfl)]; exact congrArg (fun q => z_s (z_s h1 pz (aJ 20 (mx (fun _ => (0 : Int64)) Z (i + 1)))) pq (aI 20 q)) (by rw [← mx_I (fun q => if q < ch then (K q).2.2.1 else 0) P i]; exact congrArg (upd (mx (fun q => if q < ch then (K q).2.2.1 else 0) P i) i) (show (0 : Int32) = (fun q => if q < ch then (K q).2.2.1 else 0) i from (show (fun q => if q < ch then (K q).2.2.1 else 0) i = 0 from if_neg (by omega)).symm)) |> fun e => (congrArg (fun q => z_s (z_s h1 pz (aJ 20 q)) pq _) (mx_J (fun _ => (0 : Int64)) Z i)).trans e) ?_
        exact v_eq (by rw [nI_1]) rfl ih
  exact v_eqh (by rw [mx_0, mx_0, z_sid h1_pz, z_sid h1_pq]) (key 0 (by omega))
