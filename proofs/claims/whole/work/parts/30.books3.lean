/-! Books: a dividend more, a dividend paid -/
def okD (E : Nat → zD) (dh : Nat) (l s : Int32) : Prop := dh < 4 ∧ (dh = 0 ∨ l < (E (dh - 1)).1) ∧ sumI (fun d => (E d).2.1) dh + s ≤ 100

set_option maxRecDepth 100000 in
set_option maxHeartbeats 4000000 in
theorem c_Bk_addDiv {F : zF} {h : zH} {b oc cs ds pz pq ch dh ph : Nat} {wk : Int32} {hm pm : Int64} (hb : h.1 b = some (oB 0 [.int wk, .long hm, .long pm, .ref oc, .ref cs, .int (nI ch), .ref ds, .int (nI dh), .ref pz, .ref pq, .int (nI ph)])) {D : Nat → Option Nat} {da : Nat → Nat} {E : Nat → zD} (hds : h.1 ds = some (aQ 5 4 D)) (hD : ∀ e, e < 4 → D e = some (da e)) (hdv : ∀ e, e < 4 → h.1 (da e) = some (oD (E e))) (hdh : dh ≤ 4) (l s cg : Int32) : zMet F yX0_addDividend cX0_addDividend 5 (some .int) { frames := 2, cells := 0, slots := 0, locals := 60 } [.ref b, .int l, .int s, .int cg] h (fun v h2 => (okD E dh l s ∧ v = some (.int (nI dh)) ∧ h2 = z_s (z_s h (da dh) (oD (l, s, cg, 0, 0, 0))) b (oB 0 [.int wk, .long hm, .long pm, .ref oc, .ref cs, .int (nI ch), .ref ds, .int (nI (dh + 1)), .ref pz, .ref pq, .int (nI ph)])) ∨ (¬ okD E dh l s ∧ v = some (.int (-1)) ∧ h2 = h)) := by
  refine zMet_of (lv := [(0, .ref b), (1, .int l), (2, .int s), (3, .int cg)]) (by decide) (by simp [lg_sl, Value.category]) rfl ?_
  intro X g z
  refine v_blk g [.aload_n 0, .aload_n 0] (pc' := 2) (lv' := [(0, .ref b), (1, .int l), (2, .int s), (3, .int cg)]) (st' := [.ref b, .ref b]) (by decide +kernel) rfl rfl ?_
  refine v_get g hb fl_X0_55 rfl (by decide +kernel) ?_
  refine v_blk g [.iconst 1, .isub] (pc' := 7) (lv' := [(0, .ref b), (1, .int l), (2, .int s), (3, .int cg)]) (st' := [.int ((nI dh) - (1 : Int32)), .ref b]) (by decide +kernel) rfl rfl ?_
  rcases Nat.eq_zero_or_pos dh with d0 | d0
  · refine v_callVp g (rest := []) (c_Bk_divAt hb hds hdh _) cl_X0_71 hb rfl rfl (Nat.le_of_ble_eq_true rfl) (by decide +kernel) ⟨Nat.le_of_ble_eq_true rfl, Nat.le_of_ble_eq_true rfl⟩ (zcsn 0 0 rfl rfl (Nat.le_of_ble_eq_true rfl) (Nat.le_of_ble_eq_true rfl)) ?_
    show zV F X h 10 [(0, .ref b), (1, .int l), (2, .int s), (3, .int cg)] [va_rf (x_at D dh (nI dh - (1 : Int32)))]
    refine v_st (st' := [.null]) (by rw [show x_at D dh (nI dh - (1 : Int32)) = none from by rw [x_at, d0, if_pos (by decide)]]; rfl) ?_
    refine v_blk g [.astore 4, .aload_n 0] (pc' := 13) (lv' := [(4, .null), (0, .ref b), (1, .int l), (2, .int s), (3, .int cg)]) (st' := [.ref b]) (by decide +kernel) rfl rfl ?_
    refine v_get g hb fl_X0_55 rfl (by decide +kernel) ?_
    refine v_blk g [.iconst 4] (pc' := 17) (lv' := [(4, .null), (0, .ref b), (1, .int l), (2, .int s), (3, .int cg)]) (st' := [.int (4 : Int32), .int (nI dh)]) (by decide +kernel) rfl rfl ?_
    have hd4 : dh < 4 := by omega
    refine v_icmp_ge g (off := 17) (tgt := 34) (by decide +kernel) (by decide) (fun c => absurd c (nI_ge (b := 4) hd4 (by decide))) (fun _ => ?_)
    refine v_blk g [.aload 4] (pc' := 22) (lv' := [(4, .null), (0, .ref b), (1, .int l), (2, .int s), (3, .int cg)]) (st' := [.null]) (by decide +kernel) rfl rfl ?_
    refine v_ifnull g (r := none) (off := 14) (tgt := 36) (by decide +kernel) (by decide) (fun _ => ?_) (fun _ q => nomatch q)
    refine v_blk g [.aload_n 0] (pc' := 37) (lv' := [(4, .null), (0, .ref b), (1, .int l), (2, .int s), (3, .int cg)]) (st' := [.ref b]) (by decide +kernel) rfl rfl ?_
    refine v_callVp g (rest := []) (c_Bk_shares hb hds hD hdv hdh) cl_X0_78 hb rfl rfl (Nat.le_of_ble_eq_true rfl) (by decide +kernel) ⟨Nat.le_of_ble_eq_true rfl, Nat.le_of_ble_eq_true rfl⟩ (zcsn 0 0 rfl rfl (Nat.le_of_ble_eq_true rfl) (Nat.le_of_ble_eq_true rfl)) ?_
    show zV F X h 40 [(4, .null), (0, .ref b), (1, .int l), (2, .int s), (3, .int cg)] [.int (sumI (fun d => (E d).2.1) dh)]
    refine v_blk g [.iload_n 2, .iadd, .bipush 100] (pc' := 44) (lv' := [(4, .null), (0, .ref b), (1, .int l), (2, .int s), (3, .int cg)]) (st' := [.int (100 : Int32), .int ((sumI (fun d => (E d).2.1) dh) + s)]) (by decide +kernel) rfl rfl ?_
    refine v_icmp_le g (off := 5) (tgt := 49) (by decide +kernel) (by decide) (fun c9 => ?_) (fun c9 => ?_)
    · refine v_blk g [.aload_n 0] (pc' := 50) (lv' := [(4, .null), (0, .ref b), (1, .int l), (2, .int s), (3, .int cg)]) (st' := [.ref b]) (by decide +kernel) rfl rfl ?_
      refine v_get g hb fl_X0_29 rfl (by decide +kernel) ?_
      refine v_blk g [.aload_n 0] (pc' := 54) (lv' := [(4, .null), (0, .ref b), (1, .int l), (2, .int s), (3, .int cg)]) (st' := [.ref b, .ref ds]) (by decide +kernel) rfl rfl ?_
      refine v_get g hb fl_X0_55 rfl (by decide +kernel) ?_
      refine v_aald5 g hds dh rfl hd4 (Nat.le_of_ble_eq_true rfl) (by decide +kernel) ?_
      refine v_st (st' := [.ref (da dh)]) (by rw [show D dh = some (da dh) from hD dh hd4]; rfl) ?_
      refine v_blk g [.iload_n 1, .iload_n 2, .iload_n 3] (pc' := 61) (lv' := [(4, .null), (0, .ref b), (1, .int l), (2, .int s), (3, .int cg)]) (st' := [.int cg, .int s, .int l, .ref (da dh)]) (by decide +kernel) rfl rfl ?_
      refine v_callVp g (rest := []) (c_Div_begin (hdv dh hd4) l s cg) cl_X0_82 (hdv dh (by omega)) rfl rfl (Nat.le_of_ble_eq_true rfl) (by decide +kernel) ⟨Nat.le_of_ble_eq_true rfl, Nat.le_of_ble_eq_true rfl⟩ (zcsn 0 0 rfl rfl (Nat.le_of_ble_eq_true rfl) (Nat.le_of_ble_eq_true rfl)) ?_
      show zV F X (z_s h (da dh) (oD (l, s, cg, 0, 0, 0))) 64 [(4, .null), (0, .ref b), (1, .int l), (2, .int s), (3, .int cg)] []
      refine v_h (fun h1 eh1 => ?_)
      have h1_c : h1.2.1 = h.2.1 + 0 ∧ h1.2.2 = h.2.2 + 0 := zcs eh1 ⟨rfl, rfl⟩
      have h1_b : h1.1 b = some (oB 0 [.int wk, .long hm, .long pm, .ref oc, .ref cs, .int (nI ch), .ref ds, .int (nI dh), .ref pz, .ref pq, .int (nI ph)]) := by rw [eh1]; exact z_so hb (Ne.symm (z_ne (hdv dh (by omega)) hb rfl))
      have h1_ds : h1.1 ds = some (aQ 5 4 D) := by rw [eh1]; exact z_so hds (Ne.symm (z_ne (hdv dh (by omega)) hds rfl))
      have h1_dadh : h1.1 (da dh) = some (oB 2 [.int l, .int s, .int cg, .long (0 : Int64), .long (0 : Int64), .long (0 : Int64)]) := by rw [eh1]; exact z_s_self _ _ _
      refine v_blk g [.aload_n 0, .dup] (pc' := 66) (lv' := [(4, .null), (0, .ref b), (1, .int l), (2, .int s), (3, .int cg)]) (st' := [.ref b, .ref b]) (by decide +kernel) rfl rfl ?_
      refine v_get g h1_b fl_X0_55 rfl (by decide +kernel) ?_
      refine v_blk g [.iconst 1, .iadd] (pc' := 71) (lv' := [(4, .null), (0, .ref b), (1, .int l), (2, .int s), (3, .int cg)]) (st' := [.int ((nI dh) + (1 : Int32)), .ref b]) (by decide +kernel) rfl rfl ?_
      refine v_ti (z := nI (dh + 1)) (nI_1 dh) ?_
      refine v_put g (fs' := [.int wk, .long hm, .long pm, .ref oc, .ref cs, .int (nI ch), .ref ds, .int (nI (dh + 1)), .ref pz, .ref pq, .int (nI ph)]) h1_b fl_X0_55 rfl rfl (Nat.le_of_ble_eq_true rfl) rfl (by decide +kernel) ?_
      refine v_h (fun h2 eh2 => ?_)
      have h2_c : h2.2.1 = h.2.1 + 0 ∧ h2.2.2 = h.2.2 + 0 := zcs eh2 h1_c
      have h2_b : h2.1 b = some (oB 0 [.int wk, .long hm, .long pm, .ref oc, .ref cs, .int (nI ch), .ref ds, .int (nI (dh + 1)), .ref pz, .ref pq, .int (nI ph)]) := by rw [eh2]; exact z_s_self _ _ _
      have h2_ds : h2.1 ds = some (aQ 5 4 D) := by rw [eh2]; exact z_so h1_ds (Ne.symm (z_ne hb hds rfl))
      have h2_dadh : h2.1 (da dh) = some (oB 2 [.int l, .int s, .int cg, .long (0 : Int64), .long (0 : Int64), .long (0 : Int64)]) := by rw [eh2]; exact z_so h1_dadh (z_ne (hdv dh (by omega)) hb rfl)
      refine v_blk g [.aload_n 0] (pc' := 75) (lv' := [(4, .null), (0, .ref b), (1, .int l), (2, .int s), (3, .int cg)]) (st' := [.ref b]) (by decide +kernel) rfl rfl ?_
      refine v_get g h2_b fl_X0_55 rfl (by decide +kernel) ?_
      refine v_blk g [.iconst 1, .isub] (pc' := 80) (lv' := [(4, .null), (0, .ref b), (1, .int l), (2, .int s), (3, .int cg)]) (st' := [.int ((nI (dh + 1)) - (1 : Int32))]) (by decide +kernel) rfl rfl ?_
      refine v_ti (z := nI dh) (nI_pred dh) ?_
      exact v_iret g z rfl (by decide +kernel) (Or.inl ⟨⟨hd4, Or.inl d0, c9⟩, rfl, by rw [eh2, eh1]⟩) (zcrn 0 0 h2_c.1 h2_c.2 (Nat.le_of_ble_eq_true rfl) (Nat.le_of_ble_eq_true rfl))
    · refine v_blk g [.iconst (-1)] (pc' := 48) (lv' := [(4, .null), (0, .ref b), (1, .int l), (2, .int s), (3, .int cg)]) (st' := [.int (-1 : Int32)]) (by decide +kernel) rfl rfl ?_
      exact v_iret g z rfl (by decide +kernel) (Or.inr ⟨fun q => c9 q.2.2, rfl, rfl⟩) (zcrn 0 0 rfl rfl (Nat.le_of_ble_eq_true rfl) (Nat.le_of_ble_eq_true rfl))
  · refine v_ti (z := nI (dh - 1)) (by rw [show (1 : Int32) = nI 1 from rfl, pk_sub (by omega)]) ?_
    refine v_callVp g (rest := []) (c_Bk_divAt hb hds hdh _) cl_X0_71 hb rfl rfl (Nat.le_of_ble_eq_true rfl) (by decide +kernel) ⟨Nat.le_of_ble_eq_true rfl, Nat.le_of_ble_eq_true rfl⟩ (zcsn 0 0 rfl rfl (Nat.le_of_ble_eq_true rfl) (Nat.le_of_ble_eq_true rfl)) ?_
    show zV F X h 10 [(0, .ref b), (1, .int l), (2, .int s), (3, .int cg)] [va_rf (x_at D dh (nI (dh - 1)))]
    refine v_st (st' := [.ref (da (dh - 1))]) (by rw [show x_at D dh (nI (dh - 1)) = some (da (dh - 1)) from (x_at_in (by omega) (by omega)).trans (hD (dh - 1) (by omega))]; rfl) ?_
    refine v_blk g [.astore 4, .aload_n 0] (pc' := 13) (lv' := [(4, .ref (da (dh - 1))), (0, .ref b), (1, .int l), (2, .int s), (3, .int cg)]) (st' := [.ref b]) (by decide +kernel) rfl rfl ?_
    refine v_get g hb fl_X0_55 rfl (by decide +kernel) ?_
    refine v_blk g [.iconst 4] (pc' := 17) (lv' := [(4, .ref (da (dh - 1))), (0, .ref b), (1, .int l), (2, .int s), (3, .int cg)]) (st' := [.int (4 : Int32), .int (nI dh)]) (by decide +kernel) rfl rfl ?_
    refine v_icmp_ge g (off := 17) (tgt := 34) (by decide +kernel) (by decide) (fun c0 => ?_) (fun c0 => ?_)
    · refine v_blk g [.iconst (-1)] (pc' := 35) (lv' := [(4, .ref (da (dh - 1))), (0, .ref b), (1, .int l), (2, .int s), (3, .int cg)]) (st' := [.int (-1 : Int32)]) (by decide +kernel) rfl rfl ?_
      exact v_iret g z rfl (by decide +kernel) (Or.inr ⟨fun q => nI_ge (b := 4) q.1 (by decide) c0, rfl, rfl⟩) (zcrn 0 0 rfl rfl (Nat.le_of_ble_eq_true rfl) (Nat.le_of_ble_eq_true rfl))
    · have hd4 : dh < 4 := Nat.not_le.mp (fun q => c0 (nI_le (a := 4) q (by omega)))
      refine v_blk g [.aload 4] (pc' := 22) (lv' := [(4, .ref (da (dh - 1))), (0, .ref b), (1, .int l), (2, .int s), (3, .int cg)]) (st' := [.ref (da (dh - 1))]) (by decide +kernel) rfl rfl ?_
      refine v_ifnull g (r := (some (da (dh - 1)))) (off := 14) (tgt := 36) (by decide +kernel) (by decide) (fun q => nomatch q) (fun _ _ => ?_)
      refine v_blk g [.iload_n 1, .aload 4] (pc' := 28) (lv' := [(4, .ref (da (dh - 1))), (0, .ref b), (1, .int l), (2, .int s), (3, .int cg)]) (st' := [.ref (da (dh - 1)), .int l]) (by decide +kernel) rfl rfl ?_
      refine v_get g (hdv (dh - 1) (by omega)) fl_X0_75 rfl (by decide +kernel) ?_
      refine v_icmp_lt g (off := 5) (tgt := 36) (by decide +kernel) (by decide) (fun c1 => ?_) (fun c1 => ?_)
      · refine v_blk g [.aload_n 0] (pc' := 37) (lv' := [(4, .ref (da (dh - 1))), (0, .ref b), (1, .int l), (2, .int s), (3, .int cg)]) (st' := [.ref b]) (by decide +kernel) rfl rfl ?_
        refine v_callVp g (rest := []) (c_Bk_shares hb hds hD hdv hdh) cl_X0_78 hb rfl rfl (Nat.le_of_ble_eq_true rfl) (by decide +kernel) ⟨Nat.le_of_ble_eq_true rfl, Nat.le_of_ble_eq_true rfl⟩ (zcsn 0 0 rfl rfl (Nat.le_of_ble_eq_true rfl) (Nat.le_of_ble_eq_true rfl)) ?_
        show zV F X h 40 [(4, .ref (da (dh - 1))), (0, .ref b), (1, .int l), (2, .int s), (3, .int cg)] [.int (sumI (fun d => (E d).2.1) dh)]
        refine v_blk g [.iload_n 2, .iadd, .bipush 100] (pc' := 44) (lv' := [(4, .ref (da (dh - 1))), (0, .ref b), (1, .int l), (2, .int s), (3, .int cg)]) (st' := [.int (100 : Int32), .int ((sumI (fun d => (E d).2.1) dh) + s)]) (by decide +kernel) rfl rfl ?_
        refine v_icmp_le g (off := 5) (tgt := 49) (by decide +kernel) (by decide) (fun c9 => ?_) (fun c9 => ?_)
        · refine v_blk g [.aload_n 0] (pc' := 50) (lv' := [(4, .ref (da (dh - 1))), (0, .ref b), (1, .int l), (2, .int s), (3, .int cg)]) (st' := [.ref b]) (by decide +kernel) rfl rfl ?_
          refine v_get g hb fl_X0_29 rfl (by decide +kernel) ?_
          refine v_blk g [.aload_n 0] (pc' := 54) (lv' := [(4, .ref (da (dh - 1))), (0, .ref b), (1, .int l), (2, .int s), (3, .int cg)]) (st' := [.ref b, .ref ds]) (by decide +kernel) rfl rfl ?_
          refine v_get g hb fl_X0_55 rfl (by decide +kernel) ?_
          refine v_aald5 g hds dh rfl hd4 (Nat.le_of_ble_eq_true rfl) (by decide +kernel) ?_
          refine v_st (st' := [.ref (da dh)]) (by rw [show D dh = some (da dh) from hD dh hd4]; rfl) ?_
          refine v_blk g [.iload_n 1, .iload_n 2, .iload_n 3] (pc' := 61) (lv' := [(4, .ref (da (dh - 1))), (0, .ref b), (1, .int l), (2, .int s), (3, .int cg)]) (st' := [.int cg, .int s, .int l, .ref (da dh)]) (by decide +kernel) rfl rfl ?_
          refine v_callVp g (rest := []) (c_Div_begin (hdv dh hd4) l s cg) cl_X0_82 (hdv dh (by omega)) rfl rfl (Nat.le_of_ble_eq_true rfl) (by decide +kernel) ⟨Nat.le_of_ble_eq_true rfl, Nat.le_of_ble_eq_true rfl⟩ (zcsn 0 0 rfl rfl (Nat.le_of_ble_eq_true rfl) (Nat.le_of_ble_eq_true rfl)) ?_
          show zV F X (z_s h (da dh) (oD (l, s, cg, 0, 0, 0))) 64 [(4, .ref (da (dh - 1))), (0, .ref b), (1, .int l), (2, .int s), (3, .int cg)] []
          refine v_h (fun h1 eh1 => ?_)
          have h1_c : h1.2.1 = h.2.1 + 0 ∧ h1.2.2 = h.2.2 + 0 := zcs eh1 ⟨rfl, rfl⟩
          have h1_b : h1.1 b = some (oB 0 [.int wk, .long hm, .long pm, .ref oc, .ref cs, .int (nI ch), .ref ds, .int (nI dh), .ref pz, .ref pq, .int (nI ph)]) := by rw [eh1]; exact z_so hb (Ne.symm (z_ne (hdv dh (by omega)) hb rfl))
          have h1_ds : h1.1 ds = some (aQ 5 4 D) := by rw [eh1]; exact z_so hds (Ne.symm (z_ne (hdv dh (by omega)) hds rfl))
          have h1_dadh : h1.1 (da dh) = some (oB 2 [.int l, .int s, .int cg, .long (0 : Int64), .long (0 : Int64), .long (0 : Int64)]) := by rw [eh1]; exact z_s_self _ _ _
          refine v_blk g [.aload_n 0, .dup] (pc' := 66) (lv' := [(4, .ref (da (dh - 1))), (0, .ref b), (1, .int l), (2, .int s), (3, .int cg)]) (st' := [.ref b, .ref b]) (by decide +kernel) rfl rfl ?_
          refine v_get g h1_b fl_X0_55 rfl (by decide +kernel) ?_
          refine v_blk g [.iconst 1, .iadd] (pc' := 71) (lv' := [(4, .ref (da (dh - 1))), (0, .ref b), (1, .int l), (2, .int s), (3, .int cg)]) (st' := [.int ((nI dh) + (1 : Int32)), .ref b]) (by decide +kernel) rfl rfl ?_
          refine v_ti (z := nI (dh + 1)) (nI_1 dh) ?_
          refine v_put g (fs' := [.int wk, .long hm, .long pm, .ref oc, .ref cs, .int (nI ch), .ref ds, .int (nI (dh + 1)), .ref pz, .ref pq, .int (nI ph)]) h1_b fl_X0_55 rfl rfl (Nat.le_of_ble_eq_true rfl) rfl (by decide +kernel) ?_
          refine v_h (fun h2 eh2 => ?_)
          have h2_c : h2.2.1 = h.2.1 + 0 ∧ h2.2.2 = h.2.2 + 0 := zcs eh2 h1_c
          have h2_b : h2.1 b = some (oB 0 [.int wk, .long hm, .long pm, .ref oc, .ref cs, .int (nI ch), .ref ds, .int (nI (dh + 1)), .ref pz, .ref pq, .int (nI ph)]) := by rw [eh2]; exact z_s_self _ _ _
          have h2_ds : h2.1 ds = some (aQ 5 4 D) := by rw [eh2]; exact z_so h1_ds (Ne.symm (z_ne hb hds rfl))
          have h2_dadh : h2.1 (da dh) = some (oB 2 [.int l, .int s, .int cg, .long (0 : Int64), .long (0 : Int64), .long (0 : Int64)]) := by rw [eh2]; exact z_so h1_dadh (z_ne (hdv dh (by omega)) hb rfl)
          refine v_blk g [.aload_n 0] (pc' := 75) (lv' := [(4, .ref (da (dh - 1))), (0, .ref b), (1, .int l), (2, .int s), (3, .int cg)]) (st' := [.ref b]) (by decide +kernel) rfl rfl ?_
          refine v_get g h2_b fl_X0_55 rfl (by decide +kernel) ?_
          refine v_blk g [.iconst 1, .isub] (pc' := 80) (lv' := [(4, .ref (da (dh - 1))), (0, .ref b), (1, .int l), (2, .int s), (3, .int cg)]) (st' := [.int ((nI (dh + 1)) - (1 : Int32))]) (by decide +kernel) rfl rfl ?_
          refine v_ti (z := nI dh) (nI_pred dh) ?_
          exact v_iret g z rfl (by decide +kernel) (Or.inl ⟨⟨hd4, Or.inr c1, c9⟩, rfl, by rw [eh2, eh1]⟩) (zcrn 0 0 h2_c.1 h2_c.2 (Nat.le_of_ble_eq_true rfl) (Nat.le_of_ble_eq_true rfl))
        · refine v_blk g [.iconst (-1)] (pc' := 48) (lv' := [(4, .ref (da (dh - 1))), (0, .ref b), (1, .int l), (2, .int s), (3, .int cg)]) (st' := [.int (-1 : Int32)]) (by decide +kernel) rfl rfl ?_
          exact v_iret g z rfl (by decide +kernel) (Or.inr ⟨fun q => c9 q.2.2, rfl, rfl⟩) (zcrn 0 0 rfl rfl (Nat.le_of_ble_eq_true rfl) (Nat.le_of_ble_eq_true rfl))
      · refine v_blk g [.iconst (-1)] (pc' := 35) (lv' := [(4, .ref (da (dh - 1))), (0, .ref b), (1, .int l), (2, .int s), (3, .int cg)]) (st' := [.int (-1 : Int32)]) (by decide +kernel) rfl rfl ?_
        exact v_iret g z rfl (by decide +kernel) (Or.inr ⟨fun q => q.2.1.elim (fun e => by omega) c1, rfl, rfl⟩) (zcrn 0 0 rfl rfl (Nat.le_of_ble_eq_true rfl) (Nat.le_of_ble_eq_true rfl))

theorem x_wl_cong {S : Nat → Bool} {W : Nat → Nat} {E E2 : Nat → zD} (h : ∀ e, (E2 e).1 = (E e).1) (d : Nat) : x_wl S W E2 d = x_wl S W E d := by
  unfold x_wl
  rw [h, h, h]
theorem x_wc_cong {K : Nat → Int32 × Int32 × Int32 × Int32} {cf : Nat → Nat → Int64} {W : Nat → Nat} {E E2 : Nat → zD} (h : ∀ e, (E2 e).1 = (E e).1) (d q : Nat) : x_wc K cf W E2 d q = x_wc K cf W E d q := by
  unfold x_wc
  rw [x_wl_cong h]
/-- a dividend when it has paid -/
def x_paid (x : zD) (win : Int64) (u : Int32) : zD := (x.1, x.2.1, x.2.2.1, x.2.2.2.1 - x_coin x.2.2.2.1 win x.2.2.1 u * win, win, x_coin x.2.2.2.1 win x.2.2.1 u)
theorem x_paid_up (E : Nat → zD) (d : Nat) (win : Int64) (u : Int32) (e : Nat) : (va_up E d (x_paid (E d) win u) e).1 = (E e).1 := by
  unfold va_up
  split
  · rename_i q; rw [q]; rfl
  · rfl

set_option maxRecDepth 100000 in
set_option maxHeartbeats 4000000 in
theorem c_Bk_pay {F : zF} {h : zH} {b oc cs ds pz pq ch dh ph : Nat} {wk : Int32} {hm pm : Int64} (hb : h.1 b = some (oB 0 [.int wk, .long hm, .long pm, .ref oc, .ref cs, .int (nI ch), .ref ds, .int (nI dh), .ref pz, .ref pq, .int (nI ph)])) {D : Nat → Option Nat} {da : Nat → Nat} {E : Nat → zD} (hds : h.1 ds = some (aQ 5 4 D)) (hD : ∀ e, e < 4 → D e = some (da e)) (hdv : ∀ e, e < 4 → h.1 (da e) = some (oD (E e))) {C : Nat → Option Nat} {ca cl cw : Nat → Nat} {K : Nat → Int32 × Int32 × Int32 × Int32} {cf : Nat → Nat → Int64} (hcs : h.1 cs = some (aQ 4 20 C)) (hC : ∀ q, q < ch → C q = some (ca q)) (hca : ∀ q, q < ch → h.1 (ca q) = some (oB 1 [.ref (cl q), .int (K q).1, .int (K q).2.1, .int (K q).2.2.1, .int (K q).2.2.2])) (hcl : ∀ q, q < ch → h.1 (cl q) = some (oB 3 [.ref (cw q)])) (hcw : ∀ q, q < ch → h.1 (cw q) = some (aJ 256 (cf q))) {a wa la ha9 fa : Nat} {hf : Nat → Int32} {ff : Nat → Int64} {W : Nat → Nat} (ha : h.1 a = some (oB 5 [.ref wa, .ref la, .ref ha9, .ref fa])) (hha : h.1 ha9 = some (aI 256 hf)) (hfa : h.1 fa = some (aJ 55 ff)) (hW : ∀ m, W m ≤ 9) (hhf : nIs hf (fun q => wS W 6 q 8) 256) (hff : okLow ff W) {Z : Nat → Int64} {d : Nat} (hpz : h.1 pz = some (aJ 20 Z)) (hda : ∀ e e2, e < 4 → e2 < 4 → da e = da e2 → e = e2) (hn : ch ≤ 20) (hdh : dh ≤ 4) (hd : d < dh) (u : Int32) : zMet F yX0_payDividend cX0_payDividend 9 (some .long) { frames := 5, cells := 0, slots := 0, locals := 150 } [.ref b, .int (nI d), .ref a, .int u] h (zP (z_s (z_s h (da d) (oD (x_paid (E d) (sumL (x_wc K cf W E d) ch) u))) pz (aJ 20 (if 0 < ((x_coin (E d).2.2.2.1 (sumL (x_wc K cf W E d) ch) (E d).2.2.1 u) * (sumL (x_wc K cf W E d) ch)) then mx (fun q => Z q + (x_coin (E d).2.2.2.1 (sumL (x_wc K cf W E d) ch) (E d).2.2.1 u) * x_wc K cf W E d q) Z ch else Z))) (some (.long ((x_coin (E d).2.2.2.1 (sumL (x_wc K cf W E d) ch) (E d).2.2.1 u) * (sumL (x_wc K cf W E d) ch))))) := by
  refine zMet_of (lv := [(0, .ref b), (1, .int (nI d)), (2, .ref a), (3, .int u)]) (by decide) (by simp [lg_sl, Value.category]) rfl ?_
  intro X g z
  refine v_blk g [.lconst 0, .lstore 4, .iconst 0, .istore 6] (pc' := 6) (lv' := [(6, .int (0 : Int32)), (4, .long (0 : Int64)), (0, .ref b), (1, .int (nI d)), (2, .ref a), (3, .int u)]) (st' := []) (by decide +kernel) rfl rfl ?_
  have key : ∀ i, i ≤ ch → zV F X h 6 [(6, .int (nI i)), (4, .long (sumL (x_wc K cf W E d) i)), (0, .ref b), (1, .int (nI d)), (2, .ref a), (3, .int u)] [] := by
    refine z_up (P := fun i => zV F X h 6 [(6, .int (nI i)), (4, .long (sumL (x_wc K cf W E d) i)), (0, .ref b), (1, .int (nI d)), (2, .ref a), (3, .int u)] []) ch ?_ ?_
    · refine v_blk g [.iload 6, .aload_n 0] (pc' := 9) (lv' := [(6, .int (nI ch)), (4, .long (sumL (x_wc K cf W E d) ch)), (0, .ref b), (1, .int (nI d)), (2, .ref a), (3, .int u)]) (st' := [.ref b, .int (nI ch)]) (by decide +kernel) rfl rfl ?_
      refine v_get g hb fl_X0_52 rfl (by decide +kernel) ?_
      refine v_icmp_ge g (off := 22) (tgt := 34) (by decide +kernel) (by decide) (fun _ => ?_) (fun c => absurd c (fun q => q (nI_le (Nat.le_refl _) (by omega))))
      refine v_blk g [.aload_n 0] (pc' := 35) (lv' := [(6, .int (nI ch)), (4, .long (sumL (x_wc K cf W E d) ch)), (0, .ref b), (1, .int (nI d)), (2, .ref a), (3, .int u)]) (st' := [.ref b]) (by decide +kernel) rfl rfl ?_
      refine v_get g hb fl_X0_29 rfl (by decide +kernel) ?_
      refine v_blk g [.iload_n 1] (pc' := 39) (lv' := [(6, .int (nI ch)), (4, .long (sumL (x_wc K cf W E d) ch)), (0, .ref b), (1, .int (nI d)), (2, .ref a), (3, .int u)]) (st' := [.int (nI d), .ref ds]) (by decide +kernel) rfl rfl ?_
      refine v_aald5 g hds d rfl (by omega) (Nat.le_of_ble_eq_true rfl) (by decide +kernel) ?_
      refine v_st (st' := [.ref (da d)]) (by rw [show D d = some (da d) from hD d (by omega)]; rfl) ?_
      refine v_blk g [.lload 4, .iload_n 3] (pc' := 43) (lv' := [(6, .int (nI ch)), (4, .long (sumL (x_wc K cf W E d) ch)), (0, .ref b), (1, .int (nI d)), (2, .ref a), (3, .int u)]) (st' := [.int u, .long (sumL (x_wc K cf W E d) ch), .ref (da d)]) (by decide +kernel) rfl rfl ?_
      refine v_callVp g (rest := []) (c_Div_pay (hdv d (by omega)) (sumL (x_wc K cf W E d) ch) u) cl_X0_129 (hdv d (by omega)) rfl rfl (Nat.le_of_ble_eq_true rfl) (by decide +kernel) ⟨Nat.le_of_ble_eq_true rfl, Nat.le_of_ble_eq_true rfl⟩ (zcsn 0 0 rfl rfl (Nat.le_of_ble_eq_true rfl) (Nat.le_of_ble_eq_true rfl)) ?_
      show zV F X (z_s h (da d) (oD (x_paid (E d) (sumL (x_wc K cf W E d) ch) u))) 46 [(6, .int (nI ch)), (4, .long (sumL (x_wc K cf W E d) ch)), (0, .ref b), (1, .int (nI d)), (2, .ref a), (3, .int u)] [.long ((x_coin (E d).2.2.2.1 (sumL (x_wc K cf W E d) ch) (E d).2.2.1 u) * (sumL (x_wc K cf W E d) ch))]
      refine v_h (fun h1 eh1 => ?_)
      have hb1 : h1.1 b = some (oB 0 [.int wk, .long hm, .long pm, .ref oc, .ref cs, .int (nI ch), .ref ds, .int (nI dh), .ref pz, .ref pq, .int (nI ph)]) := by rw [eh1]; exact z_so hb (z_ne hb (hdv d (by omega)) rfl)
      have hcs1 : h1.1 cs = some (aQ 4 20 C) := by rw [eh1]; exact z_so hcs (z_ne hcs (hdv d (by omega)) rfl)
      have hds1 : h1.1 ds = some (aQ 5 4 D) := by rw [eh1]; exact z_so hds (z_ne hds (hdv d (by omega)) rfl)
      have hpz1 : h1.1 pz = some (aJ 20 Z) := by rw [eh1]; exact z_so hpz (z_ne hpz (hdv d (by omega)) rfl)
      have ha1 : h1.1 a = some (oB 5 [.ref wa, .ref la, .ref ha9, .ref fa]) := by rw [eh1]; exact z_so ha (z_ne ha (hdv d (by omega)) rfl)
      have hha1 : h1.1 ha9 = some (aI 256 hf) := by rw [eh1]; exact z_so hha (z_ne hha (hdv d (by omega)) rfl)
      have hfa1 : h1.1 fa = some (aJ 55 ff) := by rw [eh1]; exact z_so hfa (z_ne hfa (hdv d (by omega)) rfl)
      have hca1 : ∀ q, q < ch → h1.1 (ca q) = some (oB 1 [.ref (cl q), .int (K q).1, .int (K q).2.1, .int (K q).2.2.1, .int (K q).2.2.2]) := fun q hq => by rw [eh1]; exact z_so (hca q hq) (z_ne (hca q hq) (hdv d (by omega)) rfl)
      have hcl1 : ∀ q, q < ch → h1.1 (cl q) = some (oB 3 [.ref (cw q)]) := fun q hq => by rw [eh1]; exact z_so (hcl q hq) (z_ne (hcl q hq) (hdv d (by omega)) rfl)
      have hcw1 : ∀ q, q < ch → h1.1 (cw q) = some (aJ 256 (cf q)) := fun q hq => by rw [eh1]; exact z_so (hcw q hq) (z_ne (hcw q hq) (hdv d (by omega)) rfl)
      have hdv1 : ∀ e, e < 4 → h1.1 (da e) = some (oD (va_up E d (x_paid (E d) (sumL (x_wc K cf W E d) ch) u) e)) := fun e he => by
        rw [eh1]
        by_cases hed : e = d
        · subst hed; rw [va_up_self]; exact z_s_self _ _ _
        · rw [va_up_ne _ _ hed]; exact z_so (hdv e he) (fun q => hed (hda e d he (by omega) q))
      have hcnt1 : h1.2.1 = h.2.1 + 0 ∧ h1.2.2 = h.2.2 + 0 := zcs eh1 ⟨rfl, rfl⟩
      refine v_blk g [.lstore 6, .iconst 0, .istore 8] (pc' := 51) (lv' := [(8, .int (0 : Int32)), (6, .long ((x_coin (E d).2.2.2.1 (sumL (x_wc K cf W E d) ch) (E d).2.2.1 u) * (sumL (x_wc K cf W E d) ch))), (4, .long (sumL (x_wc K cf W E d) ch)), (0, .ref b), (1, .int (nI d)), (2, .ref a), (3, .int u)]) (st' := []) (by decide +kernel) rfl rfl ?_
      by_cases hpd : 0 < ((x_coin (E d).2.2.2.1 (sumL (x_wc K cf W E d) ch) (E d).2.2.1 u) * (sumL (x_wc K cf W E d) ch))
      · refine v_lv [0, 1, 3, 4, 5, 6] (lv' := [(8, .int (0 : Int32)), (6, .long ((x_coin (E d).2.2.2.1 (sumL (x_wc K cf W E d) ch) (E d).2.2.1 u) * (sumL (x_wc K cf W E d) ch))), (0, .ref b), (1, .int (nI d)), (2, .ref a), (3, .int u)]) rfl ?_
        have key2 : ∀ i, i ≤ ch → zV F X (z_s h1 pz (aJ 20 (mx (fun q => Z q + (x_coin (E d).2.2.2.1 (sumL (x_wc K cf W E d) ch) (E d).2.2.1 u) * x_wc K cf W E d q) Z i))) 51 [(8, .int (nI i)), (6, .long ((x_coin (E d).2.2.2.1 (sumL (x_wc K cf W E d) ch) (E d).2.2.1 u) * (sumL (x_wc K cf W E d) ch))), (0, .ref b), (1, .int (nI d)), (2, .ref a), (3, .int u)] [] := by
          refine z_up (P := fun i => zV F X (z_s h1 pz (aJ 20 (mx (fun q => Z q + (x_coin (E d).2.2.2.1 (sumL (x_wc K cf W E d) ch) (E d).2.2.1 u) * x_wc K cf W E d q) Z i))) 51 [(8, .int (nI i)), (6, .long ((x_coin (E d).2.2.2.1 (sumL (x_wc K cf W E d) ch) (E d).2.2.1 u) * (sumL (x_wc K cf W E d) ch))), (0, .ref b), (1, .int (nI d)), (2, .ref a), (3, .int u)] []) ch ?_ ?_
          · refine v_blk g [.lload 6, .lconst 0, .lcmp] (pc' := 55) (lv' := [(8, .int (nI ch)), (6, .long ((x_coin (E d).2.2.2.1 (sumL (x_wc K cf W E d) ch) (E d).2.2.1 u) * (sumL (x_wc K cf W E d) ch))), (0, .ref b), (1, .int (nI d)), (2, .ref a), (3, .int u)]) (st' := [.int (lg_cmp ((x_coin (E d).2.2.2.1 (sumL (x_wc K cf W E d) ch) (E d).2.2.1 u) * (sumL (x_wc K cf W E d) ch)) (0 : Int64))]) (by decide +kernel) rfl rfl ?_
            refine v_if_le g (off := 46) (tgt := 101) (by decide +kernel) (by decide) (fun c => absurd c (fun q => absurd ((lg_cmp_le _ _).mp q) (fun z => absurd hpd (Int64.not_lt.mpr z)))) (fun _ => ?_)
            refine v_blk g [.iload 8, .aload_n 0] (pc' := 61) (lv' := [(8, .int (nI ch)), (6, .long ((x_coin (E d).2.2.2.1 (sumL (x_wc K cf W E d) ch) (E d).2.2.1 u) * (sumL (x_wc K cf W E d) ch))), (0, .ref b), (1, .int (nI d)), (2, .ref a), (3, .int u)]) (st' := [.ref b, .int (nI ch)]) (by decide +kernel) rfl rfl ?_
            refine v_get g (z_so hb1 (z_ne hb1 hpz1 rfl)) fl_X0_52 rfl (by decide +kernel) ?_
            refine v_icmp_ge g (off := 37) (tgt := 101) (by decide +kernel) (by decide) (fun _ => ?_) (fun c => absurd c (fun q => q (nI_le (Nat.le_refl _) (by omega))))
            refine v_blk g [.lload 6] (pc' := 103) (lv' := [(8, .int (nI ch)), (6, .long ((x_coin (E d).2.2.2.1 (sumL (x_wc K cf W E d) ch) (E d).2.2.1 u) * (sumL (x_wc K cf W E d) ch))), (0, .ref b), (1, .int (nI d)), (2, .ref a), (3, .int u)]) (st' := [.long ((x_coin (E d).2.2.2.1 (sumL (x_wc K cf W E d) ch) (E d).2.2.1 u) * (sumL (x_wc K cf W E d) ch))]) (by decide +kernel) rfl rfl ?_
            exact v_lret g z rfl (by decide +kernel) ⟨rfl, by rw [eh1, if_pos hpd]⟩ (zcrn 0 0 hcnt1.1 hcnt1.2 (Nat.le_of_ble_eq_true rfl) (Nat.le_of_ble_eq_true rfl))
          · intro i hi ih
            refine v_blk g [.lload 6, .lconst 0, .lcmp] (pc' := 55) (lv' := [(8, .int (nI i)), (6, .long ((x_coin (E d).2.2.2.1 (sumL (x_wc K cf W E d) ch) (E d).2.2.1 u) * (sumL (x_wc K cf W E d) ch))), (0, .ref b), (1, .int (nI d)), (2, .ref a), (3, .int u)]) (st' := [.int (lg_cmp ((x_coin (E d).2.2.2.1 (sumL (x_wc K cf W E d) ch) (E d).2.2.1 u) * (sumL (x_wc K cf W E d) ch)) (0 : Int64))]) (by decide +kernel) rfl rfl ?_
            refine v_if_le g (off := 46) (tgt := 101) (by decide +kernel) (by decide) (fun c => absurd c (fun q => absurd ((lg_cmp_le _ _).mp q) (fun z => absurd hpd (Int64.not_lt.mpr z)))) (fun _ => ?_)
            refine v_blk g [.iload 8, .aload_n 0] (pc' := 61) (lv' := [(8, .int (nI i)), (6, .long ((x_coin (E d).2.2.2.1 (sumL (x_wc K cf W E d) ch) (E d).2.2.1 u) * (sumL (x_wc K cf W E d) ch))), (0, .ref b), (1, .int (nI d)), (2, .ref a), (3, .int u)]) (st' := [.ref b, .int (nI i)]) (by decide +kernel) rfl rfl ?_
            refine v_get g (z_so hb1 (z_ne hb1 hpz1 rfl)) fl_X0_52 rfl (by decide +kernel) ?_
            refine v_icmp_ge g (off := 37) (tgt := 101) (by decide +kernel) (by decide) (fun c => absurd c (nI_ge hi (by omega))) (fun _ => ?_)
            refine v_blk g [.aload_n 0] (pc' := 68) (lv' := [(8, .int (nI i)), (6, .long ((x_coin (E d).2.2.2.1 (sumL (x_wc K cf W E d) ch) (E d).2.2.1 u) * (sumL (x_wc K cf W E d) ch))), (0, .ref b), (1, .int (nI d)), (2, .ref a), (3, .int u)]) (st' := [.ref b]) (by decide +kernel) rfl rfl ?_
            refine v_get g (z_so hb1 (z_ne hb1 hpz1 rfl)) fl_X0_34 rfl (by decide +kernel) ?_
            refine v_blk g [.iload 8, .dup2] (pc' := 74) (lv' := [(8, .int (nI i)), (6, .long ((x_coin (E d).2.2.2.1 (sumL (x_wc K cf W E d) ch) (E d).2.2.1 u) * (sumL (x_wc K cf W E d) ch))), (0, .ref b), (1, .int (nI d)), (2, .ref a), (3, .int u)]) (st' := [.int (nI i), .ref pz, .int (nI i), .ref pz]) (by decide +kernel) rfl rfl ?_
            refine v_lald g (z_s_self _ _ _) i rfl (by omega) (Nat.le_of_ble_eq_true rfl) (by decide +kernel) ?_
            refine v_blk g [.aload_n 0] (pc' := 76) (lv' := [(8, .int (nI i)), (6, .long ((x_coin (E d).2.2.2.1 (sumL (x_wc K cf W E d) ch) (E d).2.2.1 u) * (sumL (x_wc K cf W E d) ch))), (0, .ref b), (1, .int (nI d)), (2, .ref a), (3, .int u)]) (st' := [.ref b, .long ((mx (fun q => Z q + (x_coin (E d).2.2.2.1 (sumL (x_wc K cf W E d) ch) (E d).2.2.1 u) * x_wc K cf W E d q) Z i) i), .int (nI i), .ref pz]) (by decide +kernel) rfl rfl ?_
            refine v_get g (z_so hb1 (z_ne hb1 hpz1 rfl)) fl_X0_29 rfl (by decide +kernel) ?_
            refine v_blk g [.iload_n 1] (pc' := 80) (lv' := [(8, .int (nI i)), (6, .long ((x_coin (E d).2.2.2.1 (sumL (x_wc K cf W E d) ch) (E d).2.2.1 u) * (sumL (x_wc K cf W E d) ch))), (0, .ref b), (1, .int (nI d)), (2, .ref a), (3, .int u)]) (st' := [.int (nI d), .ref ds, .long ((mx (fun q => Z q + (x_coin (E d).2.2.2.1 (sumL (x_wc K cf W E d) ch) (E d).2.2.1 u) * x_wc K cf W E d q) Z i) i), .int (nI i), .ref pz]) (by decide +kernel) rfl rfl ?_
            refine v_aald5 g (z_so hds1 (z_ne hds1 hpz1 rfl)) d rfl (by omega) (Nat.le_of_ble_eq_true rfl) (by decide +kernel) ?_
            refine v_st (st' := [.ref (da d), .long ((mx (fun q => Z q + (x_coin (E d).2.2.2.1 (sumL (x_wc K cf W E d) ch) (E d).2.2.1 u) * x_wc K cf W E d q) Z i) i), .int (nI i), .ref pz]) (by rw [show D d = some (da d) from hD d (by omega)]; rfl) ?_
            refine v_get g (z_so (hdv1 d (by omega)) (z_ne (hdv1 d (by omega)) hpz1 rfl)) fl_X0_133 rfl (by decide +kernel) ?_
            refine v_blk g [.aload_n 0, .iload 8, .iload_n 1, .aload_n 2] (pc' := 89) (lv' := [(8, .int (nI i)), (6, .long ((x_coin (E d).2.2.2.1 (sumL (x_wc K cf W E d) ch) (E d).2.2.1 u) * (sumL (x_wc K cf W E d) ch))), (0, .ref b), (1, .int (nI d)), (2, .ref a), (3, .int u)]) (st' := [.ref a, .int (nI d), .int (nI i), .ref b, .long ((va_up E d (x_paid (E d) (sumL (x_wc K cf W E d) ch) u) d).2.2.2.2.2), .long ((mx (fun q => Z q + (x_coin (E d).2.2.2.1 (sumL (x_wc K cf W E d) ch) (E d).2.2.1 u) * x_wc K cf W E d q) Z i) i), .int (nI i), .ref pz]) (by decide +kernel) rfl rfl ?_
            refine v_callVp g (rest := [.long ((va_up E d (x_paid (E d) (sumL (x_wc K cf W E d) ch) u) d).2.2.2.2.2), .long ((mx (fun q => Z q + (x_coin (E d).2.2.2.1 (sumL (x_wc K cf W E d) ch) (E d).2.2.1 u) * x_wc K cf W E d q) Z i) i), .int (nI i), .ref pz]) (c_Bk_wins (z_so hb1 (z_ne hb1 hpz1 rfl)) (z_so hds1 (z_ne hds1 hpz1 rfl)) hD (fun e he => z_so (hdv1 e he) (z_ne (hdv1 e he) hpz1 rfl)) (z_so hcs1 (z_ne hcs1 hpz1 rfl)) hC (fun q hq => z_so (hca1 q hq) (z_ne (hca1 q hq) hpz1 rfl)) (fun q hq => z_so (hcl1 q hq) (z_ne (hcl1 q hq) hpz1 rfl)) (fun q hq => z_so (hcw1 q hq) (z_ne (hcw1 q hq) hpz1 rfl)) (z_so ha1 (z_ne ha1 hpz1 rfl)) (z_so hha1 (z_ne hha1 hpz1 rfl)) (z_so hfa1 (z_ne hfa1 hpz1 rfl)) hW hhf hff hn hdh (q := i) (d := d) hi hd) cl_X0_125 (z_so hb1 (z_ne hb1 hpz1 rfl)) rfl rfl (Nat.le_of_ble_eq_true rfl) (by decide +kernel) ⟨Nat.le_of_ble_eq_true rfl, Nat.le_of_ble_eq_true rfl⟩ (zcsn 0 0 hcnt1.1 hcnt1.2 (Nat.le_of_ble_eq_true rfl) (Nat.le_of_ble_eq_true rfl)) ?_
            show zV F X (z_s h1 pz (aJ 20 (mx (fun q => Z q + (x_coin (E d).2.2.2.1 (sumL (x_wc K cf W E d) ch) (E d).2.2.1 u) * x_wc K cf W E d q) Z i))) 92 [(8, .int (nI i)), (6, .long ((x_coin (E d).2.2.2.1 (sumL (x_wc K cf W E d) ch) (E d).2.2.1 u) * (sumL (x_wc K cf W E d) ch))), (0, .ref b), (1, .int (nI d)), (2, .ref a), (3, .int u)] [.long (x_wc K cf W (va_up E d (x_paid (E d) (sumL (x_wc K cf W E d) ch) u)) d i), .long ((va_up E d (x_paid (E d) (sumL (x_wc K cf W E d) ch) u) d).2.2.2.2.2), .long ((mx (fun q => Z q + (x_coin (E d).2.2.2.1 (sumL (x_wc K cf W E d) ch) (E d).2.2.1 u) * x_wc K cf W E d q) Z i) i), .int (nI i), .ref pz]
            refine v_blk g [.lmul, .ladd] (pc' := 94) (lv' := [(8, .int (nI i)), (6, .long ((x_coin (E d).2.2.2.1 (sumL (x_wc K cf W E d) ch) (E d).2.2.1 u) * (sumL (x_wc K cf W E d) ch))), (0, .ref b), (1, .int (nI d)), (2, .ref a), (3, .int u)]) (st' := [.long (((mx (fun q => Z q + (x_coin (E d).2.2.2.1 (sumL (x_wc K cf W E d) ch) (E d).2.2.1 u) * x_wc K cf W E d q) Z i) i) + (((va_up E d (x_paid (E d) (sumL (x_wc K cf W E d) ch) u) d).2.2.2.2.2) * (x_wc K cf W (va_up E d (x_paid (E d) (sumL (x_wc K cf W E d) ch) u)) d i))), .int (nI i), .ref pz]) (by decide +kernel) rfl rfl ?_
            refine v_last g (z_s_self _ _ _) i rfl (by omega) (Nat.le_of_ble_eq_true rfl) (by decide +kernel) ?_
            refine v_h (fun h2 eh2 => ?_)
            have h2_c : h2.2.1 = h.2.1 + 0 ∧ h2.2.2 = h.2.2 + 0 := zcs eh2 hcnt1
            have h2_b : h2.1 b = some (oB 0 [.int wk, .long hm, .long pm, .ref oc, .ref cs, .int (nI ch), .ref ds, .int (nI dh), .ref pz, .ref pq, .int (nI ph)]) := by rw [eh2]; exact z_so (z_so hb1 (z_ne hb1 hpz1 rfl)) (z_ne hb1 hpz1 rfl)
            have h2_ds : h2.1 ds = some (aQ 5 4 D) := by rw [eh2]; exact z_so (z_so hds1 (z_ne hds1 hpz1 rfl)) (z_ne hds1 hpz1 rfl)
            have h2_pz : h2.1 pz = some (aJ 20 (vp_updL (mx (fun q => Z q + (x_coin (E d).2.2.2.1 (sumL (x_wc K cf W E d) ch) (E d).2.2.1 u) * x_wc K cf W E d q) Z i) i (((mx (fun q => Z q + (x_coin (E d).2.2.2.1 (sumL (x_wc K cf W E d) ch) (E d).2.2.1 u) * x_wc K cf W E d q) Z i) i) + (((va_up E d (x_paid (E d) (sumL (x_wc K cf W E d) ch) u) d).2.2.2.2.2) * (x_wc K cf W (va_up E d (x_paid (E d) (sumL (x_wc K cf W E d) ch) u)) d i))))) := by rw [eh2]; exact z_s_self _ _ _
            have h2_dad : h2.1 (da d) = some (oB 2 [.int ((va_up E d (x_paid (E d) (sumL (x_wc K cf W E d) ch) u) d).1), .int ((va_up E d (x_paid (E d) (sumL (x_wc K cf W E d) ch) u) d).2.1), .int ((va_up E d (x_paid (E d) (sumL (x_wc K cf W E d) ch) u) d).2.2.1), .long ((va_up E d (x_paid (E d) (sumL (x_wc K cf W E d) ch) u) d).2.2.2.1), .long ((va_up E d (x_paid (E d) (sumL (x_wc K cf W E d) ch) u) d).2.2.2.2.1), .long ((va_up E d (x_paid (E d) (sumL (x_wc K cf W E d) ch) u) d).2.2.2.2.2)]) := by rw [eh2]; exact z_so (z_so (hdv1 d (by omega)) (z_ne (hdv1 d (by omega)) hpz1 rfl)) (z_ne (hdv1 d (by omega)) hpz1 rfl)
            refine v_blk g [.iinc 8 1] (pc' := 98) (lv' := [(8, .int ((nI i) + (1 : Int32))), (6, .long ((x_coin (E d).2.2.2.1 (sumL (x_wc K cf W E d) ch) (E d).2.2.1 u) * (sumL (x_wc K cf W E d) ch))), (0, .ref b), (1, .int (nI d)), (2, .ref a), (3, .int u)]) (st' := []) (by decide +kernel) rfl rfl ?_
            refine v_goto g (off := -47) (tgt := 51) (by decide +kernel) (by decide) ?_
            refine v_lv [0, 1, 2, 3, 4, 5] (lv' := [(8, .int ((nI i) + (1 : Int32))), (6, .long ((x_coin (E d).2.2.2.1 (sumL (x_wc K cf W E d) ch) (E d).2.2.1 u) * (sumL (x_wc K cf W E d) ch))), (0, .ref b), (1, .int (nI d)), (2, .ref a), (3, .int u)]) rfl ?_
            refine v_eqh (h' := z_s h1 pz (aJ 20 (mx (fun q => Z q + (x_coin (E d).2.2.2.1 (sumL (x_wc K cf W E d) ch) (E d).2.2.1 u) * x_wc K cf W E d q) Z (i + 1)))) (by rw [eh2, z_ss, mx_at, va_up_self, x_wc_cong (x_paid_up E d (sumL (x_wc K cf W E d) ch) u)]; exact congrArg (fun q => z_s h1 pz (aJ 20 q)) (mx_J (fun q => Z q + (x_coin (E d).2.2.2.1 (sumL (x_wc K cf W E d) ch) (E d).2.2.1 u) * x_wc K cf W E d q) Z i)) ?_
            exact v_eq (by rw [nI_1]) rfl ih
        exact v_eqh (by rw [mx_0, z_sid hpz1]) (key2 0 (by omega))
      · refine v_blk g [.lload 6, .lconst 0, .lcmp] (pc' := 55) (lv' := [(8, .int (0 : Int32)), (6, .long ((x_coin (E d).2.2.2.1 (sumL (x_wc K cf W E d) ch) (E d).2.2.1 u) * (sumL (x_wc K cf W E d) ch))), (4, .long (sumL (x_wc K cf W E d) ch)), (0, .ref b), (1, .int (nI d)), (2, .ref a), (3, .int u)]) (st' := [.int (lg_cmp ((x_coin (E d).2.2.2.1 (sumL (x_wc K cf W E d) ch) (E d).2.2.1 u) * (sumL (x_wc K cf W E d) ch)) (0 : Int64))]) (by decide +kernel) rfl rfl ?_
        refine v_if_le g (off := 46) (tgt := 101) (by decide +kernel) (by decide) (fun _ => ?_) (fun c => absurd c (fun q => q ((lg_cmp_le _ _).mpr (Int64.not_lt.mp hpd))))
        refine v_blk g [.lload 6] (pc' := 103) (lv' := [(8, .int (0 : Int32)), (6, .long ((x_coin (E d).2.2.2.1 (sumL (x_wc K cf W E d) ch) (E d).2.2.1 u) * (sumL (x_wc K cf W E d) ch))), (4, .long (sumL (x_wc K cf W E d) ch)), (0, .ref b), (1, .int (nI d)), (2, .ref a), (3, .int u)]) (st' := [.long ((x_coin (E d).2.2.2.1 (sumL (x_wc K cf W E d) ch) (E d).2.2.1 u) * (sumL (x_wc K cf W E d) ch))]) (by decide +kernel) rfl rfl ?_
        exact v_lret g z rfl (by decide +kernel) ⟨rfl, by rw [if_neg hpd, ← eh1, z_sid hpz1]⟩ (zcrn 0 0 hcnt1.1 hcnt1.2 (Nat.le_of_ble_eq_true rfl) (Nat.le_of_ble_eq_true rfl))
    · intro i hi ih
      refine v_blk g [.iload 6, .aload_n 0] (pc' := 9) (lv' := [(6, .int (nI i)), (4, .long (sumL (x_wc K cf W E d) i)), (0, .ref b), (1, .int (nI d)), (2, .ref a), (3, .int u)]) (st' := [.ref b, .int (nI i)]) (by decide +kernel) rfl rfl ?_
      refine v_get g hb fl_X0_52 rfl (by decide +kernel) ?_
      refine v_icmp_ge g (off := 22) (tgt := 34) (by decide +kernel) (by decide) (fun c => absurd c (nI_ge hi (by omega))) (fun _ => ?_)
      refine v_blk g [.lload 4, .aload_n 0, .iload 6, .iload_n 1, .aload_n 2] (pc' := 22) (lv' := [(6, .int (nI i)), (4, .long (sumL (x_wc K cf W E d) i)), (0, .ref b), (1, .int (nI d)), (2, .ref a), (3, .int u)]) (st' := [.ref a, .int (nI d), .int (nI i), .ref b, .long (sumL (x_wc K cf W E d) i)]) (by decide +kernel) rfl rfl ?_
      refine v_callVp g (rest := [.long (sumL (x_wc K cf W E d) i)]) (c_Bk_wins hb hds hD hdv hcs hC hca hcl hcw ha hha hfa hW hhf hff hn hdh (q := i) (d := d) hi hd) cl_X0_125 hb rfl rfl (Nat.le_of_ble_eq_true rfl) (by decide +kernel) ⟨Nat.le_of_ble_eq_true rfl, Nat.le_of_ble_eq_true rfl⟩ (zcsn 0 0 rfl rfl (Nat.le_of_ble_eq_true rfl) (Nat.le_of_ble_eq_true rfl)) ?_
      show zV F X h 25 [(6, .int (nI i)), (4, .long (sumL (x_wc K cf W E d) i)), (0, .ref b), (1, .int (nI d)), (2, .ref a), (3, .int u)] [.long (x_wc K cf W E d i), .long (sumL (x_wc K cf W E d) i)]
      refine v_blk g [.ladd, .lstore 4, .iinc 6 1] (pc' := 31) (lv' := [(6, .int ((nI i) + (1 : Int32))), (4, .long ((sumL (x_wc K cf W E d) i) + (x_wc K cf W E d i))), (0, .ref b), (1, .int (nI d)), (2, .ref a), (3, .int u)]) (st' := []) (by decide +kernel) rfl rfl ?_
      refine v_goto g (off := -25) (tgt := 6) (by decide +kernel) (by decide) ?_
      refine v_lv [0, 1, 2, 3, 4, 5] (lv' := [(6, .int ((nI i) + (1 : Int32))), (4, .long ((sumL (x_wc K cf W E d) i) + (x_wc K cf W E d i))), (0, .ref b), (1, .int (nI d)), (2, .ref a), (3, .int u)]) rfl ?_
      exact v_eq (by rw [nI_1]; rfl) rfl ih
  exact key 0 (by omega)
