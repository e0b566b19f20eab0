set_option maxRecDepth 100000 in
set_option maxHeartbeats 4000000 in
/-- Books.copyFrom -/
theorem c_Bk_copy {F : zF} {h : zH} {b oc cs ds pz pq ch dh ph : Nat} {wk : Int32} {hm pm : Int64} (hb : h.1 b = some (oB 0 [.int wk, .long hm, .long pm, .ref oc, .ref cs, .int (nI ch), .ref ds, .int (nI dh), .ref pz, .ref pq, .int (nI ph)])) {b2 oc2 cs2 ds2 pz2 pq2 ch2 dh2 ph2 : Nat} {wk2 : Int32} {hm2 pm2 : Int64} (hb2 : h.1 b2 = some (oB 0 [.int wk2, .long hm2, .long pm2, .ref oc2, .ref cs2, .int (nI ch2), .ref ds2, .int (nI dh2), .ref pz2, .ref pq2, .int (nI ph2)])) {O O2 P P2 : Nat → Int32} {Z Z2 : Nat → Int64} {C C2 D D2 : Nat → Option Nat} {da da2 : Nat → Nat} {E E2 : Nat → zD} (hoc : h.1 oc = some (aI 14 O)) (hoc2 : h.1 oc2 = some (aI 14 O2)) (hpz : h.1 pz = some (aJ 20 Z)) (hpz2 : h.1 pz2 = some (aJ 20 Z2)) (hpq : h.1 pq = some (aI 20 P)) (hpq2 : h.1 pq2 = some (aI 20 P2)) (hcs : h.1 cs = some (aQ 4 20 C)) (hcs2 : h.1 cs2 = some (aQ 4 20 C2)) (hds : h.1 ds = some (aQ 5 4 D)) (hds2 : h.1 ds2 = some (aQ 5 4 D2)) (hD : ∀ e, e < 4 → D e = some (da e)) (hD2 : ∀ e, e < 4 → D2 e = some (da2 e)) (hdv : ∀ e, e < 4 → h.1 (da e) = some (oD (E e))) (hdv2 : ∀ e, e < 4 → h.1 (da2 e) = some (oD (E2 e))) (hcp : ∀ q, q < 20 → ∀ v, C2 q = some v → ∃ fs, h.1 v = some (oB 1 fs)) (nb : b2 ≠ b) (noc : oc2 ≠ oc) (npz : pz2 ≠ pz) (npq : pq2 ≠ pq) (ncs : cs2 ≠ cs) (hda : ∀ e e2, e < 4 → e2 < 4 → da e = da e2 → e = e2) (hdd : ∀ e e2, e < 4 → e2 < 4 → da2 e ≠ da e2) : zMet F yX0_copyFrom cX0_copyFrom 3 none { frames := 2, cells := 0, slots := 0, locals := 60 } [.ref b, .ref b2] h (fun v h2 => v = none ∧ h2.1 b = some (oB 0 [.int wk2, .long hm2, .long pm2, .ref oc, .ref cs, .int (nI ch2), .ref ds, .int (nI dh2), .ref pz, .ref pq, .int (nI ph2)]) ∧ h2.1 oc = some (aI 14 (va_cpy O2 O 0 0 14)) ∧ h2.1 pz = some (aJ 20 (va_cpy Z2 Z 0 0 20)) ∧ h2.1 pq = some (aI 20 (va_cpy P2 P 0 0 20)) ∧ h2.1 cs = some (aQ 4 20 (mx C2 C 20)) ∧ (∀ e, e < 4 → h2.1 (da e) = some (oD (E2 e))) ∧ h2.2 = h.2 ∧ ∀ x, x ≠ b → x ≠ oc → x ≠ pz → x ≠ pq → x ≠ cs → (∀ e, e < 4 → x ≠ da e) → h2.1 x = h.1 x) := by
  refine zMet_of (lv := [(0, .ref b), (1, .ref b2)]) (by decide) (by simp [lg_sl, Value.category]) rfl ?_
  intro X g z
  refine v_blk g [.aload_n 0, .aload_n 1] (pc' := 2) (lv' := [(0, .ref b), (1, .ref b2)]) (st' := [.ref b2, .ref b]) (by decide +kernel) rfl rfl ?_
  refine v_get g hb2 fl_X0_41 rfl (by decide +kernel) ?_
  refine v_put g (fs' := [.int wk2, .long hm, .long pm, .ref oc, .ref cs, .int (nI ch), .ref ds, .int (nI dh), .ref pz, .ref pq, .int (nI ph)]) hb fl_X0_41 rfl rfl (Nat.le_of_ble_eq_true rfl) rfl (by decide +kernel) ?_
  refine v_h (fun h1 eh1 => ?_)
  have h1_c : h1.2.1 = h.2.1 + 0 ∧ h1.2.2 = h.2.2 + 0 := zcs eh1 ⟨rfl, rfl⟩
  have h1_b : h1.1 b = some (oB 0 [.int wk2, .long hm, .long pm, .ref oc, .ref cs, .int (nI ch), .ref ds, .int (nI dh), .ref pz, .ref pq, .int (nI ph)]) := by rw [eh1]; exact z_s_self _ _ _
  have h1_b2 : h1.1 b2 = some (oB 0 [.int wk2, .long hm2, .long pm2, .ref oc2, .ref cs2, .int (nI ch2), .ref ds2, .int (nI dh2), .ref pz2, .ref pq2, .int (nI ph2)]) := by rw [eh1]; exact z_so hb2 nb
  have h1_oc : h1.1 oc = some (aI 14 O) := by rw [eh1]; exact z_so hoc (Ne.symm (z_ne hb hoc rfl))
  have h1_oc2 : h1.1 oc2 = some (aI 14 O2) := by rw [eh1]; exact z_so hoc2 (Ne.symm (z_ne hb hoc2 rfl))
  have h1_pz : h1.1 pz = some (aJ 20 Z) := by rw [eh1]; exact z_so hpz (Ne.symm (z_ne hb hpz rfl))
  have h1_pz2 : h1.1 pz2 = some (aJ 20 Z2) := by rw [eh1]; exact z_so hpz2 (Ne.symm (z_ne hb hpz2 rfl))
  have h1_pq : h1.1 pq = some (aI 20 P) := by rw [eh1]; exact z_so hpq (Ne.symm (z_ne hb hpq rfl))
  have h1_pq2 : h1.1 pq2 = some (aI 20 P2) := by rw [eh1]; exact z_so hpq2 (Ne.symm (z_ne hb hpq2 rfl))
  refine v_blk g [.aload_n 0, .aload_n 1] (pc' := 10) (lv' := [(0, .ref b), (1, .ref b2)]) (st' := [.ref b2, .ref b]) (by decide +kernel) rfl rfl ?_
  refine v_get g h1_b2 fl_X0_45 rfl (by decide +kernel) ?_
  refine v_put g (fs' := [.int wk2, .long hm2, .long pm, .ref oc, .ref cs, .int (nI ch), .ref ds, .int (nI dh), .ref pz, .ref pq, .int (nI ph)]) h1_b fl_X0_45 rfl rfl (Nat.le_of_ble_eq_true rfl) rfl (by decide +kernel) ?_
  refine v_h (fun h2 eh2 => ?_)
  have h2_c : h2.2.1 = h.2.1 + 0 ∧ h2.2.2 = h.2.2 + 0 := zcs eh2 h1_c
  have h2_b : h2.1 b = some (oB 0 [.int wk2, .long hm2, .long pm, .ref oc, .ref cs, .int (nI ch), .ref ds, .int (nI dh), .ref pz, .ref pq, .int (nI ph)]) := by rw [eh2]; exact z_s_self _ _ _
  have h2_b2 : h2.1 b2 = some (oB 0 [.int wk2, .long hm2, .long pm2, .ref oc2, .ref cs2, .int (nI ch2), .ref ds2, .int (nI dh2), .ref pz2, .ref pq2, .int (nI ph2)]) := by rw [eh2]; exact z_so h1_b2 nb
  have h2_oc : h2.1 oc = some (aI 14 O) := by rw [eh2]; exact z_so h1_oc (Ne.symm (z_ne hb hoc rfl))
  have h2_oc2 : h2.1 oc2 = some (aI 14 O2) := by rw [eh2]; exact z_so h1_oc2 (Ne.symm (z_ne hb hoc2 rfl))
  have h2_pz : h2.1 pz = some (aJ 20 Z) := by rw [eh2]; exact z_so h1_pz (Ne.symm (z_ne hb hpz rfl))
  have h2_pz2 : h2.1 pz2 = some (aJ 20 Z2) := by rw [eh2]; exact z_so h1_pz2 (Ne.symm (z_ne hb hpz2 rfl))
  have h2_pq : h2.1 pq = some (aI 20 P) := by rw [eh2]; exact z_so h1_pq (Ne.symm (z_ne hb hpq rfl))
  have h2_pq2 : h2.1 pq2 = some (aI 20 P2) := by rw [eh2]; exact z_so h1_pq2 (Ne.symm (z_ne hb hpq2 rfl))
  refine v_blk g [.aload_n 0, .aload_n 1] (pc' := 18) (lv' := [(0, .ref b), (1, .ref b2)]) (st' := [.ref b2, .ref b]) (by decide +kernel) rfl rfl ?_
  refine v_get g h2_b2 fl_X0_49 rfl (by decide +kernel) ?_
  refine v_put g (fs' := [.int wk2, .long hm2, .long pm2, .ref oc, .ref cs, .int (nI ch), .ref ds, .int (nI dh), .ref pz, .ref pq, .int (nI ph)]) h2_b fl_X0_49 rfl rfl (Nat.le_of_ble_eq_true rfl) rfl (by decide +kernel) ?_
  refine v_h (fun h3 eh3 => ?_)
  have h3_c : h3.2.1 = h.2.1 + 0 ∧ h3.2.2 = h.2.2 + 0 := zcs eh3 h2_c
  have h3_b : h3.1 b = some (oB 0 [.int wk2, .long hm2, .long pm2, .ref oc, .ref cs, .int (nI ch), .ref ds, .int (nI dh), .ref pz, .ref pq, .int (nI ph)]) := by rw [eh3]; exact z_s_self _ _ _
  have h3_b2 : h3.1 b2 = some (oB 0 [.int wk2, .long hm2, .long pm2, .ref oc2, .ref cs2, .int (nI ch2), .ref ds2, .int (nI dh2), .ref pz2, .ref pq2, .int (nI ph2)]) := by rw [eh3]; exact z_so h2_b2 nb
  have h3_oc : h3.1 oc = some (aI 14 O) := by rw [eh3]; exact z_so h2_oc (Ne.symm (z_ne hb hoc rfl))
  have h3_oc2 : h3.1 oc2 = some (aI 14 O2) := by rw [eh3]; exact z_so h2_oc2 (Ne.symm (z_ne hb hoc2 rfl))
  have h3_pz : h3.1 pz = some (aJ 20 Z) := by rw [eh3]; exact z_so h2_pz (Ne.symm (z_ne hb hpz rfl))
  have h3_pz2 : h3.1 pz2 = some (aJ 20 Z2) := by rw [eh3]; exact z_so h2_pz2 (Ne.symm (z_ne hb hpz2 rfl))
  have h3_pq : h3.1 pq = some (aI 20 P) := by rw [eh3]; exact z_so h2_pq (Ne.symm (z_ne hb hpq rfl))
  have h3_pq2 : h3.1 pq2 = some (aI 20 P2) := by rw [eh3]; exact z_so h2_pq2 (Ne.symm (z_ne hb hpq2 rfl))
  refine v_blk g [.aload_n 0, .aload_n 1] (pc' := 26) (lv' := [(0, .ref b), (1, .ref b2)]) (st' := [.ref b2, .ref b]) (by decide +kernel) rfl rfl ?_
  refine v_get g h3_b2 fl_X0_52 rfl (by decide +kernel) ?_
  refine v_put g (fs' := [.int wk2, .long hm2, .long pm2, .ref oc, .ref cs, .int (nI ch2), .ref ds, .int (nI dh), .ref pz, .ref pq, .int (nI ph)]) h3_b fl_X0_52 rfl rfl (Nat.le_of_ble_eq_true rfl) rfl (by decide +kernel) ?_
  refine v_h (fun h4 eh4 => ?_)
  have h4_c : h4.2.1 = h.2.1 + 0 ∧ h4.2.2 = h.2.2 + 0 := zcs eh4 h3_c
  have h4_b : h4.1 b = some (oB 0 [.int wk2, .long hm2, .long pm2, .ref oc, .ref cs, .int (nI ch2), .ref ds, .int (nI dh), .ref pz, .ref pq, .int (nI ph)]) := by rw [eh4]; exact z_s_self _ _ _
  have h4_b2 : h4.1 b2 = some (oB 0 [.int wk2, .long hm2, .long pm2, .ref oc2, .ref cs2, .int (nI ch2), .ref ds2, .int (nI dh2), .ref pz2, .ref pq2, .int (nI ph2)]) := by rw [eh4]; exact z_so h3_b2 nb
  have h4_oc : h4.1 oc = some (aI 14 O) := by rw [eh4]; exact z_so h3_oc (Ne.symm (z_ne hb hoc rfl))
  have h4_oc2 : h4.1 oc2 = some (aI 14 O2) := by rw [eh4]; exact z_so h3_oc2 (Ne.symm (z_ne hb hoc2 rfl))
  have h4_pz : h4.1 pz = some (aJ 20 Z) := by rw [eh4]; exact z_so h3_pz (Ne.symm (z_ne hb hpz rfl))
  have h4_pz2 : h4.1 pz2 = some (aJ 20 Z2) := by rw [eh4]; exact z_so h3_pz2 (Ne.symm (z_ne hb hpz2 rfl))
  have h4_pq : h4.1 pq = some (aI 20 P) := by rw [eh4]; exact z_so h3_pq (Ne.symm (z_ne hb hpq rfl))
  have h4_pq2 : h4.1 pq2 = some (aI 20 P2) := by rw [eh4]; exact z_so h3_pq2 (Ne.symm (z_ne hb hpq2 rfl))
  refine v_blk g [.aload_n 0, .aload_n 1] (pc' := 34) (lv' := [(0, .ref b), (1, .ref b2)]) (st' := [.ref b2, .ref b]) (by decide +kernel) rfl rfl ?_
  refine v_get g h4_b2 fl_X0_55 rfl (by decide +kernel) ?_
  refine v_put g (fs' := [.int wk2, .long hm2, .long pm2, .ref oc, .ref cs, .int (nI ch2), .ref ds, .int (nI dh2), .ref pz, .ref pq, .int (nI ph)]) h4_b fl_X0_55 rfl rfl (Nat.le_of_ble_eq_true rfl) rfl (by decide +kernel) ?_
  refine v_h (fun h5 eh5 => ?_)
  have h5_c : h5.2.1 = h.2.1 + 0 ∧ h5.2.2 = h.2.2 + 0 := zcs eh5 h4_c
  have h5_b : h5.1 b = some (oB 0 [.int wk2, .long hm2, .long pm2, .ref oc, .ref cs, .int (nI ch2), .ref ds, .int (nI dh2), .ref pz, .ref pq, .int (nI ph)]) := by rw [eh5]; exact z_s_self _ _ _
  have h5_b2 : h5.1 b2 = some (oB 0 [.int wk2, .long hm2, .long pm2, .ref oc2, .ref cs2, .int (nI ch2), .ref ds2, .int (nI dh2), .ref pz2, .ref pq2, .int (nI ph2)]) := by rw [eh5]; exact z_so h4_b2 nb
  have h5_oc : h5.1 oc = some (aI 14 O) := by rw [eh5]; exact z_so h4_oc (Ne.symm (z_ne hb hoc rfl))
  have h5_oc2 : h5.1 oc2 = some (aI 14 O2) := by rw [eh5]; exact z_so h4_oc2 (Ne.symm (z_ne hb hoc2 rfl))
  have h5_pz : h5.1 pz = some (aJ 20 Z) := by rw [eh5]; exact z_so h4_pz (Ne.symm (z_ne hb hpz rfl))
  have h5_pz2 : h5.1 pz2 = some (aJ 20 Z2) := by rw [eh5]; exact z_so h4_pz2 (Ne.symm (z_ne hb hpz2 rfl))
  have h5_pq : h5.1 pq = some (aI 20 P) := by rw [eh5]; exact z_so h4_pq (Ne.symm (z_ne hb hpq rfl))
  have h5_pq2 : h5.1 pq2 = some (aI 20 P2) := by rw [eh5]; exact z_so h4_pq2 (Ne.symm (z_ne hb hpq2 rfl))
  refine v_blk g [.aload_n 0, .aload_n 1] (pc' := 42) (lv' := [(0, .ref b), (1, .ref b2)]) (st' := [.ref b2, .ref b]) (by decide +kernel) rfl rfl ?_
  refine v_get g h5_b2 fl_X0_58 rfl (by decide +kernel) ?_
  refine v_put g (fs' := [.int wk2, .long hm2, .long pm2, .ref oc, .ref cs, .int (nI ch2), .ref ds, .int (nI dh2), .ref pz, .ref pq, .int (nI ph2)]) h5_b fl_X0_58 rfl rfl (Nat.le_of_ble_eq_true rfl) rfl (by decide +kernel) ?_
  refine v_h (fun h6 eh6 => ?_)
  have h6_c : h6.2.1 = h.2.1 + 0 ∧ h6.2.2 = h.2.2 + 0 := zcs eh6 h5_c
  have h6_b : h6.1 b = some (oB 0 [.int wk2, .long hm2, .long pm2, .ref oc, .ref cs, .int (nI ch2), .ref ds, .int (nI dh2), .ref pz, .ref pq, .int (nI ph2)]) := by rw [eh6]; exact z_s_self _ _ _
  have h6_b2 : h6.1 b2 = some (oB 0 [.int wk2, .long hm2, .long pm2, .ref oc2, .ref cs2, .int (nI ch2), .ref ds2, .int (nI dh2), .ref pz2, .ref pq2, .int (nI ph2)]) := by rw [eh6]; exact z_so h5_b2 nb
  have h6_oc : h6.1 oc = some (aI 14 O) := by rw [eh6]; exact z_so h5_oc (Ne.symm (z_ne hb hoc rfl))
  have h6_oc2 : h6.1 oc2 = some (aI 14 O2) := by rw [eh6]; exact z_so h5_oc2 (Ne.symm (z_ne hb hoc2 rfl))
  have h6_pz : h6.1 pz = some (aJ 20 Z) := by rw [eh6]; exact z_so h5_pz (Ne.symm (z_ne hb hpz rfl))
  have h6_pz2 : h6.1 pz2 = some (aJ 20 Z2) := by rw [eh6]; exact z_so h5_pz2 (Ne.symm (z_ne hb hpz2 rfl))
  have h6_pq : h6.1 pq = some (aI 20 P) := by rw [eh6]; exact z_so h5_pq (Ne.symm (z_ne hb hpq rfl))
  have h6_pq2 : h6.1 pq2 = some (aI 20 P2) := by rw [eh6]; exact z_so h5_pq2 (Ne.symm (z_ne hb hpq2 rfl))
  refine v_blk g [.aload_n 1] (pc' := 49) (lv' := [(0, .ref b), (1, .ref b2)]) (st' := [.ref b2]) (by decide +kernel) rfl rfl ?_
  refine v_get g h6_b2 fl_X0_9 rfl (by decide +kernel) ?_
  refine v_blk g [.iconst 0, .aload_n 0] (pc' := 54) (lv' := [(0, .ref b), (1, .ref b2)]) (st' := [.ref b, .int (0 : Int32), .ref oc2]) (by decide +kernel) rfl rfl ?_
  refine v_get g h6_b fl_X0_9 rfl (by decide +kernel) ?_
  refine v_blk g [.iconst 0, .bipush 14] (pc' := 60) (lv' := [(0, .ref b), (1, .ref b2)]) (st' := [.int (14 : Int32), .int (0 : Int32), .ref oc, .int (0 : Int32), .ref oc2]) (by decide +kernel) rfl rfl ?_
  refine v_cpI g h6_oc2 h6_oc 0 0 14 rfl rfl rfl (by decide) (by decide) (by decide) (by decide) al_X0_61 ⟨by decide, by decide⟩ (by decide) (by decide +kernel) ar_n ar_s ar_i ?_
  refine v_h (fun h7 eh7 => ?_)
  have h7_c : h7.2.1 = h.2.1 + 0 ∧ h7.2.2 = h.2.2 + 0 := zcs eh7 h6_c
  have h7_b : h7.1 b = some (oB 0 [.int wk2, .long hm2, .long pm2, .ref oc, .ref cs, .int (nI ch2), .ref ds, .int (nI dh2), .ref pz, .ref pq, .int (nI ph2)]) := by rw [eh7]; exact z_so h6_b (z_ne hb hoc rfl)
  have h7_b2 : h7.1 b2 = some (oB 0 [.int wk2, .long hm2, .long pm2, .ref oc2, .ref cs2, .int (nI ch2), .ref ds2, .int (nI dh2), .ref pz2, .ref pq2, .int (nI ph2)]) := by rw [eh7]; exact z_so h6_b2 (z_ne hb2 hoc rfl)
  have h7_oc : h7.1 oc = some (aI 14 (va_cpy O2 O 0 0 14)) := by rw [eh7]; exact z_s_self _ _ _
  have h7_oc2 : h7.1 oc2 = some (aI 14 O2) := by rw [eh7]; exact z_so h6_oc2 noc
  have h7_pz : h7.1 pz = some (aJ 20 Z) := by rw [eh7]; exact z_so h6_pz (Ne.symm (z_ne hoc hpz rfl))
  have h7_pz2 : h7.1 pz2 = some (aJ 20 Z2) := by rw [eh7]; exact z_so h6_pz2 (Ne.symm (z_ne hoc hpz2 rfl))
  have h7_pq : h7.1 pq = some (aI 20 P) := by rw [eh7]; exact z_so h6_pq (Ne.symm (z_ne hoc hpq rfl))
  have h7_pq2 : h7.1 pq2 = some (aI 20 P2) := by rw [eh7]; exact z_so h6_pq2 (Ne.symm (z_ne hoc hpq2 rfl))
  refine v_blk g [.aload_n 1] (pc' := 64) (lv' := [(0, .ref b), (1, .ref b2)]) (st' := [.ref b2]) (by decide +kernel) rfl rfl ?_
  refine v_get g h7_b2 fl_X0_34 rfl (by decide +kernel) ?_
  refine v_blk g [.iconst 0, .aload_n 0] (pc' := 69) (lv' := [(0, .ref b), (1, .ref b2)]) (st' := [.ref b, .int (0 : Int32), .ref pz2]) (by decide +kernel) rfl rfl ?_
  refine v_get g h7_b fl_X0_34 rfl (by decide +kernel) ?_
  refine v_blk g [.iconst 0, .bipush 20] (pc' := 75) (lv' := [(0, .ref b), (1, .ref b2)]) (st' := [.int (20 : Int32), .int (0 : Int32), .ref pz, .int (0 : Int32), .ref pz2]) (by decide +kernel) rfl rfl ?_
  refine v_cpJ g h7_pz2 h7_pz 0 0 20 rfl rfl rfl (by decide) (by decide) (by decide) (by decide) al_X0_61 ⟨by decide, by decide⟩ (by decide) (by decide +kernel) ar_n ar_s ar_i ?_
  refine v_h (fun h8 eh8 => ?_)
  have h8_c : h8.2.1 = h.2.1 + 0 ∧ h8.2.2 = h.2.2 + 0 := zcs eh8 h7_c
  have h8_b : h8.1 b = some (oB 0 [.int wk2, .long hm2, .long pm2, .ref oc, .ref cs, .int (nI ch2), .ref ds, .int (nI dh2), .ref pz, .ref pq, .int (nI ph2)]) := by rw [eh8]; exact z_so h7_b (z_ne hb hpz rfl)
  have h8_b2 : h8.1 b2 = some (oB 0 [.int wk2, .long hm2, .long pm2, .ref oc2, .ref cs2, .int (nI ch2), .ref ds2, .int (nI dh2), .ref pz2, .ref pq2, .int (nI ph2)]) := by rw [eh8]; exact z_so h7_b2 (z_ne hb2 hpz rfl)
  have h8_oc : h8.1 oc = some (aI 14 (va_cpy O2 O 0 0 14)) := by rw [eh8]; exact z_so h7_oc (z_ne hoc hpz rfl)
  have h8_oc2 : h8.1 oc2 = some (aI 14 O2) := by rw [eh8]; exact z_so h7_oc2 (z_ne hoc2 hpz rfl)
  have h8_pz : h8.1 pz = some (aJ 20 (va_cpy Z2 Z 0 0 20)) := by rw [eh8]; exact z_s_self _ _ _
  have h8_pz2 : h8.1 pz2 = some (aJ 20 Z2) := by rw [eh8]; exact z_so h7_pz2 npz
  have h8_pq : h8.1 pq = some (aI 20 P) := by rw [eh8]; exact z_so h7_pq (Ne.symm (z_ne hpz hpq rfl))
  have h8_pq2 : h8.1 pq2 = some (aI 20 P2) := by rw [eh8]; exact z_so h7_pq2 (Ne.symm (z_ne hpz hpq2 rfl))
  refine v_blk g [.aload_n 1] (pc' := 79) (lv' := [(0, .ref b), (1, .ref b2)]) (st' := [.ref b2]) (by decide +kernel) rfl rfl ?_
  refine v_get g h8_b2 fl_X0_38 rfl (by decide +kernel) ?_
  refine v_blk g [.iconst 0, .aload_n 0] (pc' := 84) (lv' := [(0, .ref b), (1, .ref b2)]) (st' := [.ref b, .int (0 : Int32), .ref pq2]) (by decide +kernel) rfl rfl ?_
  refine v_get g h8_b fl_X0_38 rfl (by decide +kernel) ?_
  refine v_blk g [.iconst 0, .bipush 20] (pc' := 90) (lv' := [(0, .ref b), (1, .ref b2)]) (st' := [.int (20 : Int32), .int (0 : Int32), .ref pq, .int (0 : Int32), .ref pq2]) (by decide +kernel) rfl rfl ?_
  refine v_cpI g h8_pq2 h8_pq 0 0 20 rfl rfl rfl (by decide) (by decide) (by decide) (by decide) al_X0_61 ⟨by decide, by decide⟩ (by decide) (by decide +kernel) ar_n ar_s ar_i ?_
  refine v_h (fun h9 eh9 => ?_)
  have h9_c : h9.2.1 = h.2.1 + 0 ∧ h9.2.2 = h.2.2 + 0 := zcs eh9 h8_c
  have h9_b : h9.1 b = some (oB 0 [.int wk2, .long hm2, .long pm2, .ref oc, .ref cs, .int (nI ch2), .ref ds, .int (nI dh2), .ref pz, .ref pq, .int (nI ph2)]) := by rw [eh9]; exact z_so h8_b (z_ne hb hpq rfl)
  have h9_b2 : h9.1 b2 = some (oB 0 [.int wk2, .long hm2, .long pm2, .ref oc2, .ref cs2, .int (nI ch2), .ref ds2, .int (nI dh2), .ref pz2, .ref pq2, .int (nI ph2)]) := by rw [eh9]; exact z_so h8_b2 (z_ne hb2 hpq rfl)
  have h9_oc : h9.1 oc = some (aI 14 (va_cpy O2 O 0 0 14)) := by rw [eh9]; exact z_so h8_oc (z_ne hoc hpq rfl)
  have h9_oc2 : h9.1 oc2 = some (aI 14 O2) := by rw [eh9]; exact z_so h8_oc2 (z_ne hoc2 hpq rfl)
  have h9_pz : h9.1 pz = some (aJ 20 (va_cpy Z2 Z 0 0 20)) := by rw [eh9]; exact z_so h8_pz (z_ne hpz hpq rfl)
  have h9_pz2 : h9.1 pz2 = some (aJ 20 Z2) := by rw [eh9]; exact z_so h8_pz2 (z_ne hpz2 hpq rfl)
  have h9_pq : h9.1 pq = some (aI 20 (va_cpy P2 P 0 0 20)) := by rw [eh9]; exact z_s_self _ _ _
  have h9_pq2 : h9.1 pq2 = some (aI 20 P2) := by rw [eh9]; exact z_so h8_pq2 npq
  have fr9 : ∀ x, x ≠ b → x ≠ oc → x ≠ pz → x ≠ pq → h9.1 x = h.1 x := fun x q1 q2 q3 q4 => by rw [eh9, z_s_ne q4, eh8, z_s_ne q3, eh7, z_s_ne q2, eh6, z_s_ne q1, eh5, z_s_ne q1, eh4, z_s_ne q1, eh3, z_s_ne q1, eh2, z_s_ne q1, eh1, z_s_ne q1]
  have kp : ∀ {x : Nat} {y : zE}, h.1 x = some y → z_nk y (oB 0 []) = true → z_nk y (aI 14 O) = true → z_nk y (aJ 20 Z) = true → z_nk y (aI 20 P) = true → h9.1 x = some y := fun {x y} q k0 k1 k2 k3 => (fr9 _ (fun e => by subst e; rw [hb] at q; cases q; cases k0) (z_ne q hoc k1) (z_ne q hpz k2) (z_ne q hpq k3)).trans q
  have hcs9 : h9.1 cs = some (aQ 4 20 C) := kp hcs rfl rfl rfl rfl
  have hcs29 : h9.1 cs2 = some (aQ 4 20 C2) := kp hcs2 rfl rfl rfl rfl
  have hc9 : h9.2 = h.2 := by rw [eh9, eh8, eh7, eh6, eh5, eh4, eh3, eh2, eh1]; rfl
  have key2 : ∀ i, i ≤ 4 → ∀ H : zH, (∀ x, (∀ e, e < 4 → x ≠ da e) → H.1 x = (z_s h9 cs (aQ 4 20 (mx C2 C 20))).1 x) → H.2 = h.2 → (∀ e, e < 4 → H.1 (da e) = some (oD (mx E2 E i e))) → zV F X H 121 [(2, .int (nI i)), (0, .ref b), (1, .ref b2)] [] := by
    refine z_up (P := fun i => ∀ H : zH, (∀ x, (∀ e, e < 4 → x ≠ da e) → H.1 x = (z_s h9 cs (aQ 4 20 (mx C2 C 20))).1 x) → H.2 = h.2 → (∀ e, e < 4 → H.1 (da e) = some (oD (mx E2 E i e))) → zV F X H 121 [(2, .int (nI i)), (0, .ref b), (1, .ref b2)] []) 4 ?_ ?_
    · intro H fr hc2 hE
      have kk : ∀ {x : Nat} {y : zE}, (z_s h9 cs (aQ 4 20 (mx C2 C 20))).1 x = some y → (∀ v, z_nk y (oD v) = true) → H.1 x = some y := fun {x y} q q2 => (fr x (fun e he => by
        have h8 : (z_s h9 cs (aQ 4 20 (mx C2 C 20))).1 (da e) = some (oD (E e)) := z_so (kp (hdv e he) rfl rfl rfl rfl) (z_ne (hdv e he) hcs rfl)
        exact z_ne q h8 (q2 _))).trans q
      have hbH : H.1 b = some (oB 0 [.int wk2, .long hm2, .long pm2, .ref oc, .ref cs, .int (nI ch2), .ref ds, .int (nI dh2), .ref pz, .ref pq, .int (nI ph2)]) := kk (z_so h9_b (z_ne h9_b hcs9 rfl)) (fun _ => rfl)
      have hb2H : H.1 b2 = some (oB 0 [.int wk2, .long hm2, .long pm2, .ref oc2, .ref cs2, .int (nI ch2), .ref ds2, .int (nI dh2), .ref pz2, .ref pq2, .int (nI ph2)]) := kk (z_so h9_b2 (z_ne h9_b2 hcs9 rfl)) (fun _ => rfl)
      have hdsH : H.1 ds = some (aQ 5 4 D) := kk (z_so (kp hds rfl rfl rfl rfl) (z_ne hds hcs rfl)) (fun _ => rfl)
      have hds2H : H.1 ds2 = some (aQ 5 4 D2) := kk (z_so (kp hds2 rfl rfl rfl rfl) (z_ne hds2 hcs rfl)) (fun _ => rfl)
      have hcntH : H.2.1 = h.2.1 + 0 ∧ H.2.2 = h.2.2 + 0 := ⟨congrArg Prod.fst hc2, congrArg Prod.snd hc2⟩
      refine v_blk g [.iload_n 2, .iconst 4] (pc' := 123) (lv' := [(2, .int (nI 4)), (0, .ref b), (1, .ref b2)]) (st' := [.int (4 : Int32), .int (nI 4)]) (by decide +kernel) rfl rfl ?_
      refine v_icmp_ge g (off := 24) (tgt := 147) (by decide +kernel) (by decide) (fun _ => ?_) (fun c => absurd c (fun q => q (by decide)))
      refine v_vret g z rfl (by decide +kernel) ⟨rfl, hbH, ?_, ?_, ?_, ?_, fun e he => ?_, hc2, fun x q1 q2 q3 q4 q5 q6 => ?_⟩ (zcrn 0 0 hcntH.1 hcntH.2 (Nat.le_of_ble_eq_true rfl) (Nat.le_of_ble_eq_true rfl))
      · exact kk (z_so h9_oc (z_ne h9_oc hcs9 rfl)) (fun _ => rfl)
      · exact kk (z_so h9_pz (z_ne h9_pz hcs9 rfl)) (fun _ => rfl)
      · exact kk (z_so h9_pq (z_ne h9_pq hcs9 rfl)) (fun _ => rfl)
      · exact kk (z_s_self _ _ _) (fun _ => rfl)
      · rw [hE e he, mx_lt he]
      · rw [fr x q6, z_s_ne q5, fr9 x q1 q2 q3 q4]
    · intro i hi ih H fr hc2 hE
      have kk : ∀ {x : Nat} {y : zE}, (z_s h9 cs (aQ 4 20 (mx C2 C 20))).1 x = some y → (∀ v, z_nk y (oD v) = true) → H.1 x = some y := fun {x y} q q2 => (fr x (fun e he => by
        have h8 : (z_s h9 cs (aQ 4 20 (mx C2 C 20))).1 (da e) = some (oD (E e)) := z_so (kp (hdv e he) rfl rfl rfl rfl) (z_ne (hdv e he) hcs rfl)
        exact z_ne q h8 (q2 _))).trans q
      have hbH : H.1 b = some (oB 0 [.int wk2, .long hm2, .long pm2, .ref oc, .ref cs, .int (nI ch2), .ref ds, .int (nI dh2), .ref pz, .ref pq, .int (nI ph2)]) := kk (z_so h9_b (z_ne h9_b hcs9 rfl)) (fun _ => rfl)
      have hb2H : H.1 b2 = some (oB 0 [.int wk2, .long hm2, .long pm2, .ref oc2, .ref cs2, .int (nI ch2), .ref ds2, .int (nI dh2), .ref pz2, .ref pq2, .int (nI ph2)]) := kk (z_so h9_b2 (z_ne h9_b2 hcs9 rfl)) (fun _ => rfl)
      have hdsH : H.1 ds = some (aQ 5 4 D) := kk (z_so (kp hds rfl rfl rfl rfl) (z_ne hds hcs rfl)) (fun _ => rfl)
      have hds2H : H.1 ds2 = some (aQ 5 4 D2) := kk (z_so (kp hds2 rfl rfl rfl rfl) (z_ne hds2 hcs rfl)) (fun _ => rfl)
      have hcntH : H.2.1 = h.2.1 + 0 ∧ H.2.2 = h.2.2 + 0 := ⟨congrArg Prod.fst hc2, congrArg Prod.snd hc2⟩
      have hEi : H.1 (da i) = some (oD (E i)) := by have q := hE i hi; rw [mx_at] at q; exact q
      have hE2i : H.1 (da2 i) = some (oD (E2 i)) := (fr _ (fun e he => hdd i e hi he)).trans (z_so (kp (hdv2 i hi) rfl rfl rfl rfl) (z_ne (hdv2 i hi) hcs rfl))
      refine v_blk g [.iload_n 2, .iconst 4] (pc' := 123) (lv' := [(2, .int (nI i)), (0, .ref b), (1, .ref b2)]) (st' := [.int (4 : Int32), .int (nI i)]) (by decide +kernel) rfl rfl ?_
      refine v_icmp_ge g (off := 24) (tgt := 147) (by decide +kernel) (by decide) (fun c => absurd c (nI_ge (b := 4) hi (by decide))) (fun _ => ?_)
      refine v_blk g [.aload_n 0] (pc' := 127) (lv' := [(2, .int (nI i)), (0, .ref b), (1, .ref b2)]) (st' := [.ref b]) (by decide +kernel) rfl rfl ?_
      refine v_get g hbH fl_X0_29 rfl (by decide +kernel) ?_
      refine v_blk g [.iload_n 2] (pc' := 131) (lv' := [(2, .int (nI i)), (0, .ref b), (1, .ref b2)]) (st' := [.int (nI i), .ref ds]) (by decide +kernel) rfl rfl ?_
      refine v_aald5 g hdsH i rfl hi (Nat.le_of_ble_eq_true rfl) (by decide +kernel) ?_
      refine v_st (st' := [.ref (da i)]) (by rw [show D i = some (da i) from hD i hi]; rfl) ?_
      refine v_blk g [.aload_n 1] (pc' := 133) (lv' := [(2, .int (nI i)), (0, .ref b), (1, .ref b2)]) (st' := [.ref b2, .ref (da i)]) (by decide +kernel) rfl rfl ?_
      refine v_get g hb2H fl_X0_29 rfl (by decide +kernel) ?_
      refine v_blk g [.iload_n 2] (pc' := 137) (lv' := [(2, .int (nI i)), (0, .ref b), (1, .ref b2)]) (st' := [.int (nI i), .ref ds2, .ref (da i)]) (by decide +kernel) rfl rfl ?_
      refine v_aald5 g hds2H i rfl hi (Nat.le_of_ble_eq_true rfl) (by decide +kernel) ?_
      refine v_st (st' := [.ref (da2 i), .ref (da i)]) (by rw [show D2 i = some (da2 i) from hD2 i hi]; rfl) ?_
      refine v_callVp g (rest := []) (c_Div_copy hEi hE2i (hdd i i hi hi)) cl_X0_67 hEi rfl rfl (Nat.le_of_ble_eq_true rfl) (by decide +kernel) ⟨Nat.le_of_ble_eq_true rfl, Nat.le_of_ble_eq_true rfl⟩ (zcsn 0 0 hcntH.1 hcntH.2 (Nat.le_of_ble_eq_true rfl) (Nat.le_of_ble_eq_true rfl)) ?_
      show zV F X (z_s H (da i) (oD (E2 i))) 141 [(2, .int (nI i)), (0, .ref b), (1, .ref b2)] []
      refine v_blk g [.iinc 2 1] (pc' := 144) (lv' := [(2, .int ((nI i) + (1 : Int32))), (0, .ref b), (1, .ref b2)]) (st' := []) (by decide +kernel) rfl rfl ?_
      refine v_goto g (off := -23) (tgt := 121) (by decide +kernel) (by decide) ?_
      refine v_lv [0, 1, 2] (lv' := [(2, .int ((nI i) + (1 : Int32))), (0, .ref b), (1, .ref b2)]) rfl ?_
      refine v_eq (by rw [nI_1]) rfl (ih _ (fun x q => ?_) hc2 (fun e he => ?_))
      · rw [z_s_ne (q i hi)]
        exact fr x q
      · by_cases hei : e = i
        · subst hei
          rw [mx_lt (Nat.lt_succ_self e)]
          exact z_s_self _ _ _
        · refine z_so ?_ (fun q => hei (hda e i he hi q))
          rw [hE e he]
          congr 2
          unfold mx
          by_cases h8 : e < i
          · rw [if_pos h8, if_pos (by omega)]
          · rw [if_neg h8, if_neg (by omega)]
  refine v_blk g [.iconst 0, .istore_n 2] (pc' := 95) (lv' := [(2, .int (0 : Int32)), (0, .ref b), (1, .ref b2)]) (st' := []) (by decide +kernel) rfl rfl ?_
  refine v_lv [0, 1, 2] (lv' := [(2, .int (0 : Int32)), (0, .ref b), (1, .ref b2)]) rfl ?_
  have key : ∀ i, i ≤ 20 → zV F X (z_s h9 cs (aQ 4 20 (mx C2 C i))) 95 [(2, .int (nI i)), (0, .ref b), (1, .ref b2)] [] := by
    refine z_up (P := fun i => zV F X (z_s h9 cs (aQ 4 20 (mx C2 C i))) 95 [(2, .int (nI i)), (0, .ref b), (1, .ref b2)] []) 20 ?_ ?_
    · refine v_blk g [.iload_n 2, .bipush 20] (pc' := 98) (lv' := [(2, .int (nI 20)), (0, .ref b), (1, .ref b2)]) (st' := [.int (20 : Int32), .int (nI 20)]) (by decide +kernel) rfl rfl ?_
      refine v_icmp_ge g (off := 21) (tgt := 119) (by decide +kernel) (by decide) (fun _ => ?_) (fun c => absurd c (fun q => q (by decide)))
      refine v_blk g [.iconst 0, .istore_n 2] (pc' := 121) (lv' := [(2, .int (0 : Int32)), (0, .ref b), (1, .ref b2)]) (st' := []) (by decide +kernel) rfl rfl ?_
      refine v_lv [0, 1, 2] (lv' := [(2, .int (0 : Int32)), (0, .ref b), (1, .ref b2)]) rfl ?_
      refine v_eq rfl rfl (key2 0 (Nat.zero_le _) _ (fun x _ => rfl) hc9 (fun e he => ?_))
      rw [mx_0]
      exact z_so (kp (hdv e he) rfl rfl rfl rfl) (z_ne (hdv e he) hcs rfl)
    · intro i hi ih
      refine v_blk g [.iload_n 2, .bipush 20] (pc' := 98) (lv' := [(2, .int (nI i)), (0, .ref b), (1, .ref b2)]) (st' := [.int (20 : Int32), .int (nI i)]) (by decide +kernel) rfl rfl ?_
      refine v_icmp_ge g (off := 21) (tgt := 119) (by decide +kernel) (by decide) (fun c => absurd c (nI_ge (b := 20) hi (by decide))) (fun _ => ?_)
      refine v_blk g [.aload_n 0] (pc' := 102) (lv' := [(2, .int (nI i)), (0, .ref b), (1, .ref b2)]) (st' := [.ref b]) (by decide +kernel) rfl rfl ?_
      refine v_get g (z_so h9_b (z_ne h9_b hcs9 rfl)) fl_X0_23 rfl (by decide +kernel) ?_
      refine v_blk g [.iload_n 2, .aload_n 1] (pc' := 107) (lv' := [(2, .int (nI i)), (0, .ref b), (1, .ref b2)]) (st' := [.ref b2, .int (nI i), .ref cs]) (by decide +kernel) rfl rfl ?_
      refine v_get g (z_so h9_b2 (z_ne h9_b2 hcs9 rfl)) fl_X0_23 rfl (by decide +kernel) ?_
      refine v_blk g [.iload_n 2] (pc' := 111) (lv' := [(2, .int (nI i)), (0, .ref b), (1, .ref b2)]) (st' := [.int (nI i), .ref cs2, .int (nI i), .ref cs]) (by decide +kernel) rfl rfl ?_
      refine v_aald4 g (z_so hcs29 ncs) i rfl hi (Nat.le_of_ble_eq_true rfl) (by decide +kernel) ?_
      refine v_aast4 g (r := C2 i) (z_s_self _ _ _) (fun v e => by obtain ⟨fs, q⟩ := hcp i hi v e; exact ⟨fs, z_so (kp q rfl rfl rfl rfl) (z_ne q hcs rfl)⟩) i rfl hi (Nat.le_of_ble_eq_true rfl) (by decide +kernel) ?_
      refine v_h (fun h10 eh10 => ?_)
      have h10_c : h10.2.1 = h.2.1 + 0 ∧ h10.2.2 = h.2.2 + 0 := zcs eh10 h9_c
      have h10_b : h10.1 b = some (oB 0 [.int wk2, .long hm2, .long pm2, .ref oc, .ref cs, .int (nI ch2), .ref ds, .int (nI dh2), .ref pz, .ref pq, .int (nI ph2)]) := by rw [eh10]; exact z_so (z_so h9_b (z_ne h9_b hcs9 rfl)) (z_ne h9_b hcs9 rfl)
      have h10_b2 : h10.1 b2 = some (oB 0 [.int wk2, .long hm2, .long pm2, .ref oc2, .ref cs2, .int (nI ch2), .ref ds2, .int (nI dh2), .ref pz2, .ref pq2, .int (nI ph2)]) := by rw [eh10]; exact z_so (z_so h9_b2 (z_ne h9_b2 hcs9 rfl)) (z_ne h9_b2 hcs9 rfl)
      have h10_cs : h10.1 cs = some (aQ 4 20 (va_up (mx C2 C i) i (C2 i))) := by rw [eh10]; exact z_s_self _ _ _
      have h10_cs2 : h10.1 cs2 = some (aQ 4 20 C2) := by rw [eh10]; exact z_so (z_so hcs29 ncs) ncs
      refine v_blk g [.iinc 2 1] (pc' := 116) (lv' := [(2, .int ((nI i) + (1 : Int32))), (0, .ref b), (1, .ref b2)]) (st' := []) (by decide +kernel) rfl rfl ?_
      refine v_goto g (off := -21) (tgt := 95) (by decide +kernel) (by decide) ?_
      refine v_lv [0, 1, 2] (lv' := [(2, .int ((nI i) + (1 : Int32))), (0, .ref b), (1, .ref b2)]) rfl ?_
      refine v_eqh (h' := z_s h9 cs (aQ 4 20 (mx C2 C (i + 1)))) (by rw [eh10, z_ss, mx_Q]) ?_
      exact v_eq (by rw [nI_1]) rfl ih
  exact v_eqh (by rw [mx_0, z_sid hcs9]) (key 0 (by omega))
