set_option maxRecDepth 100000 in
set_option maxHeartbeats 4000000 in
/-- LineSet() -/
theorem c_LS_init {F : zF} {h : zH} {a : Nat} (ha : h.1 a = some (oB 3 [.null])) : zMet F yX3_init cX3_init 1 none { frames := 1, cells := 1, slots := 256, locals := 30 } [.ref a] h (fun v h2 => v = none ∧ ∃ q, h.1 q = none ∧ h2 = z_s (z_n h q (aJ 256 (fun _ => 0)) 256) a (oB 3 [.ref q])) := by
  refine zMet_of (lv := [(0, .ref a)]) (by decide) (by simp [lg_sl, Value.category]) rfl ?_
  intro X g z
  refine v_blk g [.aload_n 0] (pc' := 1) (lv' := [(0, .ref a)]) (st' := [.ref a]) (by decide +kernel) rfl rfl ?_
  refine v_obj g ol_X3_3 (by decide +kernel) ⟨Nat.le_of_ble_eq_true rfl, Nat.le_of_ble_eq_true rfl⟩ (Nat.le_of_ble_eq_true rfl) ?_ ob_i ob_c
  refine v_blk g [.aload_n 0, .sipush 256] (pc' := 8) (lv' := [(0, .ref a)]) (st' := [.int (256 : Int32), .ref a]) (by decide +kernel) rfl rfl ?_
  refine v_newJ g 256 rfl (Nat.le_of_ble_eq_true rfl) ac_long (zcsk 0 0 1 256 rfl rfl (Nat.le_of_ble_eq_true rfl) (Nat.le_of_ble_eq_true rfl)) (by decide +kernel) (fun q hq => ?_)
  refine v_h (fun h1 eh1 => ?_)
  have h1_c : h1.2.1 = h.2.1 + 1 ∧ h1.2.2 = h.2.2 + 256 := zcn eh1 ⟨rfl, rfl⟩
  have h1_a : h1.1 a = some (oB 3 [.null]) := by rw [eh1]; exact z_no ha hq
  have h1_q : h1.1 q = some (aJ 256 (fun _ => 0)) := by rw [eh1]; exact z_n_self _ _ _ _
  refine v_putF g (fs' := [.ref q]) h1_a fl_X3_11 rfl rfl rfl rfl (Nat.le_of_ble_eq_true rfl) rfl (by decide +kernel) ?_
  refine v_h (fun h2 eh2 => ?_)
  have h2_c : h2.2.1 = h.2.1 + 1 ∧ h2.2.2 = h.2.2 + 256 := zcs eh2 h1_c
  have h2_a : h2.1 a = some (oB 3 [.ref q]) := by rw [eh2]; exact z_s_self _ _ _
  have h2_q : h2.1 q = some (aJ 256 (fun _ => 0)) := by rw [eh2]; exact z_so h1_q (z_ne h1_q h1_a rfl)
  exact v_vret g z rfl (by decide +kernel) ⟨rfl, q, hq, by rw [eh2, eh1]⟩ (zcrn 1 256 h2_c.1 h2_c.2 (Nat.le_of_ble_eq_true rfl) (Nat.le_of_ble_eq_true rfl))

set_option maxRecDepth 100000 in
set_option maxHeartbeats 4000000 in
/-- LineSet.copyFrom -/
theorem c_LS_copyFrom {F : zF} {h : zH} {a w b u : Nat} {f f2 : Nat → Int64} (ha : h.1 a = some (oB 3 [.ref w])) (hw : h.1 w = some (aJ 256 f)) (hb : h.1 b = some (oB 3 [.ref u])) (hu : h.1 u = some (aJ 256 f2)) (hne : u ≠ w) : zMet F yX3_copyFrom cX3_copyFrom 2 none { frames := 2, cells := 0, slots := 0, locals := 60 } [.ref a, .ref b] h (zP (z_s h w (aJ 256 (va_cpy f2 f 0 0 256))) none) := by
  refine zMet_of (lv := [(0, .ref a), (1, .ref b)]) (by decide) (by simp [lg_sl, Value.category]) rfl ?_
  intro X g z
  refine v_blk g [.aload_n 1] (pc' := 1) (lv' := [(0, .ref a), (1, .ref b)]) (st' := [.ref b]) (by decide +kernel) rfl rfl ?_
  refine v_get g hb fl_X3_11 rfl (by decide +kernel) ?_
  refine v_blk g [.iconst 0, .aload_n 0] (pc' := 6) (lv' := [(0, .ref a), (1, .ref b)]) (st' := [.ref a, .int (0 : Int32), .ref u]) (by decide +kernel) rfl rfl ?_
  refine v_get g ha fl_X3_11 rfl (by decide +kernel) ?_
  refine v_blk g [.iconst 0, .sipush 256] (pc' := 13) (lv' := [(0, .ref a), (1, .ref b)]) (st' := [.int (256 : Int32), .int (0 : Int32), .ref w, .int (0 : Int32), .ref u]) (by decide +kernel) rfl rfl ?_
  refine v_cpJ g hu hw 0 0 256 rfl rfl rfl (by decide) (by decide) (by decide) (by decide) al_X3_15 ⟨by decide, by decide⟩ (by decide) (by decide +kernel) ar_n ar_s ar_i ?_
  refine v_h (fun h1 eh1 => ?_)
  have h1_c : h1.2.1 = h.2.1 + 0 ∧ h1.2.2 = h.2.2 + 0 := zcs eh1 ⟨rfl, rfl⟩
  have h1_a : h1.1 a = some (oB 3 [.ref w]) := by rw [eh1]; exact z_so ha (z_ne ha hw rfl)
  have h1_b : h1.1 b = some (oB 3 [.ref u]) := by rw [eh1]; exact z_so hb (z_ne hb hw rfl)
  have h1_w : h1.1 w = some (aJ 256 (va_cpy f2 f 0 0 256)) := by rw [eh1]; exact z_s_self _ _ _
  have h1_u : h1.1 u = some (aJ 256 f2) := by rw [eh1]; exact z_so hu hne
  exact v_vret g z rfl (by decide +kernel) ⟨rfl, eh1⟩ (zcrn 0 0 h1_c.1 h1_c.2 (Nat.le_of_ble_eq_true rfl) (Nat.le_of_ble_eq_true rfl))

set_option maxRecDepth 100000 in
set_option maxHeartbeats 4000000 in
theorem c_LS_addAll {F : zF} {h : zH} {a w b u : Nat} {f f2 : Nat → Int64} (ha : h.1 a = some (oB 3 [.ref w])) (hw : h.1 w = some (aJ 256 f)) (hb : h.1 b = some (oB 3 [.ref u])) (hu : h.1 u = some (aJ 256 f2)) (hne : u ≠ w) : zMet F yX3_addAll cX3_addAll 3 none { frames := 1, cells := 0, slots := 0, locals := 30 } [.ref a, .ref b] h (zP (z_s h w (aJ 256 (mx (fun k => f k ||| f2 k) f 256))) none) := by
  refine zMet_of (lv := [(0, .ref a), (1, .ref b)]) (by decide) (by simp [lg_sl, Value.category]) rfl ?_
  intro X g z
  refine v_blk g [.iconst 0, .istore_n 2] (pc' := 2) (lv' := [(2, .int (0 : Int32)), (0, .ref a), (1, .ref b)]) (st' := []) (by decide +kernel) rfl rfl ?_
  have key : ∀ i, i ≤ 256 → zV F X (z_s h w (aJ 256 (mx (fun k => f k ||| f2 k) f i))) 2 [(2, .int (nI i)), (0, .ref a), (1, .ref b)] [] := by
    refine z_up (P := fun i => zV F X (z_s h w (aJ 256 (mx (fun k => f k ||| f2 k) f i))) 2 [(2, .int (nI i)), (0, .ref a), (1, .ref b)] []) 256 ?_ ?_
    · refine v_blk g [.iload_n 2, .sipush 256] (pc' := 6) (lv' := [(2, .int (nI 256)), (0, .ref a), (1, .ref b)]) (st' := [.int (256 : Int32), .int (nI 256)]) (by decide +kernel) rfl rfl ?_
      refine v_icmp_ge g (off := 24) (tgt := 30) (by decide +kernel) (by decide) (fun _ => ?_) (fun c => absurd c (fun q => q (by decide)))
      exact v_vret g z rfl (by decide +kernel) ⟨rfl, rfl⟩ (zcrn 0 0 rfl rfl (Nat.le_of_ble_eq_true rfl) (Nat.le_of_ble_eq_true rfl))
    · intro i hi ih
      refine v_blk g [.iload_n 2, .sipush 256] (pc' := 6) (lv' := [(2, .int (nI i)), (0, .ref a), (1, .ref b)]) (st' := [.int (256 : Int32), .int (nI i)]) (by decide +kernel) rfl rfl ?_
      refine v_icmp_ge g (off := 24) (tgt := 30) (by decide +kernel) (by decide) (fun c => absurd c (nI_ge (b := 256) hi (by decide))) (fun _ => ?_)
      refine v_blk g [.aload_n 0] (pc' := 10) (lv' := [(2, .int (nI i)), (0, .ref a), (1, .ref b)]) (st' := [.ref a]) (by decide +kernel) rfl rfl ?_
      refine v_get g (z_so ha (z_ne ha hw rfl)) fl_X3_11 rfl (by decide +kernel) ?_
      refine v_blk g [.iload_n 2, .dup2] (pc' := 15) (lv' := [(2, .int (nI i)), (0, .ref a), (1, .ref b)]) (st' := [.int (nI i), .ref w, .int (nI i), .ref w]) (by decide +kernel) rfl rfl ?_
      refine v_lald g (z_s_self _ _ _) i rfl hi (Nat.le_of_ble_eq_true rfl) (by decide +kernel) ?_
      refine v_blk g [.aload_n 1] (pc' := 17) (lv' := [(2, .int (nI i)), (0, .ref a), (1, .ref b)]) (st' := [.ref b, .long ((mx (fun k => f k ||| f2 k) f i) i), .int (nI i), .ref w]) (by decide +kernel) rfl rfl ?_
      refine v_get g (z_so hb (z_ne hb hw rfl)) fl_X3_11 rfl (by decide +kernel) ?_
      refine v_blk g [.iload_n 2] (pc' := 21) (lv' := [(2, .int (nI i)), (0, .ref a), (1, .ref b)]) (st' := [.int (nI i), .ref u, .long ((mx (fun k => f k ||| f2 k) f i) i), .int (nI i), .ref w]) (by decide +kernel) rfl rfl ?_
      refine v_lald g (z_so hu hne) i rfl hi (Nat.le_of_ble_eq_true rfl) (by decide +kernel) ?_
      refine v_blk g [.lor] (pc' := 23) (lv' := [(2, .int (nI i)), (0, .ref a), (1, .ref b)]) (st' := [.long (((mx (fun k => f k ||| f2 k) f i) i) ||| (f2 i)), .int (nI i), .ref w]) (by decide +kernel) rfl rfl ?_
      refine v_last g (z_s_self _ _ _) i rfl hi (Nat.le_of_ble_eq_true rfl) (by decide +kernel) ?_
      refine v_h (fun h1 eh1 => ?_)
      have h1_c : h1.2.1 = h.2.1 + 0 ∧ h1.2.2 = h.2.2 + 0 := zcs eh1 ⟨rfl, rfl⟩
      have h1_a : h1.1 a = some (oB 3 [.ref w]) := by rw [eh1]; exact z_so (z_so ha (z_ne ha hw rfl)) (z_ne ha hw rfl)
      have h1_b : h1.1 b = some (oB 3 [.ref u]) := by rw [eh1]; exact z_so (z_so hb (z_ne hb hw rfl)) (z_ne hb hw rfl)
      have h1_w : h1.1 w = some (aJ 256 (vp_updL (mx (fun k => f k ||| f2 k) f i) i (((mx (fun k => f k ||| f2 k) f i) i) ||| (f2 i)))) := by rw [eh1]; exact z_s_self _ _ _
      have h1_u : h1.1 u = some (aJ 256 f2) := by rw [eh1]; exact z_so (z_so hu hne) hne
      refine v_blk g [.iinc 2 1] (pc' := 27) (lv' := [(2, .int ((nI i) + (1 : Int32))), (0, .ref a), (1, .ref b)]) (st' := []) (by decide +kernel) rfl rfl ?_
      refine v_goto g (off := -25) (tgt := 2) (by decide +kernel) (by decide) ?_
      refine v_eqh (h' := z_s h w (aJ 256 (mx (fun k => f k ||| f2 k) f (i + 1)))) (by rw [eh1, z_ss, mx_at]; exact congrArg (fun q => z_s h w (aJ 256 q)) (mx_J (fun k => f k ||| f2 k) f i)) ?_
      refine v_lv [0, 1, 2] (lv' := [(2, .int ((nI i) + (1 : Int32))), (0, .ref a), (1, .ref b)]) rfl ?_
      exact v_eq (by rw [nI_1]) rfl ih
  exact v_eqh (by rw [mx_0, z_sid hw]) (key 0 (by omega))

set_option maxRecDepth 100000 in
set_option maxHeartbeats 4000000 in
theorem c_LS_keepCommon {F : zF} {h : zH} {a w b u : Nat} {f f2 : Nat → Int64} (ha : h.1 a = some (oB 3 [.ref w])) (hw : h.1 w = some (aJ 256 f)) (hb : h.1 b = some (oB 3 [.ref u])) (hu : h.1 u = some (aJ 256 f2)) (hne : u ≠ w) : zMet F yX3_keepCommon cX3_keepCommon 3 none { frames := 1, cells := 0, slots := 0, locals := 30 } [.ref a, .ref b] h (zP (z_s h w (aJ 256 (mx (fun k => f k &&& f2 k) f 256))) none) := by
  refine zMet_of (lv := [(0, .ref a), (1, .ref b)]) (by decide) (by simp [lg_sl, Value.category]) rfl ?_
  intro X g z
  refine v_blk g [.iconst 0, .istore_n 2] (pc' := 2) (lv' := [(2, .int (0 : Int32)), (0, .ref a), (1, .ref b)]) (st' := []) (by decide +kernel) rfl rfl ?_
  have key : ∀ i, i ≤ 256 → zV F X (z_s h w (aJ 256 (mx (fun k => f k &&& f2 k) f i))) 2 [(2, .int (nI i)), (0, .ref a), (1, .ref b)] [] := by
    refine z_up (P := fun i => zV F X (z_s h w (aJ 256 (mx (fun k => f k &&& f2 k) f i))) 2 [(2, .int (nI i)), (0, .ref a), (1, .ref b)] []) 256 ?_ ?_
    · refine v_blk g [.iload_n 2, .sipush 256] (pc' := 6) (lv' := [(2, .int (nI 256)), (0, .ref a), (1, .ref b)]) (st' := [.int (256 : Int32), .int (nI 256)]) (by decide +kernel) rfl rfl ?_
      refine v_icmp_ge g (off := 24) (tgt := 30) (by decide +kernel) (by decide) (fun _ => ?_) (fun c => absurd c (fun q => q (by decide)))
      exact v_vret g z rfl (by decide +kernel) ⟨rfl, rfl⟩ (zcrn 0 0 rfl rfl (Nat.le_of_ble_eq_true rfl) (Nat.le_of_ble_eq_true rfl))
    · intro i hi ih
      refine v_blk g [.iload_n 2, .sipush 256] (pc' := 6) (lv' := [(2, .int (nI i)), (0, .ref a), (1, .ref b)]) (st' := [.int (256 : Int32), .int (nI i)]) (by decide +kernel) rfl rfl ?_
      refine v_icmp_ge g (off := 24) (tgt := 30) (by decide +kernel) (by decide) (fun c => absurd c (nI_ge (b := 256) hi (by decide))) (fun _ => ?_)
      refine v_blk g [.aload_n 0] (pc' := 10) (lv' := [(2, .int (nI i)), (0, .ref a), (1, .ref b)]) (st' := [.ref a]) (by decide +kernel) rfl rfl ?_
      refine v_get g (z_so ha (z_ne ha hw rfl)) fl_X3_11 rfl (by decide +kernel) ?_
      refine v_blk g [.iload_n 2, .dup2] (pc' := 15) (lv' := [(2, .int (nI i)), (0, .ref a), (1, .ref b)]) (st' := [.int (nI i), .ref w, .int (nI i), .ref w]) (by decide +kernel) rfl rfl ?_
      refine v_lald g (z_s_self _ _ _) i rfl hi (Nat.le_of_ble_eq_true rfl) (by decide +kernel) ?_
      refine v_blk g [.aload_n 1] (pc' := 17) (lv' := [(2, .int (nI i)), (0, .ref a), (1, .ref b)]) (st' := [.ref b, .long ((mx (fun k => f k &&& f2 k) f i) i), .int (nI i), .ref w]) (by decide +kernel) rfl rfl ?_
      refine v_get g (z_so hb (z_ne hb hw rfl)) fl_X3_11 rfl (by decide +kernel) ?_
      refine v_blk g [.iload_n 2] (pc' := 21) (lv' := [(2, .int (nI i)), (0, .ref a), (1, .ref b)]) (st' := [.int (nI i), .ref u, .long ((mx (fun k => f k &&& f2 k) f i) i), .int (nI i), .ref w]) (by decide +kernel) rfl rfl ?_
      refine v_lald g (z_so hu hne) i rfl hi (Nat.le_of_ble_eq_true rfl) (by decide +kernel) ?_
      refine v_blk g [.land] (pc' := 23) (lv' := [(2, .int (nI i)), (0, .ref a), (1, .ref b)]) (st' := [.long (((mx (fun k => f k &&& f2 k) f i) i) &&& (f2 i)), .int (nI i), .ref w]) (by decide +kernel) rfl rfl ?_
      refine v_last g (z_s_self _ _ _) i rfl hi (Nat.le_of_ble_eq_true rfl) (by decide +kernel) ?_
      refine v_h (fun h1 eh1 => ?_)
      have h1_c : h1.2.1 = h.2.1 + 0 ∧ h1.2.2 = h.2.2 + 0 := zcs eh1 ⟨rfl, rfl⟩
      have h1_a : h1.1 a = some (oB 3 [.ref w]) := by rw [eh1]; exact z_so (z_so ha (z_ne ha hw rfl)) (z_ne ha hw rfl)
      have h1_b : h1.1 b = some (oB 3 [.ref u]) := by rw [eh1]; exact z_so (z_so hb (z_ne hb hw rfl)) (z_ne hb hw rfl)
      have h1_w : h1.1 w = some (aJ 256 (vp_updL (mx (fun k => f k &&& f2 k) f i) i (((mx (fun k => f k &&& f2 k) f i) i) &&& (f2 i)))) := by rw [eh1]; exact z_s_self _ _ _
      have h1_u : h1.1 u = some (aJ 256 f2) := by rw [eh1]; exact z_so (z_so hu hne) hne
      refine v_blk g [.iinc 2 1] (pc' := 27) (lv' := [(2, .int ((nI i) + (1 : Int32))), (0, .ref a), (1, .ref b)]) (st' := []) (by decide +kernel) rfl rfl ?_
      refine v_goto g (off := -25) (tgt := 2) (by decide +kernel) (by decide) ?_
      refine v_eqh (h' := z_s h w (aJ 256 (mx (fun k => f k &&& f2 k) f (i + 1)))) (by rw [eh1, z_ss, mx_at]; exact congrArg (fun q => z_s h w (aJ 256 q)) (mx_J (fun k => f k &&& f2 k) f i)) ?_
      refine v_lv [0, 1, 2] (lv' := [(2, .int ((nI i) + (1 : Int32))), (0, .ref a), (1, .ref b)]) rfl ?_
      exact v_eq (by rw [nI_1]) rfl ih
  exact v_eqh (by rw [mx_0, z_sid hw]) (key 0 (by omega))

set_option maxRecDepth 100000 in
set_option maxHeartbeats 4000000 in
theorem c_LS_takeAway {F : zF} {h : zH} {a w b u : Nat} {f f2 : Nat → Int64} (ha : h.1 a = some (oB 3 [.ref w])) (hw : h.1 w = some (aJ 256 f)) (hb : h.1 b = some (oB 3 [.ref u])) (hu : h.1 u = some (aJ 256 f2)) (hne : u ≠ w) : zMet F yX3_takeAway cX3_takeAway 3 none { frames := 1, cells := 0, slots := 0, locals := 30 } [.ref a, .ref b] h (zP (z_s h w (aJ 256 (mx (fun k => f k &&& (f2 k ^^^ (-1 : Int64))) f 256))) none) := by
  refine zMet_of (lv := [(0, .ref a), (1, .ref b)]) (by decide) (by simp [lg_sl, Value.category]) rfl ?_
  intro X g z
  refine v_blk g [.iconst 0, .istore_n 2] (pc' := 2) (lv' := [(2, .int (0 : Int32)), (0, .ref a), (1, .ref b)]) (st' := []) (by decide +kernel) rfl rfl ?_
  have key : ∀ i, i ≤ 256 → zV F X (z_s h w (aJ 256 (mx (fun k => f k &&& (f2 k ^^^ (-1 : Int64))) f i))) 2 [(2, .int (nI i)), (0, .ref a), (1, .ref b)] [] := by
    refine z_up (P := fun i => zV F X (z_s h w (aJ 256 (mx (fun k => f k &&& (f2 k ^^^ (-1 : Int64))) f i))) 2 [(2, .int (nI i)), (0, .ref a), (1, .ref b)] []) 256 ?_ ?_
    · refine v_blk g [.iload_n 2, .sipush 256] (pc' := 6) (lv' := [(2, .int (nI 256)), (0, .ref a), (1, .ref b)]) (st' := [.int (256 : Int32), .int (nI 256)]) (by decide +kernel) rfl rfl ?_
      refine v_icmp_ge g (off := 28) (tgt := 34) (by decide +kernel) (by decide) (fun _ => ?_) (fun c => absurd c (fun q => q (by decide)))
      exact v_vret g z rfl (by decide +kernel) ⟨rfl, rfl⟩ (zcrn 0 0 rfl rfl (Nat.le_of_ble_eq_true rfl) (Nat.le_of_ble_eq_true rfl))
    · intro i hi ih
      refine v_blk g [.iload_n 2, .sipush 256] (pc' := 6) (lv' := [(2, .int (nI i)), (0, .ref a), (1, .ref b)]) (st' := [.int (256 : Int32), .int (nI i)]) (by decide +kernel) rfl rfl ?_
      refine v_icmp_ge g (off := 28) (tgt := 34) (by decide +kernel) (by decide) (fun c => absurd c (nI_ge (b := 256) hi (by decide))) (fun _ => ?_)
      refine v_blk g [.aload_n 0] (pc' := 10) (lv' := [(2, .int (nI i)), (0, .ref a), (1, .ref b)]) (st' := [.ref a]) (by decide +kernel) rfl rfl ?_
      refine v_get g (z_so ha (z_ne ha hw rfl)) fl_X3_11 rfl (by decide +kernel) ?_
      refine v_blk g [.iload_n 2, .dup2] (pc' := 15) (lv' := [(2, .int (nI i)), (0, .ref a), (1, .ref b)]) (st' := [.int (nI i), .ref w, .int (nI i), .ref w]) (by decide +kernel) rfl rfl ?_
      refine v_lald g (z_s_self _ _ _) i rfl hi (Nat.le_of_ble_eq_true rfl) (by decide +kernel) ?_
      refine v_blk g [.aload_n 1] (pc' := 17) (lv' := [(2, .int (nI i)), (0, .ref a), (1, .ref b)]) (st' := [.ref b, .long ((mx (fun k => f k &&& (f2 k ^^^ (-1 : Int64))) f i) i), .int (nI i), .ref w]) (by decide +kernel) rfl rfl ?_
      refine v_get g (z_so hb (z_ne hb hw rfl)) fl_X3_11 rfl (by decide +kernel) ?_
      refine v_blk g [.iload_n 2] (pc' := 21) (lv' := [(2, .int (nI i)), (0, .ref a), (1, .ref b)]) (st' := [.int (nI i), .ref u, .long ((mx (fun k => f k &&& (f2 k ^^^ (-1 : Int64))) f i) i), .int (nI i), .ref w]) (by decide +kernel) rfl rfl ?_
      refine v_lald g (z_so hu hne) i rfl hi (Nat.le_of_ble_eq_true rfl) (by decide +kernel) ?_
      refine v_ldc2 g kc_X3_33 (by decide +kernel) ?_
      refine v_blk g [.lxor, .land] (pc' := 27) (lv' := [(2, .int (nI i)), (0, .ref a), (1, .ref b)]) (st' := [.long (((mx (fun k => f k &&& (f2 k ^^^ (-1 : Int64))) f i) i) &&& ((f2 i) ^^^ (-1 : Int64))), .int (nI i), .ref w]) (by decide +kernel) rfl rfl ?_
      refine v_last g (z_s_self _ _ _) i rfl hi (Nat.le_of_ble_eq_true rfl) (by decide +kernel) ?_
      refine v_h (fun h1 eh1 => ?_)
      have h1_c : h1.2.1 = h.2.1 + 0 ∧ h1.2.2 = h.2.2 + 0 := zcs eh1 ⟨rfl, rfl⟩
      have h1_a : h1.1 a = some (oB 3 [.ref w]) := by rw [eh1]; exact z_so (z_so ha (z_ne ha hw rfl)) (z_ne ha hw rfl)
      have h1_b : h1.1 b = some (oB 3 [.ref u]) := by rw [eh1]; exact z_so (z_so hb (z_ne hb hw rfl)) (z_ne hb hw rfl)
      have h1_w : h1.1 w = some (aJ 256 (vp_updL (mx (fun k => f k &&& (f2 k ^^^ (-1 : Int64))) f i) i (((mx (fun k => f k &&& (f2 k ^^^ (-1 : Int64))) f i) i) &&& ((f2 i) ^^^ (-1 : Int64))))) := by rw [eh1]; exact z_s_self _ _ _
      have h1_u : h1.1 u = some (aJ 256 f2) := by rw [eh1]; exact z_so (z_so hu hne) hne
      refine v_blk g [.iinc 2 1] (pc' := 31) (lv' := [(2, .int ((nI i) + (1 : Int32))), (0, .ref a), (1, .ref b)]) (st' := []) (by decide +kernel) rfl rfl ?_
      refine v_goto g (off := -29) (tgt := 2) (by decide +kernel) (by decide) ?_
      refine v_eqh (h' := z_s h w (aJ 256 (mx (fun k => f k &&& (f2 k ^^^ (-1 : Int64))) f (i + 1)))) (by rw [eh1, z_ss, mx_at]; exact congrArg (fun q => z_s h w (aJ 256 q)) (mx_J (fun k => f k &&& (f2 k ^^^ (-1 : Int64))) f i)) ?_
      refine v_lv [0, 1, 2] (lv' := [(2, .int ((nI i) + (1 : Int32))), (0, .ref a), (1, .ref b)]) rfl ?_
      exact v_eq (by rw [nI_1]) rfl ih
  exact v_eqh (by rw [mx_0, z_sid hw]) (key 0 (by omega))
