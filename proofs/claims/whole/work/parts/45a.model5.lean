/-! the reference: money -/
def sumF (a : Int64) (k : Nat → Int64) : Nat → Int64
  | 0 => a
  | n + 1 => sumF a k n + k n
def dv6 (DV : Nat → Int64) (d : Nat) (l s c : Int32) : Nat → Int64 := vp_updL (vp_updL (vp_updL (vp_updL (vp_updL (vp_updL DV (6 * d) l.toInt64) (6 * d + 1) s.toInt64) (6 * d + 2) c.toInt64) (6 * d + 3) 0) (6 * d + 4) 0) (6 * d + 5) 0
def okDm (DV : Nat → Int64) (d : Nat) (l s c : Int32) : Prop := d < 4 ∧ ¬ x_isIn l 0 90 = 0 ∧ ¬ x_isIn s 0 100 = 0 ∧ sumF s.toInt64 (fun e => DV (6 * e + 1)) d ≤ 100 ∧ ¬ x_isIn c 1 1000000 = 0 ∧ (d = 0 ∨ l.toInt64 < DV (6 * d - 6))

set_option maxRecDepth 100000 in
set_option maxHeartbeats 4000000 in
theorem m_dividend {F : zF} {h : zH} {m : Nat} {R : Nat → Nat} {tp fk fp cn ha un wk pm cu ct dt pt hg th at9 sz : Int32} {hl pd hlt pdt : Int64} {d : Nat} (hm : h.1 m = some (oM R tp fk fp cn ha un (nI d) wk hl pd pm cu ct dt hlt pdt pt hg th at9 sz)) {DV : Nat → Int64} (k8 : h.1 (R 8) = some (aJ 24 DV)) (hd4 : d ≤ 4) (l s c : Int32) : zMet F yX8_dividend cX8_dividend 7 (some .int) { frames := 2, cells := 0, slots := 0, locals := 60 } [.ref m, .int l, .int s, .int c] h (fun v h2 => (okDm DV d l s c ∧ v = some (.int (nI d)) ∧ h2 = z_s (z_s (z_s h m (oM R tp fk fp cn ha un (nI d) wk hl pd pm cu ct dt hlt pdt pt hg 0 at9 sz)) (R 8) (aJ 24 (dv6 DV d l s c))) m (oM R tp fk fp cn ha un (nI (d + 1)) wk hl pd pm cu ct dt hlt pdt pt hg 0 at9 sz)) ∨ (¬ okDm DV d l s c ∧ v = some (.int (-1)) ∧ h2 = z_s h m (oM R tp fk fp cn ha un (nI d) wk hl pd pm cu ct dt hlt pdt pt hg 0 at9 sz))) := by
  refine zMet_of (lv := [(0, .ref m), (1, .int l), (2, .int s), (3, .int c)]) (by decide) (by simp [lg_sl, Value.category]) rfl ?_
  intro X g z
  refine v_blk g [.aload_n 0, .iconst 0] (pc' := 2) (lv' := [(0, .ref m), (1, .int l), (2, .int s), (3, .int c)]) (st' := [.int (0 : Int32), .ref m]) (by decide +kernel) rfl rfl ?_
  refine v_put g (fs' := oMl R tp fk fp cn ha un (nI d) wk hl pd pm cu ct dt hlt pdt pt hg (0 : Int32) at9 sz) hm fl_X8_89 rfl rfl (Nat.le_of_ble_eq_true rfl) rfl (by decide +kernel) ?_
  refine v_h (fun h1 eh1 => ?_)
  have h1_c : h1.2.1 = h.2.1 + 0 ∧ h1.2.2 = h.2.2 + 0 := zcs eh1 ⟨rfl, rfl⟩
  have h1_m : h1.1 m = some (oM R tp fk fp cn ha un (nI d) wk hl pd pm cu ct dt hlt pdt pt hg (0 : Int32) at9 sz) := by rw [eh1]; exact z_s_self _ _ _
  have h1_R8 : h1.1 (R 8) = some (aJ 24 DV) := by rw [eh1]; exact z_so k8 (Ne.symm (z_ne hm k8 rfl))
  refine v_blk g [.iload_n 2, .i2l, .lstore 4, .iconst 0, .istore 6] (pc' := 12) (lv' := [(6, .int (0 : Int32)), (4, .long s.toInt64), (0, .ref m), (1, .int l), (2, .int s), (3, .int c)]) (st' := []) (by decide +kernel) rfl rfl ?_
  have key : ∀ i, i ≤ d → zV F X h1 12 [(6, .int (nI i)), (4, .long (sumF s.toInt64 (fun e => DV (6 * e + 1)) i)), (0, .ref m), (1, .int l), (2, .int s), (3, .int c)] [] := by
    refine z_up (P := fun i => zV F X h1 12 [(6, .int (nI i)), (4, .long (sumF s.toInt64 (fun e => DV (6 * e + 1)) i)), (0, .ref m), (1, .int l), (2, .int s), (3, .int c)] []) d ?_ ?_
    · refine v_blk g [.iload 6, .aload_n 0] (pc' := 15) (lv' := [(6, .int (nI d)), (4, .long (sumF s.toInt64 (fun e => DV (6 * e + 1)) d)), (0, .ref m), (1, .int l), (2, .int s), (3, .int c)]) (st' := [.ref m, .int (nI d)]) (by decide +kernel) rfl rfl ?_
      refine v_get g h1_m fl_X8_212 rfl (by decide +kernel) ?_
      refine v_icmp_ge g (off := 26) (tgt := 44) (by decide +kernel) (by decide) (fun _ => ?_) (fun c => absurd c (fun q => q (nI_le (Nat.le_refl _) (by omega))))
      refine v_blk g [.aload_n 0] (pc' := 45) (lv' := [(6, .int (nI d)), (4, .long (sumF s.toInt64 (fun e => DV (6 * e + 1)) d)), (0, .ref m), (1, .int l), (2, .int s), (3, .int c)]) (st' := [.ref m]) (by decide +kernel) rfl rfl ?_
      refine v_get g h1_m fl_X8_212 rfl (by decide +kernel) ?_
      refine v_blk g [.iconst 4] (pc' := 49) (lv' := [(6, .int (nI d)), (4, .long (sumF s.toInt64 (fun e => DV (6 * e + 1)) d)), (0, .ref m), (1, .int l), (2, .int s), (3, .int c)]) (st' := [.int (4 : Int32), .int (nI d)]) (by decide +kernel) rfl rfl ?_
      refine v_icmp_eq g (off := 48) (tgt := 97) (by decide +kernel) (by decide) (fun c0 => ?_) (fun c0 => ?_)
      · refine v_blk g [.iconst (-1)] (pc' := 98) (lv' := [(6, .int (nI d)), (4, .long (sumF s.toInt64 (fun e => DV (6 * e + 1)) d)), (0, .ref m), (1, .int l), (2, .int s), (3, .int c)]) (st' := [.int (-1 : Int32)]) (by decide +kernel) rfl rfl ?_
        exact v_iret g z rfl (by decide +kernel) (Or.inr ⟨(fun q => by have := (nI_eq (a := d) (b := 4) (by omega) (by decide)).mp c0; have := q.1; omega), rfl, by rw [eh1]⟩) (zcrn 0 0 h1_c.1 h1_c.2 (Nat.le_of_ble_eq_true rfl) (Nat.le_of_ble_eq_true rfl))
      · have d4 : d < 4 := by rcases Nat.lt_or_ge d 4 with q | q; exact q; exact absurd (by rw [show d = 4 by omega]; rfl) c0
        refine v_blk g [.iload_n 1, .i2l, .lconst 0] (pc' := 55) (lv' := [(6, .int (nI d)), (4, .long (sumF s.toInt64 (fun e => DV (6 * e + 1)) d)), (0, .ref m), (1, .int l), (2, .int s), (3, .int c)]) (st' := [.long (0 : Int64), .long l.toInt64]) (by decide +kernel) rfl rfl ?_
        refine v_ldc2 g kc_X8_215 (by decide +kernel) ?_
        refine v_callSp g (rest := []) (m_in _ _ _) cl_X8_94 rfl (Nat.le_of_ble_eq_true rfl) (by decide +kernel) ⟨Nat.le_of_ble_eq_true rfl, Nat.le_of_ble_eq_true rfl⟩ (zcsn 0 0 h1_c.1 h1_c.2 (Nat.le_of_ble_eq_true rfl) (Nat.le_of_ble_eq_true rfl)) ?_
        show zV F X h1 61 [(6, .int (nI d)), (4, .long (sumF s.toInt64 (fun e => DV (6 * e + 1)) d)), (0, .ref m), (1, .int l), (2, .int s), (3, .int c)] [.int (x_in l.toInt64 (0 : Int64) (90 : Int64))]
        refine v_ti (z := x_isIn l (0) (90)) (in_eq l (0) (90) rfl rfl) ?_
        refine v_if_eq g (off := 36) (tgt := 97) (by decide +kernel) (by decide) (fun c1 => ?_) (fun c1 => ?_)
        · refine v_blk g [.iconst (-1)] (pc' := 98) (lv' := [(6, .int (nI d)), (4, .long (sumF s.toInt64 (fun e => DV (6 * e + 1)) d)), (0, .ref m), (1, .int l), (2, .int s), (3, .int c)]) (st' := [.int (-1 : Int32)]) (by decide +kernel) rfl rfl ?_
          exact v_iret g z rfl (by decide +kernel) (Or.inr ⟨(fun q => q.2.1 c1), rfl, by rw [eh1]⟩) (zcrn 0 0 h1_c.1 h1_c.2 (Nat.le_of_ble_eq_true rfl) (Nat.le_of_ble_eq_true rfl))
        · refine v_blk g [.iload_n 2, .i2l, .lconst 0] (pc' := 67) (lv' := [(6, .int (nI d)), (4, .long (sumF s.toInt64 (fun e => DV (6 * e + 1)) d)), (0, .ref m), (1, .int l), (2, .int s), (3, .int c)]) (st' := [.long (0 : Int64), .long s.toInt64]) (by decide +kernel) rfl rfl ?_
          refine v_ldc2 g kc_X8_175 (by decide +kernel) ?_
          refine v_callSp g (rest := []) (m_in _ _ _) cl_X8_94 rfl (Nat.le_of_ble_eq_true rfl) (by decide +kernel) ⟨Nat.le_of_ble_eq_true rfl, Nat.le_of_ble_eq_true rfl⟩ (zcsn 0 0 h1_c.1 h1_c.2 (Nat.le_of_ble_eq_true rfl) (Nat.le_of_ble_eq_true rfl)) ?_
          show zV F X h1 73 [(6, .int (nI d)), (4, .long (sumF s.toInt64 (fun e => DV (6 * e + 1)) d)), (0, .ref m), (1, .int l), (2, .int s), (3, .int c)] [.int (x_in s.toInt64 (0 : Int64) (100 : Int64))]
          refine v_ti (z := x_isIn s (0) (100)) (in_eq s (0) (100) rfl rfl) ?_
          refine v_if_eq g (off := 24) (tgt := 97) (by decide +kernel) (by decide) (fun c2 => ?_) (fun c2 => ?_)
          · refine v_blk g [.iconst (-1)] (pc' := 98) (lv' := [(6, .int (nI d)), (4, .long (sumF s.toInt64 (fun e => DV (6 * e + 1)) d)), (0, .ref m), (1, .int l), (2, .int s), (3, .int c)]) (st' := [.int (-1 : Int32)]) (by decide +kernel) rfl rfl ?_
            exact v_iret g z rfl (by decide +kernel) (Or.inr ⟨(fun q => q.2.2.1 c2), rfl, by rw [eh1]⟩) (zcrn 0 0 h1_c.1 h1_c.2 (Nat.le_of_ble_eq_true rfl) (Nat.le_of_ble_eq_true rfl))
          · refine v_blk g [.lload 4] (pc' := 78) (lv' := [(6, .int (nI d)), (4, .long (sumF s.toInt64 (fun e => DV (6 * e + 1)) d)), (0, .ref m), (1, .int l), (2, .int s), (3, .int c)]) (st' := [.long (sumF s.toInt64 (fun e => DV (6 * e + 1)) d)]) (by decide +kernel) rfl rfl ?_
            refine v_ldc2 g kc_X8_175 (by decide +kernel) ?_
            refine v_blk g [.lcmp] (pc' := 82) (lv' := [(6, .int (nI d)), (4, .long (sumF s.toInt64 (fun e => DV (6 * e + 1)) d)), (0, .ref m), (1, .int l), (2, .int s), (3, .int c)]) (st' := [.int (lg_cmp (sumF s.toInt64 (fun e => DV (6 * e + 1)) d) (100 : Int64))]) (by decide +kernel) rfl rfl ?_
            refine v_if_gt g (off := 15) (tgt := 97) (by decide +kernel) (by decide) (fun c3 => ?_) (fun c3 => ?_)
            · refine v_blk g [.iconst (-1)] (pc' := 98) (lv' := [(6, .int (nI d)), (4, .long (sumF s.toInt64 (fun e => DV (6 * e + 1)) d)), (0, .ref m), (1, .int l), (2, .int s), (3, .int c)]) (st' := [.int (-1 : Int32)]) (by decide +kernel) rfl rfl ?_
              exact v_iret g z rfl (by decide +kernel) (Or.inr ⟨(fun q => by have e1 := (lg_cmp_gt _ _).mp c3; have e2 := q.2.2.2.1; rw [fa_lt64] at e1; rw [fa_le64] at e2; omega), rfl, by rw [eh1]⟩) (zcrn 0 0 h1_c.1 h1_c.2 (Nat.le_of_ble_eq_true rfl) (Nat.le_of_ble_eq_true rfl))
            · have c4 : sumF s.toInt64 (fun e => DV (6 * e + 1)) d ≤ 100 := Classical.byContradiction (fun q => c3 ((lg_cmp_gt _ _).mpr (by rw [fa_lt64]; rw [fa_le64] at q; omega)))
              refine v_blk g [.iload_n 3, .i2l, .lconst 1] (pc' := 88) (lv' := [(6, .int (nI d)), (4, .long (sumF s.toInt64 (fun e => DV (6 * e + 1)) d)), (0, .ref m), (1, .int l), (2, .int s), (3, .int c)]) (st' := [.long (1 : Int64), .long c.toInt64]) (by decide +kernel) rfl rfl ?_
              refine v_ldc2 g kc_X8_217 (by decide +kernel) ?_
              refine v_callSp g (rest := []) (m_in _ _ _) cl_X8_94 rfl (Nat.le_of_ble_eq_true rfl) (by decide +kernel) ⟨Nat.le_of_ble_eq_true rfl, Nat.le_of_ble_eq_true rfl⟩ (zcsn 0 0 h1_c.1 h1_c.2 (Nat.le_of_ble_eq_true rfl) (Nat.le_of_ble_eq_true rfl)) ?_
              show zV F X h1 94 [(6, .int (nI d)), (4, .long (sumF s.toInt64 (fun e => DV (6 * e + 1)) d)), (0, .ref m), (1, .int l), (2, .int s), (3, .int c)] [.int (x_in c.toInt64 (1 : Int64) (1000000 : Int64))]
              refine v_ti (z := x_isIn c (1) (1000000)) (in_eq c (1) (1000000) rfl rfl) ?_
              refine v_if_ne g (off := 5) (tgt := 99) (by decide +kernel) (by decide) (fun c5 => ?_) (fun c5 => ?_)
              · refine v_blk g [.aload_n 0] (pc' := 100) (lv' := [(6, .int (nI d)), (4, .long (sumF s.toInt64 (fun e => DV (6 * e + 1)) d)), (0, .ref m), (1, .int l), (2, .int s), (3, .int c)]) (st' := [.ref m]) (by decide +kernel) rfl rfl ?_
                refine v_get g h1_m fl_X8_212 rfl (by decide +kernel) ?_
                refine v_if_le g (off := 26) (tgt := 129) (by decide +kernel) (by decide) (fun c6 => ?_) (fun c6 => ?_)
                · have d0 : d = 0 := by rcases Nat.eq_zero_or_pos d with q | q; exact q; exact absurd c6 (nI_nle q (by omega))
                  refine v_blk g [.bipush 6, .aload_n 0] (pc' := 132) (lv' := [(6, .int (nI d)), (4, .long (sumF s.toInt64 (fun e => DV (6 * e + 1)) d)), (0, .ref m), (1, .int l), (2, .int s), (3, .int c)]) (st' := [.ref m, .int (6 : Int32)]) (by decide +kernel) rfl rfl ?_
                  refine v_get g h1_m fl_X8_212 rfl (by decide +kernel) ?_
                  refine v_blk g [.imul] (pc' := 136) (lv' := [(6, .int (nI d)), (4, .long (sumF s.toInt64 (fun e => DV (6 * e + 1)) d)), (0, .ref m), (1, .int l), (2, .int s), (3, .int c)]) (st' := [.int ((6 : Int32) * (nI d))]) (by decide +kernel) rfl rfl ?_
                  refine v_ti (z := nI (6 * d)) (by rw [show (6 : Int32) = nI 6 from rfl, pk_mul]) ?_
                  refine v_blk g [.istore 6, .aload_n 0] (pc' := 139) (lv' := [(6, .int (nI (6 * d))), (4, .long (sumF s.toInt64 (fun e => DV (6 * e + 1)) d)), (0, .ref m), (1, .int l), (2, .int s), (3, .int c)]) (st' := [.ref m]) (by decide +kernel) rfl rfl ?_
                  refine v_get g h1_m fl_X8_42 rfl (by decide +kernel) ?_
                  refine v_blk g [.iload 6, .iload_n 1, .i2l] (pc' := 146) (lv' := [(6, .int (nI (6 * d))), (4, .long (sumF s.toInt64 (fun e => DV (6 * e + 1)) d)), (0, .ref m), (1, .int l), (2, .int s), (3, .int c)]) (st' := [.long l.toInt64, .int (nI (6 * d)), .ref (R 8)]) (by decide +kernel) rfl rfl ?_
                  refine v_last g h1_R8 (6 * d) rfl (by omega) (Nat.le_of_ble_eq_true rfl) (by decide +kernel) ?_
                  refine v_h (fun h2 eh2 => ?_)
                  have h2_c : h2.2.1 = h.2.1 + 0 ∧ h2.2.2 = h.2.2 + 0 := zcs eh2 h1_c
                  have h2_m : h2.1 m = some (oM R tp fk fp cn ha un (nI d) wk hl pd pm cu ct dt hlt pdt pt hg (0 : Int32) at9 sz) := by rw [eh2]; exact z_so h1_m (z_ne hm k8 rfl)
                  have h2_R8 : h2.1 (R 8) = some (aJ 24 (vp_updL DV (6 * d) l.toInt64)) := by rw [eh2]; exact z_s_self _ _ _
                  refine v_blk g [.aload_n 0] (pc' := 148) (lv' := [(6, .int (nI (6 * d))), (4, .long (sumF s.toInt64 (fun e => DV (6 * e + 1)) d)), (0, .ref m), (1, .int l), (2, .int s), (3, .int c)]) (st' := [.ref m]) (by decide +kernel) rfl rfl ?_
                  refine v_get g h2_m fl_X8_42 rfl (by decide +kernel) ?_
                  refine v_blk g [.iload 6, .iconst 1, .iadd, .iload_n 2, .i2l] (pc' := 157) (lv' := [(6, .int (nI (6 * d))), (4, .long (sumF s.toInt64 (fun e => DV (6 * e + 1)) d)), (0, .ref m), (1, .int l), (2, .int s), (3, .int c)]) (st' := [.long s.toInt64, .int ((nI (6 * d)) + (1 : Int32)), .ref (R 8)]) (by decide +kernel) rfl rfl ?_
                  refine v_last g h2_R8 (6 * d + 1) (nI_add (6 * d) 1) (by omega) (Nat.le_of_ble_eq_true rfl) (by decide +kernel) ?_
                  refine v_h (fun h3 eh3 => ?_)
                  have h3_c : h3.2.1 = h.2.1 + 0 ∧ h3.2.2 = h.2.2 + 0 := zcs eh3 h2_c
                  have h3_m : h3.1 m = some (oM R tp fk fp cn ha un (nI d) wk hl pd pm cu ct dt hlt pdt pt hg (0 : Int32) at9 sz) := by rw [eh3]; exact z_so h2_m (z_ne hm k8 rfl)
                  have h3_R8 : h3.1 (R 8) = some (aJ 24 (vp_updL (vp_updL DV (6 * d) l.toInt64) (6 * d + 1) s.toInt64)) := by rw [eh3]; exact z_s_self _ _ _
                  refine v_blk g [.aload_n 0] (pc' := 159) (lv' := [(6, .int (nI (6 * d))), (4, .long (sumF s.toInt64 (fun e => DV (6 * e + 1)) d)), (0, .ref m), (1, .int l), (2, .int s), (3, .int c)]) (st' := [.ref m]) (by decide +kernel) rfl rfl ?_
                  refine v_get g h3_m fl_X8_42 rfl (by decide +kernel) ?_
                  refine v_blk g [.iload 6, .iconst 2, .iadd, .iload_n 3, .i2l] (pc' := 168) (lv' := [(6, .int (nI (6 * d))), (4, .long (sumF s.toInt64 (fun e => DV (6 * e + 1)) d)), (0, .ref m), (1, .int l), (2, .int s), (3, .int c)]) (st' := [.long c.toInt64, .int ((nI (6 * d)) + (2 : Int32)), .ref (R 8)]) (by decide +kernel) rfl rfl ?_
                  refine v_last g h3_R8 (6 * d + 2) (nI_add (6 * d) 2) (by omega) (Nat.le_of_ble_eq_true rfl) (by decide +kernel) ?_
                  refine v_h (fun h4 eh4 => ?_)
                  have h4_c : h4.2.1 = h.2.1 + 0 ∧ h4.2.2 = h.2.2 + 0 := zcs eh4 h3_c
                  have h4_m : h4.1 m = some (oM R tp fk fp cn ha un (nI d) wk hl pd pm cu ct dt hlt pdt pt hg (0 : Int32) at9 sz) := by rw [eh4]; exact z_so h3_m (z_ne hm k8 rfl)
                  have h4_R8 : h4.1 (R 8) = some (aJ 24 (vp_updL (vp_updL (vp_updL DV (6 * d) l.toInt64) (6 * d + 1) s.toInt64) (6 * d + 2) c.toInt64)) := by rw [eh4]; exact z_s_self _ _ _
                  refine v_blk g [.aload_n 0] (pc' := 170) (lv' := [(6, .int (nI (6 * d))), (4, .long (sumF s.toInt64 (fun e => DV (6 * e + 1)) d)), (0, .ref m), (1, .int l), (2, .int s), (3, .int c)]) (st' := [.ref m]) (by decide +kernel) rfl rfl ?_
                  refine v_get g h4_m fl_X8_42 rfl (by decide +kernel) ?_
                  refine v_blk g [.iload 6, .iconst 3, .iadd, .lconst 0] (pc' := 178) (lv' := [(6, .int (nI (6 * d))), (4, .long (sumF s.toInt64 (fun e => DV (6 * e + 1)) d)), (0, .ref m), (1, .int l), (2, .int s), (3, .int c)]) (st' := [.long (0 : Int64), .int ((nI (6 * d)) + (3 : Int32)), .ref (R 8)]) (by decide +kernel) rfl rfl ?_
                  refine v_last g h4_R8 (6 * d + 3) (nI_add (6 * d) 3) (by omega) (Nat.le_of_ble_eq_true rfl) (by decide +kernel) ?_
                  refine v_h (fun h5 eh5 => ?_)
                  have h5_c : h5.2.1 = h.2.1 + 0 ∧ h5.2.2 = h.2.2 + 0 := zcs eh5 h4_c
                  have h5_m : h5.1 m = some (oM R tp fk fp cn ha un (nI d) wk hl pd pm cu ct dt hlt pdt pt hg (0 : Int32) at9 sz) := by rw [eh5]; exact z_so h4_m (z_ne hm k8 rfl)
                  have h5_R8 : h5.1 (R 8) = some (aJ 24 (vp_updL (vp_updL (vp_updL (vp_updL DV (6 * d) l.toInt64) (6 * d + 1) s.toInt64) (6 * d + 2) c.toInt64) (6 * d + 3) (0 : Int64))) := by rw [eh5]; exact z_s_self _ _ _
                  refine v_blk g [.aload_n 0] (pc' := 180) (lv' := [(6, .int (nI (6 * d))), (4, .long (sumF s.toInt64 (fun e => DV (6 * e + 1)) d)), (0, .ref m), (1, .int l), (2, .int s), (3, .int c)]) (st' := [.ref m]) (by decide +kernel) rfl rfl ?_
                  refine v_get g h5_m fl_X8_42 rfl (by decide +kernel) ?_
                  refine v_blk g [.iload 6, .iconst 4, .iadd, .lconst 0] (pc' := 188) (lv' := [(6, .int (nI (6 * d))), (4, .long (sumF s.toInt64 (fun e => DV (6 * e + 1)) d)), (0, .ref m), (1, .int l), (2, .int s), (3, .int c)]) (st' := [.long (0 : Int64), .int ((nI (6 * d)) + (4 : Int32)), .ref (R 8)]) (by decide +kernel) rfl rfl ?_
                  refine v_last g h5_R8 (6 * d + 4) (nI_add (6 * d) 4) (by omega) (Nat.le_of_ble_eq_true rfl) (by decide +kernel) ?_
                  refine v_h (fun h6 eh6 => ?_)
                  have h6_c : h6.2.1 = h.2.1 + 0 ∧ h6.2.2 = h.2.2 + 0 := zcs eh6 h5_c
                  have h6_m : h6.1 m = some (oM R tp fk fp cn ha un (nI d) wk hl pd pm cu ct dt hlt pdt pt hg (0 : Int32) at9 sz) := by rw [eh6]; exact z_so h5_m (z_ne hm k8 rfl)
                  have h6_R8 : h6.1 (R 8) = some (aJ 24 (vp_updL (vp_updL (vp_updL (vp_updL (vp_updL DV (6 * d) l.toInt64) (6 * d + 1) s.toInt64) (6 * d + 2) c.toInt64) (6 * d + 3) (0 : Int64)) (6 * d + 4) (0 : Int64))) := by rw [eh6]; exact z_s_self _ _ _
                  refine v_blk g [.aload_n 0] (pc' := 190) (lv' := [(6, .int (nI (6 * d))), (4, .long (sumF s.toInt64 (fun e => DV (6 * e + 1)) d)), (0, .ref m), (1, .int l), (2, .int s), (3, .int c)]) (st' := [.ref m]) (by decide +kernel) rfl rfl ?_
                  refine v_get g h6_m fl_X8_42 rfl (by decide +kernel) ?_
                  refine v_blk g [.iload 6, .iconst 5, .iadd, .lconst 0] (pc' := 198) (lv' := [(6, .int (nI (6 * d))), (4, .long (sumF s.toInt64 (fun e => DV (6 * e + 1)) d)), (0, .ref m), (1, .int l), (2, .int s), (3, .int c)]) (st' := [.long (0 : Int64), .int ((nI (6 * d)) + (5 : Int32)), .ref (R 8)]) (by decide +kernel) rfl rfl ?_
                  refine v_last g h6_R8 (6 * d + 5) (nI_add (6 * d) 5) (by omega) (Nat.le_of_ble_eq_true rfl) (by decide +kernel) ?_
                  refine v_h (fun h7 eh7 => ?_)
                  have h7_c : h7.2.1 = h.2.1 + 0 ∧ h7.2.2 = h.2.2 + 0 := zcs eh7 h6_c
                  have h7_m : h7.1 m = some (oM R tp fk fp cn ha un (nI d) wk hl pd pm cu ct dt hlt pdt pt hg (0 : Int32) at9 sz) := by rw [eh7]; exact z_so h6_m (z_ne hm k8 rfl)
                  have h7_R8 : h7.1 (R 8) = some (aJ 24 (vp_updL (vp_updL (vp_updL (vp_updL (vp_updL (vp_updL DV (6 * d) l.toInt64) (6 * d + 1) s.toInt64) (6 * d + 2) c.toInt64) (6 * d + 3) (0 : Int64)) (6 * d + 4) (0 : Int64)) (6 * d + 5) (0 : Int64))) := by rw [eh7]; exact z_s_self _ _ _
                  refine v_blk g [.aload_n 0, .dup] (pc' := 201) (lv' := [(6, .int (nI (6 * d))), (4, .long (sumF s.toInt64 (fun e => DV (6 * e + 1)) d)), (0, .ref m), (1, .int l), (2, .int s), (3, .int c)]) (st' := [.ref m, .ref m]) (by decide +kernel) rfl rfl ?_
                  refine v_get g h7_m fl_X8_212 rfl (by decide +kernel) ?_
                  refine v_blk g [.iconst 1, .iadd] (pc' := 206) (lv' := [(6, .int (nI (6 * d))), (4, .long (sumF s.toInt64 (fun e => DV (6 * e + 1)) d)), (0, .ref m), (1, .int l), (2, .int s), (3, .int c)]) (st' := [.int ((nI d) + (1 : Int32)), .ref m]) (by decide +kernel) rfl rfl ?_
                  refine v_ti (z := nI (d + 1)) (nI_1 d) ?_
                  refine v_put g (fs' := oMl R tp fk fp cn ha un (nI (d + 1)) wk hl pd pm cu ct dt hlt pdt pt hg (0 : Int32) at9 sz) h7_m fl_X8_212 rfl rfl (Nat.le_of_ble_eq_true rfl) rfl (by decide +kernel) ?_
                  refine v_h (fun h8 eh8 => ?_)
                  have h8_c : h8.2.1 = h.2.1 + 0 ∧ h8.2.2 = h.2.2 + 0 := zcs eh8 h7_c
                  have h8_m : h8.1 m = some (oM R tp fk fp cn ha un (nI (d + 1)) wk hl pd pm cu ct dt hlt pdt pt hg (0 : Int32) at9 sz) := by rw [eh8]; exact z_s_self _ _ _
                  have h8_R8 : h8.1 (R 8) = some (aJ 24 (vp_updL (vp_updL (vp_updL (vp_updL (vp_updL (vp_updL DV (6 * d) l.toInt64) (6 * d + 1) s.toInt64) (6 * d + 2) c.toInt64) (6 * d + 3) (0 : Int64)) (6 * d + 4) (0 : Int64)) (6 * d + 5) (0 : Int64))) := by rw [eh8]; exact z_so h7_R8 (Ne.symm (z_ne hm k8 rfl))
                  refine v_blk g [.aload_n 0] (pc' := 210) (lv' := [(6, .int (nI (6 * d))), (4, .long (sumF s.toInt64 (fun e => DV (6 * e + 1)) d)), (0, .ref m), (1, .int l), (2, .int s), (3, .int c)]) (st' := [.ref m]) (by decide +kernel) rfl rfl ?_
                  refine v_get g h8_m fl_X8_212 rfl (by decide +kernel) ?_
                  refine v_blk g [.iconst 1, .isub] (pc' := 215) (lv' := [(6, .int (nI (6 * d))), (4, .long (sumF s.toInt64 (fun e => DV (6 * e + 1)) d)), (0, .ref m), (1, .int l), (2, .int s), (3, .int c)]) (st' := [.int ((nI (d + 1)) - (1 : Int32))]) (by decide +kernel) rfl rfl ?_
                  refine v_ti (z := nI d) (nI_pred d) ?_
                  exact v_iret g z rfl (by decide +kernel) (Or.inl ⟨⟨d4, c1, c2, c4, c5, Or.inl d0⟩, rfl, by rw [eh8, eh7, eh6, eh5, eh4, eh3, eh2, eh1]; simp only [z_ss]; rfl⟩) (zcrn 0 0 h8_c.1 h8_c.2 (Nat.le_of_ble_eq_true rfl) (Nat.le_of_ble_eq_true rfl))
                · have d0 : 0 < d := by rcases Nat.eq_zero_or_pos d with q | q; exact absurd (by rw [q]; decide) c6; exact q
                  refine v_blk g [.iload_n 1, .i2l, .aload_n 0] (pc' := 109) (lv' := [(6, .int (nI d)), (4, .long (sumF s.toInt64 (fun e => DV (6 * e + 1)) d)), (0, .ref m), (1, .int l), (2, .int s), (3, .int c)]) (st' := [.ref m, .long l.toInt64]) (by decide +kernel) rfl rfl ?_
                  refine v_get g h1_m fl_X8_42 rfl (by decide +kernel) ?_
                  refine v_blk g [.bipush 6, .aload_n 0] (pc' := 115) (lv' := [(6, .int (nI d)), (4, .long (sumF s.toInt64 (fun e => DV (6 * e + 1)) d)), (0, .ref m), (1, .int l), (2, .int s), (3, .int c)]) (st' := [.ref m, .int (6 : Int32), .ref (R 8), .long l.toInt64]) (by decide +kernel) rfl rfl ?_
                  refine v_get g h1_m fl_X8_212 rfl (by decide +kernel) ?_
                  refine v_blk g [.imul, .bipush 6, .isub] (pc' := 122) (lv' := [(6, .int (nI d)), (4, .long (sumF s.toInt64 (fun e => DV (6 * e + 1)) d)), (0, .ref m), (1, .int l), (2, .int s), (3, .int c)]) (st' := [.int (((6 : Int32) * (nI d)) - (6 : Int32)), .ref (R 8), .long l.toInt64]) (by decide +kernel) rfl rfl ?_
                  refine v_ti (z := nI (6 * d - 6)) (by rw [show (6 : Int32) = nI 6 from rfl, pk_mul, pk_sub (by omega)]) ?_
                  refine v_lald g h1_R8 (6 * d - 6) rfl (by omega) (Nat.le_of_ble_eq_true rfl) (by decide +kernel) ?_
                  refine v_blk g [.lcmp] (pc' := 124) (lv' := [(6, .int (nI d)), (4, .long (sumF s.toInt64 (fun e => DV (6 * e + 1)) d)), (0, .ref m), (1, .int l), (2, .int s), (3, .int c)]) (st' := [.int (lg_cmp l.toInt64 (DV (6 * d - 6)))]) (by decide +kernel) rfl rfl ?_
                  refine v_if_lt g (off := 5) (tgt := 129) (by decide +kernel) (by decide) (fun c7 => ?_) (fun c7 => ?_)
                  · refine v_blk g [.bipush 6, .aload_n 0] (pc' := 132) (lv' := [(6, .int (nI d)), (4, .long (sumF s.toInt64 (fun e => DV (6 * e + 1)) d)), (0, .ref m), (1, .int l), (2, .int s), (3, .int c)]) (st' := [.ref m, .int (6 : Int32)]) (by decide +kernel) rfl rfl ?_
                    refine v_get g h1_m fl_X8_212 rfl (by decide +kernel) ?_
                    refine v_blk g [.imul] (pc' := 136) (lv' := [(6, .int (nI d)), (4, .long (sumF s.toInt64 (fun e => DV (6 * e + 1)) d)), (0, .ref m), (1, .int l), (2, .int s), (3, .int c)]) (st' := [.int ((6 : Int32) * (nI d))]) (by decide +kernel) rfl rfl ?_
                    refine v_ti (z := nI (6 * d)) (by rw [show (6 : Int32) = nI 6 from rfl, pk_mul]) ?_
                    refine v_blk g [.istore 6, .aload_n 0] (pc' := 139) (lv' := [(6, .int (nI (6 * d))), (4, .long (sumF s.toInt64 (fun e => DV (6 * e + 1)) d)), (0, .ref m), (1, .int l), (2, .int s), (3, .int c)]) (st' := [.ref m]) (by decide +kernel) rfl rfl ?_
                    refine v_get g h1_m fl_X8_42 rfl (by decide +kernel) ?_
                    refine v_blk g [.iload 6, .iload_n 1, .i2l] (pc' := 146) (lv' := [(6, .int (nI (6 * d))), (4, .long (sumF s.toInt64 (fun e => DV (6 * e + 1)) d)), (0, .ref m), (1, .int l), (2, .int s), (3, .int c)]) (st' := [.long l.toInt64, .int (nI (6 * d)), .ref (R 8)]) (by decide +kernel) rfl rfl ?_
                    refine v_last g h1_R8 (6 * d) rfl (by omega) (Nat.le_of_ble_eq_true rfl) (by decide +kernel) ?_
                    refine v_h (fun h2 eh2 => ?_)
                    have h2_c : h2.2.1 = h.2.1 + 0 ∧ h2.2.2 = h.2.2 + 0 := zcs eh2 h1_c
                    have h2_m : h2.1 m = some (oM R tp fk fp cn ha un (nI d) wk hl pd pm cu ct dt hlt pdt pt hg (0 : Int32) at9 sz) := by rw [eh2]; exact z_so h1_m (z_ne hm k8 rfl)
                    have h2_R8 : h2.1 (R 8) = some (aJ 24 (vp_updL DV (6 * d) l.toInt64)) := by rw [eh2]; exact z_s_self _ _ _
                    refine v_blk g [.aload_n 0] (pc' := 148) (lv' := [(6, .int (nI (6 * d))), (4, .long (sumF s.toInt64 (fun e => DV (6 * e + 1)) d)), (0, .ref m), (1, .int l), (2, .int s), (3, .int c)]) (st' := [.ref m]) (by decide +kernel) rfl rfl ?_
                    refine v_get g h2_m fl_X8_42 rfl (by decide +kernel) ?_
                    refine v_blk g [.iload 6, .iconst 1, .iadd, .iload_n 2, .i2l] (pc' := 157) (lv' := [(6, .int (nI (6 * d))), (4, .long (sumF s.toInt64 (fun e => DV (6 * e + 1)) d)), (0, .ref m), (1, .int l), (2, .int s), (3, .int c)]) (st' := [.long s.toInt64, .int ((nI (6 * d)) + (1 : Int32)), .ref (R 8)]) (by decide +kernel) rfl rfl ?_
                    refine v_last g h2_R8 (6 * d + 1) (nI_add (6 * d) 1) (by omega) (Nat.le_of_ble_eq_true rfl) (by decide +kernel) ?_
                    refine v_h (fun h3 eh3 => ?_)
                    have h3_c : h3.2.1 = h.2.1 + 0 ∧ h3.2.2 = h.2.2 + 0 := zcs eh3 h2_c
                    have h3_m : h3.1 m = some (oM R tp fk fp cn ha un (nI d) wk hl pd pm cu ct dt hlt pdt pt hg (0 : Int32) at9 sz) := by rw [eh3]; exact z_so h2_m (z_ne hm k8 rfl)
                    have h3_R8 : h3.1 (R 8) = some (aJ 24 (vp_updL (vp_updL DV (6 * d) l.toInt64) (6 * d + 1) s.toInt64)) := by rw [eh3]; exact z_s_self _ _ _
                    refine v_blk g [.aload_n 0] (pc' := 159) (lv' := [(6, .int (nI (6 * d))), (4, .long (sumF s.toInt64 (fun e => DV (6 * e + 1)) d)), (0, .ref m), (1, .int l), (2, .int s), (3, .int c)]) (st' := [.ref m]) (by decide +kernel) rfl rfl ?_
                    refine v_get g h3_m fl_X8_42 rfl (by decide +kernel) ?_
                    refine v_blk g [.iload 6, .iconst 2, .iadd, .iload_n 3, .i2l] (pc' := 168) (lv' := [(6, .int (nI (6 * d))), (4, .long (sumF s.toInt64 (fun e => DV (6 * e + 1)) d)), (0, .ref m), (1, .int l), (2, .int s), (3, .int c)]) (st' := [.long c.toInt64, .int ((nI (6 * d)) + (2 : Int32)), .ref (R 8)]) (by decide +kernel) rfl rfl ?_
                    refine v_last g h3_R8 (6 * d + 2) (nI_add (6 * d) 2) (by omega) (Nat.le_of_ble_eq_true rfl) (by decide +kernel) ?_
                    refine v_h (fun h4 eh4 => ?_)
                    have h4_c : h4.2.1 = h.2.1 + 0 ∧ h4.2.2 = h.2.2 + 0 := zcs eh4 h3_c
                    have h4_m : h4.1 m = some (oM R tp fk fp cn ha un (nI d) wk hl pd pm cu ct dt hlt pdt pt hg (0 : Int32) at9 sz) := by rw [eh4]; exact z_so h3_m (z_ne hm k8 rfl)
                    have h4_R8 : h4.1 (R 8) = some (aJ 24 (vp_updL (vp_updL (vp_updL DV (6 * d) l.toInt64) (6 * d + 1) s.toInt64) (6 * d + 2) c.toInt64)) := by rw [eh4]; exact z_s_self _ _ _
                    refine v_blk g [.aload_n 0] (pc' := 170) (lv' := [(6, .int (nI (6 * d))), (4, .long (sumF s.toInt64 (fun e => DV (6 * e + 1)) d)), (0, .ref m), (1, .int l), (2, .int s), (3, .int c)]) (st' := [.ref m]) (by decide +kernel) rfl rfl ?_
                    refine v_get g h4_m fl_X8_42 rfl (by decide +kernel) ?_
                    refine v_blk g [.iload 6, .iconst 3, .iadd, .lconst 0] (pc' := 178) (lv' := [(6, .int (nI (6 * d))), (4, .long (sumF s.toInt64 (fun e => DV (6 * e + 1)) d)), (0, .ref m), (1, .int l), (2, .int s), (3, .int c)]) (st' := [.long (0 : Int64), .int ((nI (6 * d)) + (3 : Int32)), .ref (R 8)]) (by decide +kernel) rfl rfl ?_
                    refine v_last g h4_R8 (6 * d + 3) (nI_add (6 * d) 3) (by omega) (Nat.le_of_ble_eq_true rfl) (by decide +kernel) ?_
                    refine v_h (fun h5 eh5 => ?_)
                    have h5_c : h5.2.1 = h.2.1 + 0 ∧ h5.2.2 = h.2.2 + 0 := zcs eh5 h4_c
                    have h5_m : h5.1 m = some (oM R tp fk fp cn ha un (nI d) wk hl pd pm cu ct dt hlt pdt pt hg (0 : Int32) at9 sz) := by rw [eh5]; exact z_so h4_m (z_ne hm k8 rfl)
                    have h5_R8 : h5.1 (R 8) = some (aJ 24 (vp_updL (vp_updL (vp_updL (vp_updL DV (6 * d) l.toInt64) (6 * d + 1) s.toInt64) (6 * d + 2) c.toInt64) (6 * d + 3) (0 : Int64))) := by rw [eh5]; exact z_s_self _ _ _
                    refine v_blk g [.aload_n 0] (pc' := 180) (lv' := [(6, .int (nI (6 * d))), (4, .long (sumF s.toInt64 (fun e => DV (6 * e + 1)) d)), (0, .ref m), (1, .int l), (2, .int s), (3, .int c)]) (st' := [.ref m]) (by decide +kernel) rfl rfl ?_
                    refine v_get g h5_m fl_X8_42 rfl (by decide +kernel) ?_
                    refine v_blk g [.iload 6, .iconst 4, .iadd, .lconst 0] (pc' := 188) (lv' := [(6, .int (nI (6 * d))), (4, .long (sumF s.toInt64 (fun e => DV (6 * e + 1)) d)), (0, .ref m), (1, .int l), (2, .int s), (3, .int c)]) (st' := [.long (0 : Int64), .int ((nI (6 * d)) + (4 : Int32)), .ref (R 8)]) (by decide +kernel) rfl rfl ?_
                    refine v_last g h5_R8 (6 * d + 4) (nI_add (6 * d) 4) (by omega) (Nat.le_of_ble_eq_true rfl) (by decide +kernel) ?_
                    refine v_h (fun h6 eh6 => ?_)
                    have h6_c : h6.2.1 = h.2.1 + 0 ∧ h6.2.2 = h.2.2 + 0 := zcs eh6 h5_c
                    have h6_m : h6.1 m = some (oM R tp fk fp cn ha un (nI d) wk hl pd pm cu ct dt hlt pdt pt hg (0 : Int32) at9 sz) := by rw [eh6]; exact z_so h5_m (z_ne hm k8 rfl)
                    have h6_R8 : h6.1 (R 8) = some (aJ 24 (vp_updL (vp_updL (vp_updL (vp_updL (vp_updL DV (6 * d) l.toInt64) (6 * d + 1) s.toInt64) (6 * d + 2) c.toInt64) (6 * d + 3) (0 : Int64)) (6 * d + 4) (0 : Int64))) := by rw [eh6]; exact z_s_self _ _ _
                    refine v_blk g [.aload_n 0] (pc' := 190) (lv' := [(6, .int (nI (6 * d))), (4, .long (sumF s.toInt64 (fun e => DV (6 * e + 1)) d)), (0, .ref m), (1, .int l), (2, .int s), (3, .int c)]) (st' := [.ref m]) (by decide +kernel) rfl rfl ?_
                    refine v_get g h6_m fl_X8_42 rfl (by decide +kernel) ?_
                    refine v_blk g [.iload 6, .iconst 5, .iadd, .lconst 0] (pc' := 198) (lv' := [(6, .int (nI (6 * d))), (4, .long (sumF s.toInt64 (fun e => DV (6 * e + 1)) d)), (0, .ref m), (1, .int l), (2, .int s), (3, .int c)]) (st' := [.long (0 : Int64), .int ((nI (6 * d)) + (5 : Int32)), .ref (R 8)]) (by decide +kernel) rfl rfl ?_
                    refine v_last g h6_R8 (6 * d + 5) (nI_add (6 * d) 5) (by omega) (Nat.le_of_ble_eq_true rfl) (by decide +kernel) ?_
                    refine v_h (fun h7 eh7 => ?_)
                    have h7_c : h7.2.1 = h.2.1 + 0 ∧ h7.2.2 = h.2.2 + 0 := zcs eh7 h6_c
                    have h7_m : h7.1 m = some (oM R tp fk fp cn ha un (nI d) wk hl pd pm cu ct dt hlt pdt pt hg (0 : Int32) at9 sz) := by rw [eh7]; exact z_so h6_m (z_ne hm k8 rfl)
                    have h7_R8 : h7.1 (R 8) = some (aJ 24 (vp_updL (vp_updL (vp_updL (vp_updL (vp_updL (vp_updL DV (6 * d) l.toInt64) (6 * d + 1) s.toInt64) (6 * d + 2) c.toInt64) (6 * d + 3) (0 : Int64)) (6 * d + 4) (0 : Int64)) (6 * d + 5) (0 : Int64))) := by rw [eh7]; exact z_s_self _ _ _
                    refine v_blk g [.aload_n 0, .dup] (pc' := 201) (lv' := [(6, .int (nI (6 * d))), (4, .long (sumF s.toInt64 (fun e => DV (6 * e + 1)) d)), (0, .ref m), (1, .int l), (2, .int s), (3, .int c)]) (st' := [.ref m, .ref m]) (by decide +kernel) rfl rfl ?_
                    refine v_get g h7_m fl_X8_212 rfl (by decide +kernel) ?_
                    refine v_blk g [.iconst 1, .iadd] (pc' := 206) (lv' := [(6, .int (nI (6 * d))), (4, .long (sumF s.toInt64 (fun e => DV (6 * e + 1)) d)), (0, .ref m), (1, .int l), (2, .int s), (3, .int c)]) (st' := [.int ((nI d) + (1 : Int32)), .ref m]) (by decide +kernel) rfl rfl ?_
                    refine v_ti (z := nI (d + 1)) (nI_1 d) ?_
                    refine v_put g (fs' := oMl R tp fk fp cn ha un (nI (d + 1)) wk hl pd pm cu ct dt hlt pdt pt hg (0 : Int32) at9 sz) h7_m fl_X8_212 rfl rfl (Nat.le_of_ble_eq_true rfl) rfl (by decide +kernel) ?_
                    refine v_h (fun h8 eh8 => ?_)
                    have h8_c : h8.2.1 = h.2.1 + 0 ∧ h8.2.2 = h.2.2 + 0 := zcs eh8 h7_c
                    have h8_m : h8.1 m = some (oM R tp fk fp cn ha un (nI (d + 1)) wk hl pd pm cu ct dt hlt pdt pt hg (0 : Int32) at9 sz) := by rw [eh8]; exact z_s_self _ _ _
                    have h8_R8 : h8.1 (R 8) = some (aJ 24 (vp_updL (vp_updL (vp_updL (vp_updL (vp_updL (vp_updL DV (6 * d) l.toInt64) (6 * d + 1) s.toInt64) (6 * d + 2) c.toInt64) (6 * d + 3) (0 : Int64)) (6 * d + 4) (0 : Int64)) (6 * d + 5) (0 : Int64))) := by rw [eh8]; exact z_so h7_R8 (Ne.symm (z_ne hm k8 rfl))
                    refine v_blk g [.aload_n 0] (pc' := 210) (lv' := [(6, .int (nI (6 * d))), (4, .long (sumF s.toInt64 (fun e => DV (6 * e + 1)) d)), (0, .ref m), (1, .int l), (2, .int s), (3, .int c)]) (st' := [.ref m]) (by decide +kernel) rfl rfl ?_
                    refine v_get g h8_m fl_X8_212 rfl (by decide +kernel) ?_
                    refine v_blk g [.iconst 1, .isub] (pc' := 215) (lv' := [(6, .int (nI (6 * d))), (4, .long (sumF s.toInt64 (fun e => DV (6 * e + 1)) d)), (0, .ref m), (1, .int l), (2, .int s), (3, .int c)]) (st' := [.int ((nI (d + 1)) - (1 : Int32))]) (by decide +kernel) rfl rfl ?_
                    refine v_ti (z := nI d) (nI_pred d) ?_
                    exact v_iret g z rfl (by decide +kernel) (Or.inl ⟨⟨d4, c1, c2, c4, c5, Or.inr ((lg_cmp_lt _ _).mp c7)⟩, rfl, by rw [eh8, eh7, eh6, eh5, eh4, eh3, eh2, eh1]; simp only [z_ss]; rfl⟩) (zcrn 0 0 h8_c.1 h8_c.2 (Nat.le_of_ble_eq_true rfl) (Nat.le_of_ble_eq_true rfl))
                  · refine v_blk g [.iconst (-1)] (pc' := 128) (lv' := [(6, .int (nI d)), (4, .long (sumF s.toInt64 (fun e => DV (6 * e + 1)) d)), (0, .ref m), (1, .int l), (2, .int s), (3, .int c)]) (st' := [.int (-1 : Int32)]) (by decide +kernel) rfl rfl ?_
                    exact v_iret g z rfl (by decide +kernel) (Or.inr ⟨(fun q => by rcases q.2.2.2.2.2 with e | e; omega; exact c7 ((lg_cmp_lt _ _).mpr e)), rfl, by rw [eh1]⟩) (zcrn 0 0 h1_c.1 h1_c.2 (Nat.le_of_ble_eq_true rfl) (Nat.le_of_ble_eq_true rfl))
              · refine v_blk g [.iconst (-1)] (pc' := 98) (lv' := [(6, .int (nI d)), (4, .long (sumF s.toInt64 (fun e => DV (6 * e + 1)) d)), (0, .ref m), (1, .int l), (2, .int s), (3, .int c)]) (st' := [.int (-1 : Int32)]) (by decide +kernel) rfl rfl ?_
                exact v_iret g z rfl (by decide +kernel) (Or.inr ⟨(fun q => q.2.2.2.2.1 c5), rfl, by rw [eh1]⟩) (zcrn 0 0 h1_c.1 h1_c.2 (Nat.le_of_ble_eq_true rfl) (Nat.le_of_ble_eq_true rfl))
    · intro i hi ih
      refine v_blk g [.iload 6, .aload_n 0] (pc' := 15) (lv' := [(6, .int (nI i)), (4, .long (sumF s.toInt64 (fun e => DV (6 * e + 1)) i)), (0, .ref m), (1, .int l), (2, .int s), (3, .int c)]) (st' := [.ref m, .int (nI i)]) (by decide +kernel) rfl rfl ?_
      refine v_get g h1_m fl_X8_212 rfl (by decide +kernel) ?_
      refine v_icmp_ge g (off := 26) (tgt := 44) (by decide +kernel) (by decide) (fun c => absurd c (nI_ge hi (by omega))) (fun _ => ?_)
      refine v_blk g [.lload 4, .aload_n 0] (pc' := 24) (lv' := [(6, .int (nI i)), (4, .long (sumF s.toInt64 (fun e => DV (6 * e + 1)) i)), (0, .ref m), (1, .int l), (2, .int s), (3, .int c)]) (st' := [.ref m, .long (sumF s.toInt64 (fun e => DV (6 * e + 1)) i)]) (by decide +kernel) rfl rfl ?_
      refine v_get g h1_m fl_X8_42 rfl (by decide +kernel) ?_
      refine v_blk g [.bipush 6, .iload 6, .imul, .iconst 1, .iadd] (pc' := 34) (lv' := [(6, .int (nI i)), (4, .long (sumF s.toInt64 (fun e => DV (6 * e + 1)) i)), (0, .ref m), (1, .int l), (2, .int s), (3, .int c)]) (st' := [.int (((6 : Int32) * (nI i)) + (1 : Int32)), .ref (R 8), .long (sumF s.toInt64 (fun e => DV (6 * e + 1)) i)]) (by decide +kernel) rfl rfl ?_
      refine v_lald g h1_R8 (6 * i + 1) (by rw [show (6 : Int32) = nI 6 from rfl, pk_mul, show (1 : Int32) = nI 1 from rfl, nI_add]) (by omega) (Nat.le_of_ble_eq_true rfl) (by decide +kernel) ?_
      refine v_blk g [.ladd, .lstore 4, .iinc 6 1] (pc' := 41) (lv' := [(6, .int ((nI i) + (1 : Int32))), (4, .long ((sumF s.toInt64 (fun e => DV (6 * e + 1)) i) + (DV (6 * i + 1)))), (0, .ref m), (1, .int l), (2, .int s), (3, .int c)]) (st' := []) (by decide +kernel) rfl rfl ?_
      refine v_goto g (off := -29) (tgt := 12) (by decide +kernel) (by decide) ?_
      refine v_lv [0, 1, 2, 3, 4, 5] (lv' := [(6, .int ((nI i) + (1 : Int32))), (4, .long ((sumF s.toInt64 (fun e => DV (6 * e + 1)) i) + (DV (6 * i + 1)))), (0, .ref m), (1, .int l), (2, .int s), (3, .int c)]) rfl ?_
      exact v_eq (by rw [nI_1]; rfl) rfl ih
  exact key 0 (by omega)
