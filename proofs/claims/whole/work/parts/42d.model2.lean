set_option maxRecDepth 100000 in
set_option maxHeartbeats 4000000 in
theorem m_fault {F : zF} {h : zH} {m : Nat} {R : Nat → Nat} {tp fk fp cn ha un dm wk pm cu ct dt pt hg th at9 sz : Int32} {hl pd hlt pdt : Int64} (hm : h.1 m = some (oM R tp fk fp cn ha un dm wk hl pd pm cu ct dt hlt pdt pt hg th at9 sz)) (v : Int32) : zMet F yX8_fault cX8_fault 2 (some .int) { frames := 1, cells := 0, slots := 0, locals := 30 } [.ref m, .int v] h (zP (z_s h m (oM R tp fk fp cn ha un dm wk hl pd pm cu ct dt hlt pdt pt hg 0 at9 sz)) (some (.int (if v = 0 then fk else if v = 1 then fp else -1)))) := by
  refine zMet_of (lv := [(0, .ref m), (1, .int v)]) (by decide) (by simp [lg_sl, Value.category]) rfl ?_
  intro X g z
  refine v_blk g [.aload_n 0, .iconst 0] (pc' := 2) (lv' := [(0, .ref m), (1, .int v)]) (st' := [.int (0 : Int32), .ref m]) (by decide +kernel) rfl rfl ?_
  refine v_put g (fs' := oMl R tp fk fp cn ha un dm wk hl pd pm cu ct dt hlt pdt pt hg (0 : Int32) at9 sz) hm fl_X8_89 rfl rfl (Nat.le_of_ble_eq_true rfl) rfl (by decide +kernel) ?_
  refine v_h (fun h1 eh1 => ?_)
  have h1_c : h1.2.1 = h.2.1 + 0 ∧ h1.2.2 = h.2.2 + 0 := zcs eh1 ⟨rfl, rfl⟩
  have h1_m : h1.1 m = some (oM R tp fk fp cn ha un dm wk hl pd pm cu ct dt hlt pdt pt hg (0 : Int32) at9 sz) := by rw [eh1]; exact z_s_self _ _ _
  refine v_blk g [.iload_n 1] (pc' := 6) (lv' := [(0, .ref m), (1, .int v)]) (st' := [.int v]) (by decide +kernel) rfl rfl ?_
  refine v_if_ne g (off := 10) (tgt := 16) (by decide +kernel) (by decide) (fun c0 => ?_) (fun c0 => ?_)
  · refine v_blk g [.iload_n 1, .iconst 1] (pc' := 18) (lv' := [(0, .ref m), (1, .int v)]) (st' := [.int (1 : Int32), .int v]) (by decide +kernel) rfl rfl ?_
    refine v_icmp_ne g (off := 10) (tgt := 28) (by decide +kernel) (by decide) (fun c1 => ?_) (fun c1 => ?_)
    · refine v_blk g [.iconst (-1)] (pc' := 29) (lv' := [(0, .ref m), (1, .int v)]) (st' := [.int (-1 : Int32)]) (by decide +kernel) rfl rfl ?_
      exact v_iret g z rfl (by decide +kernel) ⟨by rw [if_neg c0, if_neg c1], by rw [eh1]⟩ (zcrn 0 0 h1_c.1 h1_c.2 (Nat.le_of_ble_eq_true rfl) (Nat.le_of_ble_eq_true rfl))
    · refine v_blk g [.aload_n 0] (pc' := 22) (lv' := [(0, .ref m), (1, .int v)]) (st' := [.ref m]) (by decide +kernel) rfl rfl ?_
      refine v_get g h1_m fl_X8_130 rfl (by decide +kernel) ?_
      refine v_goto g (off := 4) (tgt := 29) (by decide +kernel) (by decide) ?_
      exact v_iret g z rfl (by decide +kernel) ⟨by rw [if_neg c0, if_pos c1], by rw [eh1]⟩ (zcrn 0 0 h1_c.1 h1_c.2 (Nat.le_of_ble_eq_true rfl) (Nat.le_of_ble_eq_true rfl))
  · refine v_blk g [.aload_n 0] (pc' := 10) (lv' := [(0, .ref m), (1, .int v)]) (st' := [.ref m]) (by decide +kernel) rfl rfl ?_
    refine v_get g h1_m fl_X8_127 rfl (by decide +kernel) ?_
    refine v_goto g (off := 16) (tgt := 29) (by decide +kernel) (by decide) ?_
    exact v_iret g z rfl (by decide +kernel) ⟨by rw [if_pos c0], by rw [eh1]⟩ (zcrn 0 0 h1_c.1 h1_c.2 (Nat.le_of_ble_eq_true rfl) (Nat.le_of_ble_eq_true rfl))

abbrev okH0 (a v : Int32) : Prop := a = 0 ∧ ¬ x_isIn v 0 100 = 0
abbrev okH1 (a v : Int32) : Prop := a = 1 ∧ ¬ x_isIn v 1 1000 = 0

set_option maxRecDepth 100000 in
set_option maxHeartbeats 4000000 in
theorem m_house {F : zF} {h : zH} {m : Nat} {R : Nat → Nat} {tp fk fp cn ha un dm wk pm cu ct dt pt hg th at9 sz : Int32} {hl pd hlt pdt : Int64} (hm : h.1 m = some (oM R tp fk fp cn ha un dm wk hl pd pm cu ct dt hlt pdt pt hg th at9 sz)) (a v : Int32) : zMet F yX8_house cX8_house 4 (some .int) { frames := 2, cells := 0, slots := 0, locals := 60 } [.ref m, .int a, .int v] h (zP (if okH0 a v then z_s h m (oM R tp fk fp cn v un dm wk hl pd pm cu ct dt hlt pdt pt hg 0 at9 sz) else if okH1 a v then z_s h m (oM R tp fk fp cn ha v dm wk hl pd pm cu ct dt hlt pdt pt hg 0 at9 sz) else z_s h m (oM R tp fk fp cn ha un dm wk hl pd pm cu ct dt hlt pdt pt hg 0 at9 sz)) (some (.int (if okH0 a v then ha else if okH1 a v then un else -2)))) := by
  refine zMet_of (lv := [(0, .ref m), (1, .int a), (2, .int v)]) (by decide) (by simp [lg_sl, Value.category]) rfl ?_
  intro X g z
  refine v_blk g [.aload_n 0, .iconst 0] (pc' := 2) (lv' := [(0, .ref m), (1, .int a), (2, .int v)]) (st' := [.int (0 : Int32), .ref m]) (by decide +kernel) rfl rfl ?_
  refine v_put g (fs' := oMl R tp fk fp cn ha un dm wk hl pd pm cu ct dt hlt pdt pt hg (0 : Int32) at9 sz) hm fl_X8_89 rfl rfl (Nat.le_of_ble_eq_true rfl) rfl (by decide +kernel) ?_
  refine v_h (fun h1 eh1 => ?_)
  have h1_c : h1.2.1 = h.2.1 + 0 ∧ h1.2.2 = h.2.2 + 0 := zcs eh1 ⟨rfl, rfl⟩
  have h1_m : h1.1 m = some (oM R tp fk fp cn ha un dm wk hl pd pm cu ct dt hlt pdt pt hg (0 : Int32) at9 sz) := by rw [eh1]; exact z_s_self _ _ _
  refine v_blk g [.iload_n 1] (pc' := 6) (lv' := [(0, .ref m), (1, .int a), (2, .int v)]) (st' := [.int a]) (by decide +kernel) rfl rfl ?_
  refine v_if_ne g (off := 27) (tgt := 33) (by decide +kernel) (by decide) (fun c0 => ?_) (fun c0 => ?_)
  · refine v_blk g [.iload_n 1, .iconst 1] (pc' := 35) (lv' := [(0, .ref m), (1, .int a), (2, .int v)]) (st' := [.int (1 : Int32), .int a]) (by decide +kernel) rfl rfl ?_
    refine v_icmp_ne g (off := 27) (tgt := 62) (by decide +kernel) (by decide) (fun c2 => ?_) (fun c2 => ?_)
    · refine v_blk g [.bipush (-2)] (pc' := 64) (lv' := [(0, .ref m), (1, .int a), (2, .int v)]) (st' := [.int (-2 : Int32)]) (by decide +kernel) rfl rfl ?_
      exact v_iret g z rfl (by decide +kernel) ⟨by rw [if_neg (fun q => c0 q.1), if_neg (fun q => c2 q.1)], by rw [if_neg (fun q => c0 q.1), if_neg (fun q => c2 q.1), eh1]⟩ (zcrn 0 0 h1_c.1 h1_c.2 (Nat.le_of_ble_eq_true rfl) (Nat.le_of_ble_eq_true rfl))
    · refine v_blk g [.iload_n 2, .i2l, .lconst 1] (pc' := 41) (lv' := [(0, .ref m), (1, .int a), (2, .int v)]) (st' := [.long (1 : Int64), .long v.toInt64]) (by decide +kernel) rfl rfl ?_
      refine v_ldc2 g kc_X8_207 (by decide +kernel) ?_
      refine v_callSp g (rest := []) (m_in _ _ _) cl_X8_94 rfl (Nat.le_of_ble_eq_true rfl) (by decide +kernel) ⟨Nat.le_of_ble_eq_true rfl, Nat.le_of_ble_eq_true rfl⟩ (zcsn 0 0 h1_c.1 h1_c.2 (Nat.le_of_ble_eq_true rfl) (Nat.le_of_ble_eq_true rfl)) ?_
      show zV F X h1 47 [(0, .ref m), (1, .int a), (2, .int v)] [.int (x_in v.toInt64 (1 : Int64) (1000 : Int64))]
      refine v_ti (z := x_isIn v (1) (1000)) (in_eq v (1) (1000) rfl rfl) ?_
      refine v_if_eq g (off := 15) (tgt := 62) (by decide +kernel) (by decide) (fun c3 => ?_) (fun c3 => ?_)
      · refine v_blk g [.bipush (-2)] (pc' := 64) (lv' := [(0, .ref m), (1, .int a), (2, .int v)]) (st' := [.int (-2 : Int32)]) (by decide +kernel) rfl rfl ?_
        exact v_iret g z rfl (by decide +kernel) ⟨by rw [if_neg (fun q => c0 q.1), if_neg (fun q => q.2 c3)], by rw [if_neg (fun q => c0 q.1), if_neg (fun q => q.2 c3), eh1]⟩ (zcrn 0 0 h1_c.1 h1_c.2 (Nat.le_of_ble_eq_true rfl) (Nat.le_of_ble_eq_true rfl))
      · refine v_blk g [.aload_n 0] (pc' := 51) (lv' := [(0, .ref m), (1, .int a), (2, .int v)]) (st' := [.ref m]) (by decide +kernel) rfl rfl ?_
        refine v_get g h1_m fl_X8_39 rfl (by decide +kernel) ?_
        refine v_blk g [.istore_n 3, .aload_n 0, .iload_n 2] (pc' := 57) (lv' := [(3, .int un), (0, .ref m), (1, .int a), (2, .int v)]) (st' := [.int v, .ref m]) (by decide +kernel) rfl rfl ?_
        refine v_put g (fs' := oMl R tp fk fp cn ha v dm wk hl pd pm cu ct dt hlt pdt pt hg (0 : Int32) at9 sz) h1_m fl_X8_39 rfl rfl (Nat.le_of_ble_eq_true rfl) rfl (by decide +kernel) ?_
        refine v_h (fun h2 eh2 => ?_)
        have h2_c : h2.2.1 = h.2.1 + 0 ∧ h2.2.2 = h.2.2 + 0 := zcs eh2 h1_c
        have h2_m : h2.1 m = some (oM R tp fk fp cn ha v dm wk hl pd pm cu ct dt hlt pdt pt hg (0 : Int32) at9 sz) := by rw [eh2]; exact z_s_self _ _ _
        refine v_blk g [.iload_n 3] (pc' := 61) (lv' := [(3, .int un), (0, .ref m), (1, .int a), (2, .int v)]) (st' := [.int un]) (by decide +kernel) rfl rfl ?_
        exact v_iret g z rfl (by decide +kernel) ⟨by rw [if_neg (fun q => c0 q.1), if_pos ⟨c2, c3⟩], by rw [if_neg (fun q => c0 q.1), if_pos ⟨c2, c3⟩, eh2, eh1, z_ss]⟩ (zcrn 0 0 h2_c.1 h2_c.2 (Nat.le_of_ble_eq_true rfl) (Nat.le_of_ble_eq_true rfl))
  · refine v_blk g [.iload_n 2, .i2l, .lconst 0] (pc' := 12) (lv' := [(0, .ref m), (1, .int a), (2, .int v)]) (st' := [.long (0 : Int64), .long v.toInt64]) (by decide +kernel) rfl rfl ?_
    refine v_ldc2 g kc_X8_175 (by decide +kernel) ?_
    refine v_callSp g (rest := []) (m_in _ _ _) cl_X8_94 rfl (Nat.le_of_ble_eq_true rfl) (by decide +kernel) ⟨Nat.le_of_ble_eq_true rfl, Nat.le_of_ble_eq_true rfl⟩ (zcsn 0 0 h1_c.1 h1_c.2 (Nat.le_of_ble_eq_true rfl) (Nat.le_of_ble_eq_true rfl)) ?_
    show zV F X h1 18 [(0, .ref m), (1, .int a), (2, .int v)] [.int (x_in v.toInt64 (0 : Int64) (100 : Int64))]
    refine v_ti (z := x_isIn v (0) (100)) (in_eq v (0) (100) rfl rfl) ?_
    refine v_if_eq g (off := 15) (tgt := 33) (by decide +kernel) (by decide) (fun c1 => ?_) (fun c1 => ?_)
    · refine v_blk g [.iload_n 1, .iconst 1] (pc' := 35) (lv' := [(0, .ref m), (1, .int a), (2, .int v)]) (st' := [.int (1 : Int32), .int a]) (by decide +kernel) rfl rfl ?_
      refine v_icmp_ne g (off := 27) (tgt := 62) (by decide +kernel) (by decide) (fun c2 => ?_) (fun c2 => ?_)
      · refine v_blk g [.bipush (-2)] (pc' := 64) (lv' := [(0, .ref m), (1, .int a), (2, .int v)]) (st' := [.int (-2 : Int32)]) (by decide +kernel) rfl rfl ?_
        exact v_iret g z rfl (by decide +kernel) ⟨by rw [if_neg (fun q => q.2 c1), if_neg (fun q => c2 q.1)], by rw [if_neg (fun q => q.2 c1), if_neg (fun q => c2 q.1), eh1]⟩ (zcrn 0 0 h1_c.1 h1_c.2 (Nat.le_of_ble_eq_true rfl) (Nat.le_of_ble_eq_true rfl))
      · refine v_blk g [.iload_n 2, .i2l, .lconst 1] (pc' := 41) (lv' := [(0, .ref m), (1, .int a), (2, .int v)]) (st' := [.long (1 : Int64), .long v.toInt64]) (by decide +kernel) rfl rfl ?_
        refine v_ldc2 g kc_X8_207 (by decide +kernel) ?_
        refine v_callSp g (rest := []) (m_in _ _ _) cl_X8_94 rfl (Nat.le_of_ble_eq_true rfl) (by decide +kernel) ⟨Nat.le_of_ble_eq_true rfl, Nat.le_of_ble_eq_true rfl⟩ (zcsn 0 0 h1_c.1 h1_c.2 (Nat.le_of_ble_eq_true rfl) (Nat.le_of_ble_eq_true rfl)) ?_
        show zV F X h1 47 [(0, .ref m), (1, .int a), (2, .int v)] [.int (x_in v.toInt64 (1 : Int64) (1000 : Int64))]
        refine v_ti (z := x_isIn v (1) (1000)) (in_eq v (1) (1000) rfl rfl) ?_
        refine v_if_eq g (off := 15) (tgt := 62) (by decide +kernel) (by decide) (fun c3 => ?_) (fun c3 => ?_)
        · refine v_blk g [.bipush (-2)] (pc' := 64) (lv' := [(0, .ref m), (1, .int a), (2, .int v)]) (st' := [.int (-2 : Int32)]) (by decide +kernel) rfl rfl ?_
          exact v_iret g z rfl (by decide +kernel) ⟨by rw [if_neg (fun q => q.2 c1), if_neg (fun q => q.2 c3)], by rw [if_neg (fun q => q.2 c1), if_neg (fun q => q.2 c3), eh1]⟩ (zcrn 0 0 h1_c.1 h1_c.2 (Nat.le_of_ble_eq_true rfl) (Nat.le_of_ble_eq_true rfl))
        · refine v_blk g [.aload_n 0] (pc' := 51) (lv' := [(0, .ref m), (1, .int a), (2, .int v)]) (st' := [.ref m]) (by decide +kernel) rfl rfl ?_
          refine v_get g h1_m fl_X8_39 rfl (by decide +kernel) ?_
          refine v_blk g [.istore_n 3, .aload_n 0, .iload_n 2] (pc' := 57) (lv' := [(3, .int un), (0, .ref m), (1, .int a), (2, .int v)]) (st' := [.int v, .ref m]) (by decide +kernel) rfl rfl ?_
          refine v_put g (fs' := oMl R tp fk fp cn ha v dm wk hl pd pm cu ct dt hlt pdt pt hg (0 : Int32) at9 sz) h1_m fl_X8_39 rfl rfl (Nat.le_of_ble_eq_true rfl) rfl (by decide +kernel) ?_
          refine v_h (fun h2 eh2 => ?_)
          have h2_c : h2.2.1 = h.2.1 + 0 ∧ h2.2.2 = h.2.2 + 0 := zcs eh2 h1_c
          have h2_m : h2.1 m = some (oM R tp fk fp cn ha v dm wk hl pd pm cu ct dt hlt pdt pt hg (0 : Int32) at9 sz) := by rw [eh2]; exact z_s_self _ _ _
          refine v_blk g [.iload_n 3] (pc' := 61) (lv' := [(3, .int un), (0, .ref m), (1, .int a), (2, .int v)]) (st' := [.int un]) (by decide +kernel) rfl rfl ?_
          exact v_iret g z rfl (by decide +kernel) ⟨by rw [if_neg (fun q => q.2 c1), if_pos ⟨c2, c3⟩], by rw [if_neg (fun q => q.2 c1), if_pos ⟨c2, c3⟩, eh2, eh1, z_ss]⟩ (zcrn 0 0 h2_c.1 h2_c.2 (Nat.le_of_ble_eq_true rfl) (Nat.le_of_ble_eq_true rfl))
    · refine v_blk g [.aload_n 0] (pc' := 22) (lv' := [(0, .ref m), (1, .int a), (2, .int v)]) (st' := [.ref m]) (by decide +kernel) rfl rfl ?_
      refine v_get g h1_m fl_X8_35 rfl (by decide +kernel) ?_
      refine v_blk g [.istore_n 3, .aload_n 0, .iload_n 2] (pc' := 28) (lv' := [(3, .int ha), (0, .ref m), (1, .int a), (2, .int v)]) (st' := [.int v, .ref m]) (by decide +kernel) rfl rfl ?_
      refine v_put g (fs' := oMl R tp fk fp cn v un dm wk hl pd pm cu ct dt hlt pdt pt hg (0 : Int32) at9 sz) h1_m fl_X8_35 rfl rfl (Nat.le_of_ble_eq_true rfl) rfl (by decide +kernel) ?_
      refine v_h (fun h2 eh2 => ?_)
      have h2_c : h2.2.1 = h.2.1 + 0 ∧ h2.2.2 = h.2.2 + 0 := zcs eh2 h1_c
      have h2_m : h2.1 m = some (oM R tp fk fp cn v un dm wk hl pd pm cu ct dt hlt pdt pt hg (0 : Int32) at9 sz) := by rw [eh2]; exact z_s_self _ _ _
      refine v_blk g [.iload_n 3] (pc' := 32) (lv' := [(3, .int ha), (0, .ref m), (1, .int a), (2, .int v)]) (st' := [.int ha]) (by decide +kernel) rfl rfl ?_
      exact v_iret g z rfl (by decide +kernel) ⟨by rw [if_pos ⟨c0, c1⟩], by rw [if_pos ⟨c0, c1⟩, eh2, eh1, z_ss]⟩ (zcrn 0 0 h2_c.1 h2_c.2 (Nat.le_of_ble_eq_true rfl) (Nat.le_of_ble_eq_true rfl))
