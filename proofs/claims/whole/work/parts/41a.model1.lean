/-! the reference: its object, tests of numbers -/
abbrev oMl (R : Nat → Nat) (tp : Int32) (fk : Int32) (fp : Int32) (cn : Int32) (ha : Int32) (un : Int32) (dm : Int32) (wk : Int32) (hl : Int64) (pd : Int64) (pm : Int32) (cu : Int32) (ct : Int32) (dt : Int32) (hlt : Int64) (pdt : Int64) (pt : Int32) (hg : Int32) (th : Int32) (at9 : Int32) (sz : Int32) : List Value := [.ref (R 0), .ref (R 1), .ref (R 2), .ref (R 3), .int tp, .int fk, .int fp, .ref (R 4), .ref (R 5), .ref (R 6), .ref (R 7), .int cn, .int ha, .int un, .ref (R 8), .int dm, .int wk, .long hl, .long pd, .ref (R 9), .ref (R 10), .int pm, .int cu, .ref (R 11), .ref (R 12), .ref (R 13), .ref (R 14), .ref (R 15), .ref (R 16), .int ct, .ref (R 17), .int dt, .long hlt, .long pdt, .ref (R 18), .ref (R 19), .int pt, .ref (R 20), .ref (R 21), .ref (R 22), .int hg, .int th, .int at9, .int sz]
abbrev oM (R : Nat → Nat) (tp : Int32) (fk : Int32) (fp : Int32) (cn : Int32) (ha : Int32) (un : Int32) (dm : Int32) (wk : Int32) (hl : Int64) (pd : Int64) (pm : Int32) (cu : Int32) (ct : Int32) (dt : Int32) (hlt : Int64) (pdt : Int64) (pt : Int32) (hg : Int32) (th : Int32) (at9 : Int32) (sz : Int32) : zE := oB 8 (oMl R tp fk fp cn ha un dm wk hl pd pm cu ct dt hlt pdt pt hg th at9 sz)
def x_in (v lo hi : Int64) : Int32 := if v < lo then 0 else if hi < v then 0 else 1
theorem in_eq (v lo hi : Int32) {L H : Int64} (hL : L = lo.toInt64) (hH : H = hi.toInt64) : x_in v.toInt64 L H = x_isIn v lo hi := by
  subst hL; subst hH
  unfold x_in x_isIn
  simp only [fa_wide_lt]
theorem isIn_01 (v lo hi : Int32) : x_isIn v lo hi = 0 ∨ x_isIn v lo hi = 1 := by
  unfold x_isIn
  split
  · exact Or.inl rfl
  · split
    · exact Or.inl rfl
    · exact Or.inr rfl
theorem isIn_p {v lo hi : Int32} : ¬ x_isIn v lo hi = 0 ↔ lo ≤ v ∧ v ≤ hi := by
  unfold x_isIn
  rw [fa_le, fa_le]
  split
  · rename_i c
    rw [fa_lt] at c
    simp; intro; omega
  · rename_i c
    split
    · rename_i c2
      rw [fa_lt] at c2
      simp; intro; omega
    · rename_i c2
      rw [fa_lt] at c c2
      simp; omega
theorem isIn_k {v : Int32} {N : Nat} (hN : N < 1000000) (h : ¬ x_isIn v 0 (nI N) = 0) : ∃ k, k ≤ N ∧ v = nI k := by
  obtain ⟨h1, h2⟩ := isIn_p.mp h
  rcases pk_ix v (n := N + 1) (by omega) with q | q | ⟨k, q1, q2⟩
  · rw [fa_lt] at q; rw [fa_le] at h1; omega
  · have h3 := fa_trans (nI_lt (a := N) (b := N + 1) (by omega) (by omega)) q
    rw [fa_lt] at h3; rw [fa_le] at h2; omega
  · exact ⟨k, by omega, q2⟩

set_option maxRecDepth 100000 in
set_option maxHeartbeats 4000000 in
theorem m_in {F : zF} {h : zH} (v lo hi : Int64) : zMet F yX8_in cX8_in 6 (some .boolean) { frames := 1, cells := 0, slots := 0, locals := 30 } [.long v, .long lo, .long hi] h (zP h (some (.int (x_in v lo hi)))) := by
  refine zMet_of (lv := [(0, .long v), (2, .long lo), (4, .long hi)]) (by decide) (by simp [lg_sl, Value.category]) rfl ?_
  intro X g z
  refine v_blk g [.lload_n 0, .lload_n 2, .lcmp] (pc' := 3) (lv' := [(0, .long v), (2, .long lo), (4, .long hi)]) (st' := [.int (lg_cmp v lo)]) (by decide +kernel) rfl rfl ?_
  refine v_if_lt g (off := 14) (tgt := 17) (by decide +kernel) (by decide) (fun c0 => ?_) (fun c0 => ?_)
  · refine v_blk g [.iconst 0] (pc' := 18) (lv' := [(0, .long v), (2, .long lo), (4, .long hi)]) (st' := [.int (0 : Int32)]) (by decide +kernel) rfl rfl ?_
    exact v_zret g z rfl (by decide) (by decide +kernel) ⟨by rw [x_in, if_pos ((lg_cmp_lt _ _).mp c0)], rfl⟩ (zcrn 0 0 rfl rfl (Nat.le_of_ble_eq_true rfl) (Nat.le_of_ble_eq_true rfl))
  · refine v_blk g [.lload_n 0, .lload 4, .lcmp] (pc' := 10) (lv' := [(0, .long v), (2, .long lo), (4, .long hi)]) (st' := [.int (lg_cmp v hi)]) (by decide +kernel) rfl rfl ?_
    refine v_if_gt g (off := 7) (tgt := 17) (by decide +kernel) (by decide) (fun c1 => ?_) (fun c1 => ?_)
    · refine v_blk g [.iconst 0] (pc' := 18) (lv' := [(0, .long v), (2, .long lo), (4, .long hi)]) (st' := [.int (0 : Int32)]) (by decide +kernel) rfl rfl ?_
      exact v_zret g z rfl (by decide) (by decide +kernel) ⟨by rw [x_in, if_neg (fun q => c0 ((lg_cmp_lt _ _).mpr q)), if_pos ((lg_cmp_gt _ _).mp c1)], rfl⟩ (zcrn 0 0 rfl rfl (Nat.le_of_ble_eq_true rfl) (Nat.le_of_ble_eq_true rfl))
    · refine v_blk g [.iconst 1] (pc' := 14) (lv' := [(0, .long v), (2, .long lo), (4, .long hi)]) (st' := [.int (1 : Int32)]) (by decide +kernel) rfl rfl ?_
      refine v_goto g (off := 4) (tgt := 18) (by decide +kernel) (by decide) ?_
      exact v_zret g z rfl (by decide) (by decide +kernel) ⟨by rw [x_in, if_neg (fun q => c0 ((lg_cmp_lt _ _).mpr q)), if_neg (fun q => c1 ((lg_cmp_gt _ _).mpr q))], rfl⟩ (zcrn 0 0 rfl rfl (Nat.le_of_ble_eq_true rfl) (Nat.le_of_ble_eq_true rfl))

set_option maxRecDepth 100000 in
set_option maxHeartbeats 4000000 in
theorem m_thrown {F : zF} {h : zH} {m : Nat} {R : Nat → Nat} {tp fk fp cn ha un dm wk pm cu ct dt pt hg th at9 sz : Int32} {hl pd hlt pdt : Int64} (hm : h.1 m = some (oM R tp fk fp cn ha un dm wk hl pd pm cu ct dt hlt pdt pt hg th at9 sz)) : zMet F yX8_thrown cX8_thrown 1 (some .int) { frames := 1, cells := 0, slots := 0, locals := 30 } [.ref m] h (zP h (some (.int th))) := by
  refine zMet_of (lv := [(0, .ref m)]) (by decide) (by simp [lg_sl, Value.category]) rfl ?_
  intro X g z
  refine v_blk g [.aload_n 0] (pc' := 1) (lv' := [(0, .ref m)]) (st' := [.ref m]) (by decide +kernel) rfl rfl ?_
  refine v_get g hm fl_X8_89 rfl (by decide +kernel) ?_
  exact v_iret g z rfl (by decide +kernel) ⟨rfl, rfl⟩ (zcrn 0 0 rfl rfl (Nat.le_of_ble_eq_true rfl) (Nat.le_of_ble_eq_true rfl))

def mo (SC PN : Nat → Int32) (k : Nat) : Int32 := if SC k = -1 then PN k else SC k

set_option maxRecDepth 100000 in
set_option maxHeartbeats 4000000 in
theorem m_outcomeOf {F : zF} {h : zH} {m : Nat} {R : Nat → Nat} {tp fk fp cn ha un dm wk pm cu ct dt pt hg th at9 sz : Int32} {hl pd hlt pdt : Int64} (hm : h.1 m = some (oM R tp fk fp cn ha un dm wk hl pd pm cu ct dt hlt pdt pt hg th at9 sz)) {SC : Nat → Int32} (k0 : h.1 (R 0) = some (aI 14 SC)) {PN : Nat → Int32} (k1 : h.1 (R 1) = some (aI 14 PN)) {q : Nat} (hq : q < 14) : zMet F yX8_outcomeOf cX8_outcomeOf 2 (some .int) { frames := 1, cells := 0, slots := 0, locals := 30 } [.ref m, .int (nI q)] h (zP h (some (.int (mo SC PN q)))) := by
  refine zMet_of (lv := [(0, .ref m), (1, .int (nI q))]) (by decide) (by simp [lg_sl, Value.category]) rfl ?_
  intro X g z
  refine v_blk g [.aload_n 0] (pc' := 1) (lv' := [(0, .ref m), (1, .int (nI q))]) (st' := [.ref m]) (by decide +kernel) rfl rfl ?_
  refine v_get g hm fl_X8_9 rfl (by decide +kernel) ?_
  refine v_blk g [.iload_n 1] (pc' := 5) (lv' := [(0, .ref m), (1, .int (nI q))]) (st' := [.int (nI q), .ref (R 0)]) (by decide +kernel) rfl rfl ?_
  refine v_iald g k0 q rfl hq (Nat.le_of_ble_eq_true rfl) (by decide +kernel) ?_
  refine v_blk g [.iconst (-1)] (pc' := 7) (lv' := [(0, .ref m), (1, .int (nI q))]) (st' := [.int (-1 : Int32), .int (SC q)]) (by decide +kernel) rfl rfl ?_
  refine v_icmp_eq g (off := 12) (tgt := 19) (by decide +kernel) (by decide) (fun c => ?_) (fun c => ?_)
  · refine v_blk g [.aload_n 0] (pc' := 20) (lv' := [(0, .ref m), (1, .int (nI q))]) (st' := [.ref m]) (by decide +kernel) rfl rfl ?_
    refine v_get g hm fl_X8_13 rfl (by decide +kernel) ?_
    refine v_blk g [.iload_n 1] (pc' := 24) (lv' := [(0, .ref m), (1, .int (nI q))]) (st' := [.int (nI q), .ref (R 1)]) (by decide +kernel) rfl rfl ?_
    refine v_iald g k1 q rfl hq (Nat.le_of_ble_eq_true rfl) (by decide +kernel) ?_
    exact v_iret g z rfl (by decide +kernel) ⟨by rw [mo, if_pos c], rfl⟩ (zcrn 0 0 rfl rfl (Nat.le_of_ble_eq_true rfl) (Nat.le_of_ble_eq_true rfl))
  · refine v_blk g [.aload_n 0] (pc' := 11) (lv' := [(0, .ref m), (1, .int (nI q))]) (st' := [.ref m]) (by decide +kernel) rfl rfl ?_
    refine v_get g hm fl_X8_9 rfl (by decide +kernel) ?_
    refine v_blk g [.iload_n 1] (pc' := 15) (lv' := [(0, .ref m), (1, .int (nI q))]) (st' := [.int (nI q), .ref (R 0)]) (by decide +kernel) rfl rfl ?_
    refine v_iald g k0 q rfl hq (Nat.le_of_ble_eq_true rfl) (by decide +kernel) ?_
    refine v_goto g (off := 9) (tgt := 25) (by decide +kernel) (by decide) ?_
    exact v_iret g z rfl (by decide +kernel) ⟨by rw [mo, if_neg c], rfl⟩ (zcrn 0 0 rfl rfl (Nat.le_of_ble_eq_true rfl) (Nat.le_of_ble_eq_true rfl))

abbrev okS (mt ho aw : Int32) : Prop := ¬ x_isIn mt 0 13 = 0 ∧ ¬ x_isIn ho 0 20 = 0 ∧ ¬ x_isIn aw 0 20 = 0
theorem x_goals_le {a b : Int32} (h : ¬ a ≤ b) : x_goals a b = 0 := by
  unfold x_goals
  rw [if_neg (fun e => h (by rw [e]; exact Int32.le_refl _)), if_neg h]
theorem x_goals_lt {a b : Int32} (h : a ≤ b) (h2 : ¬ b ≤ a) : x_goals a b = 1 := by
  unfold x_goals
  rw [if_neg (fun e => h2 (by rw [e]; exact Int32.le_refl _)), if_pos h]
theorem x_goals_eq {a b : Int32} (h : a ≤ b) (h2 : b ≤ a) : x_goals a b = if ¬ a = 0 then 3 else 2 := by
  unfold x_goals
  rw [if_pos (Int32.le_antisymm h h2)]

set_option maxRecDepth 100000 in
set_option maxHeartbeats 4000000 in
theorem m_score {F : zF} {h : zH} {m : Nat} {R : Nat → Nat} {tp fk fp cn ha un dm wk pm cu ct dt pt hg th at9 sz : Int32} {hl pd hlt pdt : Int64} (hm : h.1 m = some (oM R tp fk fp cn ha un dm wk hl pd pm cu ct dt hlt pdt pt hg th at9 sz)) {SC : Nat → Int32} (k0 : h.1 (R 0) = some (aI 14 SC)) (mt ho aw : Int32) : zMet F yX8_score cX8_score 4 (some .boolean) { frames := 2, cells := 0, slots := 0, locals := 60 } [.ref m, .int mt, .int ho, .int aw] h (zP (if okS mt ho aw then z_s (z_s h m (oM R tp fk fp cn ha un dm wk hl pd pm cu ct dt hlt pdt pt hg 0 at9 sz)) (R 0) (aI 14 (upd SC mt.toNatClampNeg (x_goals ho aw))) else z_s h m (oM R tp fk fp cn ha un dm wk hl pd pm cu ct dt hlt pdt pt hg 0 at9 sz)) (some (.int (if okS mt ho aw then 1 else 0)))) := by
  refine zMet_of (lv := [(0, .ref m), (1, .int mt), (2, .int ho), (3, .int aw)]) (by decide) (by simp [lg_sl, Value.category]) rfl ?_
  intro X g z
  refine v_blk g [.aload_n 0, .iconst 0] (pc' := 2) (lv' := [(0, .ref m), (1, .int mt), (2, .int ho), (3, .int aw)]) (st' := [.int (0 : Int32), .ref m]) (by decide +kernel) rfl rfl ?_
  refine v_put g (fs' := oMl R tp fk fp cn ha un dm wk hl pd pm cu ct dt hlt pdt pt hg (0 : Int32) at9 sz) hm fl_X8_89 rfl rfl (Nat.le_of_ble_eq_true rfl) rfl (by decide +kernel) ?_
  refine v_h (fun h1 eh1 => ?_)
  have h1_c : h1.2.1 = h.2.1 + 0 ∧ h1.2.2 = h.2.2 + 0 := zcs eh1 ⟨rfl, rfl⟩
  have h1_m : h1.1 m = some (oM R tp fk fp cn ha un dm wk hl pd pm cu ct dt hlt pdt pt hg (0 : Int32) at9 sz) := by rw [eh1]; exact z_s_self _ _ _
  have h1_R0 : h1.1 (R 0) = some (aI 14 SC) := by rw [eh1]; exact z_so k0 (Ne.symm (z_ne hm k0 rfl))
  refine v_blk g [.iload_n 1, .i2l, .lconst 0] (pc' := 8) (lv' := [(0, .ref m), (1, .int mt), (2, .int ho), (3, .int aw)]) (st' := [.long (0 : Int64), .long mt.toInt64]) (by decide +kernel) rfl rfl ?_
  refine v_ldc2 g kc_X8_92 (by decide +kernel) ?_
  refine v_callSp g (rest := []) (m_in _ _ _) cl_X8_94 rfl (Nat.le_of_ble_eq_true rfl) (by decide +kernel) ⟨Nat.le_of_ble_eq_true rfl, Nat.le_of_ble_eq_true rfl⟩ (zcsn 0 0 h1_c.1 h1_c.2 (Nat.le_of_ble_eq_true rfl) (Nat.le_of_ble_eq_true rfl)) ?_
  show zV F X h1 14 [(0, .ref m), (1, .int mt), (2, .int ho), (3, .int aw)] [.int (x_in mt.toInt64 (0 : Int64) (13 : Int64))]
  refine v_ti (z := x_isIn mt (0) (13)) (in_eq mt (0) (13) rfl rfl) ?_
  refine v_if_eq g (off := 27) (tgt := 41) (by decide +kernel) (by decide) (fun c0 => ?_) (fun c0 => ?_)
  · refine v_blk g [.iconst 0] (pc' := 42) (lv' := [(0, .ref m), (1, .int mt), (2, .int ho), (3, .int aw)]) (st' := [.int (0 : Int32)]) (by decide +kernel) rfl rfl ?_
    exact v_zret g z rfl (by decide) (by decide +kernel) ⟨by rw [if_neg (fun q => q.1 c0)], by rw [if_neg (fun q => q.1 c0), eh1]⟩ (zcrn 0 0 h1_c.1 h1_c.2 (Nat.le_of_ble_eq_true rfl) (Nat.le_of_ble_eq_true rfl))
  · refine v_blk g [.iload_n 2, .i2l, .lconst 0] (pc' := 20) (lv' := [(0, .ref m), (1, .int mt), (2, .int ho), (3, .int aw)]) (st' := [.long (0 : Int64), .long ho.toInt64]) (by decide +kernel) rfl rfl ?_
    refine v_ldc2 g kc_X8_98 (by decide +kernel) ?_
    refine v_callSp g (rest := []) (m_in _ _ _) cl_X8_94 rfl (Nat.le_of_ble_eq_true rfl) (by decide +kernel) ⟨Nat.le_of_ble_eq_true rfl, Nat.le_of_ble_eq_true rfl⟩ (zcsn 0 0 h1_c.1 h1_c.2 (Nat.le_of_ble_eq_true rfl) (Nat.le_of_ble_eq_true rfl)) ?_
    show zV F X h1 26 [(0, .ref m), (1, .int mt), (2, .int ho), (3, .int aw)] [.int (x_in ho.toInt64 (0 : Int64) (20 : Int64))]
    refine v_ti (z := x_isIn ho (0) (20)) (in_eq ho (0) (20) rfl rfl) ?_
    refine v_if_eq g (off := 15) (tgt := 41) (by decide +kernel) (by decide) (fun c1 => ?_) (fun c1 => ?_)
    · refine v_blk g [.iconst 0] (pc' := 42) (lv' := [(0, .ref m), (1, .int mt), (2, .int ho), (3, .int aw)]) (st' := [.int (0 : Int32)]) (by decide +kernel) rfl rfl ?_
      exact v_zret g z rfl (by decide) (by decide +kernel) ⟨by rw [if_neg (fun q => q.2.1 c1)], by rw [if_neg (fun q => q.2.1 c1), eh1]⟩ (zcrn 0 0 h1_c.1 h1_c.2 (Nat.le_of_ble_eq_true rfl) (Nat.le_of_ble_eq_true rfl))
    · refine v_blk g [.iload_n 3, .i2l, .lconst 0] (pc' := 32) (lv' := [(0, .ref m), (1, .int mt), (2, .int ho), (3, .int aw)]) (st' := [.long (0 : Int64), .long aw.toInt64]) (by decide +kernel) rfl rfl ?_
      refine v_ldc2 g kc_X8_98 (by decide +kernel) ?_
      refine v_callSp g (rest := []) (m_in _ _ _) cl_X8_94 rfl (Nat.le_of_ble_eq_true rfl) (by decide +kernel) ⟨Nat.le_of_ble_eq_true rfl, Nat.le_of_ble_eq_true rfl⟩ (zcsn 0 0 h1_c.1 h1_c.2 (Nat.le_of_ble_eq_true rfl) (Nat.le_of_ble_eq_true rfl)) ?_
      show zV F X h1 38 [(0, .ref m), (1, .int mt), (2, .int ho), (3, .int aw)] [.int (x_in aw.toInt64 (0 : Int64) (20 : Int64))]
      refine v_ti (z := x_isIn aw (0) (20)) (in_eq aw (0) (20) rfl rfl) ?_
      refine v_if_ne g (off := 5) (tgt := 43) (by decide +kernel) (by decide) (fun c2 => ?_) (fun c2 => ?_)
      · obtain ⟨k, hk, rfl⟩ := isIn_k (N := 13) (by decide) c0
        have ek : (nI k).toNatClampNeg = k := nI_clamp (by omega)
        refine v_blk g [.aload_n 0] (pc' := 44) (lv' := [(0, .ref m), (1, .int (nI k)), (2, .int ho), (3, .int aw)]) (st' := [.ref m]) (by decide +kernel) rfl rfl ?_
        refine v_get g h1_m fl_X8_9 rfl (by decide +kernel) ?_
        refine v_blk g [.iload_n 1, .iload_n 2, .iload_n 3] (pc' := 50) (lv' := [(0, .ref m), (1, .int (nI k)), (2, .int ho), (3, .int aw)]) (st' := [.int aw, .int ho, .int (nI k), .ref (R 0)]) (by decide +kernel) rfl rfl ?_
        refine v_icmp_le g (off := 7) (tgt := 57) (by decide +kernel) (by decide) (fun c3 => ?_) (fun c3 => ?_)
        · refine v_blk g [.iload_n 2, .iload_n 3] (pc' := 59) (lv' := [(0, .ref m), (1, .int (nI k)), (2, .int ho), (3, .int aw)]) (st' := [.int aw, .int ho, .int (nI k), .ref (R 0)]) (by decide +kernel) rfl rfl ?_
          refine v_icmp_ge g (off := 7) (tgt := 66) (by decide +kernel) (by decide) (fun c4 => ?_) (fun c4 => ?_)
          · refine v_blk g [.iload_n 2] (pc' := 67) (lv' := [(0, .ref m), (1, .int (nI k)), (2, .int ho), (3, .int aw)]) (st' := [.int ho, .int (nI k), .ref (R 0)]) (by decide +kernel) rfl rfl ?_
            refine v_if_ne g (off := 7) (tgt := 74) (by decide +kernel) (by decide) (fun c5 => ?_) (fun c5 => ?_)
            · refine v_blk g [.iconst 3] (pc' := 75) (lv' := [(0, .ref m), (1, .int (nI k)), (2, .int ho), (3, .int aw)]) (st' := [.int (3 : Int32), .int (nI k), .ref (R 0)]) (by decide +kernel) rfl rfl ?_
              refine v_ti (z := x_goals ho aw) (by rw [x_goals_eq c3 c4, if_pos c5]) ?_
              refine v_iast g h1_R0 k rfl (by omega) (Nat.le_of_ble_eq_true rfl) (by decide +kernel) ?_
              refine v_h (fun h2 eh2 => ?_)
              have h2_c : h2.2.1 = h.2.1 + 0 ∧ h2.2.2 = h.2.2 + 0 := zcs eh2 h1_c
              have h2_m : h2.1 m = some (oM R tp fk fp cn ha un dm wk hl pd pm cu ct dt hlt pdt pt hg (0 : Int32) at9 sz) := by rw [eh2]; exact z_so h1_m (z_ne hm k0 rfl)
              have h2_R0 : h2.1 (R 0) = some (aI 14 (upd SC k (x_goals ho aw))) := by rw [eh2]; exact z_s_self _ _ _
              refine v_blk g [.iconst 1] (pc' := 77) (lv' := [(0, .ref m), (1, .int (nI k)), (2, .int ho), (3, .int aw)]) (st' := [.int (1 : Int32)]) (by decide +kernel) rfl rfl ?_
              exact v_zret g z rfl (by decide) (by decide +kernel) ⟨by rw [if_pos ⟨c0, c1, c2⟩], by rw [if_pos ⟨c0, c1, c2⟩, eh2, eh1, ek]⟩ (zcrn 0 0 h2_c.1 h2_c.2 (Nat.le_of_ble_eq_true rfl) (Nat.le_of_ble_eq_true rfl))
            · refine v_blk g [.iconst 2] (pc' := 71) (lv' := [(0, .ref m), (1, .int (nI k)), (2, .int ho), (3, .int aw)]) (st' := [.int (2 : Int32), .int (nI k), .ref (R 0)]) (by decide +kernel) rfl rfl ?_
              refine v_goto g (off := 4) (tgt := 75) (by decide +kernel) (by decide) ?_
              refine v_ti (z := x_goals ho aw) (by rw [x_goals_eq c3 c4, if_neg (fun q => q c5)]) ?_
              refine v_iast g h1_R0 k rfl (by omega) (Nat.le_of_ble_eq_true rfl) (by decide +kernel) ?_
              refine v_h (fun h2 eh2 => ?_)
              have h2_c : h2.2.1 = h.2.1 + 0 ∧ h2.2.2 = h.2.2 + 0 := zcs eh2 h1_c
              have h2_m : h2.1 m = some (oM R tp fk fp cn ha un dm wk hl pd pm cu ct dt hlt pdt pt hg (0 : Int32) at9 sz) := by rw [eh2]; exact z_so h1_m (z_ne hm k0 rfl)
              have h2_R0 : h2.1 (R 0) = some (aI 14 (upd SC k (x_goals ho aw))) := by rw [eh2]; exact z_s_self _ _ _
              refine v_blk g [.iconst 1] (pc' := 77) (lv' := [(0, .ref m), (1, .int (nI k)), (2, .int ho), (3, .int aw)]) (st' := [.int (1 : Int32)]) (by decide +kernel) rfl rfl ?_
              exact v_zret g z rfl (by decide) (by decide +kernel) ⟨by rw [if_pos ⟨c0, c1, c2⟩], by rw [if_pos ⟨c0, c1, c2⟩, eh2, eh1, ek]⟩ (zcrn 0 0 h2_c.1 h2_c.2 (Nat.le_of_ble_eq_true rfl) (Nat.le_of_ble_eq_true rfl))
          · refine v_blk g [.iconst 1] (pc' := 63) (lv' := [(0, .ref m), (1, .int (nI k)), (2, .int ho), (3, .int aw)]) (st' := [.int (1 : Int32), .int (nI k), .ref (R 0)]) (by decide +kernel) rfl rfl ?_
            refine v_goto g (off := 12) (tgt := 75) (by decide +kernel) (by decide) ?_
            refine v_ti (z := x_goals ho aw) (by rw [x_goals_lt c3 c4]) ?_
            refine v_iast g h1_R0 k rfl (by omega) (Nat.le_of_ble_eq_true rfl) (by decide +kernel) ?_
            refine v_h (fun h2 eh2 => ?_)
            have h2_c : h2.2.1 = h.2.1 + 0 ∧ h2.2.2 = h.2.2 + 0 := zcs eh2 h1_c
            have h2_m : h2.1 m = some (oM R tp fk fp cn ha un dm wk hl pd pm cu ct dt hlt pdt pt hg (0 : Int32) at9 sz) := by rw [eh2]; exact z_so h1_m (z_ne hm k0 rfl)
            have h2_R0 : h2.1 (R 0) = some (aI 14 (upd SC k (x_goals ho aw))) := by rw [eh2]; exact z_s_self _ _ _
            refine v_blk g [.iconst 1] (pc' := 77) (lv' := [(0, .ref m), (1, .int (nI k)), (2, .int ho), (3, .int aw)]) (st' := [.int (1 : Int32)]) (by decide +kernel) rfl rfl ?_
            exact v_zret g z rfl (by decide) (by decide +kernel) ⟨by rw [if_pos ⟨c0, c1, c2⟩], by rw [if_pos ⟨c0, c1, c2⟩, eh2, eh1, ek]⟩ (zcrn 0 0 h2_c.1 h2_c.2 (Nat.le_of_ble_eq_true rfl) (Nat.le_of_ble_eq_true rfl))
        · refine v_blk g [.iconst 0] (pc' := 54) (lv' := [(0, .ref m), (1, .int (nI k)), (2, .int ho), (3, .int aw)]) (st' := [.int (0 : Int32), .int (nI k), .ref (R 0)]) (by decide +kernel) rfl rfl ?_
          refine v_goto g (off := 21) (tgt := 75) (by decide +kernel) (by decide) ?_
          refine v_ti (z := x_goals ho aw) (by rw [x_goals_le c3]) ?_
          refine v_iast g h1_R0 k rfl (by omega) (Nat.le_of_ble_eq_true rfl) (by decide +kernel) ?_
          refine v_h (fun h2 eh2 => ?_)
          have h2_c : h2.2.1 = h.2.1 + 0 ∧ h2.2.2 = h.2.2 + 0 := zcs eh2 h1_c
          have h2_m : h2.1 m = some (oM R tp fk fp cn ha un dm wk hl pd pm cu ct dt hlt pdt pt hg (0 : Int32) at9 sz) := by rw [eh2]; exact z_so h1_m (z_ne hm k0 rfl)
          have h2_R0 : h2.1 (R 0) = some (aI 14 (upd SC k (x_goals ho aw))) := by rw [eh2]; exact z_s_self _ _ _
          refine v_blk g [.iconst 1] (pc' := 77) (lv' := [(0, .ref m), (1, .int (nI k)), (2, .int ho), (3, .int aw)]) (st' := [.int (1 : Int32)]) (by decide +kernel) rfl rfl ?_
          exact v_zret g z rfl (by decide) (by decide +kernel) ⟨by rw [if_pos ⟨c0, c1, c2⟩], by rw [if_pos ⟨c0, c1, c2⟩, eh2, eh1, ek]⟩ (zcrn 0 0 h2_c.1 h2_c.2 (Nat.le_of_ble_eq_true rfl) (Nat.le_of_ble_eq_true rfl))
      · refine v_blk g [.iconst 0] (pc' := 42) (lv' := [(0, .ref m), (1, .int mt), (2, .int ho), (3, .int aw)]) (st' := [.int (0 : Int32)]) (by decide +kernel) rfl rfl ?_
        exact v_zret g z rfl (by decide) (by decide +kernel) ⟨by rw [if_neg (fun q => q.2.2 c2)], by rw [if_neg (fun q => q.2.2 c2), eh1]⟩ (zcrn 0 0 h1_c.1 h1_c.2 (Nat.le_of_ble_eq_true rfl) (Nat.le_of_ble_eq_true rfl))

abbrev okP (mt o : Int32) : Prop := ¬ x_isIn mt 0 13 = 0 ∧ ¬ x_isIn o (-1) 3 = 0

set_option maxRecDepth 100000 in
set_option maxHeartbeats 4000000 in
theorem m_panel {F : zF} {h : zH} {m : Nat} {R : Nat → Nat} {tp fk fp cn ha un dm wk pm cu ct dt pt hg th at9 sz : Int32} {hl pd hlt pdt : Int64} (hm : h.1 m = some (oM R tp fk fp cn ha un dm wk hl pd pm cu ct dt hlt pdt pt hg th at9 sz)) (hR : ∀ i j, i < 23 → j < 23 → i ≠ j → R i ≠ R j) {SC : Nat → Int32} (k0 : h.1 (R 0) = some (aI 14 SC)) {PN : Nat → Int32} (k1 : h.1 (R 1) = some (aI 14 PN)) (mt o : Int32) : zMet F yX8_panel cX8_panel 3 (some .boolean) { frames := 2, cells := 0, slots := 0, locals := 60 } [.ref m, .int mt, .int o] h (zP (if okP mt o then z_s (z_s (z_s h m (oM R tp fk fp cn ha un dm wk hl pd pm cu ct dt hlt pdt pt hg 0 at9 sz)) (R 0) (aI 14 (upd SC mt.toNatClampNeg (-1)))) (R 1) (aI 14 (upd PN mt.toNatClampNeg o)) else z_s h m (oM R tp fk fp cn ha un dm wk hl pd pm cu ct dt hlt pdt pt hg 0 at9 sz)) (some (.int (if okP mt o then 1 else 0)))) := by
  refine zMet_of (lv := [(0, .ref m), (1, .int mt), (2, .int o)]) (by decide) (by simp [lg_sl, Value.category]) rfl ?_
  intro X g z
  refine v_blk g [.aload_n 0, .iconst 0] (pc' := 2) (lv' := [(0, .ref m), (1, .int mt), (2, .int o)]) (st' := [.int (0 : Int32), .ref m]) (by decide +kernel) rfl rfl ?_
  refine v_put g (fs' := oMl R tp fk fp cn ha un dm wk hl pd pm cu ct dt hlt pdt pt hg (0 : Int32) at9 sz) hm fl_X8_89 rfl rfl (Nat.le_of_ble_eq_true rfl) rfl (by decide +kernel) ?_
  refine v_h (fun h1 eh1 => ?_)
  have h1_c : h1.2.1 = h.2.1 + 0 ∧ h1.2.2 = h.2.2 + 0 := zcs eh1 ⟨rfl, rfl⟩
  have h1_m : h1.1 m = some (oM R tp fk fp cn ha un dm wk hl pd pm cu ct dt hlt pdt pt hg (0 : Int32) at9 sz) := by rw [eh1]; exact z_s_self _ _ _
  have h1_R0 : h1.1 (R 0) = some (aI 14 SC) := by rw [eh1]; exact z_so k0 (Ne.symm (z_ne hm k0 rfl))
  have h1_R1 : h1.1 (R 1) = some (aI 14 PN) := by rw [eh1]; exact z_so k1 (Ne.symm (z_ne hm k1 rfl))
  refine v_blk g [.iload_n 1, .i2l, .lconst 0] (pc' := 8) (lv' := [(0, .ref m), (1, .int mt), (2, .int o)]) (st' := [.long (0 : Int64), .long mt.toInt64]) (by decide +kernel) rfl rfl ?_
  refine v_ldc2 g kc_X8_92 (by decide +kernel) ?_
  refine v_callSp g (rest := []) (m_in _ _ _) cl_X8_94 rfl (Nat.le_of_ble_eq_true rfl) (by decide +kernel) ⟨Nat.le_of_ble_eq_true rfl, Nat.le_of_ble_eq_true rfl⟩ (zcsn 0 0 h1_c.1 h1_c.2 (Nat.le_of_ble_eq_true rfl) (Nat.le_of_ble_eq_true rfl)) ?_
  show zV F X h1 14 [(0, .ref m), (1, .int mt), (2, .int o)] [.int (x_in mt.toInt64 (0 : Int64) (13 : Int64))]
  refine v_ti (z := x_isIn mt (0) (13)) (in_eq mt (0) (13) rfl rfl) ?_
  refine v_if_eq g (off := 17) (tgt := 31) (by decide +kernel) (by decide) (fun c0 => ?_) (fun c0 => ?_)
  · refine v_blk g [.iconst 0] (pc' := 32) (lv' := [(0, .ref m), (1, .int mt), (2, .int o)]) (st' := [.int (0 : Int32)]) (by decide +kernel) rfl rfl ?_
    exact v_zret g z rfl (by decide) (by decide +kernel) ⟨by rw [if_neg (fun q => q.1 c0)], by rw [if_neg (fun q => q.1 c0), eh1]⟩ (zcrn 0 0 h1_c.1 h1_c.2 (Nat.le_of_ble_eq_true rfl) (Nat.le_of_ble_eq_true rfl))
  · refine v_blk g [.iload_n 2, .i2l] (pc' := 19) (lv' := [(0, .ref m), (1, .int mt), (2, .int o)]) (st' := [.long o.toInt64]) (by decide +kernel) rfl rfl ?_
    refine v_ldc2 g kc_X8_100 (by decide +kernel) ?_
    refine v_ldc2 g kc_X8_102 (by decide +kernel) ?_
    refine v_callSp g (rest := []) (m_in _ _ _) cl_X8_94 rfl (Nat.le_of_ble_eq_true rfl) (by decide +kernel) ⟨Nat.le_of_ble_eq_true rfl, Nat.le_of_ble_eq_true rfl⟩ (zcsn 0 0 h1_c.1 h1_c.2 (Nat.le_of_ble_eq_true rfl) (Nat.le_of_ble_eq_true rfl)) ?_
    show zV F X h1 28 [(0, .ref m), (1, .int mt), (2, .int o)] [.int (x_in o.toInt64 (-1 : Int64) (3 : Int64))]
    refine v_ti (z := x_isIn o (-1) (3)) (in_eq o (-1) (3) rfl rfl) ?_
    refine v_if_ne g (off := 5) (tgt := 33) (by decide +kernel) (by decide) (fun c1 => ?_) (fun c1 => ?_)
    · obtain ⟨k, hk, rfl⟩ := isIn_k (N := 13) (by decide) c0
      have ek : (nI k).toNatClampNeg = k := nI_clamp (by omega)
      refine v_blk g [.aload_n 0] (pc' := 34) (lv' := [(0, .ref m), (1, .int (nI k)), (2, .int o)]) (st' := [.ref m]) (by decide +kernel) rfl rfl ?_
      refine v_get g h1_m fl_X8_9 rfl (by decide +kernel) ?_
      refine v_blk g [.iload_n 1, .iconst (-1)] (pc' := 39) (lv' := [(0, .ref m), (1, .int (nI k)), (2, .int o)]) (st' := [.int (-1 : Int32), .int (nI k), .ref (R 0)]) (by decide +kernel) rfl rfl ?_
      refine v_iast g h1_R0 k rfl (by omega) (Nat.le_of_ble_eq_true rfl) (by decide +kernel) ?_
      refine v_h (fun h2 eh2 => ?_)
      have h2_c : h2.2.1 = h.2.1 + 0 ∧ h2.2.2 = h.2.2 + 0 := zcs eh2 h1_c
      have h2_m : h2.1 m = some (oM R tp fk fp cn ha un dm wk hl pd pm cu ct dt hlt pdt pt hg (0 : Int32) at9 sz) := by rw [eh2]; exact z_so h1_m (z_ne hm k0 rfl)
      have h2_R0 : h2.1 (R 0) = some (aI 14 (upd SC k (-1 : Int32))) := by rw [eh2]; exact z_s_self _ _ _
      have h2_R1 : h2.1 (R 1) = some (aI 14 PN) := by rw [eh2]; exact z_so h1_R1 (Ne.symm (hR 0 1 (by decide) (by decide) (by decide)))
      refine v_blk g [.aload_n 0] (pc' := 41) (lv' := [(0, .ref m), (1, .int (nI k)), (2, .int o)]) (st' := [.ref m]) (by decide +kernel) rfl rfl ?_
      refine v_get g h2_m fl_X8_13 rfl (by decide +kernel) ?_
      refine v_blk g [.iload_n 1, .iload_n 2] (pc' := 46) (lv' := [(0, .ref m), (1, .int (nI k)), (2, .int o)]) (st' := [.int o, .int (nI k), .ref (R 1)]) (by decide +kernel) rfl rfl ?_
      refine v_iast g h2_R1 k rfl (by omega) (Nat.le_of_ble_eq_true rfl) (by decide +kernel) ?_
      refine v_h (fun h3 eh3 => ?_)
      have h3_c : h3.2.1 = h.2.1 + 0 ∧ h3.2.2 = h.2.2 + 0 := zcs eh3 h2_c
      have h3_m : h3.1 m = some (oM R tp fk fp cn ha un dm wk hl pd pm cu ct dt hlt pdt pt hg (0 : Int32) at9 sz) := by rw [eh3]; exact z_so h2_m (z_ne hm k1 rfl)
      have h3_R0 : h3.1 (R 0) = some (aI 14 (upd SC k (-1 : Int32))) := by rw [eh3]; exact z_so h2_R0 (hR 0 1 (by decide) (by decide) (by decide))
      have h3_R1 : h3.1 (R 1) = some (aI 14 (upd PN k o)) := by rw [eh3]; exact z_s_self _ _ _
      refine v_blk g [.iconst 1] (pc' := 48) (lv' := [(0, .ref m), (1, .int (nI k)), (2, .int o)]) (st' := [.int (1 : Int32)]) (by decide +kernel) rfl rfl ?_
      exact v_zret g z rfl (by decide) (by decide +kernel) ⟨by rw [if_pos ⟨c0, c1⟩], by rw [if_pos ⟨c0, c1⟩, eh3, eh2, eh1, ek]⟩ (zcrn 0 0 h3_c.1 h3_c.2 (Nat.le_of_ble_eq_true rfl) (Nat.le_of_ble_eq_true rfl))
    · refine v_blk g [.iconst 0] (pc' := 32) (lv' := [(0, .ref m), (1, .int mt), (2, .int o)]) (st' := [.int (0 : Int32)]) (by decide +kernel) rfl rfl ?_
      exact v_zret g z rfl (by decide) (by decide +kernel) ⟨by rw [if_neg (fun q => q.2 c1)], by rw [if_neg (fun q => q.2 c1), eh1]⟩ (zcrn 0 0 h1_c.1 h1_c.2 (Nat.le_of_ble_eq_true rfl) (Nat.le_of_ble_eq_true rfl))

set_option maxRecDepth 100000 in
set_option maxHeartbeats 4000000 in
theorem m_outcome {F : zF} {h : zH} {m : Nat} {R : Nat → Nat} {tp fk fp cn ha un dm wk pm cu ct dt pt hg th at9 sz : Int32} {hl pd hlt pdt : Int64} (hm : h.1 m = some (oM R tp fk fp cn ha un dm wk hl pd pm cu ct dt hlt pdt pt hg th at9 sz)) {SC : Nat → Int32} (k0 : h.1 (R 0) = some (aI 14 SC)) {PN : Nat → Int32} (k1 : h.1 (R 1) = some (aI 14 PN)) (mt : Int32) : zMet F yX8_outcome cX8_outcome 2 (some .int) { frames := 2, cells := 0, slots := 0, locals := 60 } [.ref m, .int mt] h (zP (z_s h m (oM R tp fk fp cn ha un dm wk hl pd pm cu ct dt hlt pdt pt hg 0 at9 sz)) (some (.int (if x_isIn mt 0 13 = 0 then -1 else mo SC PN mt.toNatClampNeg)))) := by
  refine zMet_of (lv := [(0, .ref m), (1, .int mt)]) (by decide) (by simp [lg_sl, Value.category]) rfl ?_
  intro X g z
  refine v_blk g [.aload_n 0, .iconst 0] (pc' := 2) (lv' := [(0, .ref m), (1, .int mt)]) (st' := [.int (0 : Int32), .ref m]) (by decide +kernel) rfl rfl ?_
  refine v_put g (fs' := oMl R tp fk fp cn ha un dm wk hl pd pm cu ct dt hlt pdt pt hg (0 : Int32) at9 sz) hm fl_X8_89 rfl rfl (Nat.le_of_ble_eq_true rfl) rfl (by decide +kernel) ?_
  refine v_h (fun h1 eh1 => ?_)
  have h1_c : h1.2.1 = h.2.1 + 0 ∧ h1.2.2 = h.2.2 + 0 := zcs eh1 ⟨rfl, rfl⟩
  have h1_m : h1.1 m = some (oM R tp fk fp cn ha un dm wk hl pd pm cu ct dt hlt pdt pt hg (0 : Int32) at9 sz) := by rw [eh1]; exact z_s_self _ _ _
  have h1_R0 : h1.1 (R 0) = some (aI 14 SC) := by rw [eh1]; exact z_so k0 (Ne.symm (z_ne hm k0 rfl))
  have h1_R1 : h1.1 (R 1) = some (aI 14 PN) := by rw [eh1]; exact z_so k1 (Ne.symm (z_ne hm k1 rfl))
  refine v_blk g [.iload_n 1, .i2l, .lconst 0] (pc' := 8) (lv' := [(0, .ref m), (1, .int mt)]) (st' := [.long (0 : Int64), .long mt.toInt64]) (by decide +kernel) rfl rfl ?_
  refine v_ldc2 g kc_X8_92 (by decide +kernel) ?_
  refine v_callSp g (rest := []) (m_in _ _ _) cl_X8_94 rfl (Nat.le_of_ble_eq_true rfl) (by decide +kernel) ⟨Nat.le_of_ble_eq_true rfl, Nat.le_of_ble_eq_true rfl⟩ (zcsn 0 0 h1_c.1 h1_c.2 (Nat.le_of_ble_eq_true rfl) (Nat.le_of_ble_eq_true rfl)) ?_
  show zV F X h1 14 [(0, .ref m), (1, .int mt)] [.int (x_in mt.toInt64 (0 : Int64) (13 : Int64))]
  refine v_ti (z := x_isIn mt (0) (13)) (in_eq mt (0) (13) rfl rfl) ?_
  refine v_if_eq g (off := 11) (tgt := 25) (by decide +kernel) (by decide) (fun c0 => ?_) (fun c0 => ?_)
  · refine v_blk g [.iconst (-1)] (pc' := 26) (lv' := [(0, .ref m), (1, .int mt)]) (st' := [.int (-1 : Int32)]) (by decide +kernel) rfl rfl ?_
    exact v_iret g z rfl (by decide +kernel) ⟨by rw [if_pos c0], by rw [eh1]⟩ (zcrn 0 0 h1_c.1 h1_c.2 (Nat.le_of_ble_eq_true rfl) (Nat.le_of_ble_eq_true rfl))
  · obtain ⟨k, hk, rfl⟩ := isIn_k (N := 13) (by decide) c0
    have ek : (nI k).toNatClampNeg = k := nI_clamp (by omega)
    refine v_blk g [.aload_n 0, .iload_n 1] (pc' := 19) (lv' := [(0, .ref m), (1, .int (nI k))]) (st' := [.int (nI k), .ref m]) (by decide +kernel) rfl rfl ?_
    refine v_callVp g (rest := []) (m_outcomeOf h1_m h1_R0 h1_R1 (by omega)) cl_X8_104 h1_m rfl rfl (Nat.le_of_ble_eq_true rfl) (by decide +kernel) ⟨Nat.le_of_ble_eq_true rfl, Nat.le_of_ble_eq_true rfl⟩ (zcsn 0 0 h1_c.1 h1_c.2 (Nat.le_of_ble_eq_true rfl) (Nat.le_of_ble_eq_true rfl)) ?_
    show zV F X h1 22 [(0, .ref m), (1, .int (nI k))] [.int (mo SC PN k)]
    refine v_goto g (off := 4) (tgt := 26) (by decide +kernel) (by decide) ?_
    exact v_iret g z rfl (by decide +kernel) ⟨by rw [if_neg c0, ek], by rw [eh1]⟩ (zcrn 0 0 h1_c.1 h1_c.2 (Nat.le_of_ble_eq_true rfl) (Nat.le_of_ble_eq_true rfl))

abbrev okV (o v : Int32) : Prop := ¬ x_isIn o 0 3 = 0 ∧ ¬ x_isIn v 0 9 = 0

set_option maxRecDepth 100000 in
set_option maxHeartbeats 4000000 in
theorem m_points {F : zF} {h : zH} {m : Nat} {R : Nat → Nat} {tp fk fp cn ha un dm wk pm cu ct dt pt hg th at9 sz : Int32} {hl pd hlt pdt : Int64} (hm : h.1 m = some (oM R tp fk fp cn ha un dm wk hl pd pm cu ct dt hlt pdt pt hg th at9 sz)) {V : Nat → Int32} (k2 : h.1 (R 2) = some (aI 4 V)) (mt o : Int32) : zMet F yX8_points cX8_points 3 (some .boolean) { frames := 2, cells := 0, slots := 0, locals := 60 } [.ref m, .int mt, .int o] h (zP (if okV mt o then z_s (z_s h m (oM R tp fk fp cn ha un dm wk hl pd pm cu ct dt hlt pdt pt hg 0 at9 sz)) (R 2) (aI 4 (upd V mt.toNatClampNeg o)) else z_s h m (oM R tp fk fp cn ha un dm wk hl pd pm cu ct dt hlt pdt pt hg 0 at9 sz)) (some (.int (if okV mt o then 1 else 0)))) := by
  refine zMet_of (lv := [(0, .ref m), (1, .int mt), (2, .int o)]) (by decide) (by simp [lg_sl, Value.category]) rfl ?_
  intro X g z
  refine v_blk g [.aload_n 0, .iconst 0] (pc' := 2) (lv' := [(0, .ref m), (1, .int mt), (2, .int o)]) (st' := [.int (0 : Int32), .ref m]) (by decide +kernel) rfl rfl ?_
  refine v_put g (fs' := oMl R tp fk fp cn ha un dm wk hl pd pm cu ct dt hlt pdt pt hg (0 : Int32) at9 sz) hm fl_X8_89 rfl rfl (Nat.le_of_ble_eq_true rfl) rfl (by decide +kernel) ?_
  refine v_h (fun h1 eh1 => ?_)
  have h1_c : h1.2.1 = h.2.1 + 0 ∧ h1.2.2 = h.2.2 + 0 := zcs eh1 ⟨rfl, rfl⟩
  have h1_m : h1.1 m = some (oM R tp fk fp cn ha un dm wk hl pd pm cu ct dt hlt pdt pt hg (0 : Int32) at9 sz) := by rw [eh1]; exact z_s_self _ _ _
  have h1_R2 : h1.1 (R 2) = some (aI 4 V) := by rw [eh1]; exact z_so k2 (Ne.symm (z_ne hm k2 rfl))
  refine v_blk g [.iload_n 1, .i2l, .lconst 0] (pc' := 8) (lv' := [(0, .ref m), (1, .int mt), (2, .int o)]) (st' := [.long (0 : Int64), .long mt.toInt64]) (by decide +kernel) rfl rfl ?_
  refine v_ldc2 g kc_X8_102 (by decide +kernel) ?_
  refine v_callSp g (rest := []) (m_in _ _ _) cl_X8_94 rfl (Nat.le_of_ble_eq_true rfl) (by decide +kernel) ⟨Nat.le_of_ble_eq_true rfl, Nat.le_of_ble_eq_true rfl⟩ (zcsn 0 0 h1_c.1 h1_c.2 (Nat.le_of_ble_eq_true rfl) (Nat.le_of_ble_eq_true rfl)) ?_
  show zV F X h1 14 [(0, .ref m), (1, .int mt), (2, .int o)] [.int (x_in mt.toInt64 (0 : Int64) (3 : Int64))]
  refine v_ti (z := x_isIn mt (0) (3)) (in_eq mt (0) (3) rfl rfl) ?_
  refine v_if_eq g (off := 15) (tgt := 29) (by decide +kernel) (by decide) (fun c0 => ?_) (fun c0 => ?_)
  · refine v_blk g [.iconst 0] (pc' := 30) (lv' := [(0, .ref m), (1, .int mt), (2, .int o)]) (st' := [.int (0 : Int32)]) (by decide +kernel) rfl rfl ?_
    exact v_zret g z rfl (by decide) (by decide +kernel) ⟨by rw [if_neg (fun q => q.1 c0)], by rw [if_neg (fun q => q.1 c0), eh1]⟩ (zcrn 0 0 h1_c.1 h1_c.2 (Nat.le_of_ble_eq_true rfl) (Nat.le_of_ble_eq_true rfl))
  · refine v_blk g [.iload_n 2, .i2l, .lconst 0] (pc' := 20) (lv' := [(0, .ref m), (1, .int mt), (2, .int o)]) (st' := [.long (0 : Int64), .long o.toInt64]) (by decide +kernel) rfl rfl ?_
    refine v_ldc2 g kc_X8_108 (by decide +kernel) ?_
    refine v_callSp g (rest := []) (m_in _ _ _) cl_X8_94 rfl (Nat.le_of_ble_eq_true rfl) (by decide +kernel) ⟨Nat.le_of_ble_eq_true rfl, Nat.le_of_ble_eq_true rfl⟩ (zcsn 0 0 h1_c.1 h1_c.2 (Nat.le_of_ble_eq_true rfl) (Nat.le_of_ble_eq_true rfl)) ?_
    show zV F X h1 26 [(0, .ref m), (1, .int mt), (2, .int o)] [.int (x_in o.toInt64 (0 : Int64) (9 : Int64))]
    refine v_ti (z := x_isIn o (0) (9)) (in_eq o (0) (9) rfl rfl) ?_
    refine v_if_ne g (off := 5) (tgt := 31) (by decide +kernel) (by decide) (fun c1 => ?_) (fun c1 => ?_)
    · obtain ⟨k, hk, rfl⟩ := isIn_k (N := 3) (by decide) c0
      have ek : (nI k).toNatClampNeg = k := nI_clamp (by omega)
      refine v_blk g [.aload_n 0] (pc' := 32) (lv' := [(0, .ref m), (1, .int (nI k)), (2, .int o)]) (st' := [.ref m]) (by decide +kernel) rfl rfl ?_
      refine v_get g h1_m fl_X8_16 rfl (by decide +kernel) ?_
      refine v_blk g [.iload_n 1, .iload_n 2] (pc' := 37) (lv' := [(0, .ref m), (1, .int (nI k)), (2, .int o)]) (st' := [.int o, .int (nI k), .ref (R 2)]) (by decide +kernel) rfl rfl ?_
      refine v_iast g h1_R2 k rfl (by omega) (Nat.le_of_ble_eq_true rfl) (by decide +kernel) ?_
      refine v_h (fun h2 eh2 => ?_)
      have h2_c : h2.2.1 = h.2.1 + 0 ∧ h2.2.2 = h.2.2 + 0 := zcs eh2 h1_c
      have h2_m : h2.1 m = some (oM R tp fk fp cn ha un dm wk hl pd pm cu ct dt hlt pdt pt hg (0 : Int32) at9 sz) := by rw [eh2]; exact z_so h1_m (z_ne hm k2 rfl)
      have h2_R2 : h2.1 (R 2) = some (aI 4 (upd V k o)) := by rw [eh2]; exact z_s_self _ _ _
      refine v_blk g [.iconst 1] (pc' := 39) (lv' := [(0, .ref m), (1, .int (nI k)), (2, .int o)]) (st' := [.int (1 : Int32)]) (by decide +kernel) rfl rfl ?_
      exact v_zret g z rfl (by decide) (by decide +kernel) ⟨by rw [if_pos ⟨c0, c1⟩], by rw [if_pos ⟨c0, c1⟩, eh2, eh1, ek]⟩ (zcrn 0 0 h2_c.1 h2_c.2 (Nat.le_of_ble_eq_true rfl) (Nat.le_of_ble_eq_true rfl))
    · refine v_blk g [.iconst 0] (pc' := 30) (lv' := [(0, .ref m), (1, .int mt), (2, .int o)]) (st' := [.int (0 : Int32)]) (by decide +kernel) rfl rfl ?_
      exact v_zret g z rfl (by decide) (by decide +kernel) ⟨by rw [if_neg (fun q => q.2 c1)], by rw [if_neg (fun q => q.2 c1), eh1]⟩ (zcrn 0 0 h1_c.1 h1_c.2 (Nat.le_of_ble_eq_true rfl) (Nat.le_of_ble_eq_true rfl))
