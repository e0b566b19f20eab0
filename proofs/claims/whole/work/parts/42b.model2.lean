set_option maxRecDepth 100000 in
set_option maxHeartbeats 4000000 in
theorem m_feed {F : zF} {h : zH} {m : Nat} {R : Nat → Nat} {fk fp cn ha un dm wk pm cu ct dt pt hg th at9 sz : Int32} {hl pd hlt pdt : Int64} {n : Nat} (hm : h.1 m = some (oM R (nI n) fk fp cn ha un dm wk hl pd pm cu ct dt hlt pdt pt hg th at9 sz)) {B : Nat → Int32} (k3 : h.1 (R 3) = some (aI 200 B)) (a b c d e : Int32) (hn : n ≤ 200) : zMet F yX8_feed cX8_feed 6 (some .int) { frames := 2, cells := 0, slots := 0, locals := 60 } [.ref m, .int a, .int b, .int c, .int d, .int e] h (zP (if n ≤ 180 then z_s (z_s h (R 3) (aI 200 (ap20 B n a b c d e))) m (oM R (nI (n + 20)) fk fp cn ha un dm wk hl pd pm cu ct dt hlt pdt pt hg 0 at9 sz) else z_s h m (oM R (nI n) fk fp cn ha un dm wk hl pd pm cu ct dt hlt pdt pt hg 0 at9 sz)) (some (.int (if n ≤ 180 then nI (n + 20) else -1)))) := by
  refine zMet_of (lv := [(0, .ref m), (1, .int a), (2, .int b), (3, .int c), (4, .int d), (5, .int e)]) (by decide) (by simp [lg_sl, Value.category]) rfl ?_
  intro X g z
  refine v_blk g [.aload_n 0, .iconst 0] (pc' := 2) (lv' := [(0, .ref m), (1, .int a), (2, .int b), (3, .int c), (4, .int d), (5, .int e)]) (st' := [.int (0 : Int32), .ref m]) (by decide +kernel) rfl rfl ?_
  refine v_put g (fs' := oMl R (nI n) fk fp cn ha un dm wk hl pd pm cu ct dt hlt pdt pt hg (0 : Int32) at9 sz) hm fl_X8_89 rfl rfl (Nat.le_of_ble_eq_true rfl) rfl (by decide +kernel) ?_
  refine v_h (fun h1 eh1 => ?_)
  have h1_c : h1.2.1 = h.2.1 + 0 ∧ h1.2.2 = h.2.2 + 0 := zcs eh1 ⟨rfl, rfl⟩
  have h1_m : h1.1 m = some (oM R (nI n) fk fp cn ha un dm wk hl pd pm cu ct dt hlt pdt pt hg (0 : Int32) at9 sz) := by rw [eh1]; exact z_s_self _ _ _
  have h1_R3 : h1.1 (R 3) = some (aI 200 B) := by rw [eh1]; exact z_so k3 (Ne.symm (z_ne hm k3 rfl))
  refine v_blk g [.aload_n 0] (pc' := 6) (lv' := [(0, .ref m), (1, .int a), (2, .int b), (3, .int c), (4, .int d), (5, .int e)]) (st' := [.ref m]) (by decide +kernel) rfl rfl ?_
  refine v_get g h1_m fl_X8_110 rfl (by decide +kernel) ?_
  refine v_blk g [.bipush 20, .iadd] (pc' := 12) (lv' := [(0, .ref m), (1, .int a), (2, .int b), (3, .int c), (4, .int d), (5, .int e)]) (st' := [.int ((nI n) + (20 : Int32))]) (by decide +kernel) rfl rfl ?_
  refine v_ti (z := nI (n + 20)) (nI_add n 20) ?_
  refine v_blk g [.sipush 200] (pc' := 15) (lv' := [(0, .ref m), (1, .int a), (2, .int b), (3, .int c), (4, .int d), (5, .int e)]) (st' := [.int (200 : Int32), .int (nI (n + 20))]) (by decide +kernel) rfl rfl ?_
  refine v_icmp_le g (off := 5) (tgt := 20) (by decide +kernel) (by decide) (fun c7 => ?_) (fun c7 => ?_)
  · have c0 : n ≤ 180 := by have := (nI_lei (a := n + 20) (b := 200) (by omega) (by decide)).mp c7; omega
    refine v_blk g [.aload_n 0, .iload_n 1] (pc' := 22) (lv' := [(0, .ref m), (1, .int a), (2, .int b), (3, .int c), (4, .int d), (5, .int e)]) (st' := [.int a, .ref m]) (by decide +kernel) rfl rfl ?_
    refine v_callVp g (rest := []) (m_lay (n := n) h1_m h1_R3 a (by omega)) cl_X8_113 h1_m rfl rfl (Nat.le_of_ble_eq_true rfl) (by decide +kernel) ⟨Nat.le_of_ble_eq_true rfl, Nat.le_of_ble_eq_true rfl⟩ (zcsn 0 0 h1_c.1 h1_c.2 (Nat.le_of_ble_eq_true rfl) (Nat.le_of_ble_eq_true rfl)) ?_
    show zV F X (z_s (z_s h1 (R 3) (aI 200 (ap4 B n a))) m (oM R (nI (n + 4)) fk fp cn ha un dm wk hl pd pm cu ct dt hlt pdt pt hg (0 : Int32) at9 sz)) 25 [(0, .ref m), (1, .int a), (2, .int b), (3, .int c), (4, .int d), (5, .int e)] []
    refine v_h (fun g0 eg0 => ?_)
    have g0_m : g0.1 m = some (oM R (nI (n + 4)) fk fp cn ha un dm wk hl pd pm cu ct dt hlt pdt pt hg (0 : Int32) at9 sz) := by rw [eg0]; exact z_s_self _ _ _
    have g0_R3 : g0.1 (R 3) = some (aI 200 (ap4 B n a)) := by rw [eg0]; exact z_so (z_s_self _ _ _) (z_ne k3 hm rfl)
    have g0_c : g0.2.1 = h.2.1 + 0 ∧ g0.2.2 = h.2.2 + 0 := by rw [eg0]; exact h1_c
    refine v_blk g [.aload_n 0, .iload_n 2] (pc' := 27) (lv' := [(0, .ref m), (1, .int a), (2, .int b), (3, .int c), (4, .int d), (5, .int e)]) (st' := [.int b, .ref m]) (by decide +kernel) rfl rfl ?_
    refine v_callVp g (rest := []) (m_lay (n := (n + 4)) g0_m g0_R3 b (by omega)) cl_X8_113 g0_m rfl rfl (Nat.le_of_ble_eq_true rfl) (by decide +kernel) ⟨Nat.le_of_ble_eq_true rfl, Nat.le_of_ble_eq_true rfl⟩ (zcsn 0 0 g0_c.1 g0_c.2 (Nat.le_of_ble_eq_true rfl) (Nat.le_of_ble_eq_true rfl)) ?_
    show zV F X (z_s (z_s g0 (R 3) (aI 200 (ap4 (ap4 B n a) (n + 4) b))) m (oM R (nI (n + 8)) fk fp cn ha un dm wk hl pd pm cu ct dt hlt pdt pt hg (0 : Int32) at9 sz)) 30 [(0, .ref m), (1, .int a), (2, .int b), (3, .int c), (4, .int d), (5, .int e)] []
    refine v_h (fun g1 eg1 => ?_)
    have g1_m : g1.1 m = some (oM R (nI (n + 8)) fk fp cn ha un dm wk hl pd pm cu ct dt hlt pdt pt hg (0 : Int32) at9 sz) := by rw [eg1]; exact z_s_self _ _ _
    have g1_R3 : g1.1 (R 3) = some (aI 200 (ap4 (ap4 B n a) (n + 4) b)) := by rw [eg1]; exact z_so (z_s_self _ _ _) (z_ne k3 hm rfl)
    have g1_c : g1.2.1 = h.2.1 + 0 ∧ g1.2.2 = h.2.2 + 0 := by rw [eg1]; exact g0_c
    refine v_blk g [.aload_n 0, .iload_n 3] (pc' := 32) (lv' := [(0, .ref m), (1, .int a), (2, .int b), (3, .int c), (4, .int d), (5, .int e)]) (st' := [.int c, .ref m]) (by decide +kernel) rfl rfl ?_
    refine v_callVp g (rest := []) (m_lay (n := (n + 8)) g1_m g1_R3 c (by omega)) cl_X8_113 g1_m rfl rfl (Nat.le_of_ble_eq_true rfl) (by decide +kernel) ⟨Nat.le_of_ble_eq_true rfl, Nat.le_of_ble_eq_true rfl⟩ (zcsn 0 0 g1_c.1 g1_c.2 (Nat.le_of_ble_eq_true rfl) (Nat.le_of_ble_eq_true rfl)) ?_
    show zV F X (z_s (z_s g1 (R 3) (aI 200 (ap4 (ap4 (ap4 B n a) (n + 4) b) (n + 8) c))) m (oM R (nI (n + 12)) fk fp cn ha un dm wk hl pd pm cu ct dt hlt pdt pt hg (0 : Int32) at9 sz)) 35 [(0, .ref m), (1, .int a), (2, .int b), (3, .int c), (4, .int d), (5, .int e)] []
    refine v_h (fun g2 eg2 => ?_)
    have g2_m : g2.1 m = some (oM R (nI (n + 12)) fk fp cn ha un dm wk hl pd pm cu ct dt hlt pdt pt hg (0 : Int32) at9 sz) := by rw [eg2]; exact z_s_self _ _ _
    have g2_R3 : g2.1 (R 3) = some (aI 200 (ap4 (ap4 (ap4 B n a) (n + 4) b) (n + 8) c)) := by rw [eg2]; exact z_so (z_s_self _ _ _) (z_ne k3 hm rfl)
    have g2_c : g2.2.1 = h.2.1 + 0 ∧ g2.2.2 = h.2.2 + 0 := by rw [eg2]; exact g1_c
    refine v_blk g [.aload_n 0, .iload 4] (pc' := 38) (lv' := [(0, .ref m), (1, .int a), (2, .int b), (3, .int c), (4, .int d), (5, .int e)]) (st' := [.int d, .ref m]) (by decide +kernel) rfl rfl ?_
    refine v_callVp g (rest := []) (m_lay (n := (n + 12)) g2_m g2_R3 d (by omega)) cl_X8_113 g2_m rfl rfl (Nat.le_of_ble_eq_true rfl) (by decide +kernel) ⟨Nat.le_of_ble_eq_true rfl, Nat.le_of_ble_eq_true rfl⟩ (zcsn 0 0 g2_c.1 g2_c.2 (Nat.le_of_ble_eq_true rfl) (Nat.le_of_ble_eq_true rfl)) ?_
    show zV F X (z_s (z_s g2 (R 3) (aI 200 (ap4 (ap4 (ap4 (ap4 B n a) (n + 4) b) (n + 8) c) (n + 12) d))) m (oM R (nI (n + 16)) fk fp cn ha un dm wk hl pd pm cu ct dt hlt pdt pt hg (0 : Int32) at9 sz)) 41 [(0, .ref m), (1, .int a), (2, .int b), (3, .int c), (4, .int d), (5, .int e)] []
    refine v_h (fun g3 eg3 => ?_)
    have g3_m : g3.1 m = some (oM R (nI (n + 16)) fk fp cn ha un dm wk hl pd pm cu ct dt hlt pdt pt hg (0 : Int32) at9 sz) := by rw [eg3]; exact z_s_self _ _ _
    have g3_R3 : g3.1 (R 3) = some (aI 200 (ap4 (ap4 (ap4 (ap4 B n a) (n + 4) b) (n + 8) c) (n + 12) d)) := by rw [eg3]; exact z_so (z_s_self _ _ _) (z_ne k3 hm rfl)
    have g3_c : g3.2.1 = h.2.1 + 0 ∧ g3.2.2 = h.2.2 + 0 := by rw [eg3]; exact g2_c
    refine v_blk g [.aload_n 0, .iload 5] (pc' := 44) (lv' := [(0, .ref m), (1, .int a), (2, .int b), (3, .int c), (4, .int d), (5, .int e)]) (st' := [.int e, .ref m]) (by decide +kernel) rfl rfl ?_
    refine v_callVp g (rest := []) (m_lay (n := (n + 16)) g3_m g3_R3 e (by omega)) cl_X8_113 g3_m rfl rfl (Nat.le_of_ble_eq_true rfl) (by decide +kernel) ⟨Nat.le_of_ble_eq_true rfl, Nat.le_of_ble_eq_true rfl⟩ (zcsn 0 0 g3_c.1 g3_c.2 (Nat.le_of_ble_eq_true rfl) (Nat.le_of_ble_eq_true rfl)) ?_
    show zV F X (z_s (z_s g3 (R 3) (aI 200 (ap4 (ap4 (ap4 (ap4 (ap4 B n a) (n + 4) b) (n + 8) c) (n + 12) d) (n + 16) e))) m (oM R (nI (n + 20)) fk fp cn ha un dm wk hl pd pm cu ct dt hlt pdt pt hg (0 : Int32) at9 sz)) 47 [(0, .ref m), (1, .int a), (2, .int b), (3, .int c), (4, .int d), (5, .int e)] []
    refine v_h (fun g4 eg4 => ?_)
    have g4_m : g4.1 m = some (oM R (nI (n + 20)) fk fp cn ha un dm wk hl pd pm cu ct dt hlt pdt pt hg (0 : Int32) at9 sz) := by rw [eg4]; exact z_s_self _ _ _
    have g4_R3 : g4.1 (R 3) = some (aI 200 (ap4 (ap4 (ap4 (ap4 (ap4 B n a) (n + 4) b) (n + 8) c) (n + 12) d) (n + 16) e)) := by rw [eg4]; exact z_so (z_s_self _ _ _) (z_ne k3 hm rfl)
    have g4_c : g4.2.1 = h.2.1 + 0 ∧ g4.2.2 = h.2.2 + 0 := by rw [eg4]; exact g3_c
    refine v_blk g [.aload_n 0] (pc' := 48) (lv' := [(0, .ref m), (1, .int a), (2, .int b), (3, .int c), (4, .int d), (5, .int e)]) (st' := [.ref m]) (by decide +kernel) rfl rfl ?_
    refine v_get g g4_m fl_X8_110 rfl (by decide +kernel) ?_
    exact v_iret g z rfl (by decide +kernel) ⟨by rw [if_pos c0], by rw [if_pos c0, eg4, eg3, eg2, eg1, eg0, eh1]; rw [z_scomm h _ _ (z_ne hm k3 rfl)]; simp only [z_s2 _ _ _ _ (z_ne k3 hm rfl), z_ss]; rfl⟩ (zcrn 0 0 g4_c.1 g4_c.2 (Nat.le_of_ble_eq_true rfl) (Nat.le_of_ble_eq_true rfl))
  · have c0 : ¬ n ≤ 180 := fun q => c7 (nI_le (b := 200) (by omega) (by decide))
    refine v_blk g [.iconst (-1)] (pc' := 19) (lv' := [(0, .ref m), (1, .int a), (2, .int b), (3, .int c), (4, .int d), (5, .int e)]) (st' := [.int (-1 : Int32)]) (by decide +kernel) rfl rfl ?_
    exact v_iret g z rfl (by decide +kernel) ⟨by rw [if_neg c0], by rw [if_neg c0, eh1]⟩ (zcrn 0 0 h1_c.1 h1_c.2 (Nat.le_of_ble_eq_true rfl) (Nat.le_of_ble_eq_true rfl))
