set_option maxRecDepth 100000 in
set_option maxHeartbeats 4000000 in
theorem m_unlike {F : zF} {h : zH} {m : Nat} {R : Nat → Nat} {tp fk fp ha un dm wk pm cu ct dt pt hg th at9 sz : Int32} {hl pd hlt pdt : Int64} {n : Nat} (hm : h.1 m = some (oM R tp fk fp (nI n) ha un dm wk hl pd pm cu ct dt hlt pdt pt hg th at9 sz)) {LN : Nat → Int32} (k4 : h.1 (R 4) = some (aI 10240 LN)) (hn : n ≤ 20) (v x : Int32) : zMet F yX8_unlike cX8_unlike 4 (some .int) { frames := 3, cells := 0, slots := 0, locals := 90 } [.ref m, .int v, .int x] h (zP (z_s h m (oM R tp fk fp (nI n) ha un dm wk hl pd pm cu ct dt hlt pdt pt hg 0 at9 sz)) (some (.int (if ¬ x_C n v = 0 ∧ ¬ x_C n x = 0 then s_unl (hs9 LN v.toNatClampNeg) (hs9 LN x.toNatClampNeg) else -2)))) := by
  refine zMet_of (lv := [(0, .ref m), (1, .int v), (2, .int x)]) (by decide) (by simp [lg_sl, Value.category]) rfl ?_
  intro X g z
  refine v_blk g [.aload_n 0, .iconst 0] (pc' := 2) (lv' := [(0, .ref m), (1, .int v), (2, .int x)]) (st' := [.int (0 : Int32), .ref m]) (by decide +kernel) rfl rfl ?_
  refine v_put g (fs' := oMl R tp fk fp (nI n) ha un dm wk hl pd pm cu ct dt hlt pdt pt hg (0 : Int32) at9 sz) hm fl_X8_89 rfl rfl (Nat.le_of_ble_eq_true rfl) rfl (by decide +kernel) ?_
  refine v_h (fun h1 eh1 => ?_)
  have h1_c : h1.2.1 = h.2.1 + 0 ∧ h1.2.2 = h.2.2 + 0 := zcs eh1 ⟨rfl, rfl⟩
  have h1_m : h1.1 m = some (oM R tp fk fp (nI n) ha un dm wk hl pd pm cu ct dt hlt pdt pt hg (0 : Int32) at9 sz) := by rw [eh1]; exact z_s_self _ _ _
  have h1_R4 : h1.1 (R 4) = some (aI 10240 LN) := by rw [eh1]; exact z_so k4 (Ne.symm (z_ne hm k4 rfl))
  refine v_blk g [.aload_n 0, .iload_n 1] (pc' := 7) (lv' := [(0, .ref m), (1, .int v), (2, .int x)]) (st' := [.int v, .ref m]) (by decide +kernel) rfl rfl ?_
  refine v_callVp g (rest := []) (m_isCoupon h1_m (by omega) v) cl_X8_183 h1_m rfl rfl (Nat.le_of_ble_eq_true rfl) (by decide +kernel) ⟨Nat.le_of_ble_eq_true rfl, Nat.le_of_ble_eq_true rfl⟩ (zcsn 0 0 h1_c.1 h1_c.2 (Nat.le_of_ble_eq_true rfl) (Nat.le_of_ble_eq_true rfl)) ?_
  show zV F X h1 10 [(0, .ref m), (1, .int v), (2, .int x)] [.int (x_C n v)]
  refine v_if_eq g (off := 11) (tgt := 21) (by decide +kernel) (by decide) (fun c0 => ?_) (fun c0 => ?_)
  · refine v_blk g [.bipush (-2)] (pc' := 23) (lv' := [(0, .ref m), (1, .int v), (2, .int x)]) (st' := [.int (-2 : Int32)]) (by decide +kernel) rfl rfl ?_
    exact v_iret g z rfl (by decide +kernel) ⟨by rw [if_neg (fun q => q.1 c0)], by rw [eh1]⟩ (zcrn 0 0 h1_c.1 h1_c.2 (Nat.le_of_ble_eq_true rfl) (Nat.le_of_ble_eq_true rfl))
  · refine v_blk g [.aload_n 0, .iload_n 2] (pc' := 15) (lv' := [(0, .ref m), (1, .int v), (2, .int x)]) (st' := [.int x, .ref m]) (by decide +kernel) rfl rfl ?_
    refine v_callVp g (rest := []) (m_isCoupon h1_m (by omega) x) cl_X8_183 h1_m rfl rfl (Nat.le_of_ble_eq_true rfl) (by decide +kernel) ⟨Nat.le_of_ble_eq_true rfl, Nat.le_of_ble_eq_true rfl⟩ (zcsn 0 0 h1_c.1 h1_c.2 (Nat.le_of_ble_eq_true rfl) (Nat.le_of_ble_eq_true rfl)) ?_
    show zV F X h1 18 [(0, .ref m), (1, .int v), (2, .int x)] [.int (x_C n x)]
    refine v_if_ne g (off := 6) (tgt := 24) (by decide +kernel) (by decide) (fun c1 => ?_) (fun c1 => ?_)
    · obtain ⟨k, hk, rfl⟩ := x_C_k (by omega) c0
      have ek : (nI k).toNatClampNeg = k := nI_clamp (by omega)
      obtain ⟨j, hj, rfl⟩ := x_C_k (by omega) c1
      have ej : (nI j).toNatClampNeg = j := nI_clamp (by omega)
      refine v_blk g [.iconst 0, .istore_n 3] (pc' := 26) (lv' := [(3, .int (0 : Int32)), (0, .ref m), (1, .int (nI k)), (2, .int (nI j))]) (st' := []) (by decide +kernel) rfl rfl ?_
      have key : ∀ i, i ≤ 16384 → (∀ n, n < i → hs9 LN k n = hs9 LN j n) → zV F X h1 26 [(3, .int (nI i)), (0, .ref m), (1, .int (nI k)), (2, .int (nI j))] [] := by
        refine z_up (P := fun i => (∀ n, n < i → hs9 LN k n = hs9 LN j n) → zV F X h1 26 [(3, .int (nI i)), (0, .ref m), (1, .int (nI k)), (2, .int (nI j))] []) 16384 ?_ ?_
        · intro hpre
          refine v_blk g [.iload_n 3, .sipush 16384] (pc' := 30) (lv' := [(3, .int (nI 16384)), (0, .ref m), (1, .int (nI k)), (2, .int (nI j))]) (st' := [.int (16384 : Int32), .int (nI 16384)]) (by decide +kernel) rfl rfl ?_
          refine v_icmp_ge g (off := 26) (tgt := 56) (by decide +kernel) (by decide) (fun _ => ?_) (fun c => absurd c (fun q => q (by decide)))
          refine v_blk g [.iconst (-1)] (pc' := 57) (lv' := [(3, .int (nI 16384)), (0, .ref m), (1, .int (nI k)), (2, .int (nI j))]) (st' := [.int (-1 : Int32)]) (by decide +kernel) rfl rfl ?_
          exact v_iret g z rfl (by decide +kernel) ⟨by rw [if_pos ⟨c0, c1⟩, ek, ej, s_unl, first_none (fun n hn => by simp [hpre n hn]), if_neg (by omega)], by rw [eh1]⟩ (zcrn 0 0 h1_c.1 h1_c.2 (Nat.le_of_ble_eq_true rfl) (Nat.le_of_ble_eq_true rfl))
        · intro i hi ih hpre
          refine v_blk g [.iload_n 3, .sipush 16384] (pc' := 30) (lv' := [(3, .int (nI i)), (0, .ref m), (1, .int (nI k)), (2, .int (nI j))]) (st' := [.int (16384 : Int32), .int (nI i)]) (by decide +kernel) rfl rfl ?_
          refine v_icmp_ge g (off := 26) (tgt := 56) (by decide +kernel) (by decide) (fun c => absurd c (nI_ge (b := 16384) hi (by decide))) (fun _ => ?_)
          refine v_blk g [.aload_n 0, .iload_n 1, .iload_n 3] (pc' := 36) (lv' := [(3, .int (nI i)), (0, .ref m), (1, .int (nI k)), (2, .int (nI j))]) (st' := [.int (nI i), .int (nI k), .ref m]) (by decide +kernel) rfl rfl ?_
          refine v_callVp g (rest := []) (m_has h1_m h1_R4 (by omega : k < 20) (by omega)) cl_X8_180 h1_m rfl rfl (Nat.le_of_ble_eq_true rfl) (by decide +kernel) ⟨Nat.le_of_ble_eq_true rfl, Nat.le_of_ble_eq_true rfl⟩ (zcsn 0 0 h1_c.1 h1_c.2 (Nat.le_of_ble_eq_true rfl) (Nat.le_of_ble_eq_true rfl)) ?_
          show zV F X h1 39 [(3, .int (nI i)), (0, .ref m), (1, .int (nI k)), (2, .int (nI j))] [.int (b01 (hs9 LN k i))]
          refine v_blk g [.aload_n 0, .iload_n 2, .iload_n 3] (pc' := 42) (lv' := [(3, .int (nI i)), (0, .ref m), (1, .int (nI k)), (2, .int (nI j))]) (st' := [.int (nI i), .int (nI j), .ref m, .int (b01 (hs9 LN k i))]) (by decide +kernel) rfl rfl ?_
          refine v_callVp g (rest := [.int (b01 (hs9 LN k i))]) (m_has h1_m h1_R4 (by omega : j < 20) (by omega)) cl_X8_180 h1_m rfl rfl (Nat.le_of_ble_eq_true rfl) (by decide +kernel) ⟨Nat.le_of_ble_eq_true rfl, Nat.le_of_ble_eq_true rfl⟩ (zcsn 0 0 h1_c.1 h1_c.2 (Nat.le_of_ble_eq_true rfl) (Nat.le_of_ble_eq_true rfl)) ?_
          show zV F X h1 45 [(3, .int (nI i)), (0, .ref m), (1, .int (nI k)), (2, .int (nI j))] [.int (b01 (hs9 LN j i)), .int (b01 (hs9 LN k i))]
          refine v_icmp_eq g (off := 5) (tgt := 50) (by decide +kernel) (by decide) (fun c2 => ?_) (fun c2 => ?_)
          · refine v_blk g [.iinc 3 1] (pc' := 53) (lv' := [(3, .int ((nI i) + (1 : Int32))), (0, .ref m), (1, .int (nI k)), (2, .int (nI j))]) (st' := []) (by decide +kernel) rfl rfl ?_
            refine v_goto g (off := -27) (tgt := 26) (by decide +kernel) (by decide) ?_
            refine v_lv [0, 1, 2, 3] (lv' := [(3, .int ((nI i) + (1 : Int32))), (0, .ref m), (1, .int (nI k)), (2, .int (nI j))]) rfl ?_
            exact v_eq (by rw [nI_1]) rfl (ih (fun n hn => by rcases Nat.lt_or_ge n i with q | q; exact hpre n q; rw [show n = i by omega]; exact b01_e.mp c2))
          · have e9 : fa_first (fun n => hs9 LN k n != hs9 LN j n) 16384 = i := first_is hi (by simp; exact fun q => c2 (b01_e.mpr q)) (fun n hn => by simp [hpre n hn])
            refine v_blk g [.iload_n 3] (pc' := 49) (lv' := [(3, .int (nI i)), (0, .ref m), (1, .int (nI k)), (2, .int (nI j))]) (st' := [.int (nI i)]) (by decide +kernel) rfl rfl ?_
            exact v_iret g z rfl (by decide +kernel) ⟨by rw [if_pos ⟨c0, c1⟩, ek, ej, s_unl, e9, if_pos hi], by rw [eh1]⟩ (zcrn 0 0 h1_c.1 h1_c.2 (Nat.le_of_ble_eq_true rfl) (Nat.le_of_ble_eq_true rfl))
      exact key 0 (by omega) (fun n hn => absurd hn (Nat.not_lt_zero n))
    · refine v_blk g [.bipush (-2)] (pc' := 23) (lv' := [(0, .ref m), (1, .int v), (2, .int x)]) (st' := [.int (-2 : Int32)]) (by decide +kernel) rfl rfl ?_
      exact v_iret g z rfl (by decide +kernel) ⟨by rw [if_neg (fun q => q.2 c1)], by rw [eh1]⟩ (zcrn 0 0 h1_c.1 h1_c.2 (Nat.le_of_ble_eq_true rfl) (Nat.le_of_ble_eq_true rfl))
