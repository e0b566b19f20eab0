/-! all lines of two sets put together -/
def jn2 (f g : Nat → Int64) (n : Nat) : Prop := ∃ l, l < 16384 ∧ lb f l = true ∧ jn1 g l n
theorem jn2_comm (f g : Nat → Int64) (n : Nat) : jn2 f g n ↔ jn2 g f n := by
  have key : ∀ f g : Nat → Int64, jn2 f g n → jn2 g f n := by
    rintro f g ⟨l, h1, h2, k, h3, h4, h5, h6⟩
    exact ⟨k, h3, h4, l, h1, h2, by rw [Nat.and_comm]; exact h5, by rw [Nat.or_comm]; exact h6⟩
  exact ⟨key f g, key g f⟩

set_option maxRecDepth 100000 in
set_option maxHeartbeats 4000000 in
/-- LineSet.becomeJoined -/
theorem c_LS_joined {F : zF} {h : zH} {a w b1 u1 b2 u2 : Nat} {f f1 f2 : Nat → Int64} (ha : h.1 a = some (oB 3 [.ref w])) (hw : h.1 w = some (aJ 256 f)) (hb1 : h.1 b1 = some (oB 3 [.ref u1])) (hu1 : h.1 u1 = some (aJ 256 f1)) (hb2 : h.1 b2 = some (oB 3 [.ref u2])) (hu2 : h.1 u2 = some (aJ 256 f2)) (hn1 : u1 ≠ w) (hn2 : u2 ≠ w) : zMet F yX3_becomeJoined cX3_becomeJoined 10 none { frames := 3, cells := 0, slots := 0, locals := 90 } [.ref a, .ref b1, .ref b2] h (fun v2 h2 => v2 = none ∧ ∃ G, h2 = z_s h w (aJ 256 G) ∧ ∀ n, n < 16384 → (lb G n = true ↔ jn2 f1 f2 n)) := by
  refine zMet_of (lv := [(0, .ref a), (1, .ref b1), (2, .ref b2)]) (by decide) (by simp [lg_sl, Value.category]) rfl ?_
  intro X g z
  have nb : ∀ {b u : Nat}, h.1 b = some (oB 3 [.ref u]) → b ≠ w := fun q => z_ne q hw rfl
  have core : ∀ (bf uf bm um : Nat) (ff fm : Nat → Int64) (G0 : Nat → Int64), h.1 bf = some (oB 3 [.ref uf]) → h.1 uf = some (aJ 256 ff) → uf ≠ w → h.1 bm = some (oB 3 [.ref um]) → h.1 um = some (aJ 256 fm) → um ≠ w → (∀ n, jn2 ff fm n ↔ jn2 f1 f2 n) → (∀ n, n < 16384 → lb G0 n = false) → zV F X (z_s h w (aJ 256 G0)) 47 [(5, .ref bm), (4, .ref bf), (0, .ref a)] [] := by
    intro bf uf bm um ff fm G0 hbf huf hnf hbm hum hnm hsp hG0
    refine v_blk g [.iconst 0, .istore 6] (pc' := 50) (lv' := [(6, .int (0 : Int32)), (5, .ref bm), (4, .ref bf), (0, .ref a)]) (st' := []) (by decide +kernel) rfl rfl ?_
    have keyo : ∀ i, i ≤ 256 → ∀ G : Nat → Int64, (∀ n, n < 16384 → (lb G n = true ↔ ∃ l, l < 64 * i ∧ lb ff l = true ∧ jn1 fm l n)) → zV F X (z_s h w (aJ 256 G)) 50 [(6, .int (nI i)), (5, .ref bm), (4, .ref bf), (0, .ref a)] [] := by
      refine z_up (P := fun i => ∀ G : Nat → Int64, (∀ n, n < 16384 → (lb G n = true ↔ ∃ l, l < 64 * i ∧ lb ff l = true ∧ jn1 fm l n)) → zV F X (z_s h w (aJ 256 G)) 50 [(6, .int (nI i)), (5, .ref bm), (4, .ref bf), (0, .ref a)] []) 256 ?_ ?_
      · intro G hG
        refine v_blk g [.iload 6, .sipush 256] (pc' := 55) (lv' := [(6, .int (nI 256)), (5, .ref bm), (4, .ref bf), (0, .ref a)]) (st' := [.int (256 : Int32), .int (nI 256)]) (by decide +kernel) rfl rfl ?_
        refine v_icmp_ge g (off := 59) (tgt := 114) (by decide +kernel) (by decide) (fun _ => ?_) (fun c => absurd c (fun q => q (by decide)))
        exact v_vret g z rfl (by decide +kernel) ⟨rfl, G, rfl, fun n hn => by rw [hG n hn]; exact hsp n⟩ (zcrn 0 0 rfl rfl (Nat.le_of_ble_eq_true rfl) (Nat.le_of_ble_eq_true rfl))
      · intro i hi iho G hG
        refine v_blk g [.iload 6, .sipush 256] (pc' := 55) (lv' := [(6, .int (nI i)), (5, .ref bm), (4, .ref bf), (0, .ref a)]) (st' := [.int (256 : Int32), .int (nI i)]) (by decide +kernel) rfl rfl ?_
        refine v_icmp_ge g (off := 59) (tgt := 114) (by decide +kernel) (by decide) (fun c => absurd c (nI_ge (b := 256) hi (by decide))) (fun _ => ?_)
        refine v_blk g [.aload 4] (pc' := 60) (lv' := [(6, .int (nI i)), (5, .ref bm), (4, .ref bf), (0, .ref a)]) (st' := [.ref bf]) (by decide +kernel) rfl rfl ?_
        refine v_get g (z_so hbf (nb hbf)) fl_X3_11 rfl (by decide +kernel) ?_
        refine v_blk g [.iload 6] (pc' := 65) (lv' := [(6, .int (nI i)), (5, .ref bm), (4, .ref bf), (0, .ref a)]) (st' := [.int (nI i), .ref uf]) (by decide +kernel) rfl rfl ?_
        refine v_lald g (z_so huf hnf) i rfl hi (Nat.le_of_ble_eq_true rfl) (by decide +kernel) ?_
        refine v_blk g [.lstore 7, .lload 7] (pc' := 70) (lv' := [(7, .long (ff i)), (6, .int (nI i)), (5, .ref bm), (4, .ref bf), (0, .ref a)]) (st' := [.long (ff i)]) (by decide +kernel) rfl rfl ?_
        refine v_callSp g (rest := []) (c_bitCountL _) cl_X3_39 rfl (Nat.le_of_ble_eq_true rfl) (by decide +kernel) ⟨Nat.le_of_ble_eq_true rfl, Nat.le_of_ble_eq_true rfl⟩ (zcsn 0 0 rfl rfl (Nat.le_of_ble_eq_true rfl) (Nat.le_of_ble_eq_true rfl)) ?_
        show zV F X (z_s h w (aJ 256 G)) 73 [(7, .long (ff i)), (6, .int (nI i)), (5, .ref bm), (4, .ref bf), (0, .ref a)] [.int (nI (pc64 (ff i)))]
        refine v_blk g [.istore 9] (pc' := 75) (lv' := [(9, .int (nI (pc64 (ff i)))), (7, .long (ff i)), (6, .int (nI i)), (5, .ref bm), (4, .ref bf), (0, .ref a)]) (st' := []) (by decide +kernel) rfl rfl ?_
        have keyi : ∀ t, t ≤ pc64 (ff i) → ∀ (G : Nat → Int64) (y : Int64), (∀ j, j < 64 → (uN y).testBit j = ((uN (ff i)).testBit j && decide (t ≤ fb_ct (fun q => (uN (ff i)).testBit q) j))) → (∀ n, n < 16384 → (lb G n = true ↔ ((∃ l, l < 64 * i ∧ lb ff l = true ∧ jn1 fm l n) ∨ ∃ j, j < 64 ∧ (uN (ff i)).testBit j = true ∧ fb_ct (fun q => (uN (ff i)).testBit q) j < t ∧ jn1 fm (64 * i + j) n))) → zV F X (z_s h w (aJ 256 G)) 75 [(9, .int (nI (pc64 (ff i) - t))), (7, .long y), (6, .int (nI i)), (5, .ref bm), (4, .ref bf), (0, .ref a)] [] := by
          refine z_up (P := fun t => ∀ (G : Nat → Int64) (y : Int64), (∀ j, j < 64 → (uN y).testBit j = ((uN (ff i)).testBit j && decide (t ≤ fb_ct (fun q => (uN (ff i)).testBit q) j))) → (∀ n, n < 16384 → (lb G n = true ↔ ((∃ l, l < 64 * i ∧ lb ff l = true ∧ jn1 fm l n) ∨ ∃ j, j < 64 ∧ (uN (ff i)).testBit j = true ∧ fb_ct (fun q => (uN (ff i)).testBit q) j < t ∧ jn1 fm (64 * i + j) n))) → zV F X (z_s h w (aJ 256 G)) 75 [(9, .int (nI (pc64 (ff i) - t))), (7, .long y), (6, .int (nI i)), (5, .ref bm), (4, .ref bf), (0, .ref a)] []) (pc64 (ff i)) ?_ ?_
          · intro G y hy hG
            refine v_blk g [.iload 9] (pc' := 77) (lv' := [(9, .int (nI (pc64 (ff i) - pc64 (ff i)))), (7, .long y), (6, .int (nI i)), (5, .ref bm), (4, .ref bf), (0, .ref a)]) (st' := [.int (nI (pc64 (ff i) - pc64 (ff i)))]) (by decide +kernel) rfl rfl ?_
            refine v_if_le g (off := 31) (tgt := 108) (by decide +kernel) (by decide) (fun _ => ?_) (fun c => absurd c (fun q => q (by rw [Nat.sub_self]; decide)))
            refine v_blk g [.iinc 6 1] (pc' := 111) (lv' := [(6, .int ((nI i) + (1 : Int32))), (9, .int (nI (pc64 (ff i) - pc64 (ff i)))), (7, .long y), (5, .ref bm), (4, .ref bf), (0, .ref a)]) (st' := []) (by decide +kernel) rfl rfl ?_
            refine v_goto g (off := -61) (tgt := 50) (by decide +kernel) (by decide) ?_
            refine v_lv [0, 3, 4, 5] (lv' := [(6, .int ((nI i) + (1 : Int32))), (5, .ref bm), (4, .ref bf), (0, .ref a)]) rfl ?_
            refine v_eq (by rw [nI_1]) rfl (iho G (fun n hn => ?_))
            rw [hG n hn]
            constructor
            · rintro (⟨l, h1, h2⟩ | ⟨j, h1, h2, h3, h4⟩)
              · exact ⟨l, by omega, h2⟩
              · exact ⟨64 * i + j, by omega, by rw [lb_at ff i h1]; exact h2, h4⟩
            · rintro ⟨l, h1, h2, h3⟩
              rcases Nat.lt_or_ge l (64 * i) with q | q
              · exact Or.inl ⟨l, q, h2, h3⟩
              · have e : l = 64 * i + (l - 64 * i) := by omega
                rw [e, lb_at ff i (by omega)] at h2
                rw [e] at h3
                refine Or.inr ⟨l - 64 * i, by omega, h2, ?_, h3⟩
                have h4 : fb_ct (fun q => (uN (ff i)).testBit q) (l - 64 * i + 1) ≤ fb_ct (fun q => (uN (ff i)).testBit q) 64 := fb_ct_mono _ (by omega)
                rw [fb_ct_succ, h2] at h4
                have h5 : pc64 (ff i) = fb_ct (fun q => (uN (ff i)).testBit q) 64 := rfl
                simp at h4
                omega
          · intro t ht ihi G y hy hG
            have hpc : pc64 (ff i) ≤ 64 := fb_ct_le _ 64
            obtain ⟨p, hp, hp2, hp3⟩ := fb_ct_kth (p := fun q => (uN (ff i)).testBit q) (k := t) (n := 64) ht
            have hyp : (uN y).testBit p = true := by rw [hy p hp, hp2, hp3]; simp
            have hlow : ∀ q, q < p → (uN y).testBit q = false := fun q hq => by
              rw [hy q (by omega)]
              cases hxq : (uN (ff i)).testBit q
              · rfl
              · have h1 := fb_ct_mono (fun q => (uN (ff i)).testBit q) (show q + 1 ≤ p from hq)
                rw [fb_ct_succ, hxq, hp3] at h1
                simp at h1 ⊢
                omega
            have hne : 1 ≤ uN y := by
              rcases Nat.eq_zero_or_pos (uN y) with q | q
              · rw [q] at hyp; simp at hyp
              · exact q
            refine v_blk g [.iload 9] (pc' := 77) (lv' := [(9, .int (nI (pc64 (ff i) - t))), (7, .long y), (6, .int (nI i)), (5, .ref bm), (4, .ref bf), (0, .ref a)]) (st' := [.int (nI (pc64 (ff i) - t))]) (by decide +kernel) rfl rfl ?_
            refine v_if_le g (off := 31) (tgt := 108) (by decide +kernel) (by decide) (fun c => absurd c (nI_nle (by omega) (by omega))) (fun _ => ?_)
            refine v_blk g [.aload_n 0, .iload 6, .lload 7] (pc' := 85) (lv' := [(9, .int (nI (pc64 (ff i) - t))), (7, .long y), (6, .int (nI i)), (5, .ref bm), (4, .ref bf), (0, .ref a)]) (st' := [.long y, .int (nI i), .ref a]) (by decide +kernel) rfl rfl ?_
            refine v_callSp g (rest := [.int (nI i), .ref a]) (c_ntzL hyp hlow hp) cl_X3_44 rfl (Nat.le_of_ble_eq_true rfl) (by decide +kernel) ⟨Nat.le_of_ble_eq_true rfl, Nat.le_of_ble_eq_true rfl⟩ (zcsn 0 0 rfl rfl (Nat.le_of_ble_eq_true rfl) (Nat.le_of_ble_eq_true rfl)) ?_
            show zV F X (z_s h w (aJ 256 G)) 88 [(9, .int (nI (pc64 (ff i) - t))), (7, .long y), (6, .int (nI i)), (5, .ref bm), (4, .ref bf), (0, .ref a)] [.int (nI p), .int (nI i), .ref a]
            refine v_blk g [.aload 5] (pc' := 90) (lv' := [(9, .int (nI (pc64 (ff i) - t))), (7, .long y), (6, .int (nI i)), (5, .ref bm), (4, .ref bf), (0, .ref a)]) (st' := [.ref bm, .int (nI p), .int (nI i), .ref a]) (by decide +kernel) rfl rfl ?_
            refine v_callV g (rest := []) (c_LS_addJoined (z_so ha (z_ne ha hw rfl)) (z_s_self _ _ _) (z_so hbm (nb hbm)) (z_so hum hnm) hnm hi hp) cl_X3_47 (z_so ha (z_ne ha hw rfl)) rfl rfl (Nat.le_of_ble_eq_true rfl) (by decide +kernel) ⟨Nat.le_of_ble_eq_true rfl, Nat.le_of_ble_eq_true rfl⟩ (zcsn 0 0 rfl rfl (Nat.le_of_ble_eq_true rfl) (Nat.le_of_ble_eq_true rfl)) (fun v2 h2 hp9 => ?_)
            obtain ⟨rfl, G2, rfl, hG2⟩ := hp9
            rw [z_ss]
            show zV F X (z_s h w (aJ 256 G2)) 93 [(9, .int (nI (pc64 (ff i) - t))), (7, .long y), (6, .int (nI i)), (5, .ref bm), (4, .ref bf), (0, .ref a)] []
            refine v_blk g [.lload 7, .lload 7, .lconst 1, .lsub, .land, .lstore 7, .iinc 9 (-1)] (pc' := 105) (lv' := [(9, .int ((nI (pc64 (ff i) - t)) + (-1 : Int32))), (7, .long (y &&& (y - (1 : Int64)))), (6, .int (nI i)), (5, .ref bm), (4, .ref bf), (0, .ref a)]) (st' := []) (by decide +kernel) rfl rfl ?_
            refine v_goto g (off := -30) (tgt := 75) (by decide +kernel) (by decide) ?_
            refine v_lv [0, 1, 2, 3, 4, 5] (lv' := [(9, .int ((nI (pc64 (ff i) - t)) + (-1 : Int32))), (7, .long (y &&& (y - (1 : Int64)))), (6, .int (nI i)), (5, .ref bm), (4, .ref bf), (0, .ref a)]) rfl ?_
            refine v_eq (by rw [show pc64 (ff i) - t = (pc64 (ff i) - (t + 1)) + 1 by omega, pk_m1]) rfl (ihi G2 _ (fun q hq => ?_) (fun n hn => ?_))
            · rw [uN_and, uN_sub _ _ (by show 1 ≤ uN y; exact hne)]
              show ((uN y) &&& (uN y - 1)).testBit q = _
              rw [low_off hyp hlow, hy q hq]
              cases hxq : (uN (ff i)).testBit q
              · simp
              · by_cases hqp : q = p
                · subst hqp; rw [hp3]; simp
                · have hc2 : fb_ct (fun q => (uN (ff i)).testBit q) q ≠ t := fun e => hqp (fb_ct_kth_one (p := fun q => (uN (ff i)).testBit q) hxq hp2 (e.trans hp3.symm))
                  simp only [Bool.true_and, hqp, ne_eq, not_false_eq_true, decide_true, Bool.and_true]
                  exact decide_eq_decide.mpr ⟨fun z => by omega, fun z => by omega⟩
            · rw [hG2 n hn, hG n hn]
              constructor
              · rintro ((h1 | ⟨j, h1, h2, h3, h4⟩) | h1)
                · exact Or.inl h1
                · exact Or.inr ⟨j, h1, h2, by omega, h4⟩
                · exact Or.inr ⟨p, hp, hp2, by omega, h1⟩
              · rintro (h1 | ⟨j, h1, h2, h3, h4⟩)
                · exact Or.inl (Or.inl h1)
                · rcases Nat.lt_or_ge (fb_ct (fun q => (uN (ff i)).testBit q) j) t with q | q
                  · exact Or.inl (Or.inr ⟨j, h1, h2, q, h4⟩)
                  · have e : j = p := fb_ct_kth_one (p := fun q => (uN (ff i)).testBit q) h2 hp2 (by omega)
                    rw [e] at h4
                    exact Or.inr h4
        exact keyi 0 (Nat.zero_le _) G (ff i) (fun q hq => by simp) (fun n hn => by rw [hG n hn]; exact ⟨fun q => Or.inl q, fun q => q.elim id (fun ⟨j, _, _, h3, _⟩ => absurd h3 (Nat.not_lt_zero _))⟩)
    exact keyo 0 (Nat.zero_le _) G0 (fun n hn => ⟨fun q => (by rw [hG0 n hn] at q; cases q), fun ⟨l, h1, _⟩ => absurd h1 (by omega)⟩)
  refine v_blk g [.aload_n 0] (pc' := 1) (lv' := [(0, .ref a), (1, .ref b1), (2, .ref b2)]) (st' := [.ref a]) (by decide +kernel) rfl rfl ?_
  refine v_get g ha fl_X3_11 rfl (by decide +kernel) ?_
  refine v_blk g [.lconst 0] (pc' := 5) (lv' := [(0, .ref a), (1, .ref b1), (2, .ref b2)]) (st' := [.long (0 : Int64), .ref w]) (by decide +kernel) rfl rfl ?_
  refine v_callSp g (rest := []) (c_fillJ 0 hw (by decide)) cl_X3_21 rfl (Nat.le_of_ble_eq_true rfl) (by decide +kernel) ⟨Nat.le_of_ble_eq_true rfl, Nat.le_of_ble_eq_true rfl⟩ (zcsn 0 0 rfl rfl (Nat.le_of_ble_eq_true rfl) (Nat.le_of_ble_eq_true rfl)) ?_
  show zV F X (z_s h w (aJ 256 (mx (fun _ => (0 : Int64)) f 256))) 8 [(0, .ref a), (1, .ref b1), (2, .ref b2)] []
  refine v_blk g [.aload_n 1] (pc' := 9) (lv' := [(0, .ref a), (1, .ref b1), (2, .ref b2)]) (st' := [.ref b1]) (by decide +kernel) rfl rfl ?_
  refine v_callVp g (rest := []) (c_sizeOfAll (z_so hb1 (nb hb1)) (z_so hu1 hn1)) cl_X3_35 (z_so hb1 (nb hb1)) rfl rfl (Nat.le_of_ble_eq_true rfl) (by decide +kernel) ⟨Nat.le_of_ble_eq_true rfl, Nat.le_of_ble_eq_true rfl⟩ (zcsn 0 0 rfl rfl (Nat.le_of_ble_eq_true rfl) (Nat.le_of_ble_eq_true rfl)) ?_
  show zV F X (z_s h w (aJ 256 (mx (fun _ => (0 : Int64)) f 256))) 12 [(0, .ref a), (1, .ref b1), (2, .ref b2)] [.int (nI (fb_sm (fun k => pc64 (f1 k)) 256))]
  refine v_blk g [.aload_n 2] (pc' := 13) (lv' := [(0, .ref a), (1, .ref b1), (2, .ref b2)]) (st' := [.ref b2, .int (nI (fb_sm (fun k => pc64 (f1 k)) 256))]) (by decide +kernel) rfl rfl ?_
  refine v_callVp g (rest := [.int (nI (fb_sm (fun k => pc64 (f1 k)) 256))]) (c_sizeOfAll (z_so hb2 (nb hb2)) (z_so hu2 hn2)) cl_X3_35 (z_so hb2 (nb hb2)) rfl rfl (Nat.le_of_ble_eq_true rfl) (by decide +kernel) ⟨Nat.le_of_ble_eq_true rfl, Nat.le_of_ble_eq_true rfl⟩ (zcsn 0 0 rfl rfl (Nat.le_of_ble_eq_true rfl) (Nat.le_of_ble_eq_true rfl)) ?_
  show zV F X (z_s h w (aJ 256 (mx (fun _ => (0 : Int64)) f 256))) 16 [(0, .ref a), (1, .ref b1), (2, .ref b2)] [.int (nI (fb_sm (fun k => pc64 (f2 k)) 256)), .int (nI (fb_sm (fun k => pc64 (f1 k)) 256))]
  refine v_icmp_ge g (off := 7) (tgt := 23) (by decide +kernel) (by decide) (fun c => ?_) (fun c => ?_)
  · refine v_blk g [.iconst 0, .istore_n 3, .iload_n 3] (pc' := 26) (lv' := [(3, .int (0 : Int32)), (0, .ref a), (1, .ref b1), (2, .ref b2)]) (st' := [.int (0 : Int32)]) (by decide +kernel) rfl rfl ?_
    refine v_if_eq g (off := 7) (tgt := 33) (by decide +kernel) (by decide) (fun _ => ?_) (fun c => absurd c (fun q => q rfl))
    refine v_blk g [.aload_n 2, .astore 4, .iload_n 3] (pc' := 37) (lv' := [(4, .ref b2), (3, .int (0 : Int32)), (0, .ref a), (1, .ref b1), (2, .ref b2)]) (st' := [.int (0 : Int32)]) (by decide +kernel) rfl rfl ?_
    refine v_if_eq g (off := 7) (tgt := 44) (by decide +kernel) (by decide) (fun _ => ?_) (fun c => absurd c (fun q => q rfl))
    refine v_blk g [.aload_n 1, .astore 5] (pc' := 47) (lv' := [(5, .ref b1), (4, .ref b2), (3, .int (0 : Int32)), (0, .ref a), (1, .ref b1), (2, .ref b2)]) (st' := []) (by decide +kernel) rfl rfl ?_
    refine v_lv [0, 1, 3] (lv' := [(5, .ref b1), (4, .ref b2), (0, .ref a)]) rfl ?_
    exact core b2 u2 b1 u1 f2 f1 _ hb2 hu2 hn2 hb1 hu1 hn1 (fun n => jn2_comm f2 f1 n) (fun n hn => lb_0 f hn)
  · refine v_blk g [.iconst 1] (pc' := 20) (lv' := [(0, .ref a), (1, .ref b1), (2, .ref b2)]) (st' := [.int (1 : Int32)]) (by decide +kernel) rfl rfl ?_
    refine v_goto g (off := 4) (tgt := 24) (by decide +kernel) (by decide) ?_
    refine v_blk g [.istore_n 3, .iload_n 3] (pc' := 26) (lv' := [(3, .int (1 : Int32)), (0, .ref a), (1, .ref b1), (2, .ref b2)]) (st' := [.int (1 : Int32)]) (by decide +kernel) rfl rfl ?_
    refine v_if_eq g (off := 7) (tgt := 33) (by decide +kernel) (by decide) (fun c => absurd c (by decide)) (fun _ => ?_)
    refine v_blk g [.aload_n 1] (pc' := 30) (lv' := [(3, .int (1 : Int32)), (0, .ref a), (1, .ref b1), (2, .ref b2)]) (st' := [.ref b1]) (by decide +kernel) rfl rfl ?_
    refine v_goto g (off := 4) (tgt := 34) (by decide +kernel) (by decide) ?_
    refine v_blk g [.astore 4, .iload_n 3] (pc' := 37) (lv' := [(4, .ref b1), (3, .int (1 : Int32)), (0, .ref a), (1, .ref b1), (2, .ref b2)]) (st' := [.int (1 : Int32)]) (by decide +kernel) rfl rfl ?_
    refine v_if_eq g (off := 7) (tgt := 44) (by decide +kernel) (by decide) (fun c => absurd c (by decide)) (fun _ => ?_)
    refine v_blk g [.aload_n 2] (pc' := 41) (lv' := [(4, .ref b1), (3, .int (1 : Int32)), (0, .ref a), (1, .ref b1), (2, .ref b2)]) (st' := [.ref b2]) (by decide +kernel) rfl rfl ?_
    refine v_goto g (off := 4) (tgt := 45) (by decide +kernel) (by decide) ?_
    refine v_blk g [.astore 5] (pc' := 47) (lv' := [(5, .ref b2), (4, .ref b1), (3, .int (1 : Int32)), (0, .ref a), (1, .ref b1), (2, .ref b2)]) (st' := []) (by decide +kernel) rfl rfl ?_
    refine v_lv [0, 1, 3] (lv' := [(5, .ref b2), (4, .ref b1), (0, .ref a)]) rfl ?_
    exact core b1 u1 b2 u2 f1 f2 _ hb1 hu1 hn1 hb2 hu2 hn2 (fun n => Iff.rfl) (fun n hn => lb_0 f hn)
