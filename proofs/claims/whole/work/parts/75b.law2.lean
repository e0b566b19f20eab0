def zKL (F : zF) (X : zX) : Prop := match F, X with | (_, _, _, H0), (_, _, _, s, _) => zKX H0 s

set_option maxRecDepth 100000 in
set_option maxHeartbeats 4000000 in
theorem law_told {F : zF} {X : zX} {h : zH} {b L x m o k : Nat} {xs : Nat → Int32} (g : zG F X yL_law cL_law 7 ret room_1 (0, 0)) (sc : zSc F X b L xs) (hkx : zKL F X) (hk6 : 6 * k + 6 ≤ L) (hL : L ≤ 3072) (hx : ∃ fs, h.1 x = some (oB 7 fs)) (Pq : TOLD F x m o k h (xs (6 * k + 1)) (xs (6 * k + 2))) (kk : ∀ h2, LW h2 x m o (k + 1) → zV F X h2 1089 [(0, .ref b), (1, .ref x), (2, .ref m), (3, .ref o), (4, .int (nI (6 * k)))] []) : zV F X h 521 [(0, .ref b), (1, .ref x), (2, .ref m), (3, .ref o), (4, .int (nI (6 * k)))] [] := by
  obtain ⟨fs7, hx7⟩ := hx
  obtain ⟨rm7, r7, hM⟩ := Pq
  refine v_blk g [.aload_n 1, .aload_n 0, .iload 4, .iconst 1, .iadd] (pc' := 527) (lv' := [(0, .ref b), (1, .ref x), (2, .ref m), (3, .ref o), (4, .int (nI (6 * k)))]) (st' := [.int ((nI (6 * k)) + (1 : Int32)), .ref b, .ref x]) (by decide +kernel) rfl rfl ?_
  refine v_sld g sc (6 * k + 1) (nI_add (6 * k) 1) (by omega) hL (by decide +kernel) ?_
  refine v_blk g [.aload_n 0, .iload 4, .iconst 2, .iadd] (pc' := 533) (lv' := [(0, .ref b), (1, .ref x), (2, .ref m), (3, .ref o), (4, .int (nI (6 * k)))]) (st' := [.int ((nI (6 * k)) + (2 : Int32)), .ref b, .int (xs (6 * k + 1)), .ref x]) (by decide +kernel) rfl rfl ?_
  refine v_sld g sc (6 * k + 2) (nI_add (6 * k) 2) (by omega) hL (by decide +kernel) ?_
  refine v_blk g [.aload_n 3] (pc' := 535) (lv' := [(0, .ref b), (1, .ref x), (2, .ref m), (3, .ref o), (4, .int (nI (6 * k)))]) (st' := [.ref o, .int (xs (6 * k + 2)), .int (xs (6 * k + 1)), .ref x]) (by decide +kernel) rfl rfl ?_
  refine v_callSW g hkx (idx := 61) (As := [.ref x, .int (xs (6 * k + 1)), .int (xs (6 * k + 2)), .ref o]) (rest := []) hM (zi 718 (by decide +kernel) rfl) (zi 52 (by decide +kernel) rfl) (zi 720 (by decide +kernel) rfl) (zi 719 (by decide +kernel) rfl) ⟨by decide, by decide, (show (parseMethodDescriptor yL_told.desc).map (fun d => d.parameters.length) = some 4 by decide +kernel)⟩ rfl (by decide) (by decide +kernel) ⟨by show rm7.frames + 1 ≤ 2048; omega, by show 8 + (_ + 11) + rm7.locals ≤ 84000; omega⟩ ⟨by show h.2.1 + rm7.cells ≤ 0 + 601024; omega, by show h.2.2 + rm7.slots ≤ 0 + 7293034; omega⟩ (fun v1 h1 q => ?_)
  obtain ⟨r9, r2, f1, h2, rfl, ⟨fs8, hm8⟩, hb1, h01, hM8, ⟨fs9, hm9⟩, hb2, ho2, hM9, hf1, L2⟩ := q
  show zV F X h1 538 [(0, .ref b), (1, .ref x), (2, .ref m), (3, .ref o), (4, .int (nI (6 * k)))] [.int r9]
  refine v_blk g [.istore 5, .aload_n 2, .aload_n 0, .iload 4, .iconst 1, .iadd] (pc' := 546) (lv' := [(5, .int r9), (0, .ref b), (1, .ref x), (2, .ref m), (3, .ref o), (4, .int (nI (6 * k)))]) (st' := [.int ((nI (6 * k)) + (1 : Int32)), .ref b, .ref m]) (by decide +kernel) rfl rfl ?_
  refine v_sld g sc (6 * k + 1) (nI_add (6 * k) 1) (by omega) hL (by decide +kernel) ?_
  refine v_blk g [.aload_n 0, .iload 4, .iconst 2, .iadd] (pc' := 552) (lv' := [(5, .int r9), (0, .ref b), (1, .ref x), (2, .ref m), (3, .ref o), (4, .int (nI (6 * k)))]) (st' := [.int ((nI (6 * k)) + (2 : Int32)), .ref b, .int (xs (6 * k + 1)), .ref m]) (by decide +kernel) rfl rfl ?_
  refine v_sld g sc (6 * k + 2) (nI_add (6 * k) 2) (by omega) hL (by decide +kernel) ?_
  refine v_callVp g (As := [.int (xs (6 * k + 1)), .int (xs (6 * k + 2))]) (rest := []) hM8 cl_L_66 hm8 rfl rfl (by decide) (by decide +kernel) (by decide) ⟨by show h1.2.1 + 0 ≤ 0 + 601024; omega, by show h1.2.2 + 0 ≤ 0 + 7293034; omega⟩ ?_
  show zV F X h2 556 [(5, .int r9), (0, .ref b), (1, .ref x), (2, .ref m), (3, .ref o), (4, .int (nI (6 * k)))] [.int r2]
  refine v_blk g [.istore 6, .aload_n 2] (pc' := 559) (lv' := [(6, .int r2), (5, .int r9), (0, .ref b), (1, .ref x), (2, .ref m), (3, .ref o), (4, .int (nI (6 * k)))]) (st' := [.ref m]) (by decide +kernel) rfl rfl ?_
  refine v_callVp g (As := []) (rest := []) hM9 cl_L_67 hm9 rfl rfl (by decide) (by decide +kernel) (by decide) ⟨by show h2.2.1 + 0 ≤ 0 + 601024; omega, by show h2.2.2 + 0 ≤ 0 + 7293034; omega⟩ ?_
  show zV F X h2 562 [(6, .int r2), (5, .int r9), (0, .ref b), (1, .ref x), (2, .ref m), (3, .ref o), (4, .int (nI (6 * k)))] [.int r9]
  refine v_blk g [.iload 5] (pc' := 564) (lv' := [(6, .int r2), (5, .int r9), (0, .ref b), (1, .ref x), (2, .ref m), (3, .ref o), (4, .int (nI (6 * k)))]) (st' := [.int r9, .int r9]) (by decide +kernel) rfl rfl ?_
  refine v_icmp_eq g (off := 5) (tgt := 569) (by decide +kernel) (by decide) (fun _ => ?_) (fun c => absurd rfl c)
  refine v_blk g [.iload 5] (pc' := 571) (lv' := [(6, .int r2), (5, .int r9), (0, .ref b), (1, .ref x), (2, .ref m), (3, .ref o), (4, .int (nI (6 * k)))]) (st' := [.int r9]) (by decide +kernel) rfl rfl ?_
  refine v_if_ne g (off := 15) (tgt := 586) (by decide +kernel) (by decide) (fun c => ?_) (fun c => ?_)
  · refine v_goto g (off := 503) (tgt := 1089) (by decide +kernel) (by decide) ?_
    refine v_lv [2, 3, 4, 5, 6] (lv' := [(0, .ref b), (1, .ref x), (2, .ref m), (3, .ref o), (4, .int (nI (6 * k)))]) rfl ?_
    exact kk h2 L2
  · refine v_blk g [.aload_n 3, .iconst 0] (pc' := 576) (lv' := [(6, .int r2), (5, .int r9), (0, .ref b), (1, .ref x), (2, .ref m), (3, .ref o), (4, .int (nI (6 * k)))]) (st' := [.int (0 : Int32), .ref o]) (by decide +kernel) rfl rfl ?_
    refine v_lald g ho2 0 rfl (by decide) (Nat.le_of_ble_eq_true rfl) (by decide +kernel) ?_
    refine v_blk g [.iload 6, .i2l, .lcmp] (pc' := 581) (lv' := [(6, .int r2), (5, .int r9), (0, .ref b), (1, .ref x), (2, .ref m), (3, .ref o), (4, .int (nI (6 * k)))]) (st' := [.int (lg_cmp (f1 0) r2.toInt64)]) (by decide +kernel) rfl rfl ?_
    refine v_if_eq g (off := 5) (tgt := 586) (by decide +kernel) (by decide) (fun _ => ?_) (fun c9 => absurd ((lg_cmp_eq _ _).mpr (hf1 c)) c9)
    refine v_goto g (off := 503) (tgt := 1089) (by decide +kernel) (by decide) ?_
    refine v_lv [2, 3, 4, 5, 6] (lv' := [(0, .ref b), (1, .ref x), (2, .ref m), (3, .ref o), (4, .int (nI (6 * k)))]) rfl ?_
    exact kk h2 L2
