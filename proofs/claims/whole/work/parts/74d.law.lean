set_option maxRecDepth 100000 in
set_option maxHeartbeats 4000000 in
theorem law_unlike {F : zF} {X : zX} {h : zH} {b L x m o k : Nat} {xs : Nat → Int32} (g : zG F X yL_law cL_law 7 ret room_1 (0, 0)) (sc : zSc F X b L xs) (hk6 : 6 * k + 6 ≤ L) (hL : L ≤ 3072) (hx : ∃ fs, h.1 x = some (oB 7 fs)) (Pq : PAIRi F yX7_unlike cX7_unlike 5 yX8_unlike cX8_unlike 4 (some .int) x m o k h [.int (xs (6 * k + 1)), .int (xs (6 * k + 2))]) (kk : ∀ h2, LW h2 x m o (k + 1) → zV F X h2 1089 [(0, .ref b), (1, .ref x), (2, .ref m), (3, .ref o), (4, .int (nI (6 * k)))] []) : zV F X h 663 [(0, .ref b), (1, .ref x), (2, .ref m), (3, .ref o), (4, .int (nI (6 * k)))] [] := by
  obtain ⟨fs7, hx7⟩ := hx
  obtain ⟨rm7, r7, hM⟩ := Pq
  refine v_blk g [.aload_n 1, .aload_n 0, .iload 4, .iconst 1, .iadd] (pc' := 669) (lv' := [(0, .ref b), (1, .ref x), (2, .ref m), (3, .ref o), (4, .int (nI (6 * k)))]) (st' := [.int ((nI (6 * k)) + (1 : Int32)), .ref b, .ref x]) (by decide +kernel) rfl rfl ?_
  refine v_sld g sc (6 * k + 1) (nI_add (6 * k) 1) (by omega) hL (by decide +kernel) ?_
  refine v_blk g [.aload_n 0, .iload 4, .iconst 2, .iadd] (pc' := 675) (lv' := [(0, .ref b), (1, .ref x), (2, .ref m), (3, .ref o), (4, .int (nI (6 * k)))]) (st' := [.int ((nI (6 * k)) + (2 : Int32)), .ref b, .int (xs (6 * k + 1)), .ref x]) (by decide +kernel) rfl rfl ?_
  refine v_sld g sc (6 * k + 2) (nI_add (6 * k) 2) (by omega) hL (by decide +kernel) ?_
  refine v_callV g (As := [.int (xs (6 * k + 1)), .int (xs (6 * k + 2))]) (rest := []) hM cl_L_79 hx7 rfl rfl (Nat.le_of_ble_eq_true rfl) (by decide +kernel) ⟨by show rm7.frames + 1 ≤ 2048; omega, by show 8 + (_ + 11) + rm7.locals ≤ 84000; omega⟩ ⟨by show h.2.1 + rm7.cells ≤ 0 + 601024; omega, by show h.2.2 + rm7.slots ≤ 0 + 7293034; omega⟩ (fun v1 h1 q => ?_)
  obtain ⟨⟨fs8, hm8⟩, hb1, ⟨a1, rfl⟩, rm8, r8, hM8⟩ := q
  show zV F X h1 679 [(0, .ref b), (1, .ref x), (2, .ref m), (3, .ref o), (4, .int (nI (6 * k)))] [.int a1]
  refine v_blk g [.aload_n 2, .aload_n 0, .iload 4, .iconst 1, .iadd] (pc' := 685) (lv' := [(0, .ref b), (1, .ref x), (2, .ref m), (3, .ref o), (4, .int (nI (6 * k)))]) (st' := [.int ((nI (6 * k)) + (1 : Int32)), .ref b, .ref m, .int a1]) (by decide +kernel) rfl rfl ?_
  refine v_sld g sc (6 * k + 1) (nI_add (6 * k) 1) (by omega) hL (by decide +kernel) ?_
  refine v_blk g [.aload_n 0, .iload 4, .iconst 2, .iadd] (pc' := 691) (lv' := [(0, .ref b), (1, .ref x), (2, .ref m), (3, .ref o), (4, .int (nI (6 * k)))]) (st' := [.int ((nI (6 * k)) + (2 : Int32)), .ref b, .int (xs (6 * k + 1)), .ref m, .int a1]) (by decide +kernel) rfl rfl ?_
  refine v_sld g sc (6 * k + 2) (nI_add (6 * k) 2) (by omega) hL (by decide +kernel) ?_
  refine v_callV g (As := [.int (xs (6 * k + 1)), .int (xs (6 * k + 2))]) (rest := [.int a1]) hM8 cl_L_82 hm8 rfl rfl (Nat.le_of_ble_eq_true rfl) (by decide +kernel) ⟨by show rm8.frames + 1 ≤ 2048; omega, by show 8 + (_ + 11) + rm8.locals ≤ 84000; omega⟩ ⟨by show h1.2.1 + rm8.cells ≤ 0 + 601024; omega, by show h1.2.2 + rm8.slots ≤ 0 + 7293034; omega⟩ (fun v2 h2 q => ?_)
  obtain ⟨rfl, L2⟩ := q
  show zV F X h2 695 [(0, .ref b), (1, .ref x), (2, .ref m), (3, .ref o), (4, .int (nI (6 * k)))] [.int a1, .int a1]
  exact v_icmp_eq g (off := 394) (tgt := 1089) (by decide +kernel) (by decide) (fun _ => kk h2 L2) (fun c => absurd rfl c)

set_option maxRecDepth 100000 in
set_option maxHeartbeats 4000000 in
theorem law_win {F : zF} {X : zX} {h : zH} {b L x m o k : Nat} {xs : Nat → Int32} (g : zG F X yL_law cL_law 7 ret room_1 (0, 0)) (sc : zSc F X b L xs) (hk6 : 6 * k + 6 ≤ L) (hL : L ≤ 3072) (hx : ∃ fs, h.1 x = some (oB 7 fs)) (Pq : PAIRi F yX7_win cX7_win 4 yX8_win cX8_win 3 (some .int) x m o k h [.int (xs (6 * k + 1)), .int (xs (6 * k + 2))]) (kk : ∀ h2, LW h2 x m o (k + 1) → zV F X h2 1089 [(0, .ref b), (1, .ref x), (2, .ref m), (3, .ref o), (4, .int (nI (6 * k)))] []) : zV F X h 700 [(0, .ref b), (1, .ref x), (2, .ref m), (3, .ref o), (4, .int (nI (6 * k)))] [] := by
  obtain ⟨fs7, hx7⟩ := hx
  obtain ⟨rm7, r7, hM⟩ := Pq
  refine v_blk g [.aload_n 1, .aload_n 0, .iload 4, .iconst 1, .iadd] (pc' := 706) (lv' := [(0, .ref b), (1, .ref x), (2, .ref m), (3, .ref o), (4, .int (nI (6 * k)))]) (st' := [.int ((nI (6 * k)) + (1 : Int32)), .ref b, .ref x]) (by decide +kernel) rfl rfl ?_
  refine v_sld g sc (6 * k + 1) (nI_add (6 * k) 1) (by omega) hL (by decide +kernel) ?_
  refine v_blk g [.aload_n 0, .iload 4, .iconst 2, .iadd] (pc' := 712) (lv' := [(0, .ref b), (1, .ref x), (2, .ref m), (3, .ref o), (4, .int (nI (6 * k)))]) (st' := [.int ((nI (6 * k)) + (2 : Int32)), .ref b, .int (xs (6 * k + 1)), .ref x]) (by decide +kernel) rfl rfl ?_
  refine v_sld g sc (6 * k + 2) (nI_add (6 * k) 2) (by omega) hL (by decide +kernel) ?_
  refine v_callV g (As := [.int (xs (6 * k + 1)), .int (xs (6 * k + 2))]) (rest := []) hM cl_L_83 hx7 rfl rfl (Nat.le_of_ble_eq_true rfl) (by decide +kernel) ⟨by show rm7.frames + 1 ≤ 2048; omega, by show 8 + (_ + 11) + rm7.locals ≤ 84000; omega⟩ ⟨by show h.2.1 + rm7.cells ≤ 0 + 601024; omega, by show h.2.2 + rm7.slots ≤ 0 + 7293034; omega⟩ (fun v1 h1 q => ?_)
  obtain ⟨⟨fs8, hm8⟩, hb1, ⟨a1, rfl⟩, rm8, r8, hM8⟩ := q
  show zV F X h1 716 [(0, .ref b), (1, .ref x), (2, .ref m), (3, .ref o), (4, .int (nI (6 * k)))] [.int a1]
  refine v_blk g [.aload_n 2, .aload_n 0, .iload 4, .iconst 1, .iadd] (pc' := 722) (lv' := [(0, .ref b), (1, .ref x), (2, .ref m), (3, .ref o), (4, .int (nI (6 * k)))]) (st' := [.int ((nI (6 * k)) + (1 : Int32)), .ref b, .ref m, .int a1]) (by decide +kernel) rfl rfl ?_
  refine v_sld g sc (6 * k + 1) (nI_add (6 * k) 1) (by omega) hL (by decide +kernel) ?_
  refine v_blk g [.aload_n 0, .iload 4, .iconst 2, .iadd] (pc' := 728) (lv' := [(0, .ref b), (1, .ref x), (2, .ref m), (3, .ref o), (4, .int (nI (6 * k)))]) (st' := [.int ((nI (6 * k)) + (2 : Int32)), .ref b, .int (xs (6 * k + 1)), .ref m, .int a1]) (by decide +kernel) rfl rfl ?_
  refine v_sld g sc (6 * k + 2) (nI_add (6 * k) 2) (by omega) hL (by decide +kernel) ?_
  refine v_callV g (As := [.int (xs (6 * k + 1)), .int (xs (6 * k + 2))]) (rest := [.int a1]) hM8 cl_L_86 hm8 rfl rfl (Nat.le_of_ble_eq_true rfl) (by decide +kernel) ⟨by show rm8.frames + 1 ≤ 2048; omega, by show 8 + (_ + 11) + rm8.locals ≤ 84000; omega⟩ ⟨by show h1.2.1 + rm8.cells ≤ 0 + 601024; omega, by show h1.2.2 + rm8.slots ≤ 0 + 7293034; omega⟩ (fun v2 h2 q => ?_)
  obtain ⟨rfl, L2⟩ := q
  show zV F X h2 732 [(0, .ref b), (1, .ref x), (2, .ref m), (3, .ref o), (4, .int (nI (6 * k)))] [.int a1, .int a1]
  exact v_icmp_eq g (off := 357) (tgt := 1089) (by decide +kernel) (by decide) (fun _ => kk h2 L2) (fun c => absurd rfl c)

set_option maxRecDepth 100000 in
set_option maxHeartbeats 4000000 in
theorem law_best {F : zF} {X : zX} {h : zH} {b L x m o k : Nat} {xs : Nat → Int32} (g : zG F X yL_law cL_law 7 ret room_1 (0, 0)) (sc : zSc F X b L xs) (hk6 : 6 * k + 6 ≤ L) (hL : L ≤ 3072) (hx : ∃ fs, h.1 x = some (oB 7 fs)) (Pq : PAIRi F yX7_best cX7_best 2 yX8_best cX8_best 2 (some .int) x m o k h [.int (xs (6 * k + 1))]) (kk : ∀ h2, LW h2 x m o (k + 1) → zV F X h2 1089 [(0, .ref b), (1, .ref x), (2, .ref m), (3, .ref o), (4, .int (nI (6 * k)))] []) : zV F X h 737 [(0, .ref b), (1, .ref x), (2, .ref m), (3, .ref o), (4, .int (nI (6 * k)))] [] := by
  obtain ⟨fs7, hx7⟩ := hx
  obtain ⟨rm7, r7, hM⟩ := Pq
  refine v_blk g [.aload_n 1, .aload_n 0, .iload 4, .iconst 1, .iadd] (pc' := 743) (lv' := [(0, .ref b), (1, .ref x), (2, .ref m), (3, .ref o), (4, .int (nI (6 * k)))]) (st' := [.int ((nI (6 * k)) + (1 : Int32)), .ref b, .ref x]) (by decide +kernel) rfl rfl ?_
  refine v_sld g sc (6 * k + 1) (nI_add (6 * k) 1) (by omega) hL (by decide +kernel) ?_
  refine v_callV g (As := [.int (xs (6 * k + 1))]) (rest := []) hM cl_L_87 hx7 rfl rfl (Nat.le_of_ble_eq_true rfl) (by decide +kernel) ⟨by show rm7.frames + 1 ≤ 2048; omega, by show 8 + (_ + 11) + rm7.locals ≤ 84000; omega⟩ ⟨by show h.2.1 + rm7.cells ≤ 0 + 601024; omega, by show h.2.2 + rm7.slots ≤ 0 + 7293034; omega⟩ (fun v1 h1 q => ?_)
  obtain ⟨⟨fs8, hm8⟩, hb1, ⟨a1, rfl⟩, rm8, r8, hM8⟩ := q
  show zV F X h1 747 [(0, .ref b), (1, .ref x), (2, .ref m), (3, .ref o), (4, .int (nI (6 * k)))] [.int a1]
  refine v_blk g [.aload_n 2, .aload_n 0, .iload 4, .iconst 1, .iadd] (pc' := 753) (lv' := [(0, .ref b), (1, .ref x), (2, .ref m), (3, .ref o), (4, .int (nI (6 * k)))]) (st' := [.int ((nI (6 * k)) + (1 : Int32)), .ref b, .ref m, .int a1]) (by decide +kernel) rfl rfl ?_
  refine v_sld g sc (6 * k + 1) (nI_add (6 * k) 1) (by omega) hL (by decide +kernel) ?_
  refine v_callV g (As := [.int (xs (6 * k + 1))]) (rest := [.int a1]) hM8 cl_L_90 hm8 rfl rfl (Nat.le_of_ble_eq_true rfl) (by decide +kernel) ⟨by show rm8.frames + 1 ≤ 2048; omega, by show 8 + (_ + 11) + rm8.locals ≤ 84000; omega⟩ ⟨by show h1.2.1 + rm8.cells ≤ 0 + 601024; omega, by show h1.2.2 + rm8.slots ≤ 0 + 7293034; omega⟩ (fun v2 h2 q => ?_)
  obtain ⟨rfl, L2⟩ := q
  show zV F X h2 757 [(0, .ref b), (1, .ref x), (2, .ref m), (3, .ref o), (4, .int (nI (6 * k)))] [.int a1, .int a1]
  exact v_icmp_eq g (off := 332) (tgt := 1089) (by decide +kernel) (by decide) (fun _ => kk h2 L2) (fun c => absurd rfl c)

set_option maxRecDepth 100000 in
set_option maxHeartbeats 4000000 in
theorem law_still {F : zF} {X : zX} {h : zH} {b L x m o k : Nat} {xs : Nat → Int32} (g : zG F X yL_law cL_law 7 ret room_1 (0, 0)) (sc : zSc F X b L xs) (hk6 : 6 * k + 6 ≤ L) (hL : L ≤ 3072) (hx : ∃ fs, h.1 x = some (oB 7 fs)) (Pq : PAIRi F yX7_still cX7_still 2 yX8_still cX8_still 2 (some .int) x m o k h [.int (xs (6 * k + 1))]) (kk : ∀ h2, LW h2 x m o (k + 1) → zV F X h2 1089 [(0, .ref b), (1, .ref x), (2, .ref m), (3, .ref o), (4, .int (nI (6 * k)))] []) : zV F X h 762 [(0, .ref b), (1, .ref x), (2, .ref m), (3, .ref o), (4, .int (nI (6 * k)))] [] := by
  obtain ⟨fs7, hx7⟩ := hx
  obtain ⟨rm7, r7, hM⟩ := Pq
  refine v_blk g [.aload_n 1, .aload_n 0, .iload 4, .iconst 1, .iadd] (pc' := 768) (lv' := [(0, .ref b), (1, .ref x), (2, .ref m), (3, .ref o), (4, .int (nI (6 * k)))]) (st' := [.int ((nI (6 * k)) + (1 : Int32)), .ref b, .ref x]) (by decide +kernel) rfl rfl ?_
  refine v_sld g sc (6 * k + 1) (nI_add (6 * k) 1) (by omega) hL (by decide +kernel) ?_
  refine v_callV g (As := [.int (xs (6 * k + 1))]) (rest := []) hM cl_L_91 hx7 rfl rfl (Nat.le_of_ble_eq_true rfl) (by decide +kernel) ⟨by show rm7.frames + 1 ≤ 2048; omega, by show 8 + (_ + 11) + rm7.locals ≤ 84000; omega⟩ ⟨by show h.2.1 + rm7.cells ≤ 0 + 601024; omega, by show h.2.2 + rm7.slots ≤ 0 + 7293034; omega⟩ (fun v1 h1 q => ?_)
  obtain ⟨⟨fs8, hm8⟩, hb1, ⟨a1, rfl⟩, rm8, r8, hM8⟩ := q
  show zV F X h1 772 [(0, .ref b), (1, .ref x), (2, .ref m), (3, .ref o), (4, .int (nI (6 * k)))] [.int a1]
  refine v_blk g [.aload_n 2, .aload_n 0, .iload 4, .iconst 1, .iadd] (pc' := 778) (lv' := [(0, .ref b), (1, .ref x), (2, .ref m), (3, .ref o), (4, .int (nI (6 * k)))]) (st' := [.int ((nI (6 * k)) + (1 : Int32)), .ref b, .ref m, .int a1]) (by decide +kernel) rfl rfl ?_
  refine v_sld g sc (6 * k + 1) (nI_add (6 * k) 1) (by omega) hL (by decide +kernel) ?_
  refine v_callV g (As := [.int (xs (6 * k + 1))]) (rest := [.int a1]) hM8 cl_L_94 hm8 rfl rfl (Nat.le_of_ble_eq_true rfl) (by decide +kernel) ⟨by show rm8.frames + 1 ≤ 2048; omega, by show 8 + (_ + 11) + rm8.locals ≤ 84000; omega⟩ ⟨by show h1.2.1 + rm8.cells ≤ 0 + 601024; omega, by show h1.2.2 + rm8.slots ≤ 0 + 7293034; omega⟩ (fun v2 h2 q => ?_)
  obtain ⟨rfl, L2⟩ := q
  show zV F X h2 782 [(0, .ref b), (1, .ref x), (2, .ref m), (3, .ref o), (4, .int (nI (6 * k)))] [.int a1, .int a1]
  exact v_icmp_eq g (off := 307) (tgt := 1089) (by decide +kernel) (by decide) (fun _ => kk h2 L2) (fun c => absurd rfl c)

set_option maxRecDepth 100000 in
set_option maxHeartbeats 4000000 in
theorem law_could {F : zF} {X : zX} {h : zH} {b L x m o k : Nat} {xs : Nat → Int32} (g : zG F X yL_law cL_law 7 ret room_1 (0, 0)) (sc : zSc F X b L xs) (hk6 : 6 * k + 6 ≤ L) (hL : L ≤ 3072) (hx : ∃ fs, h.1 x = some (oB 7 fs)) (Pq : PAIRi F yX7_could cX7_could 3 yX8_could cX8_could 3 (some .int) x m o k h [.int (xs (6 * k + 1)), .int (xs (6 * k + 2))]) (kk : ∀ h2, LW h2 x m o (k + 1) → zV F X h2 1089 [(0, .ref b), (1, .ref x), (2, .ref m), (3, .ref o), (4, .int (nI (6 * k)))] []) : zV F X h 787 [(0, .ref b), (1, .ref x), (2, .ref m), (3, .ref o), (4, .int (nI (6 * k)))] [] := by
  obtain ⟨fs7, hx7⟩ := hx
  obtain ⟨rm7, r7, hM⟩ := Pq
  refine v_blk g [.aload_n 1, .aload_n 0, .iload 4, .iconst 1, .iadd] (pc' := 793) (lv' := [(0, .ref b), (1, .ref x), (2, .ref m), (3, .ref o), (4, .int (nI (6 * k)))]) (st' := [.int ((nI (6 * k)) + (1 : Int32)), .ref b, .ref x]) (by decide +kernel) rfl rfl ?_
  refine v_sld g sc (6 * k + 1) (nI_add (6 * k) 1) (by omega) hL (by decide +kernel) ?_
  refine v_blk g [.aload_n 0, .iload 4, .iconst 2, .iadd] (pc' := 799) (lv' := [(0, .ref b), (1, .ref x), (2, .ref m), (3, .ref o), (4, .int (nI (6 * k)))]) (st' := [.int ((nI (6 * k)) + (2 : Int32)), .ref b, .int (xs (6 * k + 1)), .ref x]) (by decide +kernel) rfl rfl ?_
  refine v_sld g sc (6 * k + 2) (nI_add (6 * k) 2) (by omega) hL (by decide +kernel) ?_
  refine v_callV g (As := [.int (xs (6 * k + 1)), .int (xs (6 * k + 2))]) (rest := []) hM cl_L_95 hx7 rfl rfl (Nat.le_of_ble_eq_true rfl) (by decide +kernel) ⟨by show rm7.frames + 1 ≤ 2048; omega, by show 8 + (_ + 11) + rm7.locals ≤ 84000; omega⟩ ⟨by show h.2.1 + rm7.cells ≤ 0 + 601024; omega, by show h.2.2 + rm7.slots ≤ 0 + 7293034; omega⟩ (fun v1 h1 q => ?_)
  obtain ⟨⟨fs8, hm8⟩, hb1, ⟨a1, rfl⟩, rm8, r8, hM8⟩ := q
  show zV F X h1 803 [(0, .ref b), (1, .ref x), (2, .ref m), (3, .ref o), (4, .int (nI (6 * k)))] [.int a1]
  refine v_blk g [.aload_n 2, .aload_n 0, .iload 4, .iconst 1, .iadd] (pc' := 809) (lv' := [(0, .ref b), (1, .ref x), (2, .ref m), (3, .ref o), (4, .int (nI (6 * k)))]) (st' := [.int ((nI (6 * k)) + (1 : Int32)), .ref b, .ref m, .int a1]) (by decide +kernel) rfl rfl ?_
  refine v_sld g sc (6 * k + 1) (nI_add (6 * k) 1) (by omega) hL (by decide +kernel) ?_
  refine v_blk g [.aload_n 0, .iload 4, .iconst 2, .iadd] (pc' := 815) (lv' := [(0, .ref b), (1, .ref x), (2, .ref m), (3, .ref o), (4, .int (nI (6 * k)))]) (st' := [.int ((nI (6 * k)) + (2 : Int32)), .ref b, .int (xs (6 * k + 1)), .ref m, .int a1]) (by decide +kernel) rfl rfl ?_
  refine v_sld g sc (6 * k + 2) (nI_add (6 * k) 2) (by omega) hL (by decide +kernel) ?_
  refine v_callV g (As := [.int (xs (6 * k + 1)), .int (xs (6 * k + 2))]) (rest := [.int a1]) hM8 cl_L_98 hm8 rfl rfl (Nat.le_of_ble_eq_true rfl) (by decide +kernel) ⟨by show rm8.frames + 1 ≤ 2048; omega, by show 8 + (_ + 11) + rm8.locals ≤ 84000; omega⟩ ⟨by show h1.2.1 + rm8.cells ≤ 0 + 601024; omega, by show h1.2.2 + rm8.slots ≤ 0 + 7293034; omega⟩ (fun v2 h2 q => ?_)
  obtain ⟨rfl, L2⟩ := q
  show zV F X h2 819 [(0, .ref b), (1, .ref x), (2, .ref m), (3, .ref o), (4, .int (nI (6 * k)))] [.int a1, .int a1]
  exact v_icmp_eq g (off := 270) (tgt := 1089) (by decide +kernel) (by decide) (fun _ => kk h2 L2) (fun c => absurd rfl c)

set_option maxRecDepth 100000 in
set_option maxHeartbeats 4000000 in
theorem law_sure {F : zF} {X : zX} {h : zH} {b L x m o k : Nat} {xs : Nat → Int32} (g : zG F X yL_law cL_law 7 ret room_1 (0, 0)) (sc : zSc F X b L xs) (hk6 : 6 * k + 6 ≤ L) (hL : L ≤ 3072) (hx : ∃ fs, h.1 x = some (oB 7 fs)) (Pq : PAIRi F yX7_sure cX7_sure 3 yX8_sure cX8_sure 3 (some .int) x m o k h [.int (xs (6 * k + 1)), .int (xs (6 * k + 2))]) (kk : ∀ h2, LW h2 x m o (k + 1) → zV F X h2 1089 [(0, .ref b), (1, .ref x), (2, .ref m), (3, .ref o), (4, .int (nI (6 * k)))] []) : zV F X h 824 [(0, .ref b), (1, .ref x), (2, .ref m), (3, .ref o), (4, .int (nI (6 * k)))] [] := by
  obtain ⟨fs7, hx7⟩ := hx
  obtain ⟨rm7, r7, hM⟩ := Pq
  refine v_blk g [.aload_n 1, .aload_n 0, .iload 4, .iconst 1, .iadd] (pc' := 830) (lv' := [(0, .ref b), (1, .ref x), (2, .ref m), (3, .ref o), (4, .int (nI (6 * k)))]) (st' := [.int ((nI (6 * k)) + (1 : Int32)), .ref b, .ref x]) (by decide +kernel) rfl rfl ?_
  refine v_sld g sc (6 * k + 1) (nI_add (6 * k) 1) (by omega) hL (by decide +kernel) ?_
  refine v_blk g [.aload_n 0, .iload 4, .iconst 2, .iadd] (pc' := 836) (lv' := [(0, .ref b), (1, .ref x), (2, .ref m), (3, .ref o), (4, .int (nI (6 * k)))]) (st' := [.int ((nI (6 * k)) + (2 : Int32)), .ref b, .int (xs (6 * k + 1)), .ref x]) (by decide +kernel) rfl rfl ?_
  refine v_sld g sc (6 * k + 2) (nI_add (6 * k) 2) (by omega) hL (by decide +kernel) ?_
  refine v_callV g (As := [.int (xs (6 * k + 1)), .int (xs (6 * k + 2))]) (rest := []) hM cl_L_99 hx7 rfl rfl (Nat.le_of_ble_eq_true rfl) (by decide +kernel) ⟨by show rm7.frames + 1 ≤ 2048; omega, by show 8 + (_ + 11) + rm7.locals ≤ 84000; omega⟩ ⟨by show h.2.1 + rm7.cells ≤ 0 + 601024; omega, by show h.2.2 + rm7.slots ≤ 0 + 7293034; omega⟩ (fun v1 h1 q => ?_)
  obtain ⟨⟨fs8, hm8⟩, hb1, ⟨a1, rfl⟩, rm8, r8, hM8⟩ := q
  show zV F X h1 840 [(0, .ref b), (1, .ref x), (2, .ref m), (3, .ref o), (4, .int (nI (6 * k)))] [.int a1]
  refine v_blk g [.aload_n 2, .aload_n 0, .iload 4, .iconst 1, .iadd] (pc' := 846) (lv' := [(0, .ref b), (1, .ref x), (2, .ref m), (3, .ref o), (4, .int (nI (6 * k)))]) (st' := [.int ((nI (6 * k)) + (1 : Int32)), .ref b, .ref m, .int a1]) (by decide +kernel) rfl rfl ?_
  refine v_sld g sc (6 * k + 1) (nI_add (6 * k) 1) (by omega) hL (by decide +kernel) ?_
  refine v_blk g [.aload_n 0, .iload 4, .iconst 2, .iadd] (pc' := 852) (lv' := [(0, .ref b), (1, .ref x), (2, .ref m), (3, .ref o), (4, .int (nI (6 * k)))]) (st' := [.int ((nI (6 * k)) + (2 : Int32)), .ref b, .int (xs (6 * k + 1)), .ref m, .int a1]) (by decide +kernel) rfl rfl ?_
  refine v_sld g sc (6 * k + 2) (nI_add (6 * k) 2) (by omega) hL (by decide +kernel) ?_
  refine v_callV g (As := [.int (xs (6 * k + 1)), .int (xs (6 * k + 2))]) (rest := [.int a1]) hM8 cl_L_102 hm8 rfl rfl (Nat.le_of_ble_eq_true rfl) (by decide +kernel) ⟨by show rm8.frames + 1 ≤ 2048; omega, by show 8 + (_ + 11) + rm8.locals ≤ 84000; omega⟩ ⟨by show h1.2.1 + rm8.cells ≤ 0 + 601024; omega, by show h1.2.2 + rm8.slots ≤ 0 + 7293034; omega⟩ (fun v2 h2 q => ?_)
  obtain ⟨rfl, L2⟩ := q
  show zV F X h2 856 [(0, .ref b), (1, .ref x), (2, .ref m), (3, .ref o), (4, .int (nI (6 * k)))] [.int a1, .int a1]
  exact v_icmp_eq g (off := 233) (tgt := 1089) (by decide +kernel) (by decide) (fun _ => kk h2 L2) (fun c => absurd rfl c)
