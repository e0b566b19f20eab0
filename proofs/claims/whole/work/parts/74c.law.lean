set_option maxRecDepth 100000 in
set_option maxHeartbeats 4000000 in
theorem law_coupon {F : zF} {X : zX} {h : zH} {b L x m o k : Nat} {xs : Nat → Int32} (g : zG F X yL_law cL_law 7 ret room_1 (0, 0)) (sc : zSc F X b L xs) (hk6 : 6 * k + 6 ≤ L) (hL : L ≤ 3072) (hx : ∃ fs, h.1 x = some (oB 7 fs)) (Pq : PAIRi F yX7_coupon cX7_coupon 5 yX8_coupon cX8_coupon 5 (some .int) x m o k h [.int (xs (6 * k + 1)), .int (xs (6 * k + 2))]) (kk : ∀ h2, LW h2 x m o (k + 1) → zV F X h2 1089 [(0, .ref b), (1, .ref x), (2, .ref m), (3, .ref o), (4, .int (nI (6 * k)))] []) : zV F X h 406 [(0, .ref b), (1, .ref x), (2, .ref m), (3, .ref o), (4, .int (nI (6 * k)))] [] := by
  obtain ⟨fs7, hx7⟩ := hx
  obtain ⟨rm7, r7, hM⟩ := Pq
  refine v_blk g [.aload_n 1, .aload_n 0, .iload 4, .iconst 1, .iadd] (pc' := 412) (lv' := [(0, .ref b), (1, .ref x), (2, .ref m), (3, .ref o), (4, .int (nI (6 * k)))]) (st' := [.int ((nI (6 * k)) + (1 : Int32)), .ref b, .ref x]) (by decide +kernel) rfl rfl ?_
  refine v_sld g sc (6 * k + 1) (nI_add (6 * k) 1) (by omega) hL (by decide +kernel) ?_
  refine v_blk g [.aload_n 0, .iload 4, .iconst 2, .iadd] (pc' := 418) (lv' := [(0, .ref b), (1, .ref x), (2, .ref m), (3, .ref o), (4, .int (nI (6 * k)))]) (st' := [.int ((nI (6 * k)) + (2 : Int32)), .ref b, .int (xs (6 * k + 1)), .ref x]) (by decide +kernel) rfl rfl ?_
  refine v_sld g sc (6 * k + 2) (nI_add (6 * k) 2) (by omega) hL (by decide +kernel) ?_
  refine v_callV g (As := [.int (xs (6 * k + 1)), .int (xs (6 * k + 2))]) (rest := []) hM cl_L_48 hx7 rfl rfl (Nat.le_of_ble_eq_true rfl) (by decide +kernel) ⟨by show rm7.frames + 1 ≤ 2048; omega, by show 8 + (_ + 11) + rm7.locals ≤ 84000; omega⟩ ⟨by show h.2.1 + rm7.cells ≤ 0 + 601024; omega, by show h.2.2 + rm7.slots ≤ 0 + 7293034; omega⟩ (fun v1 h1 q => ?_)
  obtain ⟨⟨fs8, hm8⟩, hb1, ⟨a1, rfl⟩, rm8, r8, hM8⟩ := q
  show zV F X h1 422 [(0, .ref b), (1, .ref x), (2, .ref m), (3, .ref o), (4, .int (nI (6 * k)))] [.int a1]
  refine v_blk g [.aload_n 2, .aload_n 0, .iload 4, .iconst 1, .iadd] (pc' := 428) (lv' := [(0, .ref b), (1, .ref x), (2, .ref m), (3, .ref o), (4, .int (nI (6 * k)))]) (st' := [.int ((nI (6 * k)) + (1 : Int32)), .ref b, .ref m, .int a1]) (by decide +kernel) rfl rfl ?_
  refine v_sld g sc (6 * k + 1) (nI_add (6 * k) 1) (by omega) hL (by decide +kernel) ?_
  refine v_blk g [.aload_n 0, .iload 4, .iconst 2, .iadd] (pc' := 434) (lv' := [(0, .ref b), (1, .ref x), (2, .ref m), (3, .ref o), (4, .int (nI (6 * k)))]) (st' := [.int ((nI (6 * k)) + (2 : Int32)), .ref b, .int (xs (6 * k + 1)), .ref m, .int a1]) (by decide +kernel) rfl rfl ?_
  refine v_sld g sc (6 * k + 2) (nI_add (6 * k) 2) (by omega) hL (by decide +kernel) ?_
  refine v_callV g (As := [.int (xs (6 * k + 1)), .int (xs (6 * k + 2))]) (rest := [.int a1]) hM8 cl_L_51 hm8 rfl rfl (Nat.le_of_ble_eq_true rfl) (by decide +kernel) ⟨by show rm8.frames + 1 ≤ 2048; omega, by show 8 + (_ + 11) + rm8.locals ≤ 84000; omega⟩ ⟨by show h1.2.1 + rm8.cells ≤ 0 + 601024; omega, by show h1.2.2 + rm8.slots ≤ 0 + 7293034; omega⟩ (fun v2 h2 q => ?_)
  obtain ⟨rfl, L2⟩ := q
  show zV F X h2 438 [(0, .ref b), (1, .ref x), (2, .ref m), (3, .ref o), (4, .int (nI (6 * k)))] [.int a1, .int a1]
  exact v_icmp_eq g (off := 651) (tgt := 1089) (by decide +kernel) (by decide) (fun _ => kk h2 L2) (fun c => absurd rfl c)

set_option maxRecDepth 100000 in
set_option maxHeartbeats 4000000 in
theorem law_fault {F : zF} {X : zX} {h : zH} {b L x m o k : Nat} {xs : Nat → Int32} (g : zG F X yL_law cL_law 7 ret room_1 (0, 0)) (sc : zSc F X b L xs) (hk6 : 6 * k + 6 ≤ L) (hL : L ≤ 3072) (hx : ∃ fs, h.1 x = some (oB 7 fs)) (Pq : PAIRi F yX7_fault cX7_fault 2 yX8_fault cX8_fault 2 (some .int) x m o k h [.int (xs (6 * k + 1))]) (kk : ∀ h2, LW h2 x m o (k + 1) → zV F X h2 1089 [(0, .ref b), (1, .ref x), (2, .ref m), (3, .ref o), (4, .int (nI (6 * k)))] []) : zV F X h 443 [(0, .ref b), (1, .ref x), (2, .ref m), (3, .ref o), (4, .int (nI (6 * k)))] [] := by
  obtain ⟨fs7, hx7⟩ := hx
  obtain ⟨rm7, r7, hM⟩ := Pq
  refine v_blk g [.aload_n 1, .aload_n 0, .iload 4, .iconst 1, .iadd] (pc' := 449) (lv' := [(0, .ref b), (1, .ref x), (2, .ref m), (3, .ref o), (4, .int (nI (6 * k)))]) (st' := [.int ((nI (6 * k)) + (1 : Int32)), .ref b, .ref x]) (by decide +kernel) rfl rfl ?_
  refine v_sld g sc (6 * k + 1) (nI_add (6 * k) 1) (by omega) hL (by decide +kernel) ?_
  refine v_callV g (As := [.int (xs (6 * k + 1))]) (rest := []) hM cl_L_52 hx7 rfl rfl (Nat.le_of_ble_eq_true rfl) (by decide +kernel) ⟨by show rm7.frames + 1 ≤ 2048; omega, by show 8 + (_ + 11) + rm7.locals ≤ 84000; omega⟩ ⟨by show h.2.1 + rm7.cells ≤ 0 + 601024; omega, by show h.2.2 + rm7.slots ≤ 0 + 7293034; omega⟩ (fun v1 h1 q => ?_)
  obtain ⟨⟨fs8, hm8⟩, hb1, ⟨a1, rfl⟩, rm8, r8, hM8⟩ := q
  show zV F X h1 453 [(0, .ref b), (1, .ref x), (2, .ref m), (3, .ref o), (4, .int (nI (6 * k)))] [.int a1]
  refine v_blk g [.aload_n 2, .aload_n 0, .iload 4, .iconst 1, .iadd] (pc' := 459) (lv' := [(0, .ref b), (1, .ref x), (2, .ref m), (3, .ref o), (4, .int (nI (6 * k)))]) (st' := [.int ((nI (6 * k)) + (1 : Int32)), .ref b, .ref m, .int a1]) (by decide +kernel) rfl rfl ?_
  refine v_sld g sc (6 * k + 1) (nI_add (6 * k) 1) (by omega) hL (by decide +kernel) ?_
  refine v_callV g (As := [.int (xs (6 * k + 1))]) (rest := [.int a1]) hM8 cl_L_55 hm8 rfl rfl (Nat.le_of_ble_eq_true rfl) (by decide +kernel) ⟨by show rm8.frames + 1 ≤ 2048; omega, by show 8 + (_ + 11) + rm8.locals ≤ 84000; omega⟩ ⟨by show h1.2.1 + rm8.cells ≤ 0 + 601024; omega, by show h1.2.2 + rm8.slots ≤ 0 + 7293034; omega⟩ (fun v2 h2 q => ?_)
  obtain ⟨rfl, L2⟩ := q
  show zV F X h2 463 [(0, .ref b), (1, .ref x), (2, .ref m), (3, .ref o), (4, .int (nI (6 * k)))] [.int a1, .int a1]
  exact v_icmp_eq g (off := 626) (tgt := 1089) (by decide +kernel) (by decide) (fun _ => kk h2 L2) (fun c => absurd rfl c)

set_option maxRecDepth 100000 in
set_option maxHeartbeats 4000000 in
theorem law_tear {F : zF} {X : zX} {h : zH} {b L x m o k : Nat} {xs : Nat → Int32} (g : zG F X yL_law cL_law 7 ret room_1 (0, 0)) (sc : zSc F X b L xs) (hk6 : 6 * k + 6 ≤ L) (hL : L ≤ 3072) (hx : ∃ fs, h.1 x = some (oB 7 fs)) {b2 : Int32} (hb2 : b2 = if xs (6 * k + 2) = 0 then 0 else 1) (Pq : PAIRi F yX7_tear cX7_tear 4 yX8_tear cX8_tear 3 (some .boolean) x m o k h [.int (xs (6 * k + 1)), .int b2]) (kk : ∀ h2, LW h2 x m o (k + 1) → zV F X h2 1089 [(0, .ref b), (1, .ref x), (2, .ref m), (3, .ref o), (4, .int (nI (6 * k)))] []) : zV F X h 468 [(0, .ref b), (1, .ref x), (2, .ref m), (3, .ref o), (4, .int (nI (6 * k)))] [] := by
  obtain ⟨fs7, hx7⟩ := hx
  obtain ⟨rm7, r7, hM⟩ := Pq
  refine v_blk g [.aload_n 1, .aload_n 0, .iload 4, .iconst 1, .iadd] (pc' := 474) (lv' := [(0, .ref b), (1, .ref x), (2, .ref m), (3, .ref o), (4, .int (nI (6 * k)))]) (st' := [.int ((nI (6 * k)) + (1 : Int32)), .ref b, .ref x]) (by decide +kernel) rfl rfl ?_
  refine v_sld g sc (6 * k + 1) (nI_add (6 * k) 1) (by omega) hL (by decide +kernel) ?_
  refine v_blk g [.aload_n 0, .iload 4, .iconst 2, .iadd] (pc' := 480) (lv' := [(0, .ref b), (1, .ref x), (2, .ref m), (3, .ref o), (4, .int (nI (6 * k)))]) (st' := [.int ((nI (6 * k)) + (2 : Int32)), .ref b, .int (xs (6 * k + 1)), .ref x]) (by decide +kernel) rfl rfl ?_
  refine v_sld g sc (6 * k + 2) (nI_add (6 * k) 2) (by omega) hL (by decide +kernel) ?_
  by_cases cb : xs (6 * k + 2) = 0
  · have eb : b2 = 0 := by rw [hb2]; exact if_pos cb
    rw [eb] at hM
    refine v_if_eq g (off := 7) (tgt := 488) (by decide +kernel) (by decide) (fun _ => ?_) (fun c => absurd cb c)
    refine v_blk g [.iconst 0] (pc' := 489) (lv' := [(0, .ref b), (1, .ref x), (2, .ref m), (3, .ref o), (4, .int (nI (6 * k)))]) (st' := [.int (0 : Int32), .int (xs (6 * k + 1)), .ref x]) (by decide +kernel) rfl rfl ?_
    refine v_callV g (As := [.int (xs (6 * k + 1)), .int 0]) (rest := []) hM cl_L_56 hx7 rfl rfl (Nat.le_of_ble_eq_true rfl) (by decide +kernel) ⟨by show rm7.frames + 1 ≤ 2048; omega, by show 8 + (_ + 11) + rm7.locals ≤ 84000; omega⟩ ⟨by show h.2.1 + rm7.cells ≤ 0 + 601024; omega, by show h.2.2 + rm7.slots ≤ 0 + 7293034; omega⟩ (fun v1 h1 q => ?_)
    obtain ⟨⟨fs8, hm8⟩, hb1, ⟨a1, rfl⟩, rm8, r8, hM8⟩ := q
    show zV F X h1 492 [(0, .ref b), (1, .ref x), (2, .ref m), (3, .ref o), (4, .int (nI (6 * k)))] [.int a1]
    refine v_blk g [.aload_n 2, .aload_n 0, .iload 4, .iconst 1, .iadd] (pc' := 498) (lv' := [(0, .ref b), (1, .ref x), (2, .ref m), (3, .ref o), (4, .int (nI (6 * k)))]) (st' := [.int ((nI (6 * k)) + (1 : Int32)), .ref b, .ref m, .int a1]) (by decide +kernel) rfl rfl ?_
    refine v_sld g sc (6 * k + 1) (nI_add (6 * k) 1) (by omega) hL (by decide +kernel) ?_
    refine v_blk g [.aload_n 0, .iload 4, .iconst 2, .iadd] (pc' := 504) (lv' := [(0, .ref b), (1, .ref x), (2, .ref m), (3, .ref o), (4, .int (nI (6 * k)))]) (st' := [.int ((nI (6 * k)) + (2 : Int32)), .ref b, .int (xs (6 * k + 1)), .ref m, .int a1]) (by decide +kernel) rfl rfl ?_
    refine v_sld g sc (6 * k + 2) (nI_add (6 * k) 2) (by omega) hL (by decide +kernel) ?_
    refine v_if_eq g (off := 7) (tgt := 512) (by decide +kernel) (by decide) (fun _ => ?_) (fun c => absurd cb c)
    refine v_blk g [.iconst 0] (pc' := 513) (lv' := [(0, .ref b), (1, .ref x), (2, .ref m), (3, .ref o), (4, .int (nI (6 * k)))]) (st' := [.int (0 : Int32), .int (xs (6 * k + 1)), .ref m, .int a1]) (by decide +kernel) rfl rfl ?_
    refine v_callV g (As := [.int (xs (6 * k + 1)), .int 0]) (rest := [.int a1]) hM8 cl_L_60 hm8 rfl rfl (Nat.le_of_ble_eq_true rfl) (by decide +kernel) ⟨by show rm8.frames + 1 ≤ 2048; omega, by show 8 + (_ + 11) + rm8.locals ≤ 84000; omega⟩ ⟨by show h1.2.1 + rm8.cells ≤ 0 + 601024; omega, by show h1.2.2 + rm8.slots ≤ 0 + 7293034; omega⟩ (fun v2 h2 q => ?_)
    obtain ⟨rfl, L2⟩ := q
    show zV F X h2 516 [(0, .ref b), (1, .ref x), (2, .ref m), (3, .ref o), (4, .int (nI (6 * k)))] [.int a1, .int a1]
    exact v_icmp_eq g (off := 573) (tgt := 1089) (by decide +kernel) (by decide) (fun _ => kk h2 L2) (fun c => absurd rfl c)
  · have eb : b2 = 1 := by rw [hb2]; exact if_neg cb
    rw [eb] at hM
    refine v_if_eq g (off := 7) (tgt := 488) (by decide +kernel) (by decide) (fun c => absurd c cb) (fun _ => ?_)
    refine v_blk g [.iconst 1] (pc' := 485) (lv' := [(0, .ref b), (1, .ref x), (2, .ref m), (3, .ref o), (4, .int (nI (6 * k)))]) (st' := [.int (1 : Int32), .int (xs (6 * k + 1)), .ref x]) (by decide +kernel) rfl rfl ?_
    refine v_goto g (off := 4) (tgt := 489) (by decide +kernel) (by decide) ?_
    refine v_callV g (As := [.int (xs (6 * k + 1)), .int 1]) (rest := []) hM cl_L_56 hx7 rfl rfl (Nat.le_of_ble_eq_true rfl) (by decide +kernel) ⟨by show rm7.frames + 1 ≤ 2048; omega, by show 8 + (_ + 11) + rm7.locals ≤ 84000; omega⟩ ⟨by show h.2.1 + rm7.cells ≤ 0 + 601024; omega, by show h.2.2 + rm7.slots ≤ 0 + 7293034; omega⟩ (fun v1 h1 q => ?_)
    obtain ⟨⟨fs8, hm8⟩, hb1, ⟨a1, rfl⟩, rm8, r8, hM8⟩ := q
    show zV F X h1 492 [(0, .ref b), (1, .ref x), (2, .ref m), (3, .ref o), (4, .int (nI (6 * k)))] [.int a1]
    refine v_blk g [.aload_n 2, .aload_n 0, .iload 4, .iconst 1, .iadd] (pc' := 498) (lv' := [(0, .ref b), (1, .ref x), (2, .ref m), (3, .ref o), (4, .int (nI (6 * k)))]) (st' := [.int ((nI (6 * k)) + (1 : Int32)), .ref b, .ref m, .int a1]) (by decide +kernel) rfl rfl ?_
    refine v_sld g sc (6 * k + 1) (nI_add (6 * k) 1) (by omega) hL (by decide +kernel) ?_
    refine v_blk g [.aload_n 0, .iload 4, .iconst 2, .iadd] (pc' := 504) (lv' := [(0, .ref b), (1, .ref x), (2, .ref m), (3, .ref o), (4, .int (nI (6 * k)))]) (st' := [.int ((nI (6 * k)) + (2 : Int32)), .ref b, .int (xs (6 * k + 1)), .ref m, .int a1]) (by decide +kernel) rfl rfl ?_
    refine v_sld g sc (6 * k + 2) (nI_add (6 * k) 2) (by omega) hL (by decide +kernel) ?_
    refine v_if_eq g (off := 7) (tgt := 512) (by decide +kernel) (by decide) (fun c => absurd c cb) (fun _ => ?_)
    refine v_blk g [.iconst 1] (pc' := 509) (lv' := [(0, .ref b), (1, .ref x), (2, .ref m), (3, .ref o), (4, .int (nI (6 * k)))]) (st' := [.int (1 : Int32), .int (xs (6 * k + 1)), .ref m, .int a1]) (by decide +kernel) rfl rfl ?_
    refine v_goto g (off := 4) (tgt := 513) (by decide +kernel) (by decide) ?_
    refine v_callV g (As := [.int (xs (6 * k + 1)), .int 1]) (rest := [.int a1]) hM8 cl_L_60 hm8 rfl rfl (Nat.le_of_ble_eq_true rfl) (by decide +kernel) ⟨by show rm8.frames + 1 ≤ 2048; omega, by show 8 + (_ + 11) + rm8.locals ≤ 84000; omega⟩ ⟨by show h1.2.1 + rm8.cells ≤ 0 + 601024; omega, by show h1.2.2 + rm8.slots ≤ 0 + 7293034; omega⟩ (fun v2 h2 q => ?_)
    obtain ⟨rfl, L2⟩ := q
    show zV F X h2 516 [(0, .ref b), (1, .ref x), (2, .ref m), (3, .ref o), (4, .int (nI (6 * k)))] [.int a1, .int a1]
    exact v_icmp_eq g (off := 573) (tgt := 1089) (by decide +kernel) (by decide) (fun _ => kk h2 L2) (fun c => absurd rfl c)

set_option maxRecDepth 100000 in
set_option maxHeartbeats 4000000 in
theorem law_line {F : zF} {X : zX} {h : zH} {b L x m o k : Nat} {xs : Nat → Int32} (g : zG F X yL_law cL_law 7 ret room_1 (0, 0)) (sc : zSc F X b L xs) (hk6 : 6 * k + 6 ≤ L) (hL : L ≤ 3072) (hx : ∃ fs, h.1 x = some (oB 7 fs)) (Pq : PAIRi F yX7_line cX7_line 4 yX8_line cX8_line 5 (some .int) x m o k h [.int (xs (6 * k + 1)), .int (xs (6 * k + 2))]) (kk : ∀ h2, LW h2 x m o (k + 1) → zV F X h2 1089 [(0, .ref b), (1, .ref x), (2, .ref m), (3, .ref o), (4, .int (nI (6 * k)))] []) : zV F X h 589 [(0, .ref b), (1, .ref x), (2, .ref m), (3, .ref o), (4, .int (nI (6 * k)))] [] := by
  obtain ⟨fs7, hx7⟩ := hx
  obtain ⟨rm7, r7, hM⟩ := Pq
  refine v_blk g [.aload_n 1, .aload_n 0, .iload 4, .iconst 1, .iadd] (pc' := 595) (lv' := [(0, .ref b), (1, .ref x), (2, .ref m), (3, .ref o), (4, .int (nI (6 * k)))]) (st' := [.int ((nI (6 * k)) + (1 : Int32)), .ref b, .ref x]) (by decide +kernel) rfl rfl ?_
  refine v_sld g sc (6 * k + 1) (nI_add (6 * k) 1) (by omega) hL (by decide +kernel) ?_
  refine v_blk g [.aload_n 0, .iload 4, .iconst 2, .iadd] (pc' := 601) (lv' := [(0, .ref b), (1, .ref x), (2, .ref m), (3, .ref o), (4, .int (nI (6 * k)))]) (st' := [.int ((nI (6 * k)) + (2 : Int32)), .ref b, .int (xs (6 * k + 1)), .ref x]) (by decide +kernel) rfl rfl ?_
  refine v_sld g sc (6 * k + 2) (nI_add (6 * k) 2) (by omega) hL (by decide +kernel) ?_
  refine v_callV g (As := [.int (xs (6 * k + 1)), .int (xs (6 * k + 2))]) (rest := []) hM cl_L_71 hx7 rfl rfl (Nat.le_of_ble_eq_true rfl) (by decide +kernel) ⟨by show rm7.frames + 1 ≤ 2048; omega, by show 8 + (_ + 11) + rm7.locals ≤ 84000; omega⟩ ⟨by show h.2.1 + rm7.cells ≤ 0 + 601024; omega, by show h.2.2 + rm7.slots ≤ 0 + 7293034; omega⟩ (fun v1 h1 q => ?_)
  obtain ⟨⟨fs8, hm8⟩, hb1, ⟨a1, rfl⟩, rm8, r8, hM8⟩ := q
  show zV F X h1 605 [(0, .ref b), (1, .ref x), (2, .ref m), (3, .ref o), (4, .int (nI (6 * k)))] [.int a1]
  refine v_blk g [.aload_n 2, .aload_n 0, .iload 4, .iconst 1, .iadd] (pc' := 611) (lv' := [(0, .ref b), (1, .ref x), (2, .ref m), (3, .ref o), (4, .int (nI (6 * k)))]) (st' := [.int ((nI (6 * k)) + (1 : Int32)), .ref b, .ref m, .int a1]) (by decide +kernel) rfl rfl ?_
  refine v_sld g sc (6 * k + 1) (nI_add (6 * k) 1) (by omega) hL (by decide +kernel) ?_
  refine v_blk g [.aload_n 0, .iload 4, .iconst 2, .iadd] (pc' := 617) (lv' := [(0, .ref b), (1, .ref x), (2, .ref m), (3, .ref o), (4, .int (nI (6 * k)))]) (st' := [.int ((nI (6 * k)) + (2 : Int32)), .ref b, .int (xs (6 * k + 1)), .ref m, .int a1]) (by decide +kernel) rfl rfl ?_
  refine v_sld g sc (6 * k + 2) (nI_add (6 * k) 2) (by omega) hL (by decide +kernel) ?_
  refine v_callV g (As := [.int (xs (6 * k + 1)), .int (xs (6 * k + 2))]) (rest := [.int a1]) hM8 cl_L_74 hm8 rfl rfl (Nat.le_of_ble_eq_true rfl) (by decide +kernel) ⟨by show rm8.frames + 1 ≤ 2048; omega, by show 8 + (_ + 11) + rm8.locals ≤ 84000; omega⟩ ⟨by show h1.2.1 + rm8.cells ≤ 0 + 601024; omega, by show h1.2.2 + rm8.slots ≤ 0 + 7293034; omega⟩ (fun v2 h2 q => ?_)
  obtain ⟨rfl, L2⟩ := q
  show zV F X h2 621 [(0, .ref b), (1, .ref x), (2, .ref m), (3, .ref o), (4, .int (nI (6 * k)))] [.int a1, .int a1]
  exact v_icmp_eq g (off := 468) (tgt := 1089) (by decide +kernel) (by decide) (fun _ => kk h2 L2) (fun c => absurd rfl c)

set_option maxRecDepth 100000 in
set_option maxHeartbeats 4000000 in
theorem law_below {F : zF} {X : zX} {h : zH} {b L x m o k : Nat} {xs : Nat → Int32} (g : zG F X yL_law cL_law 7 ret room_1 (0, 0)) (sc : zSc F X b L xs) (hk6 : 6 * k + 6 ≤ L) (hL : L ≤ 3072) (hx : ∃ fs, h.1 x = some (oB 7 fs)) (Pq : PAIRi F yX7_below cX7_below 4 yX8_below cX8_below 3 (some .int) x m o k h [.int (xs (6 * k + 1)), .int (xs (6 * k + 2))]) (kk : ∀ h2, LW h2 x m o (k + 1) → zV F X h2 1089 [(0, .ref b), (1, .ref x), (2, .ref m), (3, .ref o), (4, .int (nI (6 * k)))] []) : zV F X h 626 [(0, .ref b), (1, .ref x), (2, .ref m), (3, .ref o), (4, .int (nI (6 * k)))] [] := by
  obtain ⟨fs7, hx7⟩ := hx
  obtain ⟨rm7, r7, hM⟩ := Pq
  refine v_blk g [.aload_n 1, .aload_n 0, .iload 4, .iconst 1, .iadd] (pc' := 632) (lv' := [(0, .ref b), (1, .ref x), (2, .ref m), (3, .ref o), (4, .int (nI (6 * k)))]) (st' := [.int ((nI (6 * k)) + (1 : Int32)), .ref b, .ref x]) (by decide +kernel) rfl rfl ?_
  refine v_sld g sc (6 * k + 1) (nI_add (6 * k) 1) (by omega) hL (by decide +kernel) ?_
  refine v_blk g [.aload_n 0, .iload 4, .iconst 2, .iadd] (pc' := 638) (lv' := [(0, .ref b), (1, .ref x), (2, .ref m), (3, .ref o), (4, .int (nI (6 * k)))]) (st' := [.int ((nI (6 * k)) + (2 : Int32)), .ref b, .int (xs (6 * k + 1)), .ref x]) (by decide +kernel) rfl rfl ?_
  refine v_sld g sc (6 * k + 2) (nI_add (6 * k) 2) (by omega) hL (by decide +kernel) ?_
  refine v_callV g (As := [.int (xs (6 * k + 1)), .int (xs (6 * k + 2))]) (rest := []) hM cl_L_75 hx7 rfl rfl (Nat.le_of_ble_eq_true rfl) (by decide +kernel) ⟨by show rm7.frames + 1 ≤ 2048; omega, by show 8 + (_ + 11) + rm7.locals ≤ 84000; omega⟩ ⟨by show h.2.1 + rm7.cells ≤ 0 + 601024; omega, by show h.2.2 + rm7.slots ≤ 0 + 7293034; omega⟩ (fun v1 h1 q => ?_)
  obtain ⟨⟨fs8, hm8⟩, hb1, ⟨a1, rfl⟩, rm8, r8, hM8⟩ := q
  show zV F X h1 642 [(0, .ref b), (1, .ref x), (2, .ref m), (3, .ref o), (4, .int (nI (6 * k)))] [.int a1]
  refine v_blk g [.aload_n 2, .aload_n 0, .iload 4, .iconst 1, .iadd] (pc' := 648) (lv' := [(0, .ref b), (1, .ref x), (2, .ref m), (3, .ref o), (4, .int (nI (6 * k)))]) (st' := [.int ((nI (6 * k)) + (1 : Int32)), .ref b, .ref m, .int a1]) (by decide +kernel) rfl rfl ?_
  refine v_sld g sc (6 * k + 1) (nI_add (6 * k) 1) (by omega) hL (by decide +kernel) ?_
  refine v_blk g [.aload_n 0, .iload 4, .iconst 2, .iadd] (pc' := 654) (lv' := [(0, .ref b), (1, .ref x), (2, .ref m), (3, .ref o), (4, .int (nI (6 * k)))]) (st' := [.int ((nI (6 * k)) + (2 : Int32)), .ref b, .int (xs (6 * k + 1)), .ref m, .int a1]) (by decide +kernel) rfl rfl ?_
  refine v_sld g sc (6 * k + 2) (nI_add (6 * k) 2) (by omega) hL (by decide +kernel) ?_
  refine v_callV g (As := [.int (xs (6 * k + 1)), .int (xs (6 * k + 2))]) (rest := [.int a1]) hM8 cl_L_78 hm8 rfl rfl (Nat.le_of_ble_eq_true rfl) (by decide +kernel) ⟨by show rm8.frames + 1 ≤ 2048; omega, by show 8 + (_ + 11) + rm8.locals ≤ 84000; omega⟩ ⟨by show h1.2.1 + rm8.cells ≤ 0 + 601024; omega, by show h1.2.2 + rm8.slots ≤ 0 + 7293034; omega⟩ (fun v2 h2 q => ?_)
  obtain ⟨rfl, L2⟩ := q
  show zV F X h2 658 [(0, .ref b), (1, .ref x), (2, .ref m), (3, .ref o), (4, .int (nI (6 * k)))] [.int a1, .int a1]
  exact v_icmp_eq g (off := 431) (tgt := 1089) (by decide +kernel) (by decide) (fun _ => kk h2 L2) (fun c => absurd rfl c)
