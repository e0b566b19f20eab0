set_option maxRecDepth 100000 in
set_option maxHeartbeats 4000000 in
theorem law_house {F : zF} {X : zX} {h : zH} {b L x m o k : Nat} {xs : Nat → Int32} (g : zG F X yL_law cL_law 7 ret room_1 (0, 0)) (sc : zSc F X b L xs) (hk6 : 6 * k + 6 ≤ L) (hL : L ≤ 3072) (hx : ∃ fs, h.1 x = some (oB 7 fs)) (Pq : PAIRi F yX7_house cX7_house 4 yX8_house cX8_house 4 (some .int) x m o k h [.int (xs (6 * k + 1)), .int (xs (6 * k + 2))]) (kk : ∀ h2, LW h2 x m o (k + 1) → zV F X h2 1089 [(0, .ref b), (1, .ref x), (2, .ref m), (3, .ref o), (4, .int (nI (6 * k)))] []) : zV F X h 861 [(0, .ref b), (1, .ref x), (2, .ref m), (3, .ref o), (4, .int (nI (6 * k)))] [] := by
  obtain ⟨fs7, hx7⟩ := hx
  obtain ⟨rm7, r7, hM⟩ := Pq
  refine v_blk g [.aload_n 1, .aload_n 0, .iload 4, .iconst 1, .iadd] (pc' := 867) (lv' := [(0, .ref b), (1, .ref x), (2, .ref m), (3, .ref o), (4, .int (nI (6 * k)))]) (st' := [.int ((nI (6 * k)) + (1 : Int32)), .ref b, .ref x]) (by decide +kernel) rfl rfl ?_
  refine v_sld g sc (6 * k + 1) (nI_add (6 * k) 1) (by omega) hL (by decide +kernel) ?_
  refine v_blk g [.aload_n 0, .iload 4, .iconst 2, .iadd] (pc' := 873) (lv' := [(0, .ref b), (1, .ref x), (2, .ref m), (3, .ref o), (4, .int (nI (6 * k)))]) (st' := [.int ((nI (6 * k)) + (2 : Int32)), .ref b, .int (xs (6 * k + 1)), .ref x]) (by decide +kernel) rfl rfl ?_
  refine v_sld g sc (6 * k + 2) (nI_add (6 * k) 2) (by omega) hL (by decide +kernel) ?_
  refine v_callV g (As := [.int (xs (6 * k + 1)), .int (xs (6 * k + 2))]) (rest := []) hM cl_L_103 hx7 rfl rfl (Nat.le_of_ble_eq_true rfl) (by decide +kernel) ⟨by show rm7.frames + 1 ≤ 2048; omega, by show 8 + (_ + 11) + rm7.locals ≤ 84000; omega⟩ ⟨by show h.2.1 + rm7.cells ≤ 0 + 601024; omega, by show h.2.2 + rm7.slots ≤ 0 + 7293034; omega⟩ (fun v1 h1 q => ?_)
  obtain ⟨⟨fs8, hm8⟩, hb1, ⟨a1, rfl⟩, rm8, r8, hM8⟩ := q
  show zV F X h1 877 [(0, .ref b), (1, .ref x), (2, .ref m), (3, .ref o), (4, .int (nI (6 * k)))] [.int a1]
  refine v_blk g [.aload_n 2, .aload_n 0, .iload 4, .iconst 1, .iadd] (pc' := 883) (lv' := [(0, .ref b), (1, .ref x), (2, .ref m), (3, .ref o), (4, .int (nI (6 * k)))]) (st' := [.int ((nI (6 * k)) + (1 : Int32)), .ref b, .ref m, .int a1]) (by decide +kernel) rfl rfl ?_
  refine v_sld g sc (6 * k + 1) (nI_add (6 * k) 1) (by omega) hL (by decide +kernel) ?_
  refine v_blk g [.aload_n 0, .iload 4, .iconst 2, .iadd] (pc' := 889) (lv' := [(0, .ref b), (1, .ref x), (2, .ref m), (3, .ref o), (4, .int (nI (6 * k)))]) (st' := [.int ((nI (6 * k)) + (2 : Int32)), .ref b, .int (xs (6 * k + 1)), .ref m, .int a1]) (by decide +kernel) rfl rfl ?_
  refine v_sld g sc (6 * k + 2) (nI_add (6 * k) 2) (by omega) hL (by decide +kernel) ?_
  refine v_callV g (As := [.int (xs (6 * k + 1)), .int (xs (6 * k + 2))]) (rest := [.int a1]) hM8 cl_L_106 hm8 rfl rfl (Nat.le_of_ble_eq_true rfl) (by decide +kernel) ⟨by show rm8.frames + 1 ≤ 2048; omega, by show 8 + (_ + 11) + rm8.locals ≤ 84000; omega⟩ ⟨by show h1.2.1 + rm8.cells ≤ 0 + 601024; omega, by show h1.2.2 + rm8.slots ≤ 0 + 7293034; omega⟩ (fun v2 h2 q => ?_)
  obtain ⟨rfl, L2⟩ := q
  show zV F X h2 893 [(0, .ref b), (1, .ref x), (2, .ref m), (3, .ref o), (4, .int (nI (6 * k)))] [.int a1, .int a1]
  exact v_icmp_eq g (off := 196) (tgt := 1089) (by decide +kernel) (by decide) (fun _ => kk h2 L2) (fun c => absurd rfl c)

set_option maxRecDepth 100000 in
set_option maxHeartbeats 4000000 in
theorem law_dividend {F : zF} {X : zX} {h : zH} {b L x m o k : Nat} {xs : Nat → Int32} (g : zG F X yL_law cL_law 7 ret room_1 (0, 0)) (sc : zSc F X b L xs) (hk6 : 6 * k + 6 ≤ L) (hL : L ≤ 3072) (hx : ∃ fs, h.1 x = some (oB 7 fs)) (Pq : PAIRi F yX7_dividend cX7_dividend 4 yX8_dividend cX8_dividend 7 (some .int) x m o k h [.int (xs (6 * k + 1)), .int (xs (6 * k + 2)), .int (xs (6 * k + 3))]) (kk : ∀ h2, LW h2 x m o (k + 1) → zV F X h2 1089 [(0, .ref b), (1, .ref x), (2, .ref m), (3, .ref o), (4, .int (nI (6 * k)))] []) : zV F X h 898 [(0, .ref b), (1, .ref x), (2, .ref m), (3, .ref o), (4, .int (nI (6 * k)))] [] := by
  obtain ⟨fs7, hx7⟩ := hx
  obtain ⟨rm7, r7, hM⟩ := Pq
  refine v_blk g [.aload_n 1, .aload_n 0, .iload 4, .iconst 1, .iadd] (pc' := 904) (lv' := [(0, .ref b), (1, .ref x), (2, .ref m), (3, .ref o), (4, .int (nI (6 * k)))]) (st' := [.int ((nI (6 * k)) + (1 : Int32)), .ref b, .ref x]) (by decide +kernel) rfl rfl ?_
  refine v_sld g sc (6 * k + 1) (nI_add (6 * k) 1) (by omega) hL (by decide +kernel) ?_
  refine v_blk g [.aload_n 0, .iload 4, .iconst 2, .iadd] (pc' := 910) (lv' := [(0, .ref b), (1, .ref x), (2, .ref m), (3, .ref o), (4, .int (nI (6 * k)))]) (st' := [.int ((nI (6 * k)) + (2 : Int32)), .ref b, .int (xs (6 * k + 1)), .ref x]) (by decide +kernel) rfl rfl ?_
  refine v_sld g sc (6 * k + 2) (nI_add (6 * k) 2) (by omega) hL (by decide +kernel) ?_
  refine v_blk g [.aload_n 0, .iload 4, .iconst 3, .iadd] (pc' := 916) (lv' := [(0, .ref b), (1, .ref x), (2, .ref m), (3, .ref o), (4, .int (nI (6 * k)))]) (st' := [.int ((nI (6 * k)) + (3 : Int32)), .ref b, .int (xs (6 * k + 2)), .int (xs (6 * k + 1)), .ref x]) (by decide +kernel) rfl rfl ?_
  refine v_sld g sc (6 * k + 3) (nI_add (6 * k) 3) (by omega) hL (by decide +kernel) ?_
  refine v_callV g (As := [.int (xs (6 * k + 1)), .int (xs (6 * k + 2)), .int (xs (6 * k + 3))]) (rest := []) hM cl_L_107 hx7 rfl rfl (Nat.le_of_ble_eq_true rfl) (by decide +kernel) ⟨by show rm7.frames + 1 ≤ 2048; omega, by show 8 + (_ + 11) + rm7.locals ≤ 84000; omega⟩ ⟨by show h.2.1 + rm7.cells ≤ 0 + 601024; omega, by show h.2.2 + rm7.slots ≤ 0 + 7293034; omega⟩ (fun v1 h1 q => ?_)
  obtain ⟨⟨fs8, hm8⟩, hb1, ⟨a1, rfl⟩, rm8, r8, hM8⟩ := q
  show zV F X h1 920 [(0, .ref b), (1, .ref x), (2, .ref m), (3, .ref o), (4, .int (nI (6 * k)))] [.int a1]
  refine v_blk g [.aload_n 2, .aload_n 0, .iload 4, .iconst 1, .iadd] (pc' := 926) (lv' := [(0, .ref b), (1, .ref x), (2, .ref m), (3, .ref o), (4, .int (nI (6 * k)))]) (st' := [.int ((nI (6 * k)) + (1 : Int32)), .ref b, .ref m, .int a1]) (by decide +kernel) rfl rfl ?_
  refine v_sld g sc (6 * k + 1) (nI_add (6 * k) 1) (by omega) hL (by decide +kernel) ?_
  refine v_blk g [.aload_n 0, .iload 4, .iconst 2, .iadd] (pc' := 932) (lv' := [(0, .ref b), (1, .ref x), (2, .ref m), (3, .ref o), (4, .int (nI (6 * k)))]) (st' := [.int ((nI (6 * k)) + (2 : Int32)), .ref b, .int (xs (6 * k + 1)), .ref m, .int a1]) (by decide +kernel) rfl rfl ?_
  refine v_sld g sc (6 * k + 2) (nI_add (6 * k) 2) (by omega) hL (by decide +kernel) ?_
  refine v_blk g [.aload_n 0, .iload 4, .iconst 3, .iadd] (pc' := 938) (lv' := [(0, .ref b), (1, .ref x), (2, .ref m), (3, .ref o), (4, .int (nI (6 * k)))]) (st' := [.int ((nI (6 * k)) + (3 : Int32)), .ref b, .int (xs (6 * k + 2)), .int (xs (6 * k + 1)), .ref m, .int a1]) (by decide +kernel) rfl rfl ?_
  refine v_sld g sc (6 * k + 3) (nI_add (6 * k) 3) (by omega) hL (by decide +kernel) ?_
  refine v_callV g (As := [.int (xs (6 * k + 1)), .int (xs (6 * k + 2)), .int (xs (6 * k + 3))]) (rest := [.int a1]) hM8 cl_L_111 hm8 rfl rfl (Nat.le_of_ble_eq_true rfl) (by decide +kernel) ⟨by show rm8.frames + 1 ≤ 2048; omega, by show 8 + (_ + 11) + rm8.locals ≤ 84000; omega⟩ ⟨by show h1.2.1 + rm8.cells ≤ 0 + 601024; omega, by show h1.2.2 + rm8.slots ≤ 0 + 7293034; omega⟩ (fun v2 h2 q => ?_)
  obtain ⟨rfl, L2⟩ := q
  show zV F X h2 942 [(0, .ref b), (1, .ref x), (2, .ref m), (3, .ref o), (4, .int (nI (6 * k)))] [.int a1, .int a1]
  exact v_icmp_eq g (off := 147) (tgt := 1089) (by decide +kernel) (by decide) (fun _ => kk h2 L2) (fun c => absurd rfl c)

set_option maxRecDepth 100000 in
set_option maxHeartbeats 4000000 in
theorem law_repeal {F : zF} {X : zX} {h : zH} {b L x m o k : Nat} {xs : Nat → Int32} (g : zG F X yL_law cL_law 7 ret room_1 (0, 0)) (sc : zSc F X b L xs) (hk6 : 6 * k + 6 ≤ L) (hL : L ≤ 3072) (hx : ∃ fs, h.1 x = some (oB 7 fs)) (Pq : PAIRi F yX7_repeal cX7_repeal 1 yX8_repeal cX8_repeal 2 (some .int) x m o k h []) (kk : ∀ h2, LW h2 x m o (k + 1) → zV F X h2 1089 [(0, .ref b), (1, .ref x), (2, .ref m), (3, .ref o), (4, .int (nI (6 * k)))] []) : zV F X h 947 [(0, .ref b), (1, .ref x), (2, .ref m), (3, .ref o), (4, .int (nI (6 * k)))] [] := by
  obtain ⟨fs7, hx7⟩ := hx
  obtain ⟨rm7, r7, hM⟩ := Pq
  refine v_blk g [.aload_n 1] (pc' := 948) (lv' := [(0, .ref b), (1, .ref x), (2, .ref m), (3, .ref o), (4, .int (nI (6 * k)))]) (st' := [.ref x]) (by decide +kernel) rfl rfl ?_
  refine v_callV g (As := []) (rest := []) hM cl_L_112 hx7 rfl rfl (Nat.le_of_ble_eq_true rfl) (by decide +kernel) ⟨by show rm7.frames + 1 ≤ 2048; omega, by show 8 + (_ + 11) + rm7.locals ≤ 84000; omega⟩ ⟨by show h.2.1 + rm7.cells ≤ 0 + 601024; omega, by show h.2.2 + rm7.slots ≤ 0 + 7293034; omega⟩ (fun v1 h1 q => ?_)
  obtain ⟨⟨fs8, hm8⟩, hb1, ⟨a1, rfl⟩, rm8, r8, hM8⟩ := q
  show zV F X h1 951 [(0, .ref b), (1, .ref x), (2, .ref m), (3, .ref o), (4, .int (nI (6 * k)))] [.int a1]
  refine v_blk g [.aload_n 2] (pc' := 952) (lv' := [(0, .ref b), (1, .ref x), (2, .ref m), (3, .ref o), (4, .int (nI (6 * k)))]) (st' := [.ref m, .int a1]) (by decide +kernel) rfl rfl ?_
  refine v_callV g (As := []) (rest := [.int a1]) hM8 cl_L_115 hm8 rfl rfl (Nat.le_of_ble_eq_true rfl) (by decide +kernel) ⟨by show rm8.frames + 1 ≤ 2048; omega, by show 8 + (_ + 11) + rm8.locals ≤ 84000; omega⟩ ⟨by show h1.2.1 + rm8.cells ≤ 0 + 601024; omega, by show h1.2.2 + rm8.slots ≤ 0 + 7293034; omega⟩ (fun v2 h2 q => ?_)
  obtain ⟨rfl, L2⟩ := q
  show zV F X h2 955 [(0, .ref b), (1, .ref x), (2, .ref m), (3, .ref o), (4, .int (nI (6 * k)))] [.int a1, .int a1]
  exact v_icmp_eq g (off := 134) (tgt := 1089) (by decide +kernel) (by decide) (fun _ => kk h2 L2) (fun c => absurd rfl c)

set_option maxRecDepth 100000 in
set_option maxHeartbeats 4000000 in
theorem law_settle {F : zF} {X : zX} {h : zH} {b L x m o k : Nat} {xs : Nat → Int32} (g : zG F X yL_law cL_law 7 ret room_1 (0, 0)) (sc : zSc F X b L xs) (hk6 : 6 * k + 6 ≤ L) (hL : L ≤ 3072) (hx : ∃ fs, h.1 x = some (oB 7 fs)) (Pq : PAIRl F yX7_settle cX7_settle 1 yX8_settle cX8_settle 22 (some .long) x m o k h []) (kk : ∀ h2, LW h2 x m o (k + 1) → zV F X h2 1089 [(0, .ref b), (1, .ref x), (2, .ref m), (3, .ref o), (4, .int (nI (6 * k)))] []) : zV F X h 960 [(0, .ref b), (1, .ref x), (2, .ref m), (3, .ref o), (4, .int (nI (6 * k)))] [] := by
  obtain ⟨fs7, hx7⟩ := hx
  obtain ⟨rm7, r7, hM⟩ := Pq
  refine v_blk g [.aload_n 1] (pc' := 961) (lv' := [(0, .ref b), (1, .ref x), (2, .ref m), (3, .ref o), (4, .int (nI (6 * k)))]) (st' := [.ref x]) (by decide +kernel) rfl rfl ?_
  refine v_callV g (As := []) (rest := []) hM cl_L_116 hx7 rfl rfl (Nat.le_of_ble_eq_true rfl) (by decide +kernel) ⟨by show rm7.frames + 1 ≤ 2048; omega, by show 8 + (_ + 11) + rm7.locals ≤ 84000; omega⟩ ⟨by show h.2.1 + rm7.cells ≤ 0 + 601024; omega, by show h.2.2 + rm7.slots ≤ 0 + 7293034; omega⟩ (fun v1 h1 q => ?_)
  obtain ⟨⟨fs8, hm8⟩, hb1, ⟨a1, rfl⟩, rm8, r8, hM8⟩ := q
  show zV F X h1 964 [(0, .ref b), (1, .ref x), (2, .ref m), (3, .ref o), (4, .int (nI (6 * k)))] [.long a1]
  refine v_blk g [.aload_n 2] (pc' := 965) (lv' := [(0, .ref b), (1, .ref x), (2, .ref m), (3, .ref o), (4, .int (nI (6 * k)))]) (st' := [.ref m, .long a1]) (by decide +kernel) rfl rfl ?_
  refine v_callV g (As := []) (rest := [.long a1]) hM8 cl_L_120 hm8 rfl rfl (Nat.le_of_ble_eq_true rfl) (by decide +kernel) ⟨by show rm8.frames + 1 ≤ 2048; omega, by show 8 + (_ + 11) + rm8.locals ≤ 84000; omega⟩ ⟨by show h1.2.1 + rm8.cells ≤ 0 + 601024; omega, by show h1.2.2 + rm8.slots ≤ 0 + 7293034; omega⟩ (fun v2 h2 q => ?_)
  obtain ⟨rfl, L2⟩ := q
  show zV F X h2 968 [(0, .ref b), (1, .ref x), (2, .ref m), (3, .ref o), (4, .int (nI (6 * k)))] [.long a1, .long a1]
  refine v_blk g [.lcmp] (pc' := 969) (lv' := [(0, .ref b), (1, .ref x), (2, .ref m), (3, .ref o), (4, .int (nI (6 * k)))]) (st' := [.int (lg_cmp a1 a1)]) (by decide +kernel) rfl rfl ?_
  exact v_if_eq g (off := 120) (tgt := 1089) (by decide +kernel) (by decide) (fun _ => kk h2 L2) (fun c => absurd (lg_cmp_s a1) c)

set_option maxRecDepth 100000 in
set_option maxHeartbeats 4000000 in
theorem law_count {F : zF} {X : zX} {h : zH} {b L x m o k : Nat} {xs : Nat → Int32} (g : zG F X yL_law cL_law 7 ret room_1 (0, 0)) (sc : zSc F X b L xs) (hk6 : 6 * k + 6 ≤ L) (hL : L ≤ 3072) (hx : ∃ fs, h.1 x = some (oB 7 fs)) (Pq : PAIRl F yX7_count cX7_count 2 yX8_count_ cX8_count_ 5 (some .long) x m o k h [.int (xs (6 * k + 1))]) (kk : ∀ h2, LW h2 x m o (k + 1) → zV F X h2 1089 [(0, .ref b), (1, .ref x), (2, .ref m), (3, .ref o), (4, .int (nI (6 * k)))] []) : zV F X h 974 [(0, .ref b), (1, .ref x), (2, .ref m), (3, .ref o), (4, .int (nI (6 * k)))] [] := by
  obtain ⟨fs7, hx7⟩ := hx
  obtain ⟨rm7, r7, hM⟩ := Pq
  refine v_blk g [.aload_n 1, .aload_n 0, .iload 4, .iconst 1, .iadd] (pc' := 980) (lv' := [(0, .ref b), (1, .ref x), (2, .ref m), (3, .ref o), (4, .int (nI (6 * k)))]) (st' := [.int ((nI (6 * k)) + (1 : Int32)), .ref b, .ref x]) (by decide +kernel) rfl rfl ?_
  refine v_sld g sc (6 * k + 1) (nI_add (6 * k) 1) (by omega) hL (by decide +kernel) ?_
  refine v_callV g (As := [.int (xs (6 * k + 1))]) (rest := []) hM cl_L_121 hx7 rfl rfl (Nat.le_of_ble_eq_true rfl) (by decide +kernel) ⟨by show rm7.frames + 1 ≤ 2048; omega, by show 8 + (_ + 11) + rm7.locals ≤ 84000; omega⟩ ⟨by show h.2.1 + rm7.cells ≤ 0 + 601024; omega, by show h.2.2 + rm7.slots ≤ 0 + 7293034; omega⟩ (fun v1 h1 q => ?_)
  obtain ⟨⟨fs8, hm8⟩, hb1, ⟨a1, rfl⟩, rm8, r8, hM8⟩ := q
  show zV F X h1 984 [(0, .ref b), (1, .ref x), (2, .ref m), (3, .ref o), (4, .int (nI (6 * k)))] [.long a1]
  refine v_blk g [.aload_n 2, .aload_n 0, .iload 4, .iconst 1, .iadd] (pc' := 990) (lv' := [(0, .ref b), (1, .ref x), (2, .ref m), (3, .ref o), (4, .int (nI (6 * k)))]) (st' := [.int ((nI (6 * k)) + (1 : Int32)), .ref b, .ref m, .long a1]) (by decide +kernel) rfl rfl ?_
  refine v_sld g sc (6 * k + 1) (nI_add (6 * k) 1) (by omega) hL (by decide +kernel) ?_
  refine v_callV g (As := [.int (xs (6 * k + 1))]) (rest := [.long a1]) hM8 cl_L_125 hm8 rfl rfl (Nat.le_of_ble_eq_true rfl) (by decide +kernel) ⟨by show rm8.frames + 1 ≤ 2048; omega, by show 8 + (_ + 11) + rm8.locals ≤ 84000; omega⟩ ⟨by show h1.2.1 + rm8.cells ≤ 0 + 601024; omega, by show h1.2.2 + rm8.slots ≤ 0 + 7293034; omega⟩ (fun v2 h2 q => ?_)
  obtain ⟨rfl, L2⟩ := q
  show zV F X h2 994 [(0, .ref b), (1, .ref x), (2, .ref m), (3, .ref o), (4, .int (nI (6 * k)))] [.long a1, .long a1]
  refine v_blk g [.lcmp] (pc' := 995) (lv' := [(0, .ref b), (1, .ref x), (2, .ref m), (3, .ref o), (4, .int (nI (6 * k)))]) (st' := [.int (lg_cmp a1 a1)]) (by decide +kernel) rfl rfl ?_
  exact v_if_eq g (off := 94) (tgt := 1089) (by decide +kernel) (by decide) (fun _ => kk h2 L2) (fun c => absurd (lg_cmp_s a1) c)

set_option maxRecDepth 100000 in
set_option maxHeartbeats 4000000 in
theorem law_divided {F : zF} {X : zX} {h : zH} {b L x m o k : Nat} {xs : Nat → Int32} (g : zG F X yL_law cL_law 7 ret room_1 (0, 0)) (sc : zSc F X b L xs) (hk6 : 6 * k + 6 ≤ L) (hL : L ≤ 3072) (hx : ∃ fs, h.1 x = some (oB 7 fs)) (Pq : PAIRl F yX7_divided cX7_divided 4 yX8_divided cX8_divided 3 (some .long) x m o k h [.int (xs (6 * k + 1)), .int (xs (6 * k + 2))]) (kk : ∀ h2, LW h2 x m o (k + 1) → zV F X h2 1089 [(0, .ref b), (1, .ref x), (2, .ref m), (3, .ref o), (4, .int (nI (6 * k)))] []) : zV F X h 1000 [(0, .ref b), (1, .ref x), (2, .ref m), (3, .ref o), (4, .int (nI (6 * k)))] [] := by
  obtain ⟨fs7, hx7⟩ := hx
  obtain ⟨rm7, r7, hM⟩ := Pq
  refine v_blk g [.aload_n 1, .aload_n 0, .iload 4, .iconst 1, .iadd] (pc' := 1006) (lv' := [(0, .ref b), (1, .ref x), (2, .ref m), (3, .ref o), (4, .int (nI (6 * k)))]) (st' := [.int ((nI (6 * k)) + (1 : Int32)), .ref b, .ref x]) (by decide +kernel) rfl rfl ?_
  refine v_sld g sc (6 * k + 1) (nI_add (6 * k) 1) (by omega) hL (by decide +kernel) ?_
  refine v_blk g [.aload_n 0, .iload 4, .iconst 2, .iadd] (pc' := 1012) (lv' := [(0, .ref b), (1, .ref x), (2, .ref m), (3, .ref o), (4, .int (nI (6 * k)))]) (st' := [.int ((nI (6 * k)) + (2 : Int32)), .ref b, .int (xs (6 * k + 1)), .ref x]) (by decide +kernel) rfl rfl ?_
  refine v_sld g sc (6 * k + 2) (nI_add (6 * k) 2) (by omega) hL (by decide +kernel) ?_
  refine v_callV g (As := [.int (xs (6 * k + 1)), .int (xs (6 * k + 2))]) (rest := []) hM cl_L_126 hx7 rfl rfl (Nat.le_of_ble_eq_true rfl) (by decide +kernel) ⟨by show rm7.frames + 1 ≤ 2048; omega, by show 8 + (_ + 11) + rm7.locals ≤ 84000; omega⟩ ⟨by show h.2.1 + rm7.cells ≤ 0 + 601024; omega, by show h.2.2 + rm7.slots ≤ 0 + 7293034; omega⟩ (fun v1 h1 q => ?_)
  obtain ⟨⟨fs8, hm8⟩, hb1, ⟨a1, rfl⟩, rm8, r8, hM8⟩ := q
  show zV F X h1 1016 [(0, .ref b), (1, .ref x), (2, .ref m), (3, .ref o), (4, .int (nI (6 * k)))] [.long a1]
  refine v_blk g [.aload_n 2, .aload_n 0, .iload 4, .iconst 1, .iadd] (pc' := 1022) (lv' := [(0, .ref b), (1, .ref x), (2, .ref m), (3, .ref o), (4, .int (nI (6 * k)))]) (st' := [.int ((nI (6 * k)) + (1 : Int32)), .ref b, .ref m, .long a1]) (by decide +kernel) rfl rfl ?_
  refine v_sld g sc (6 * k + 1) (nI_add (6 * k) 1) (by omega) hL (by decide +kernel) ?_
  refine v_blk g [.aload_n 0, .iload 4, .iconst 2, .iadd] (pc' := 1028) (lv' := [(0, .ref b), (1, .ref x), (2, .ref m), (3, .ref o), (4, .int (nI (6 * k)))]) (st' := [.int ((nI (6 * k)) + (2 : Int32)), .ref b, .int (xs (6 * k + 1)), .ref m, .long a1]) (by decide +kernel) rfl rfl ?_
  refine v_sld g sc (6 * k + 2) (nI_add (6 * k) 2) (by omega) hL (by decide +kernel) ?_
  refine v_callV g (As := [.int (xs (6 * k + 1)), .int (xs (6 * k + 2))]) (rest := [.long a1]) hM8 cl_L_130 hm8 rfl rfl (Nat.le_of_ble_eq_true rfl) (by decide +kernel) ⟨by show rm8.frames + 1 ≤ 2048; omega, by show 8 + (_ + 11) + rm8.locals ≤ 84000; omega⟩ ⟨by show h1.2.1 + rm8.cells ≤ 0 + 601024; omega, by show h1.2.2 + rm8.slots ≤ 0 + 7293034; omega⟩ (fun v2 h2 q => ?_)
  obtain ⟨rfl, L2⟩ := q
  show zV F X h2 1032 [(0, .ref b), (1, .ref x), (2, .ref m), (3, .ref o), (4, .int (nI (6 * k)))] [.long a1, .long a1]
  refine v_blk g [.lcmp] (pc' := 1033) (lv' := [(0, .ref b), (1, .ref x), (2, .ref m), (3, .ref o), (4, .int (nI (6 * k)))]) (st' := [.int (lg_cmp a1 a1)]) (by decide +kernel) rfl rfl ?_
  exact v_if_eq g (off := 56) (tgt := 1089) (by decide +kernel) (by decide) (fun _ => kk h2 L2) (fun c => absurd (lg_cmp_s a1) c)

set_option maxRecDepth 100000 in
set_option maxHeartbeats 4000000 in
theorem law_prize {F : zF} {X : zX} {h : zH} {b L x m o k : Nat} {xs : Nat → Int32} (g : zG F X yL_law cL_law 7 ret room_1 (0, 0)) (sc : zSc F X b L xs) (hk6 : 6 * k + 6 ≤ L) (hL : L ≤ 3072) (hx : ∃ fs, h.1 x = some (oB 7 fs)) (Pq : PAIRl F yX7_prize cX7_prize 3 yX8_prize cX8_prize 7 (some .long) x m o k h [.int (xs (6 * k + 1)), .int (xs (6 * k + 2))]) (kk : ∀ h2, LW h2 x m o (k + 1) → zV F X h2 1089 [(0, .ref b), (1, .ref x), (2, .ref m), (3, .ref o), (4, .int (nI (6 * k)))] []) : zV F X h 1038 [(0, .ref b), (1, .ref x), (2, .ref m), (3, .ref o), (4, .int (nI (6 * k)))] [] := by
  obtain ⟨fs7, hx7⟩ := hx
  obtain ⟨rm7, r7, hM⟩ := Pq
  refine v_blk g [.aload_n 1, .aload_n 0, .iload 4, .iconst 1, .iadd] (pc' := 1044) (lv' := [(0, .ref b), (1, .ref x), (2, .ref m), (3, .ref o), (4, .int (nI (6 * k)))]) (st' := [.int ((nI (6 * k)) + (1 : Int32)), .ref b, .ref x]) (by decide +kernel) rfl rfl ?_
  refine v_sld g sc (6 * k + 1) (nI_add (6 * k) 1) (by omega) hL (by decide +kernel) ?_
  refine v_blk g [.aload_n 0, .iload 4, .iconst 2, .iadd] (pc' := 1050) (lv' := [(0, .ref b), (1, .ref x), (2, .ref m), (3, .ref o), (4, .int (nI (6 * k)))]) (st' := [.int ((nI (6 * k)) + (2 : Int32)), .ref b, .int (xs (6 * k + 1)), .ref x]) (by decide +kernel) rfl rfl ?_
  refine v_sld g sc (6 * k + 2) (nI_add (6 * k) 2) (by omega) hL (by decide +kernel) ?_
  refine v_callV g (As := [.int (xs (6 * k + 1)), .int (xs (6 * k + 2))]) (rest := []) hM cl_L_131 hx7 rfl rfl (Nat.le_of_ble_eq_true rfl) (by decide +kernel) ⟨by show rm7.frames + 1 ≤ 2048; omega, by show 8 + (_ + 11) + rm7.locals ≤ 84000; omega⟩ ⟨by show h.2.1 + rm7.cells ≤ 0 + 601024; omega, by show h.2.2 + rm7.slots ≤ 0 + 7293034; omega⟩ (fun v1 h1 q => ?_)
  obtain ⟨⟨fs8, hm8⟩, hb1, ⟨a1, rfl⟩, rm8, r8, hM8⟩ := q
  show zV F X h1 1054 [(0, .ref b), (1, .ref x), (2, .ref m), (3, .ref o), (4, .int (nI (6 * k)))] [.long a1]
  refine v_blk g [.aload_n 2, .aload_n 0, .iload 4, .iconst 1, .iadd] (pc' := 1060) (lv' := [(0, .ref b), (1, .ref x), (2, .ref m), (3, .ref o), (4, .int (nI (6 * k)))]) (st' := [.int ((nI (6 * k)) + (1 : Int32)), .ref b, .ref m, .long a1]) (by decide +kernel) rfl rfl ?_
  refine v_sld g sc (6 * k + 1) (nI_add (6 * k) 1) (by omega) hL (by decide +kernel) ?_
  refine v_blk g [.aload_n 0, .iload 4, .iconst 2, .iadd] (pc' := 1066) (lv' := [(0, .ref b), (1, .ref x), (2, .ref m), (3, .ref o), (4, .int (nI (6 * k)))]) (st' := [.int ((nI (6 * k)) + (2 : Int32)), .ref b, .int (xs (6 * k + 1)), .ref m, .long a1]) (by decide +kernel) rfl rfl ?_
  refine v_sld g sc (6 * k + 2) (nI_add (6 * k) 2) (by omega) hL (by decide +kernel) ?_
  refine v_callV g (As := [.int (xs (6 * k + 1)), .int (xs (6 * k + 2))]) (rest := [.long a1]) hM8 cl_L_134 hm8 rfl rfl (Nat.le_of_ble_eq_true rfl) (by decide +kernel) ⟨by show rm8.frames + 1 ≤ 2048; omega, by show 8 + (_ + 11) + rm8.locals ≤ 84000; omega⟩ ⟨by show h1.2.1 + rm8.cells ≤ 0 + 601024; omega, by show h1.2.2 + rm8.slots ≤ 0 + 7293034; omega⟩ (fun v2 h2 q => ?_)
  obtain ⟨rfl, L2⟩ := q
  show zV F X h2 1070 [(0, .ref b), (1, .ref x), (2, .ref m), (3, .ref o), (4, .int (nI (6 * k)))] [.long a1, .long a1]
  refine v_blk g [.lcmp] (pc' := 1071) (lv' := [(0, .ref b), (1, .ref x), (2, .ref m), (3, .ref o), (4, .int (nI (6 * k)))]) (st' := [.int (lg_cmp a1 a1)]) (by decide +kernel) rfl rfl ?_
  exact v_if_eq g (off := 18) (tgt := 1089) (by decide +kernel) (by decide) (fun _ => kk h2 L2) (fun c => absurd (lg_cmp_s a1) c)

set_option maxRecDepth 100000 in
set_option maxHeartbeats 4000000 in
theorem law_undo {F : zF} {X : zX} {h : zH} {b L x m o k : Nat} {xs : Nat → Int32} (g : zG F X yL_law cL_law 7 ret room_1 (0, 0)) (sc : zSc F X b L xs) (hk6 : 6 * k + 6 ≤ L) (hL : L ≤ 3072) (hx : ∃ fs, h.1 x = some (oB 7 fs)) (Pq : PAIRi F yX7_undo cX7_undo 1 yX8_undo cX8_undo 2 (some .int) x m o k h []) (kk : ∀ h2, LW h2 x m o (k + 1) → zV F X h2 1089 [(0, .ref b), (1, .ref x), (2, .ref m), (3, .ref o), (4, .int (nI (6 * k)))] []) : zV F X h 1076 [(0, .ref b), (1, .ref x), (2, .ref m), (3, .ref o), (4, .int (nI (6 * k)))] [] := by
  obtain ⟨fs7, hx7⟩ := hx
  obtain ⟨rm7, r7, hM⟩ := Pq
  refine v_blk g [.aload_n 1] (pc' := 1077) (lv' := [(0, .ref b), (1, .ref x), (2, .ref m), (3, .ref o), (4, .int (nI (6 * k)))]) (st' := [.ref x]) (by decide +kernel) rfl rfl ?_
  refine v_callV g (As := []) (rest := []) hM cl_L_135 hx7 rfl rfl (Nat.le_of_ble_eq_true rfl) (by decide +kernel) ⟨by show rm7.frames + 1 ≤ 2048; omega, by show 8 + (_ + 11) + rm7.locals ≤ 84000; omega⟩ ⟨by show h.2.1 + rm7.cells ≤ 0 + 601024; omega, by show h.2.2 + rm7.slots ≤ 0 + 7293034; omega⟩ (fun v1 h1 q => ?_)
  obtain ⟨⟨fs8, hm8⟩, hb1, ⟨a1, rfl⟩, rm8, r8, hM8⟩ := q
  show zV F X h1 1080 [(0, .ref b), (1, .ref x), (2, .ref m), (3, .ref o), (4, .int (nI (6 * k)))] [.int a1]
  refine v_blk g [.aload_n 2] (pc' := 1081) (lv' := [(0, .ref b), (1, .ref x), (2, .ref m), (3, .ref o), (4, .int (nI (6 * k)))]) (st' := [.ref m, .int a1]) (by decide +kernel) rfl rfl ?_
  refine v_callV g (As := []) (rest := [.int a1]) hM8 cl_L_138 hm8 rfl rfl (Nat.le_of_ble_eq_true rfl) (by decide +kernel) ⟨by show rm8.frames + 1 ≤ 2048; omega, by show 8 + (_ + 11) + rm8.locals ≤ 84000; omega⟩ ⟨by show h1.2.1 + rm8.cells ≤ 0 + 601024; omega, by show h1.2.2 + rm8.slots ≤ 0 + 7293034; omega⟩ (fun v2 h2 q => ?_)
  obtain ⟨rfl, L2⟩ := q
  show zV F X h2 1084 [(0, .ref b), (1, .ref x), (2, .ref m), (3, .ref o), (4, .int (nI (6 * k)))] [.int a1, .int a1]
  exact v_icmp_eq g (off := 5) (tgt := 1089) (by decide +kernel) (by decide) (fun _ => kk h2 L2) (fun c => absurd rfl c)
