theorem lg_cmp_s (a : Int64) : lg_cmp a a = 0 := by
  unfold lg_cmp
  simp

set_option maxRecDepth 100000 in
set_option maxHeartbeats 4000000 in
theorem law_score {F : zF} {X : zX} {h : zH} {b L x m o k : Nat} {xs : Nat → Int32} (g : zG F X yL_law cL_law 7 ret room_1 (0, 0)) (sc : zSc F X b L xs) (hk6 : 6 * k + 6 ≤ L) (hL : L ≤ 3072) (hx : ∃ fs, h.1 x = some (oB 7 fs)) (Pq : PAIRi F yX7_score cX7_score 4 yX8_score cX8_score 4 (some .boolean) x m o k h [.int (xs (6 * k + 1)), .int (xs (6 * k + 2)), .int (xs (6 * k + 3))]) (kk : ∀ h2, LW h2 x m o (k + 1) → zV F X h2 1089 [(0, .ref b), (1, .ref x), (2, .ref m), (3, .ref o), (4, .int (nI (6 * k)))] []) : zV F X h 160 [(0, .ref b), (1, .ref x), (2, .ref m), (3, .ref o), (4, .int (nI (6 * k)))] [] := by
  obtain ⟨fs7, hx7⟩ := hx
  obtain ⟨rm7, r7, hM⟩ := Pq
  refine v_blk g [.aload_n 1, .aload_n 0, .iload 4, .iconst 1, .iadd] (pc' := 166) (lv' := [(0, .ref b), (1, .ref x), (2, .ref m), (3, .ref o), (4, .int (nI (6 * k)))]) (st' := [.int ((nI (6 * k)) + (1 : Int32)), .ref b, .ref x]) (by decide +kernel) rfl rfl ?_
  refine v_sld g sc (6 * k + 1) (nI_add (6 * k) 1) (by omega) hL (by decide +kernel) ?_
  refine v_blk g [.aload_n 0, .iload 4, .iconst 2, .iadd] (pc' := 172) (lv' := [(0, .ref b), (1, .ref x), (2, .ref m), (3, .ref o), (4, .int (nI (6 * k)))]) (st' := [.int ((nI (6 * k)) + (2 : Int32)), .ref b, .int (xs (6 * k + 1)), .ref x]) (by decide +kernel) rfl rfl ?_
  refine v_sld g sc (6 * k + 2) (nI_add (6 * k) 2) (by omega) hL (by decide +kernel) ?_
  refine v_blk g [.aload_n 0, .iload 4, .iconst 3, .iadd] (pc' := 178) (lv' := [(0, .ref b), (1, .ref x), (2, .ref m), (3, .ref o), (4, .int (nI (6 * k)))]) (st' := [.int ((nI (6 * k)) + (3 : Int32)), .ref b, .int (xs (6 * k + 2)), .int (xs (6 * k + 1)), .ref x]) (by decide +kernel) rfl rfl ?_
  refine v_sld g sc (6 * k + 3) (nI_add (6 * k) 3) (by omega) hL (by decide +kernel) ?_
  refine v_callV g (As := [.int (xs (6 * k + 1)), .int (xs (6 * k + 2)), .int (xs (6 * k + 3))]) (rest := []) hM cl_L_19 hx7 rfl rfl (Nat.le_of_ble_eq_true rfl) (by decide +kernel) ⟨by show rm7.frames + 1 ≤ 2048; omega, by show 8 + (_ + 11) + rm7.locals ≤ 84000; omega⟩ ⟨by show h.2.1 + rm7.cells ≤ 0 + 601024; omega, by show h.2.2 + rm7.slots ≤ 0 + 7293034; omega⟩ (fun v1 h1 q => ?_)
  obtain ⟨⟨fs8, hm8⟩, hb1, ⟨a1, rfl⟩, rm8, r8, hM8⟩ := q
  show zV F X h1 182 [(0, .ref b), (1, .ref x), (2, .ref m), (3, .ref o), (4, .int (nI (6 * k)))] [.int a1]
  refine v_blk g [.aload_n 2, .aload_n 0, .iload 4, .iconst 1, .iadd] (pc' := 188) (lv' := [(0, .ref b), (1, .ref x), (2, .ref m), (3, .ref o), (4, .int (nI (6 * k)))]) (st' := [.int ((nI (6 * k)) + (1 : Int32)), .ref b, .ref m, .int a1]) (by decide +kernel) rfl rfl ?_
  refine v_sld g sc (6 * k + 1) (nI_add (6 * k) 1) (by omega) hL (by decide +kernel) ?_
  refine v_blk g [.aload_n 0, .iload 4, .iconst 2, .iadd] (pc' := 194) (lv' := [(0, .ref b), (1, .ref x), (2, .ref m), (3, .ref o), (4, .int (nI (6 * k)))]) (st' := [.int ((nI (6 * k)) + (2 : Int32)), .ref b, .int (xs (6 * k + 1)), .ref m, .int a1]) (by decide +kernel) rfl rfl ?_
  refine v_sld g sc (6 * k + 2) (nI_add (6 * k) 2) (by omega) hL (by decide +kernel) ?_
  refine v_blk g [.aload_n 0, .iload 4, .iconst 3, .iadd] (pc' := 200) (lv' := [(0, .ref b), (1, .ref x), (2, .ref m), (3, .ref o), (4, .int (nI (6 * k)))]) (st' := [.int ((nI (6 * k)) + (3 : Int32)), .ref b, .int (xs (6 * k + 2)), .int (xs (6 * k + 1)), .ref m, .int a1]) (by decide +kernel) rfl rfl ?_
  refine v_sld g sc (6 * k + 3) (nI_add (6 * k) 3) (by omega) hL (by decide +kernel) ?_
  refine v_callV g (As := [.int (xs (6 * k + 1)), .int (xs (6 * k + 2)), .int (xs (6 * k + 3))]) (rest := [.int a1]) hM8 cl_L_23 hm8 rfl rfl (Nat.le_of_ble_eq_true rfl) (by decide +kernel) ⟨by show rm8.frames + 1 ≤ 2048; omega, by show 8 + (_ + 11) + rm8.locals ≤ 84000; omega⟩ ⟨by show h1.2.1 + rm8.cells ≤ 0 + 601024; omega, by show h1.2.2 + rm8.slots ≤ 0 + 7293034; omega⟩ (fun v2 h2 q => ?_)
  obtain ⟨rfl, L2⟩ := q
  show zV F X h2 204 [(0, .ref b), (1, .ref x), (2, .ref m), (3, .ref o), (4, .int (nI (6 * k)))] [.int a1, .int a1]
  exact v_icmp_eq g (off := 885) (tgt := 1089) (by decide +kernel) (by decide) (fun _ => kk h2 L2) (fun c => absurd rfl c)

set_option maxRecDepth 100000 in
set_option maxHeartbeats 4000000 in
theorem law_panel {F : zF} {X : zX} {h : zH} {b L x m o k : Nat} {xs : Nat → Int32} (g : zG F X yL_law cL_law 7 ret room_1 (0, 0)) (sc : zSc F X b L xs) (hk6 : 6 * k + 6 ≤ L) (hL : L ≤ 3072) (hx : ∃ fs, h.1 x = some (oB 7 fs)) (Pq : PAIRi F yX7_panel cX7_panel 3 yX8_panel cX8_panel 3 (some .boolean) x m o k h [.int (xs (6 * k + 1)), .int (xs (6 * k + 2))]) (kk : ∀ h2, LW h2 x m o (k + 1) → zV F X h2 1089 [(0, .ref b), (1, .ref x), (2, .ref m), (3, .ref o), (4, .int (nI (6 * k)))] []) : zV F X h 209 [(0, .ref b), (1, .ref x), (2, .ref m), (3, .ref o), (4, .int (nI (6 * k)))] [] := by
  obtain ⟨fs7, hx7⟩ := hx
  obtain ⟨rm7, r7, hM⟩ := Pq
  refine v_blk g [.aload_n 1, .aload_n 0, .iload 4, .iconst 1, .iadd] (pc' := 215) (lv' := [(0, .ref b), (1, .ref x), (2, .ref m), (3, .ref o), (4, .int (nI (6 * k)))]) (st' := [.int ((nI (6 * k)) + (1 : Int32)), .ref b, .ref x]) (by decide +kernel) rfl rfl ?_
  refine v_sld g sc (6 * k + 1) (nI_add (6 * k) 1) (by omega) hL (by decide +kernel) ?_
  refine v_blk g [.aload_n 0, .iload 4, .iconst 2, .iadd] (pc' := 221) (lv' := [(0, .ref b), (1, .ref x), (2, .ref m), (3, .ref o), (4, .int (nI (6 * k)))]) (st' := [.int ((nI (6 * k)) + (2 : Int32)), .ref b, .int (xs (6 * k + 1)), .ref x]) (by decide +kernel) rfl rfl ?_
  refine v_sld g sc (6 * k + 2) (nI_add (6 * k) 2) (by omega) hL (by decide +kernel) ?_
  refine v_callV g (As := [.int (xs (6 * k + 1)), .int (xs (6 * k + 2))]) (rest := []) hM cl_L_24 hx7 rfl rfl (Nat.le_of_ble_eq_true rfl) (by decide +kernel) ⟨by show rm7.frames + 1 ≤ 2048; omega, by show 8 + (_ + 11) + rm7.locals ≤ 84000; omega⟩ ⟨by show h.2.1 + rm7.cells ≤ 0 + 601024; omega, by show h.2.2 + rm7.slots ≤ 0 + 7293034; omega⟩ (fun v1 h1 q => ?_)
  obtain ⟨⟨fs8, hm8⟩, hb1, ⟨a1, rfl⟩, rm8, r8, hM8⟩ := q
  show zV F X h1 225 [(0, .ref b), (1, .ref x), (2, .ref m), (3, .ref o), (4, .int (nI (6 * k)))] [.int a1]
  refine v_blk g [.aload_n 2, .aload_n 0, .iload 4, .iconst 1, .iadd] (pc' := 231) (lv' := [(0, .ref b), (1, .ref x), (2, .ref m), (3, .ref o), (4, .int (nI (6 * k)))]) (st' := [.int ((nI (6 * k)) + (1 : Int32)), .ref b, .ref m, .int a1]) (by decide +kernel) rfl rfl ?_
  refine v_sld g sc (6 * k + 1) (nI_add (6 * k) 1) (by omega) hL (by decide +kernel) ?_
  refine v_blk g [.aload_n 0, .iload 4, .iconst 2, .iadd] (pc' := 237) (lv' := [(0, .ref b), (1, .ref x), (2, .ref m), (3, .ref o), (4, .int (nI (6 * k)))]) (st' := [.int ((nI (6 * k)) + (2 : Int32)), .ref b, .int (xs (6 * k + 1)), .ref m, .int a1]) (by decide +kernel) rfl rfl ?_
  refine v_sld g sc (6 * k + 2) (nI_add (6 * k) 2) (by omega) hL (by decide +kernel) ?_
  refine v_callV g (As := [.int (xs (6 * k + 1)), .int (xs (6 * k + 2))]) (rest := [.int a1]) hM8 cl_L_28 hm8 rfl rfl (Nat.le_of_ble_eq_true rfl) (by decide +kernel) ⟨by show rm8.frames + 1 ≤ 2048; omega, by show 8 + (_ + 11) + rm8.locals ≤ 84000; omega⟩ ⟨by show h1.2.1 + rm8.cells ≤ 0 + 601024; omega, by show h1.2.2 + rm8.slots ≤ 0 + 7293034; omega⟩ (fun v2 h2 q => ?_)
  obtain ⟨rfl, L2⟩ := q
  show zV F X h2 241 [(0, .ref b), (1, .ref x), (2, .ref m), (3, .ref o), (4, .int (nI (6 * k)))] [.int a1, .int a1]
  exact v_icmp_eq g (off := 848) (tgt := 1089) (by decide +kernel) (by decide) (fun _ => kk h2 L2) (fun c => absurd rfl c)

set_option maxRecDepth 100000 in
set_option maxHeartbeats 4000000 in
theorem law_outcome {F : zF} {X : zX} {h : zH} {b L x m o k : Nat} {xs : Nat → Int32} (g : zG F X yL_law cL_law 7 ret room_1 (0, 0)) (sc : zSc F X b L xs) (hk6 : 6 * k + 6 ≤ L) (hL : L ≤ 3072) (hx : ∃ fs, h.1 x = some (oB 7 fs)) (Pq : PAIRi F yX7_outcome cX7_outcome 2 yX8_outcome cX8_outcome 2 (some .int) x m o k h [.int (xs (6 * k + 1))]) (kk : ∀ h2, LW h2 x m o (k + 1) → zV F X h2 1089 [(0, .ref b), (1, .ref x), (2, .ref m), (3, .ref o), (4, .int (nI (6 * k)))] []) : zV F X h 246 [(0, .ref b), (1, .ref x), (2, .ref m), (3, .ref o), (4, .int (nI (6 * k)))] [] := by
  obtain ⟨fs7, hx7⟩ := hx
  obtain ⟨rm7, r7, hM⟩ := Pq
  refine v_blk g [.aload_n 1, .aload_n 0, .iload 4, .iconst 1, .iadd] (pc' := 252) (lv' := [(0, .ref b), (1, .ref x), (2, .ref m), (3, .ref o), (4, .int (nI (6 * k)))]) (st' := [.int ((nI (6 * k)) + (1 : Int32)), .ref b, .ref x]) (by decide +kernel) rfl rfl ?_
  refine v_sld g sc (6 * k + 1) (nI_add (6 * k) 1) (by omega) hL (by decide +kernel) ?_
  refine v_callV g (As := [.int (xs (6 * k + 1))]) (rest := []) hM cl_L_29 hx7 rfl rfl (Nat.le_of_ble_eq_true rfl) (by decide +kernel) ⟨by show rm7.frames + 1 ≤ 2048; omega, by show 8 + (_ + 11) + rm7.locals ≤ 84000; omega⟩ ⟨by show h.2.1 + rm7.cells ≤ 0 + 601024; omega, by show h.2.2 + rm7.slots ≤ 0 + 7293034; omega⟩ (fun v1 h1 q => ?_)
  obtain ⟨⟨fs8, hm8⟩, hb1, ⟨a1, rfl⟩, rm8, r8, hM8⟩ := q
  show zV F X h1 256 [(0, .ref b), (1, .ref x), (2, .ref m), (3, .ref o), (4, .int (nI (6 * k)))] [.int a1]
  refine v_blk g [.aload_n 2, .aload_n 0, .iload 4, .iconst 1, .iadd] (pc' := 262) (lv' := [(0, .ref b), (1, .ref x), (2, .ref m), (3, .ref o), (4, .int (nI (6 * k)))]) (st' := [.int ((nI (6 * k)) + (1 : Int32)), .ref b, .ref m, .int a1]) (by decide +kernel) rfl rfl ?_
  refine v_sld g sc (6 * k + 1) (nI_add (6 * k) 1) (by omega) hL (by decide +kernel) ?_
  refine v_callV g (As := [.int (xs (6 * k + 1))]) (rest := [.int a1]) hM8 cl_L_33 hm8 rfl rfl (Nat.le_of_ble_eq_true rfl) (by decide +kernel) ⟨by show rm8.frames + 1 ≤ 2048; omega, by show 8 + (_ + 11) + rm8.locals ≤ 84000; omega⟩ ⟨by show h1.2.1 + rm8.cells ≤ 0 + 601024; omega, by show h1.2.2 + rm8.slots ≤ 0 + 7293034; omega⟩ (fun v2 h2 q => ?_)
  obtain ⟨rfl, L2⟩ := q
  show zV F X h2 266 [(0, .ref b), (1, .ref x), (2, .ref m), (3, .ref o), (4, .int (nI (6 * k)))] [.int a1, .int a1]
  exact v_icmp_eq g (off := 823) (tgt := 1089) (by decide +kernel) (by decide) (fun _ => kk h2 L2) (fun c => absurd rfl c)

set_option maxRecDepth 100000 in
set_option maxHeartbeats 4000000 in
theorem law_points {F : zF} {X : zX} {h : zH} {b L x m o k : Nat} {xs : Nat → Int32} (g : zG F X yL_law cL_law 7 ret room_1 (0, 0)) (sc : zSc F X b L xs) (hk6 : 6 * k + 6 ≤ L) (hL : L ≤ 3072) (hx : ∃ fs, h.1 x = some (oB 7 fs)) (Pq : PAIRi F yX7_points cX7_points 3 yX8_points cX8_points 3 (some .boolean) x m o k h [.int (xs (6 * k + 1)), .int (xs (6 * k + 2))]) (kk : ∀ h2, LW h2 x m o (k + 1) → zV F X h2 1089 [(0, .ref b), (1, .ref x), (2, .ref m), (3, .ref o), (4, .int (nI (6 * k)))] []) : zV F X h 271 [(0, .ref b), (1, .ref x), (2, .ref m), (3, .ref o), (4, .int (nI (6 * k)))] [] := by
  obtain ⟨fs7, hx7⟩ := hx
  obtain ⟨rm7, r7, hM⟩ := Pq
  refine v_blk g [.aload_n 1, .aload_n 0, .iload 4, .iconst 1, .iadd] (pc' := 277) (lv' := [(0, .ref b), (1, .ref x), (2, .ref m), (3, .ref o), (4, .int (nI (6 * k)))]) (st' := [.int ((nI (6 * k)) + (1 : Int32)), .ref b, .ref x]) (by decide +kernel) rfl rfl ?_
  refine v_sld g sc (6 * k + 1) (nI_add (6 * k) 1) (by omega) hL (by decide +kernel) ?_
  refine v_blk g [.aload_n 0, .iload 4, .iconst 2, .iadd] (pc' := 283) (lv' := [(0, .ref b), (1, .ref x), (2, .ref m), (3, .ref o), (4, .int (nI (6 * k)))]) (st' := [.int ((nI (6 * k)) + (2 : Int32)), .ref b, .int (xs (6 * k + 1)), .ref x]) (by decide +kernel) rfl rfl ?_
  refine v_sld g sc (6 * k + 2) (nI_add (6 * k) 2) (by omega) hL (by decide +kernel) ?_
  refine v_callV g (As := [.int (xs (6 * k + 1)), .int (xs (6 * k + 2))]) (rest := []) hM cl_L_34 hx7 rfl rfl (Nat.le_of_ble_eq_true rfl) (by decide +kernel) ⟨by show rm7.frames + 1 ≤ 2048; omega, by show 8 + (_ + 11) + rm7.locals ≤ 84000; omega⟩ ⟨by show h.2.1 + rm7.cells ≤ 0 + 601024; omega, by show h.2.2 + rm7.slots ≤ 0 + 7293034; omega⟩ (fun v1 h1 q => ?_)
  obtain ⟨⟨fs8, hm8⟩, hb1, ⟨a1, rfl⟩, rm8, r8, hM8⟩ := q
  show zV F X h1 287 [(0, .ref b), (1, .ref x), (2, .ref m), (3, .ref o), (4, .int (nI (6 * k)))] [.int a1]
  refine v_blk g [.aload_n 2, .aload_n 0, .iload 4, .iconst 1, .iadd] (pc' := 293) (lv' := [(0, .ref b), (1, .ref x), (2, .ref m), (3, .ref o), (4, .int (nI (6 * k)))]) (st' := [.int ((nI (6 * k)) + (1 : Int32)), .ref b, .ref m, .int a1]) (by decide +kernel) rfl rfl ?_
  refine v_sld g sc (6 * k + 1) (nI_add (6 * k) 1) (by omega) hL (by decide +kernel) ?_
  refine v_blk g [.aload_n 0, .iload 4, .iconst 2, .iadd] (pc' := 299) (lv' := [(0, .ref b), (1, .ref x), (2, .ref m), (3, .ref o), (4, .int (nI (6 * k)))]) (st' := [.int ((nI (6 * k)) + (2 : Int32)), .ref b, .int (xs (6 * k + 1)), .ref m, .int a1]) (by decide +kernel) rfl rfl ?_
  refine v_sld g sc (6 * k + 2) (nI_add (6 * k) 2) (by omega) hL (by decide +kernel) ?_
  refine v_callV g (As := [.int (xs (6 * k + 1)), .int (xs (6 * k + 2))]) (rest := [.int a1]) hM8 cl_L_37 hm8 rfl rfl (Nat.le_of_ble_eq_true rfl) (by decide +kernel) ⟨by show rm8.frames + 1 ≤ 2048; omega, by show 8 + (_ + 11) + rm8.locals ≤ 84000; omega⟩ ⟨by show h1.2.1 + rm8.cells ≤ 0 + 601024; omega, by show h1.2.2 + rm8.slots ≤ 0 + 7293034; omega⟩ (fun v2 h2 q => ?_)
  obtain ⟨rfl, L2⟩ := q
  show zV F X h2 303 [(0, .ref b), (1, .ref x), (2, .ref m), (3, .ref o), (4, .int (nI (6 * k)))] [.int a1, .int a1]
  exact v_icmp_eq g (off := 786) (tgt := 1089) (by decide +kernel) (by decide) (fun _ => kk h2 L2) (fun c => absurd rfl c)

set_option maxRecDepth 100000 in
set_option maxHeartbeats 4000000 in
theorem law_feed {F : zF} {X : zX} {h : zH} {b L x m o k : Nat} {xs : Nat → Int32} (g : zG F X yL_law cL_law 7 ret room_1 (0, 0)) (sc : zSc F X b L xs) (hk6 : 6 * k + 6 ≤ L) (hL : L ≤ 3072) (hx : ∃ fs, h.1 x = some (oB 7 fs)) (Pq : PAIRi F yX7_feed cX7_feed 6 yX8_feed cX8_feed 6 (some .int) x m o k h [.int (xs (6 * k + 1)), .int (xs (6 * k + 2)), .int (xs (6 * k + 3)), .int (xs (6 * k + 4)), .int (xs (6 * k + 5))]) (kk : ∀ h2, LW h2 x m o (k + 1) → zV F X h2 1089 [(0, .ref b), (1, .ref x), (2, .ref m), (3, .ref o), (4, .int (nI (6 * k)))] []) : zV F X h 308 [(0, .ref b), (1, .ref x), (2, .ref m), (3, .ref o), (4, .int (nI (6 * k)))] [] := by
  obtain ⟨fs7, hx7⟩ := hx
  obtain ⟨rm7, r7, hM⟩ := Pq
  refine v_blk g [.aload_n 1, .aload_n 0, .iload 4, .iconst 1, .iadd] (pc' := 314) (lv' := [(0, .ref b), (1, .ref x), (2, .ref m), (3, .ref o), (4, .int (nI (6 * k)))]) (st' := [.int ((nI (6 * k)) + (1 : Int32)), .ref b, .ref x]) (by decide +kernel) rfl rfl ?_
  refine v_sld g sc (6 * k + 1) (nI_add (6 * k) 1) (by omega) hL (by decide +kernel) ?_
  refine v_blk g [.aload_n 0, .iload 4, .iconst 2, .iadd] (pc' := 320) (lv' := [(0, .ref b), (1, .ref x), (2, .ref m), (3, .ref o), (4, .int (nI (6 * k)))]) (st' := [.int ((nI (6 * k)) + (2 : Int32)), .ref b, .int (xs (6 * k + 1)), .ref x]) (by decide +kernel) rfl rfl ?_
  refine v_sld g sc (6 * k + 2) (nI_add (6 * k) 2) (by omega) hL (by decide +kernel) ?_
  refine v_blk g [.aload_n 0, .iload 4, .iconst 3, .iadd] (pc' := 326) (lv' := [(0, .ref b), (1, .ref x), (2, .ref m), (3, .ref o), (4, .int (nI (6 * k)))]) (st' := [.int ((nI (6 * k)) + (3 : Int32)), .ref b, .int (xs (6 * k + 2)), .int (xs (6 * k + 1)), .ref x]) (by decide +kernel) rfl rfl ?_
  refine v_sld g sc (6 * k + 3) (nI_add (6 * k) 3) (by omega) hL (by decide +kernel) ?_
  refine v_blk g [.aload_n 0, .iload 4, .iconst 4, .iadd] (pc' := 332) (lv' := [(0, .ref b), (1, .ref x), (2, .ref m), (3, .ref o), (4, .int (nI (6 * k)))]) (st' := [.int ((nI (6 * k)) + (4 : Int32)), .ref b, .int (xs (6 * k + 3)), .int (xs (6 * k + 2)), .int (xs (6 * k + 1)), .ref x]) (by decide +kernel) rfl rfl ?_
  refine v_sld g sc (6 * k + 4) (nI_add (6 * k) 4) (by omega) hL (by decide +kernel) ?_
  refine v_blk g [.aload_n 0, .iload 4, .iconst 5, .iadd] (pc' := 338) (lv' := [(0, .ref b), (1, .ref x), (2, .ref m), (3, .ref o), (4, .int (nI (6 * k)))]) (st' := [.int ((nI (6 * k)) + (5 : Int32)), .ref b, .int (xs (6 * k + 4)), .int (xs (6 * k + 3)), .int (xs (6 * k + 2)), .int (xs (6 * k + 1)), .ref x]) (by decide +kernel) rfl rfl ?_
  refine v_sld g sc (6 * k + 5) (nI_add (6 * k) 5) (by omega) hL (by decide +kernel) ?_
  refine v_callV g (As := [.int (xs (6 * k + 1)), .int (xs (6 * k + 2)), .int (xs (6 * k + 3)), .int (xs (6 * k + 4)), .int (xs (6 * k + 5))]) (rest := []) hM cl_L_38 hx7 rfl rfl (Nat.le_of_ble_eq_true rfl) (by decide +kernel) ⟨by show rm7.frames + 1 ≤ 2048; omega, by show 8 + (_ + 11) + rm7.locals ≤ 84000; omega⟩ ⟨by show h.2.1 + rm7.cells ≤ 0 + 601024; omega, by show h.2.2 + rm7.slots ≤ 0 + 7293034; omega⟩ (fun v1 h1 q => ?_)
  obtain ⟨⟨fs8, hm8⟩, hb1, ⟨a1, rfl⟩, rm8, r8, hM8⟩ := q
  show zV F X h1 342 [(0, .ref b), (1, .ref x), (2, .ref m), (3, .ref o), (4, .int (nI (6 * k)))] [.int a1]
  refine v_blk g [.aload_n 2, .aload_n 0, .iload 4, .iconst 1, .iadd] (pc' := 348) (lv' := [(0, .ref b), (1, .ref x), (2, .ref m), (3, .ref o), (4, .int (nI (6 * k)))]) (st' := [.int ((nI (6 * k)) + (1 : Int32)), .ref b, .ref m, .int a1]) (by decide +kernel) rfl rfl ?_
  refine v_sld g sc (6 * k + 1) (nI_add (6 * k) 1) (by omega) hL (by decide +kernel) ?_
  refine v_blk g [.aload_n 0, .iload 4, .iconst 2, .iadd] (pc' := 354) (lv' := [(0, .ref b), (1, .ref x), (2, .ref m), (3, .ref o), (4, .int (nI (6 * k)))]) (st' := [.int ((nI (6 * k)) + (2 : Int32)), .ref b, .int (xs (6 * k + 1)), .ref m, .int a1]) (by decide +kernel) rfl rfl ?_
  refine v_sld g sc (6 * k + 2) (nI_add (6 * k) 2) (by omega) hL (by decide +kernel) ?_
  refine v_blk g [.aload_n 0, .iload 4, .iconst 3, .iadd] (pc' := 360) (lv' := [(0, .ref b), (1, .ref x), (2, .ref m), (3, .ref o), (4, .int (nI (6 * k)))]) (st' := [.int ((nI (6 * k)) + (3 : Int32)), .ref b, .int (xs (6 * k + 2)), .int (xs (6 * k + 1)), .ref m, .int a1]) (by decide +kernel) rfl rfl ?_
  refine v_sld g sc (6 * k + 3) (nI_add (6 * k) 3) (by omega) hL (by decide +kernel) ?_
  refine v_blk g [.aload_n 0, .iload 4, .iconst 4, .iadd] (pc' := 366) (lv' := [(0, .ref b), (1, .ref x), (2, .ref m), (3, .ref o), (4, .int (nI (6 * k)))]) (st' := [.int ((nI (6 * k)) + (4 : Int32)), .ref b, .int (xs (6 * k + 3)), .int (xs (6 * k + 2)), .int (xs (6 * k + 1)), .ref m, .int a1]) (by decide +kernel) rfl rfl ?_
  refine v_sld g sc (6 * k + 4) (nI_add (6 * k) 4) (by omega) hL (by decide +kernel) ?_
  refine v_blk g [.aload_n 0, .iload 4, .iconst 5, .iadd] (pc' := 372) (lv' := [(0, .ref b), (1, .ref x), (2, .ref m), (3, .ref o), (4, .int (nI (6 * k)))]) (st' := [.int ((nI (6 * k)) + (5 : Int32)), .ref b, .int (xs (6 * k + 4)), .int (xs (6 * k + 3)), .int (xs (6 * k + 2)), .int (xs (6 * k + 1)), .ref m, .int a1]) (by decide +kernel) rfl rfl ?_
  refine v_sld g sc (6 * k + 5) (nI_add (6 * k) 5) (by omega) hL (by decide +kernel) ?_
  refine v_callV g (As := [.int (xs (6 * k + 1)), .int (xs (6 * k + 2)), .int (xs (6 * k + 3)), .int (xs (6 * k + 4)), .int (xs (6 * k + 5))]) (rest := [.int a1]) hM8 cl_L_42 hm8 rfl rfl (Nat.le_of_ble_eq_true rfl) (by decide +kernel) ⟨by show rm8.frames + 1 ≤ 2048; omega, by show 8 + (_ + 11) + rm8.locals ≤ 84000; omega⟩ ⟨by show h1.2.1 + rm8.cells ≤ 0 + 601024; omega, by show h1.2.2 + rm8.slots ≤ 0 + 7293034; omega⟩ (fun v2 h2 q => ?_)
  obtain ⟨rfl, L2⟩ := q
  show zV F X h2 376 [(0, .ref b), (1, .ref x), (2, .ref m), (3, .ref o), (4, .int (nI (6 * k)))] [.int a1, .int a1]
  exact v_icmp_eq g (off := 713) (tgt := 1089) (by decide +kernel) (by decide) (fun _ => kk h2 L2) (fun c => absurd rfl c)

set_option maxRecDepth 100000 in
set_option maxHeartbeats 4000000 in
theorem law_end {F : zF} {X : zX} {h : zH} {b L x m o k : Nat} {xs : Nat → Int32} (g : zG F X yL_law cL_law 7 ret room_1 (0, 0)) (sc : zSc F X b L xs) (hk6 : 6 * k + 6 ≤ L) (hL : L ≤ 3072) (hx : ∃ fs, h.1 x = some (oB 7 fs)) (Pq : PAIRi F yX7_end cX7_end 2 yX8_end cX8_end 2 (some .boolean) x m o k h [.int (xs (6 * k + 1))]) (kk : ∀ h2, LW h2 x m o (k + 1) → zV F X h2 1089 [(0, .ref b), (1, .ref x), (2, .ref m), (3, .ref o), (4, .int (nI (6 * k)))] []) : zV F X h 381 [(0, .ref b), (1, .ref x), (2, .ref m), (3, .ref o), (4, .int (nI (6 * k)))] [] := by
  obtain ⟨fs7, hx7⟩ := hx
  obtain ⟨rm7, r7, hM⟩ := Pq
  refine v_blk g [.aload_n 1, .aload_n 0, .iload 4, .iconst 1, .iadd] (pc' := 387) (lv' := [(0, .ref b), (1, .ref x), (2, .ref m), (3, .ref o), (4, .int (nI (6 * k)))]) (st' := [.int ((nI (6 * k)) + (1 : Int32)), .ref b, .ref x]) (by decide +kernel) rfl rfl ?_
  refine v_sld g sc (6 * k + 1) (nI_add (6 * k) 1) (by omega) hL (by decide +kernel) ?_
  refine v_callV g (As := [.int (xs (6 * k + 1))]) (rest := []) hM cl_L_43 hx7 rfl rfl (Nat.le_of_ble_eq_true rfl) (by decide +kernel) ⟨by show rm7.frames + 1 ≤ 2048; omega, by show 8 + (_ + 11) + rm7.locals ≤ 84000; omega⟩ ⟨by show h.2.1 + rm7.cells ≤ 0 + 601024; omega, by show h.2.2 + rm7.slots ≤ 0 + 7293034; omega⟩ (fun v1 h1 q => ?_)
  obtain ⟨⟨fs8, hm8⟩, hb1, ⟨a1, rfl⟩, rm8, r8, hM8⟩ := q
  show zV F X h1 391 [(0, .ref b), (1, .ref x), (2, .ref m), (3, .ref o), (4, .int (nI (6 * k)))] [.int a1]
  refine v_blk g [.aload_n 2, .aload_n 0, .iload 4, .iconst 1, .iadd] (pc' := 397) (lv' := [(0, .ref b), (1, .ref x), (2, .ref m), (3, .ref o), (4, .int (nI (6 * k)))]) (st' := [.int ((nI (6 * k)) + (1 : Int32)), .ref b, .ref m, .int a1]) (by decide +kernel) rfl rfl ?_
  refine v_sld g sc (6 * k + 1) (nI_add (6 * k) 1) (by omega) hL (by decide +kernel) ?_
  refine v_callV g (As := [.int (xs (6 * k + 1))]) (rest := [.int a1]) hM8 cl_L_47 hm8 rfl rfl (Nat.le_of_ble_eq_true rfl) (by decide +kernel) ⟨by show rm8.frames + 1 ≤ 2048; omega, by show 8 + (_ + 11) + rm8.locals ≤ 84000; omega⟩ ⟨by show h1.2.1 + rm8.cells ≤ 0 + 601024; omega, by show h1.2.2 + rm8.slots ≤ 0 + 7293034; omega⟩ (fun v2 h2 q => ?_)
  obtain ⟨rfl, L2⟩ := q
  show zV F X h2 401 [(0, .ref b), (1, .ref x), (2, .ref m), (3, .ref o), (4, .int (nI (6 * k)))] [.int a1, .int a1]
  exact v_icmp_eq g (off := 688) (tgt := 1089) (by decide +kernel) (by decide) (fun _ => kk h2 L2) (fun c => absurd rfl c)
