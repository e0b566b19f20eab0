set_option maxRecDepth 100000 in
set_option maxHeartbeats 4000000 in
/-- Long.bitCount -/
theorem c_bitCountL {F : zF} {h : zH} (x : Int64) : zMet F yJ13_bitCount_95d88 cJ13_bitCount_95d88 2 (some .int) { frames := 1, cells := 0, slots := 0, locals := 30 } [.long x] h (zP h (some (.int (nI (pc64 x))))) := by
  refine zMet_of (lv := [(0, .long x)]) (by decide) (by simp [lg_sl, Value.category]) rfl ?_
  intro X g z
  refine v_blk g [.lload_n 0, .lload_n 0, .iconst 1, .lushr] (pc' := 4) (lv' := [(0, .long x)]) (st' := [.long ((x.toUInt64 >>> ((1 : Int32).toInt64.toUInt64 &&& Int64.toUInt64 63)).toInt64), .long x]) (by decide +kernel) rfl rfl ?_
  refine v_ldc2 g kc_J13_314 (by decide +kernel) ?_
  refine v_blk g [.land, .lsub] (pc' := 9) (lv' := [(0, .long x)]) (st' := [.long (x - (((x.toUInt64 >>> ((1 : Int32).toInt64.toUInt64 &&& Int64.toUInt64 63)).toInt64) &&& (6148914691236517205 : Int64)))]) (by decide +kernel) rfl rfl ?_
  refine v_topl (fun x1 ex1 => ?_)
  refine v_blk g [.lstore_n 0, .lload_n 0] (pc' := 11) (lv' := [(0, .long x1)]) (st' := [.long x1]) (by decide +kernel) rfl rfl ?_
  refine v_ldc2 g kc_J13_316 (by decide +kernel) ?_
  refine v_blk g [.land, .lload_n 0, .iconst 2, .lushr] (pc' := 18) (lv' := [(0, .long x1)]) (st' := [.long ((x1.toUInt64 >>> ((2 : Int32).toInt64.toUInt64 &&& Int64.toUInt64 63)).toInt64), .long (x1 &&& (3689348814741910323 : Int64))]) (by decide +kernel) rfl rfl ?_
  refine v_ldc2 g kc_J13_316 (by decide +kernel) ?_
  refine v_blk g [.land, .ladd] (pc' := 23) (lv' := [(0, .long x1)]) (st' := [.long ((x1 &&& (3689348814741910323 : Int64)) + (((x1.toUInt64 >>> ((2 : Int32).toInt64.toUInt64 &&& Int64.toUInt64 63)).toInt64) &&& (3689348814741910323 : Int64)))]) (by decide +kernel) rfl rfl ?_
  refine v_topl (fun x2 ex2 => ?_)
  refine v_blk g [.lstore_n 0, .lload_n 0, .lload_n 0, .iconst 4, .lushr, .ladd] (pc' := 29) (lv' := [(0, .long x2)]) (st' := [.long (x2 + ((x2.toUInt64 >>> ((4 : Int32).toInt64.toUInt64 &&& Int64.toUInt64 63)).toInt64))]) (by decide +kernel) rfl rfl ?_
  refine v_ldc2 g kc_J13_318 (by decide +kernel) ?_
  refine v_blk g [.land] (pc' := 33) (lv' := [(0, .long x2)]) (st' := [.long ((x2 + ((x2.toUInt64 >>> ((4 : Int32).toInt64.toUInt64 &&& Int64.toUInt64 63)).toInt64)) &&& (1085102592571150095 : Int64))]) (by decide +kernel) rfl rfl ?_
  refine v_topl (fun x3 ex3 => ?_)
  refine v_blk g [.lstore_n 0, .lload_n 0, .lload_n 0, .bipush 8, .lushr, .ladd] (pc' := 40) (lv' := [(0, .long x3)]) (st' := [.long (x3 + ((x3.toUInt64 >>> ((8 : Int32).toInt64.toUInt64 &&& Int64.toUInt64 63)).toInt64))]) (by decide +kernel) rfl rfl ?_
  refine v_topl (fun x4 ex4 => ?_)
  refine v_blk g [.lstore_n 0, .lload_n 0, .lload_n 0, .bipush 16, .lushr, .ladd] (pc' := 47) (lv' := [(0, .long x4)]) (st' := [.long (x4 + ((x4.toUInt64 >>> ((16 : Int32).toInt64.toUInt64 &&& Int64.toUInt64 63)).toInt64))]) (by decide +kernel) rfl rfl ?_
  refine v_topl (fun x5 ex5 => ?_)
  refine v_blk g [.lstore_n 0, .lload_n 0, .lload_n 0, .bipush 32, .lushr, .ladd] (pc' := 54) (lv' := [(0, .long x5)]) (st' := [.long (x5 + ((x5.toUInt64 >>> ((32 : Int32).toInt64.toUInt64 &&& Int64.toUInt64 63)).toInt64))]) (by decide +kernel) rfl rfl ?_
  refine v_topl (fun x6 ex6 => ?_)
  refine v_blk g [.lstore_n 0, .lload_n 0, .l2i, .bipush 127, .iand] (pc' := 60) (lv' := [(0, .long x6)]) (st' := [.int (x6.toInt32 &&& (127 : Int32))]) (by decide +kernel) rfl rfl ?_
  exact v_iret g z rfl (by decide +kernel) ⟨congrArg (fun q => some (Value.int q)) (bc_64 ex1 ex2 ex3 ex4 ex5 ex6), rfl⟩ zcr0

set_option maxRecDepth 100000 in
set_option maxHeartbeats 4000000 in
/-- LineSet.sizeOfAll -/
theorem c_sizeOfAll {F : zF} {h : zH} {a w : Nat} {f : Nat → Int64} (ha : h.1 a = some (oB 3 [.ref w])) (hw : h.1 w = some (aJ 256 f)) : zMet F yX3_sizeOfAll cX3_sizeOfAll 3 (some .int) { frames := 2, cells := 0, slots := 0, locals := 60 } [.ref a] h (zP h (some (.int (nI (fb_sm (fun k => pc64 (f k)) 256))))) := by
  refine zMet_of (lv := [(0, .ref a)]) (by decide) (by simp [lg_sl, Value.category]) rfl ?_
  intro X g z
  refine v_blk g [.iconst 0, .istore_n 1, .iconst 0, .istore_n 2] (pc' := 4) (lv' := [(2, .int (0 : Int32)), (1, .int (0 : Int32)), (0, .ref a)]) (st' := []) (by decide +kernel) rfl rfl ?_
  have key : ∀ i, i ≤ 256 → zV F X h 4 [(2, .int (nI i)), (1, .int (nI (fb_sm (fun k => pc64 (f k)) i))), (0, .ref a)] [] := by
    refine z_up (P := fun i => zV F X h 4 [(2, .int (nI i)), (1, .int (nI (fb_sm (fun k => pc64 (f k)) i))), (0, .ref a)] []) 256 ?_ ?_
    · refine v_blk g [.iload_n 2, .sipush 256] (pc' := 8) (lv' := [(2, .int (nI 256)), (1, .int (nI (fb_sm (fun k => pc64 (f k)) 256))), (0, .ref a)]) (st' := [.int (256 : Int32), .int (nI 256)]) (by decide +kernel) rfl rfl ?_
      refine v_icmp_ge g (off := 21) (tgt := 29) (by decide +kernel) (by decide) (fun _ => ?_) (fun c => absurd c (fun q => q (by decide)))
      refine v_blk g [.iload_n 1] (pc' := 30) (lv' := [(2, .int (nI 256)), (1, .int (nI (fb_sm (fun k => pc64 (f k)) 256))), (0, .ref a)]) (st' := [.int (nI (fb_sm (fun k => pc64 (f k)) 256))]) (by decide +kernel) rfl rfl ?_
      exact v_iret g z rfl (by decide +kernel) ⟨rfl, rfl⟩ zcr0
    · intro i hi ih
      refine v_blk g [.iload_n 2, .sipush 256] (pc' := 8) (lv' := [(2, .int (nI i)), (1, .int (nI (fb_sm (fun k => pc64 (f k)) i))), (0, .ref a)]) (st' := [.int (256 : Int32), .int (nI i)]) (by decide +kernel) rfl rfl ?_
      refine v_icmp_ge g (off := 21) (tgt := 29) (by decide +kernel) (by decide) (fun c => absurd c (nI_ge (b := 256) hi (by decide))) (fun _ => ?_)
      refine v_blk g [.iload_n 1, .aload_n 0] (pc' := 13) (lv' := [(2, .int (nI i)), (1, .int (nI (fb_sm (fun k => pc64 (f k)) i))), (0, .ref a)]) (st' := [.ref a, .int (nI (fb_sm (fun k => pc64 (f k)) i))]) (by decide +kernel) rfl rfl ?_
      refine v_get g ha fl_X3_11 rfl (by decide +kernel) ?_
      refine v_blk g [.iload_n 2] (pc' := 17) (lv' := [(2, .int (nI i)), (1, .int (nI (fb_sm (fun k => pc64 (f k)) i))), (0, .ref a)]) (st' := [.int (nI i), .ref w, .int (nI (fb_sm (fun k => pc64 (f k)) i))]) (by decide +kernel) rfl rfl ?_
      refine v_lald g hw i rfl hi (Nat.le_of_ble_eq_true rfl) (by decide +kernel) ?_
      refine v_callSp g (rest := [.int (nI (fb_sm (fun k => pc64 (f k)) i))]) (c_bitCountL (f i)) cl_X3_39 rfl (Nat.le_of_ble_eq_true rfl) (by decide +kernel) ⟨Nat.le_of_ble_eq_true rfl, Nat.le_of_ble_eq_true rfl⟩ (zcs0 (Nat.le_of_ble_eq_true rfl) (Nat.le_of_ble_eq_true rfl)) ?_
      show zV F X h 21 [(2, .int (nI i)), (1, .int (nI (fb_sm (fun k => pc64 (f k)) i))), (0, .ref a)] [.int (nI (pc64 (f i))), .int (nI (fb_sm (fun k => pc64 (f k)) i))]
      refine v_blk g [.iadd, .istore_n 1, .iinc 2 1] (pc' := 26) (lv' := [(2, .int ((nI i) + (1 : Int32))), (1, .int ((nI (fb_sm (fun k => pc64 (f k)) i)) + (nI (pc64 (f i))))), (0, .ref a)]) (st' := []) (by decide +kernel) rfl rfl ?_
      refine v_goto g (off := -22) (tgt := 4) (by decide +kernel) (by decide) ?_
      exact v_eq (by rw [nI_add, nI_1, fb_sm_succ]) rfl ih
  exact key 0 (by omega)
