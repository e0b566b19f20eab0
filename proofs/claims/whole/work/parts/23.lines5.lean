/-! choices: all lines of so many of the matches of a mask -/
theorem pp_le {m k : Nat} (hm : m < 2 ^ k) (hk : k ≤ 32) : pp 32 m ≤ k := by
  rw [pp_ct, ct_out (b := k) hk (fun i hi => Nat.testBit_lt_two_pow (Nat.lt_of_lt_of_le hm (Nat.pow_le_pow_right (by decide) hi)))]
  exact fb_ct_le _ _
theorem shp {p : Nat} (hp : p < 31) : (1 : Int32) <<< (nI p &&& (31 : Int32)) = nI (2 ^ p) := by
  have h : ∀ p, p < 31 → (1 : Int32) <<< (nI p &&& (31 : Int32)) = nI (2 ^ p) := by decide +kernel
  exact h p hp
theorem pow_lt {p k : Nat} (h : p ≤ k) (hk : k ≤ 14) : 2 ^ p ≤ 16384 := Nat.le_trans (Nat.pow_le_pow_right (by decide) (show p ≤ 14 by omega)) (by decide)
theorem sh6r {n : Nat} (h : n < 16384) : (nI n >>> ((6 : Int32) &&& (31 : Int32))) &&& (255 : Int32) = nI (n / 64) := by
  rw [pk_shrN (by omega) _ 6 (by decide), pk_andN (by omega) 8 (by decide)]
  congr 1
  omega
theorem and63 {n : Nat} (h : n < 16384) : nI n &&& (63 : Int32) = nI (n % 64) := pk_andN (by omega) 6 (by decide)
theorem lb_0 (f : Nat → Int64) {n : Nat} (hn : n < 16384) : lb (mx (fun _ => (0 : Int64)) f 256) n = false := by
  unfold lb
  rw [mx_lt (by omega)]
  exact Nat.zero_testBit _

set_option maxRecDepth 100000 in
set_option maxHeartbeats 4000000 in
/-- LineSet.becomeChoices -/
theorem c_LS_choices {F : zF} {h : zH} {a w : Nat} {f : Nat → Int64} (ha : h.1 a = some (oB 3 [.ref w])) (hw : h.1 w = some (aJ 256 f)) {m : Nat} (hm : m < 16384) (v : Int32) : zMet F yX3_becomeChoices cX3_becomeChoices 6 none { frames := 2, cells := 0, slots := 0, locals := 60 } [.ref a, .int (nI m), .int v] h (fun v2 h2 => v2 = none ∧ ∃ G, h2 = z_s h w (aJ 256 G) ∧ ∀ n, n < 16384 → (lb G n = true ↔ (n &&& m = n ∧ nI (fb_ct (fun t => n.testBit t) 32) = v))) := by
  refine zMet_of (lv := [(0, .ref a), (1, .int (nI m)), (2, .int v)]) (by decide) (by simp [lg_sl, Value.category]) rfl ?_
  intro X g z
  refine v_blk g [.aload_n 0] (pc' := 1) (lv' := [(0, .ref a), (1, .int (nI m)), (2, .int v)]) (st' := [.ref a]) (by decide +kernel) rfl rfl ?_
  refine v_get g ha fl_X3_11 rfl (by decide +kernel) ?_
  refine v_blk g [.lconst 0] (pc' := 5) (lv' := [(0, .ref a), (1, .int (nI m)), (2, .int v)]) (st' := [.long (0 : Int64), .ref w]) (by decide +kernel) rfl rfl ?_
  refine v_callSp g (rest := []) (c_fillJ 0 hw (by decide)) cl_X3_21 rfl (Nat.le_of_ble_eq_true rfl) (by decide +kernel) ⟨Nat.le_of_ble_eq_true rfl, Nat.le_of_ble_eq_true rfl⟩ (zcsn 0 0 rfl rfl (Nat.le_of_ble_eq_true rfl) (Nat.le_of_ble_eq_true rfl)) ?_
  show zV F X (z_s h w (aJ 256 (mx (fun _ => (0 : Int64)) f 256))) 8 [(0, .ref a), (1, .int (nI m)), (2, .int v)] []
  refine v_h (fun h1 eh1 => ?_)
  have h1_c : h1.2.1 = h.2.1 + 0 ∧ h1.2.2 = h.2.2 + 0 := zcs eh1 ⟨rfl, rfl⟩
  have h1_a : h1.1 a = some (oB 3 [.ref w]) := by rw [eh1]; exact z_so ha (z_ne ha hw rfl)
  have h1_w : h1.1 w = some (aJ 256 (mx (fun _ => (0 : Int64)) f 256)) := by rw [eh1]; exact z_s_self _ _ _
  refine v_blk g [.iconst 1, .iload_n 1, .sipush 16383, .iand] (pc' := 14) (lv' := [(0, .ref a), (1, .int (nI m)), (2, .int v)]) (st' := [.int ((nI m) &&& (16383 : Int32)), .int (1 : Int32)]) (by decide +kernel) rfl rfl ?_
  refine v_ti (z := nI m) ((pk_andN (by omega) 14 (by decide)).trans (by rw [Nat.mod_eq_of_lt (show m < 2 ^ 14 from hm)])) ?_
  refine v_callSp g (rest := [.int (1 : Int32)]) (c_bitCountI _) cl_X3_27 rfl (Nat.le_of_ble_eq_true rfl) (by decide +kernel) ⟨Nat.le_of_ble_eq_true rfl, Nat.le_of_ble_eq_true rfl⟩ (zcsn 0 0 h1_c.1 h1_c.2 (Nat.le_of_ble_eq_true rfl) (Nat.le_of_ble_eq_true rfl)) ?_
  show zV F X h1 17 [(0, .ref a), (1, .int (nI m)), (2, .int v)] [.int (nI (pc32 (nI m))), .int (1 : Int32)]
  refine v_ti (z := nI (pp 32 m)) (by rw [pc32, u32_nI (by omega), pp_ct]) ?_
  have hpp : pp 32 m ≤ 14 := pp_le (k := 14) hm (by decide)
  have hE : 2 ^ pp 32 m ≤ 16384 := pow_lt hpp (by decide)
  refine v_blk g [.ishl] (pc' := 18) (lv' := [(0, .ref a), (1, .int (nI m)), (2, .int v)]) (st' := [.int ((1 : Int32) <<< ((nI (pp 32 m)) &&& (31 : Int32)))]) (by decide +kernel) rfl rfl ?_
  refine v_ti (z := nI (2 ^ pp 32 m)) (shp (by omega)) ?_
  refine v_blk g [.istore_n 3, .iconst 0, .istore 4, .iconst 0, .istore 5] (pc' := 25) (lv' := [(5, .int (0 : Int32)), (4, .int (0 : Int32)), (3, .int (nI (2 ^ pp 32 m))), (0, .ref a), (1, .int (nI m)), (2, .int v)]) (st' := []) (by decide +kernel) rfl rfl ?_
  have key : ∀ i, i ≤ 2 ^ pp 32 m → ∀ (G : Nat → Int64) (num : Int32), (∀ n, n < 16384 → (lb G n = true ↔ ∃ q, q < i ∧ pd 32 m q = n ∧ nI (fb_ct (fun t => n.testBit t) 32) = v)) → (i < 2 ^ pp 32 m → num = nI (pd 32 m i)) → zV F X (z_s h w (aJ 256 G)) 25 [(5, .int (nI i)), (4, .int num), (3, .int (nI (2 ^ pp 32 m))), (0, .ref a), (1, .int (nI m)), (2, .int v)] [] := by
    refine z_up (P := fun i => ∀ (G : Nat → Int64) (num : Int32), (∀ n, n < 16384 → (lb G n = true ↔ ∃ q, q < i ∧ pd 32 m q = n ∧ nI (fb_ct (fun t => n.testBit t) 32) = v)) → (i < 2 ^ pp 32 m → num = nI (pd 32 m i)) → zV F X (z_s h w (aJ 256 G)) 25 [(5, .int (nI i)), (4, .int num), (3, .int (nI (2 ^ pp 32 m))), (0, .ref a), (1, .int (nI m)), (2, .int v)] []) (2 ^ pp 32 m) ?_ ?_
    · intro G num hG _
      refine v_blk g [.iload 5, .iload_n 3] (pc' := 28) (lv' := [(5, .int (nI (2 ^ pp 32 m))), (4, .int num), (3, .int (nI (2 ^ pp 32 m))), (0, .ref a), (1, .int (nI m)), (2, .int v)]) (st' := [.int (nI (2 ^ pp 32 m)), .int (nI (2 ^ pp 32 m))]) (by decide +kernel) rfl rfl ?_
      refine v_icmp_ge g (off := 50) (tgt := 78) (by decide +kernel) (by decide) (fun _ => ?_) (fun c => absurd c (fun q => q (nI_le (Nat.le_refl _) (by omega))))
      refine v_vret g z rfl (by decide +kernel) ⟨rfl, G, rfl, fun n hn => ?_⟩ (zcrn 0 0 rfl rfl (Nat.le_of_ble_eq_true rfl) (Nat.le_of_ble_eq_true rfl))
      rw [hG n hn]
      constructor
      · rintro ⟨q, h1, h2, h3⟩
        exact ⟨by rw [← h2]; exact pd_sub 32 m q (by omega), h3⟩
      · rintro ⟨h1, h2⟩
        obtain ⟨q, h3, h4⟩ := pd_all 32 m n (by omega) h1
        exact ⟨q, h3, h4, h2⟩
    · intro i hi ih G num hG hnum
      have hnum := hnum hi
      subst hnum
      have hle : pd 32 m i ≤ m := pd_le (by omega)
      have hnx : (nI (pd 32 m i) - nI m) &&& nI m = nI ((pd 32 m i + (2 ^ 32 - m)) &&& m) := pd_step hm hle
      refine v_blk g [.iload 5, .iload_n 3] (pc' := 28) (lv' := [(5, .int (nI i)), (4, .int (nI (pd 32 m i))), (3, .int (nI (2 ^ pp 32 m))), (0, .ref a), (1, .int (nI m)), (2, .int v)]) (st' := [.int (nI (2 ^ pp 32 m)), .int (nI i)]) (by decide +kernel) rfl rfl ?_
      refine v_icmp_ge g (off := 50) (tgt := 78) (by decide +kernel) (by decide) (fun c => absurd c (nI_ge hi (by omega))) (fun _ => ?_)
      refine v_blk g [.iload 4] (pc' := 33) (lv' := [(5, .int (nI i)), (4, .int (nI (pd 32 m i))), (3, .int (nI (2 ^ pp 32 m))), (0, .ref a), (1, .int (nI m)), (2, .int v)]) (st' := [.int (nI (pd 32 m i))]) (by decide +kernel) rfl rfl ?_
      refine v_callSp g (rest := []) (c_bitCountI _) cl_X3_27 rfl (Nat.le_of_ble_eq_true rfl) (by decide +kernel) ⟨Nat.le_of_ble_eq_true rfl, Nat.le_of_ble_eq_true rfl⟩ (zcsn 0 0 rfl rfl (Nat.le_of_ble_eq_true rfl) (Nat.le_of_ble_eq_true rfl)) ?_
      show zV F X (z_s h w (aJ 256 G)) 36 [(5, .int (nI i)), (4, .int (nI (pd 32 m i))), (3, .int (nI (2 ^ pp 32 m))), (0, .ref a), (1, .int (nI m)), (2, .int v)] [.int (nI (pc32 (nI (pd 32 m i))))]
      refine v_ti (z := nI (fb_ct (fun t => (pd 32 m i).testBit t) 32)) (by rw [pc32, u32_nI (by omega)]) ?_
      refine v_blk g [.iload_n 2] (pc' := 37) (lv' := [(5, .int (nI i)), (4, .int (nI (pd 32 m i))), (3, .int (nI (2 ^ pp 32 m))), (0, .ref a), (1, .int (nI m)), (2, .int v)]) (st' := [.int v, .int (nI (fb_ct (fun t => (pd 32 m i).testBit t) 32))]) (by decide +kernel) rfl rfl ?_
      refine v_icmp_ne g (off := 27) (tgt := 64) (by decide +kernel) (by decide) (fun c => ?_) (fun c => ?_)
      · refine v_blk g [.iload 4, .iload_n 1, .isub, .iload_n 1, .iand, .istore 4, .iinc 5 1] (pc' := 75) (lv' := [(5, .int ((nI i) + (1 : Int32))), (4, .int (((nI (pd 32 m i)) - (nI m)) &&& (nI m))), (3, .int (nI (2 ^ pp 32 m))), (0, .ref a), (1, .int (nI m)), (2, .int v)]) (st' := []) (by decide +kernel) rfl rfl ?_
        refine v_goto g (off := -50) (tgt := 25) (by decide +kernel) (by decide) ?_
        refine v_lv [0, 1, 2, 3, 4, 5] (lv' := [(5, .int ((nI i) + (1 : Int32))), (4, .int (((nI (pd 32 m i)) - (nI m)) &&& (nI m))), (3, .int (nI (2 ^ pp 32 m))), (0, .ref a), (1, .int (nI m)), (2, .int v)]) rfl ?_
        refine v_eq (by rw [nI_1]) rfl (ih G _ (fun n hn => ?_) (fun h9 => by rw [hnx, pd_next 32 m i (by omega) h9]))
        rw [hG n hn]
        constructor
        · rintro ⟨q, h1, h2⟩; exact ⟨q, by omega, h2⟩
        · rintro ⟨q, h1, h2, h3⟩
          refine ⟨q, ?_, h2, h3⟩
          rcases Nat.lt_or_ge q i with k | k
          · exact k
          · rw [show q = i by omega] at h2; rw [← h2] at h3; exact absurd h3 c
      · refine v_blk g [.aload_n 0] (pc' := 41) (lv' := [(5, .int (nI i)), (4, .int (nI (pd 32 m i))), (3, .int (nI (2 ^ pp 32 m))), (0, .ref a), (1, .int (nI m)), (2, .int v)]) (st' := [.ref a]) (by decide +kernel) rfl rfl ?_
        refine v_get g (z_so ha (z_ne ha hw rfl)) fl_X3_11 rfl (by decide +kernel) ?_
        refine v_blk g [.iload 4, .bipush 6, .ishr, .sipush 255, .iand] (pc' := 53) (lv' := [(5, .int (nI i)), (4, .int (nI (pd 32 m i))), (3, .int (nI (2 ^ pp 32 m))), (0, .ref a), (1, .int (nI m)), (2, .int v)]) (st' := [.int (((nI (pd 32 m i)) >>> ((6 : Int32) &&& (31 : Int32))) &&& (255 : Int32)), .ref w]) (by decide +kernel) rfl rfl ?_
        refine v_ti (z := nI (pd 32 m i / 64)) (sh6r (by omega)) ?_
        refine v_blk g [.dup2] (pc' := 54) (lv' := [(5, .int (nI i)), (4, .int (nI (pd 32 m i))), (3, .int (nI (2 ^ pp 32 m))), (0, .ref a), (1, .int (nI m)), (2, .int v)]) (st' := [.int (nI (pd 32 m i / 64)), .ref w, .int (nI (pd 32 m i / 64)), .ref w]) (by decide +kernel) rfl rfl ?_
        refine v_lald g (z_s_self _ _ _) (pd 32 m i / 64) rfl (by omega) (Nat.le_of_ble_eq_true rfl) (by decide +kernel) ?_
        refine v_blk g [.lconst 1, .iload 4, .bipush 63, .iand] (pc' := 61) (lv' := [(5, .int (nI i)), (4, .int (nI (pd 32 m i))), (3, .int (nI (2 ^ pp 32 m))), (0, .ref a), (1, .int (nI m)), (2, .int v)]) (st' := [.int ((nI (pd 32 m i)) &&& (63 : Int32)), .long (1 : Int64), .long (G (pd 32 m i / 64)), .int (nI (pd 32 m i / 64)), .ref w]) (by decide +kernel) rfl rfl ?_
        refine v_ti (z := nI (pd 32 m i % 64)) (and63 (by omega)) ?_
        refine v_blk g [.lshl, .lor] (pc' := 63) (lv' := [(5, .int (nI i)), (4, .int (nI (pd 32 m i))), (3, .int (nI (2 ^ pp 32 m))), (0, .ref a), (1, .int (nI m)), (2, .int v)]) (st' := [.long ((G (pd 32 m i / 64)) ||| ((1 : Int64) <<< ((nI (pd 32 m i % 64)).toInt64 &&& (63 : Int64)))), .int (nI (pd 32 m i / 64)), .ref w]) (by decide +kernel) rfl rfl ?_
        refine v_last g (z_s_self _ _ _) (pd 32 m i / 64) rfl (by omega) (Nat.le_of_ble_eq_true rfl) (by decide +kernel) ?_
        refine v_h (fun h2 eh2 => ?_)
        have h2_c : h2.2.1 = h.2.1 + 0 ∧ h2.2.2 = h.2.2 + 0 := zcs eh2 ⟨rfl, rfl⟩
        have h2_a : h2.1 a = some (oB 3 [.ref w]) := by rw [eh2]; exact z_so (z_so ha (z_ne ha hw rfl)) (z_ne ha hw rfl)
        have h2_w : h2.1 w = some (aJ 256 (vp_updL G (pd 32 m i / 64) ((G (pd 32 m i / 64)) ||| ((1 : Int64) <<< ((nI (pd 32 m i % 64)).toInt64 &&& (63 : Int64)))))) := by rw [eh2]; exact z_s_self _ _ _
        refine v_blk g [.iload 4, .iload_n 1, .isub, .iload_n 1, .iand, .istore 4, .iinc 5 1] (pc' := 75) (lv' := [(5, .int ((nI i) + (1 : Int32))), (4, .int (((nI (pd 32 m i)) - (nI m)) &&& (nI m))), (3, .int (nI (2 ^ pp 32 m))), (0, .ref a), (1, .int (nI m)), (2, .int v)]) (st' := []) (by decide +kernel) rfl rfl ?_
        refine v_goto g (off := -50) (tgt := 25) (by decide +kernel) (by decide) ?_
        refine v_lv [0, 1, 2, 3, 4, 5] (lv' := [(5, .int ((nI i) + (1 : Int32))), (4, .int (((nI (pd 32 m i)) - (nI m)) &&& (nI m))), (3, .int (nI (2 ^ pp 32 m))), (0, .ref a), (1, .int (nI m)), (2, .int v)]) rfl ?_
        refine v_eqh (h' := z_s h w (aJ 256 (vp_updL G (pd 32 m i / 64) (G (pd 32 m i / 64) ||| (1 : Int64) <<< ((nI (pd 32 m i % 64)).toInt64 &&& (63 : Int64)))))) (by rw [eh2, z_ss]) ?_
        refine v_eq (by rw [nI_1]) rfl (ih _ _ (fun n hn => ?_) (fun h9 => by rw [hnx, pd_next 32 m i (by omega) h9]))
        rw [lb_set G _ (ls_one (by omega)), Bool.or_eq_true, decide_eq_true_eq, hG n hn]
        constructor
        · rintro (⟨q, h1, h2⟩ | h1)
          · exact ⟨q, by omega, h2⟩
          · exact ⟨i, by omega, h1.symm, by rw [h1]; exact c⟩
        · rintro ⟨q, h1, h2, h3⟩
          rcases Nat.lt_or_ge q i with k | k
          · exact Or.inl ⟨q, k, h2, h3⟩
          · rw [show q = i by omega] at h2; exact Or.inr h2.symm
  rw [eh1]
  exact v_eq rfl rfl (key 0 (Nat.zero_le _) _ 0 (fun n hn => ⟨fun q => (by rw [lb_0 f hn] at q; cases q), fun ⟨q, h1, _⟩ => absurd h1 (Nat.not_lt_zero q)⟩) (fun _ => by rw [pd_0]; rfl))

/-! words of lines apart from a number -/
def apw (n : Nat) : Nat → Int64
  | 0 => -1
  | m + 1 => if n.testBit m then apw n m &&& (wm m ^^^ (-1 : Int64)) else apw n m
theorem apw_bit {n j : Nat} (hn : n < 64) (hj : j < 64) : (uN (apw n 6)).testBit j = decide (j &&& n = 0) := by
  have h : ∀ n, n < 64 → ∀ j, j < 64 → (uN (apw n 6)).testBit j = decide (j &&& n = 0) := by decide +kernel
  exact h n hn j hj
theorem apw_c {n m : Nat} (hn : n < 64) (hm : m < 6) : ((nI n >>> (nI m &&& (31 : Int32))) &&& (1 : Int32) = (1 : Int32)) ↔ n.testBit m = true := by
  have h : ∀ n, n < 64 → ∀ m, m < 6 → (((nI n >>> (nI m &&& (31 : Int32))) &&& (1 : Int32) = (1 : Int32)) ↔ n.testBit m = true) := by decide +kernel
  exact h n hn m hm

set_option maxRecDepth 100000 in
set_option maxHeartbeats 4000000 in
theorem c_LS_without {F : zF} {h : zH} {n : Nat} (hn : n < 64) : zMet F yX3_wordWithout cX3_wordWithout 4 (some .long) { frames := 1, cells := 0, slots := 0, locals := 30 } [.int (nI n)] h (zP h (some (.long (apw n 6)))) := by
  refine zMet_of (lv := [(0, .int (nI n))]) (by decide) (by simp [lg_sl, Value.category]) rfl ?_
  intro X g z
  refine v_ldc2 g kc_X3_33 (by decide +kernel) ?_
  refine v_blk g [.lstore_n 1, .iconst 0, .istore_n 3] (pc' := 6) (lv' := [(3, .int (0 : Int32)), (1, .long (-1 : Int64)), (0, .int (nI n))]) (st' := []) (by decide +kernel) rfl rfl ?_
  have key : ∀ i, i ≤ 6 → zV F X h 6 [(3, .int (nI i)), (1, .long (apw n i)), (0, .int (nI n))] [] := by
    refine z_up (P := fun i => zV F X h 6 [(3, .int (nI i)), (1, .long (apw n i)), (0, .int (nI n))] []) 6 ?_ ?_
    · refine v_blk g [.iload_n 3, .bipush 6] (pc' := 9) (lv' := [(3, .int (nI 6)), (1, .long (apw n 6)), (0, .int (nI n))]) (st' := [.int (6 : Int32), .int (nI 6)]) (by decide +kernel) rfl rfl ?_
      refine v_icmp_ge g (off := 30) (tgt := 39) (by decide +kernel) (by decide) (fun _ => ?_) (fun c => absurd c (fun q => q (by decide)))
      refine v_blk g [.lload_n 1] (pc' := 40) (lv' := [(3, .int (nI 6)), (1, .long (apw n 6)), (0, .int (nI n))]) (st' := [.long (apw n 6)]) (by decide +kernel) rfl rfl ?_
      exact v_lret g z rfl (by decide +kernel) ⟨rfl, rfl⟩ (zcrn 0 0 rfl rfl (Nat.le_of_ble_eq_true rfl) (Nat.le_of_ble_eq_true rfl))
    · intro i hi ih
      refine v_blk g [.iload_n 3, .bipush 6] (pc' := 9) (lv' := [(3, .int (nI i)), (1, .long (apw n i)), (0, .int (nI n))]) (st' := [.int (6 : Int32), .int (nI i)]) (by decide +kernel) rfl rfl ?_
      refine v_icmp_ge g (off := 30) (tgt := 39) (by decide +kernel) (by decide) (fun c => absurd c (nI_ge (b := 6) hi (by decide))) (fun _ => ?_)
      refine v_blk g [.iload_n 0, .iload_n 3, .ishr, .iconst 1, .iand, .iconst 1] (pc' := 18) (lv' := [(3, .int (nI i)), (1, .long (apw n i)), (0, .int (nI n))]) (st' := [.int (1 : Int32), .int (((nI n) >>> ((nI i) &&& (31 : Int32))) &&& (1 : Int32))]) (by decide +kernel) rfl rfl ?_
      refine v_icmp_ne g (off := 15) (tgt := 33) (by decide +kernel) (by decide) (fun c => ?_) (fun c => ?_)
      · have hb : ¬ n.testBit i = true := fun q => c ((apw_c hn hi).mpr q)
        refine v_blk g [.iinc 3 1] (pc' := 36) (lv' := [(3, .int ((nI i) + (1 : Int32))), (1, .long (apw n i)), (0, .int (nI n))]) (st' := []) (by decide +kernel) rfl rfl ?_
        refine v_goto g (off := -30) (tgt := 6) (by decide +kernel) (by decide) ?_
        refine v_lv [0, 1, 2] (lv' := [(3, .int ((nI i) + (1 : Int32))), (1, .long (apw n i)), (0, .int (nI n))]) rfl ?_
        exact v_eq (by rw [nI_1, apw, if_neg hb]) rfl ih
      · have hb : n.testBit i = true := (apw_c hn hi).mp c
        refine v_blk g [.lload_n 1] (pc' := 22) (lv' := [(3, .int (nI i)), (1, .long (apw n i)), (0, .int (nI n))]) (st' := [.long (apw n i)]) (by decide +kernel) rfl rfl ?_
        refine v_gets g sl_X3_55 (by decide +kernel) (fun t9 hT => ?_)
        refine v_blk g [.iload_n 3] (pc' := 26) (lv' := [(3, .int (nI i)), (1, .long (apw n i)), (0, .int (nI n))]) (st' := [.int (nI i), .ref t9, .long (apw n i)]) (by decide +kernel) rfl rfl ?_
        refine hT _ _ _ _ _ i rfl hi (by decide +kernel) ?_
        refine v_st (st' := [.long (wm i), .long (apw n i)]) (by rw [zWM_eq]) ?_
        refine v_ldc2 g kc_X3_33 (by decide +kernel) ?_
        refine v_blk g [.lxor, .land, .lstore_n 1, .iinc 3 1] (pc' := 36) (lv' := [(3, .int ((nI i) + (1 : Int32))), (1, .long ((apw n i) &&& ((wm i) ^^^ (-1 : Int64)))), (0, .int (nI n))]) (st' := []) (by decide +kernel) rfl rfl ?_
        refine v_goto g (off := -30) (tgt := 6) (by decide +kernel) (by decide) ?_
        refine v_lv [0, 1, 2] (lv' := [(3, .int ((nI i) + (1 : Int32))), (1, .long ((apw n i) &&& ((wm i) ^^^ (-1 : Int64)))), (0, .int (nI n))]) rfl ?_
        exact v_eq (by rw [nI_1, apw, if_pos hb]) rfl ih
  exact key 0 (by omega)

theorem fr_eq {H : Nat} (hH : H < 256) : (255 : Int32) &&& (nI H ^^^ (-1 : Int32)) = nI (255 - H) := by
  have h : ∀ H, H < 256 → (255 : Int32) &&& (nI H ^^^ (-1 : Int32)) = nI (255 - H) := by decide +kernel
  exact h H hH
theorem fr_sub {H w : Nat} (hH : H < 256) : w &&& (255 - H) = w ↔ (w < 256 ∧ w &&& H = 0) := by
  have h : ∀ H, H < 256 → ∀ w, w < 256 → (w &&& (255 - H) = w ↔ w &&& H = 0) := by decide +kernel
  constructor
  · intro q
    have hw : w < 256 := by rw [← q]; exact Nat.lt_of_le_of_lt Nat.and_le_right (by omega)
    exact ⟨hw, (h H hH w hw).mp q⟩
  · rintro ⟨hw, q⟩
    exact (h H hH w hw).mpr q
theorem or_255 {a b : Nat} (ha : a < 256) (hb : b < 256) : (nI a ||| nI b) &&& (255 : Int32) = nI (a ||| b) := by
  have h1 : a ||| b < 2 ^ 8 := Nat.or_lt_two_pow ha hb
  rw [fa_or, pk_andN (by omega) 8 (by decide), Nat.mod_eq_of_lt h1]
theorem shL (x : Int64) {L : Nat} (hL : L < 64) : uN (x <<< ((nI L).toInt64 &&& (63 : Int64))) = uN x * 2 ^ L % 2 ^ 64 := by
  obtain ⟨n, hn, rfl⟩ := wb_of x
  rw [wb_shl n hL, uN_bv, uN_bv, wb_tb, wb_tb]
  simp
/-- the bits of a word, apart from L, L places on -/
theorem jn_bit (x : Int64) {L b : Nat} (hL : L < 64) (hb : b < 64) : (uN ((x &&& apw L 6) <<< ((nI L).toInt64 &&& (63 : Int64)))).testBit b = true ↔ ∃ j, j < 64 ∧ (uN x).testBit j = true ∧ j &&& L = 0 ∧ j + L = b := by
  rw [shL _ hL, Nat.testBit_mod_two_pow, Nat.mul_comm, Nat.testBit_two_pow_mul]
  simp only [hb, decide_true, Bool.true_and, Bool.and_eq_true, decide_eq_true_eq]
  constructor
  · rintro ⟨h1, h2⟩
    rw [uN_and, Nat.testBit_and, Bool.and_eq_true, apw_bit hL (by omega), decide_eq_true_eq] at h2
    exact ⟨b - L, by omega, h2.1, h2.2, by omega⟩
  · rintro ⟨j, h1, h2, h3, h4⟩
    refine ⟨by omega, ?_⟩
    rw [show b - L = j by omega, uN_and, Nat.testBit_and, Bool.and_eq_true, apw_bit hL h1, decide_eq_true_eq]
    exact ⟨h2, h3⟩
theorem lb_or (G : Nat → Int64) (k : Nat) (x : Int64) (n : Nat) : lb (vp_updL G k (G k ||| x)) n = (lb G n || (decide (n / 64 = k) && (uN x).testBit (n % 64))) := by
  unfold lb vp_updL
  by_cases h : n / 64 = k
  · rw [if_pos h, uN_or', Nat.testBit_or, h]; simp
  · rw [if_neg h]; simp [h]
theorem add_or {j L : Nat} (hj : j < 64) (hL : L < 64) (h : j &&& L = 0) : j + L = (j ||| L) ∧ j + L < 64 := by
  have d : ∀ j, j < 64 → ∀ L, L < 64 → j &&& L = 0 → (j + L = (j ||| L) ∧ j + L < 64) := by decide +kernel
  exact d j hj L hL h
/-- joined with one line -/
def jn1 (g : Nat → Int64) (l n : Nat) : Prop := ∃ k, k < 16384 ∧ lb g k = true ∧ k &&& l = 0 ∧ k ||| l = n
theorem and64 {w j H L : Nat} (hj : j < 64) (hL : L < 64) : (64 * w + j) &&& (64 * H + L) = 64 * (w &&& H) + (j &&& L) := by
  apply Nat.eq_of_testBit_eq
  intro i
  rw [Nat.testBit_and]
  by_cases h : i < 6
  · rw [num_bit_lo hj h, num_bit_lo hL h, num_bit_lo (Nat.lt_of_le_of_lt Nat.and_le_left hj) h, Nat.testBit_and]
  · rw [num_bit_hi hj (by omega), num_bit_hi hL (by omega), num_bit_hi (Nat.lt_of_le_of_lt Nat.and_le_left hj) (by omega), Nat.testBit_and]
theorem or64 {w j H L : Nat} (hj : j < 64) (hL : L < 64) : (64 * w + j) ||| (64 * H + L) = 64 * (w ||| H) + (j ||| L) := by
  have h6 : j ||| L < 64 := Nat.or_lt_two_pow (n := 6) hj hL
  apply Nat.eq_of_testBit_eq
  intro i
  rw [Nat.testBit_or]
  by_cases h : i < 6
  · rw [num_bit_lo hj h, num_bit_lo hL h, num_bit_lo h6 h, Nat.testBit_or]
  · rw [num_bit_hi hj (by omega), num_bit_hi hL (by omega), num_bit_hi h6 (by omega), Nat.testBit_or]

set_option maxRecDepth 100000 in
set_option maxHeartbeats 4000000 in
/-- LineSet.addJoined -/
theorem c_LS_addJoined {F : zF} {h : zH} {a w b u : Nat} {f f2 : Nat → Int64} (ha : h.1 a = some (oB 3 [.ref w])) (hw : h.1 w = some (aJ 256 f)) (hb : h.1 b = some (oB 3 [.ref u])) (hu : h.1 u = some (aJ 256 f2)) (hne : u ≠ w) {H L : Nat} (hH : H < 256) (hL : L < 64) : zMet F yX3_addJoined cX3_addJoined 10 none { frames := 2, cells := 0, slots := 0, locals := 60 } [.ref a, .int (nI H), .int (nI L), .ref b] h (fun v2 h2 => v2 = none ∧ ∃ G, h2 = z_s h w (aJ 256 G) ∧ ∀ n, n < 16384 → (lb G n = true ↔ (lb f n = true ∨ jn1 f2 (64 * H + L) n))) := by
  refine zMet_of (lv := [(0, .ref a), (1, .int (nI H)), (2, .int (nI L)), (3, .ref b)]) (by decide) (by simp [lg_sl, Value.category]) rfl ?_
  intro X g z
  refine v_blk g [.iload_n 2] (pc' := 1) (lv' := [(0, .ref a), (1, .int (nI H)), (2, .int (nI L)), (3, .ref b)]) (st' := [.int (nI L)]) (by decide +kernel) rfl rfl ?_
  refine v_callSp g (rest := []) (c_LS_without hL) cl_X3_51 rfl (Nat.le_of_ble_eq_true rfl) (by decide +kernel) ⟨Nat.le_of_ble_eq_true rfl, Nat.le_of_ble_eq_true rfl⟩ (zcsn 0 0 rfl rfl (Nat.le_of_ble_eq_true rfl) (Nat.le_of_ble_eq_true rfl)) ?_
  show zV F X h 4 [(0, .ref a), (1, .int (nI H)), (2, .int (nI L)), (3, .ref b)] [.long (apw L 6)]
  refine v_blk g [.lstore 4, .sipush 255, .iload_n 1, .iconst (-1), .ixor, .iand] (pc' := 13) (lv' := [(4, .long (apw L 6)), (0, .ref a), (1, .int (nI H)), (2, .int (nI L)), (3, .ref b)]) (st' := [.int ((255 : Int32) &&& ((nI H) ^^^ (-1 : Int32)))]) (by decide +kernel) rfl rfl ?_
  refine v_ti (z := nI (255 - H)) (fr_eq hH) ?_
  refine v_blk g [.istore 6, .iconst 1, .iload 6] (pc' := 18) (lv' := [(6, .int (nI (255 - H))), (4, .long (apw L 6)), (0, .ref a), (1, .int (nI H)), (2, .int (nI L)), (3, .ref b)]) (st' := [.int (nI (255 - H)), .int (1 : Int32)]) (by decide +kernel) rfl rfl ?_
  refine v_callSp g (rest := [.int (1 : Int32)]) (c_bitCountI _) cl_X3_27 rfl (Nat.le_of_ble_eq_true rfl) (by decide +kernel) ⟨Nat.le_of_ble_eq_true rfl, Nat.le_of_ble_eq_true rfl⟩ (zcsn 0 0 rfl rfl (Nat.le_of_ble_eq_true rfl) (Nat.le_of_ble_eq_true rfl)) ?_
  show zV F X h 21 [(6, .int (nI (255 - H))), (4, .long (apw L 6)), (0, .ref a), (1, .int (nI H)), (2, .int (nI L)), (3, .ref b)] [.int (nI (pc32 (nI (255 - H)))), .int (1 : Int32)]
  refine v_ti (z := nI (pp 32 (255 - H))) (by rw [pc32, u32_nI (by omega), pp_ct]) ?_
  have hpp : pp 32 (255 - H) ≤ 8 := pp_le (k := 8) (by omega) (by decide)
  have hE : 2 ^ pp 32 (255 - H) ≤ 16384 := pow_lt hpp (by decide)
  refine v_blk g [.ishl] (pc' := 22) (lv' := [(6, .int (nI (255 - H))), (4, .long (apw L 6)), (0, .ref a), (1, .int (nI H)), (2, .int (nI L)), (3, .ref b)]) (st' := [.int ((1 : Int32) <<< ((nI (pp 32 (255 - H))) &&& (31 : Int32)))]) (by decide +kernel) rfl rfl ?_
  refine v_ti (z := nI (2 ^ pp 32 (255 - H))) (shp (by omega)) ?_
  refine v_blk g [.istore 7, .iconst 0, .istore 8, .iconst 0, .istore 9] (pc' := 30) (lv' := [(9, .int (0 : Int32)), (8, .int (0 : Int32)), (7, .int (nI (2 ^ pp 32 (255 - H)))), (6, .int (nI (255 - H))), (4, .long (apw L 6)), (0, .ref a), (1, .int (nI H)), (2, .int (nI L)), (3, .ref b)]) (st' := []) (by decide +kernel) rfl rfl ?_
  have key : ∀ i, i ≤ 2 ^ pp 32 (255 - H) → ∀ (G : Nat → Int64) (num : Int32), (∀ n, n < 16384 → (lb G n = true ↔ (lb f n = true ∨ ∃ q, q < i ∧ ∃ j, j < 64 ∧ (uN (f2 (pd 32 (255 - H) q))).testBit j = true ∧ j &&& L = 0 ∧ n = 64 * (pd 32 (255 - H) q ||| H) + (j + L)))) → (i < 2 ^ pp 32 (255 - H) → num = nI (pd 32 (255 - H) i)) → zV F X (z_s h w (aJ 256 G)) 30 [(9, .int (nI i)), (8, .int num), (7, .int (nI (2 ^ pp 32 (255 - H)))), (6, .int (nI (255 - H))), (4, .long (apw L 6)), (0, .ref a), (1, .int (nI H)), (2, .int (nI L)), (3, .ref b)] [] := by
    refine z_up (P := fun i => ∀ (G : Nat → Int64) (num : Int32), (∀ n, n < 16384 → (lb G n = true ↔ (lb f n = true ∨ ∃ q, q < i ∧ ∃ j, j < 64 ∧ (uN (f2 (pd 32 (255 - H) q))).testBit j = true ∧ j &&& L = 0 ∧ n = 64 * (pd 32 (255 - H) q ||| H) + (j + L)))) → (i < 2 ^ pp 32 (255 - H) → num = nI (pd 32 (255 - H) i)) → zV F X (z_s h w (aJ 256 G)) 30 [(9, .int (nI i)), (8, .int num), (7, .int (nI (2 ^ pp 32 (255 - H)))), (6, .int (nI (255 - H))), (4, .long (apw L 6)), (0, .ref a), (1, .int (nI H)), (2, .int (nI L)), (3, .ref b)] []) (2 ^ pp 32 (255 - H)) ?_ ?_
    · intro G num hG _
      refine v_blk g [.iload 9, .iload 7] (pc' := 34) (lv' := [(9, .int (nI (2 ^ pp 32 (255 - H)))), (8, .int num), (7, .int (nI (2 ^ pp 32 (255 - H)))), (6, .int (nI (255 - H))), (4, .long (apw L 6)), (0, .ref a), (1, .int (nI H)), (2, .int (nI L)), (3, .ref b)]) (st' := [.int (nI (2 ^ pp 32 (255 - H))), .int (nI (2 ^ pp 32 (255 - H)))]) (by decide +kernel) rfl rfl ?_
      refine v_icmp_ge g (off := 47) (tgt := 81) (by decide +kernel) (by decide) (fun _ => ?_) (fun c => absurd c (fun q => q (nI_le (Nat.le_refl _) (by omega))))
      refine v_vret g z rfl (by decide +kernel) ⟨rfl, G, rfl, fun n hn => ?_⟩ (zcrn 0 0 rfl rfl (Nat.le_of_ble_eq_true rfl) (Nat.le_of_ble_eq_true rfl))
      rw [hG n hn]
      constructor
      · rintro (h1 | ⟨q, h1, j, h2, h3, h4, h5⟩)
        · exact Or.inl h1
        · have hq := (fr_sub hH).mp (pd_sub 32 (255 - H) q (by omega))
          refine Or.inr ⟨64 * pd 32 (255 - H) q + j, by omega, by rw [lb_at f2 _ h2]; exact h3, by rw [and64 h2 hL, hq.2, h4], ?_⟩
          rw [or64 h2 hL, ← (add_or h2 hL h4).1, h5]
      · rintro (h1 | ⟨k, h1, h2, h3, h4⟩)
        · exact Or.inl h1
        · have e : k = 64 * (k / 64) + k % 64 := by omega
          rw [e, and64 (by omega) hL] at h3
          rw [e, or64 (by omega) hL] at h4
          obtain ⟨q, hq, hq2⟩ := pd_all 32 (255 - H) (k / 64) (by omega) ((fr_sub hH).mpr ⟨by omega, by omega⟩)
          refine Or.inr ⟨q, hq, k % 64, by omega, ?_, by omega, ?_⟩
          · rw [hq2]; exact h2
          · rw [hq2, ← h4, (add_or (j := k % 64) (by omega) hL (by omega)).1]
    · intro i hi ih G num hG hnum
      have hnum := hnum hi
      subst hnum
      have hq := (fr_sub hH).mp (pd_sub 32 (255 - H) i (by omega))
      have hle : pd 32 (255 - H) i ≤ 255 - H := pd_le (by omega)
      have hor : pd 32 (255 - H) i ||| H < 256 := Nat.or_lt_two_pow (n := 8) hq.1 hH
      have hnx : (nI (pd 32 (255 - H) i) - nI (255 - H)) &&& nI (255 - H) = nI ((pd 32 (255 - H) i + (2 ^ 32 - (255 - H))) &&& (255 - H)) := pd_step (by omega) hle
      refine v_blk g [.iload 9, .iload 7] (pc' := 34) (lv' := [(9, .int (nI i)), (8, .int (nI (pd 32 (255 - H) i))), (7, .int (nI (2 ^ pp 32 (255 - H)))), (6, .int (nI (255 - H))), (4, .long (apw L 6)), (0, .ref a), (1, .int (nI H)), (2, .int (nI L)), (3, .ref b)]) (st' := [.int (nI (2 ^ pp 32 (255 - H))), .int (nI i)]) (by decide +kernel) rfl rfl ?_
      refine v_icmp_ge g (off := 47) (tgt := 81) (by decide +kernel) (by decide) (fun c => absurd c (nI_ge hi (by omega))) (fun _ => ?_)
      refine v_blk g [.aload_n 0] (pc' := 38) (lv' := [(9, .int (nI i)), (8, .int (nI (pd 32 (255 - H) i))), (7, .int (nI (2 ^ pp 32 (255 - H)))), (6, .int (nI (255 - H))), (4, .long (apw L 6)), (0, .ref a), (1, .int (nI H)), (2, .int (nI L)), (3, .ref b)]) (st' := [.ref a]) (by decide +kernel) rfl rfl ?_
      refine v_get g (z_so ha (z_ne ha hw rfl)) fl_X3_11 rfl (by decide +kernel) ?_
      refine v_blk g [.iload 8, .iload_n 1, .ior, .sipush 255, .iand] (pc' := 49) (lv' := [(9, .int (nI i)), (8, .int (nI (pd 32 (255 - H) i))), (7, .int (nI (2 ^ pp 32 (255 - H)))), (6, .int (nI (255 - H))), (4, .long (apw L 6)), (0, .ref a), (1, .int (nI H)), (2, .int (nI L)), (3, .ref b)]) (st' := [.int (((nI (pd 32 (255 - H) i)) ||| (nI H)) &&& (255 : Int32)), .ref w]) (by decide +kernel) rfl rfl ?_
      refine v_ti (z := nI (pd 32 (255 - H) i ||| H)) (or_255 hq.1 hH) ?_
      refine v_blk g [.dup2] (pc' := 50) (lv' := [(9, .int (nI i)), (8, .int (nI (pd 32 (255 - H) i))), (7, .int (nI (2 ^ pp 32 (255 - H)))), (6, .int (nI (255 - H))), (4, .long (apw L 6)), (0, .ref a), (1, .int (nI H)), (2, .int (nI L)), (3, .ref b)]) (st' := [.int (nI (pd 32 (255 - H) i ||| H)), .ref w, .int (nI (pd 32 (255 - H) i ||| H)), .ref w]) (by decide +kernel) rfl rfl ?_
      refine v_lald g (z_s_self _ _ _) (pd 32 (255 - H) i ||| H) rfl hor (Nat.le_of_ble_eq_true rfl) (by decide +kernel) ?_
      refine v_blk g [.aload_n 3] (pc' := 52) (lv' := [(9, .int (nI i)), (8, .int (nI (pd 32 (255 - H) i))), (7, .int (nI (2 ^ pp 32 (255 - H)))), (6, .int (nI (255 - H))), (4, .long (apw L 6)), (0, .ref a), (1, .int (nI H)), (2, .int (nI L)), (3, .ref b)]) (st' := [.ref b, .long (G (pd 32 (255 - H) i ||| H)), .int (nI (pd 32 (255 - H) i ||| H)), .ref w]) (by decide +kernel) rfl rfl ?_
      refine v_get g (z_so hb (z_ne hb hw rfl)) fl_X3_11 rfl (by decide +kernel) ?_
      refine v_blk g [.iload 8] (pc' := 57) (lv' := [(9, .int (nI i)), (8, .int (nI (pd 32 (255 - H) i))), (7, .int (nI (2 ^ pp 32 (255 - H)))), (6, .int (nI (255 - H))), (4, .long (apw L 6)), (0, .ref a), (1, .int (nI H)), (2, .int (nI L)), (3, .ref b)]) (st' := [.int (nI (pd 32 (255 - H) i)), .ref u, .long (G (pd 32 (255 - H) i ||| H)), .int (nI (pd 32 (255 - H) i ||| H)), .ref w]) (by decide +kernel) rfl rfl ?_
      refine v_lald g (z_so hu hne) (pd 32 (255 - H) i) rfl hq.1 (Nat.le_of_ble_eq_true rfl) (by decide +kernel) ?_
      refine v_blk g [.lload 4, .land, .iload_n 2, .lshl, .lor] (pc' := 64) (lv' := [(9, .int (nI i)), (8, .int (nI (pd 32 (255 - H) i))), (7, .int (nI (2 ^ pp 32 (255 - H)))), (6, .int (nI (255 - H))), (4, .long (apw L 6)), (0, .ref a), (1, .int (nI H)), (2, .int (nI L)), (3, .ref b)]) (st' := [.long ((G (pd 32 (255 - H) i ||| H)) ||| (((f2 (pd 32 (255 - H) i)) &&& (apw L 6)) <<< ((nI L).toInt64 &&& (63 : Int64)))), .int (nI (pd 32 (255 - H) i ||| H)), .ref w]) (by decide +kernel) rfl rfl ?_
      refine v_last g (z_s_self _ _ _) (pd 32 (255 - H) i ||| H) rfl hor (Nat.le_of_ble_eq_true rfl) (by decide +kernel) ?_
      refine v_h (fun h1 eh1 => ?_)
      have h1_c : h1.2.1 = h.2.1 + 0 ∧ h1.2.2 = h.2.2 + 0 := zcs eh1 ⟨rfl, rfl⟩
      have h1_a : h1.1 a = some (oB 3 [.ref w]) := by rw [eh1]; exact z_so (z_so ha (z_ne ha hw rfl)) (z_ne ha hw rfl)
      have h1_b : h1.1 b = some (oB 3 [.ref u]) := by rw [eh1]; exact z_so (z_so hb (z_ne hb hw rfl)) (z_ne hb hw rfl)
      have h1_w : h1.1 w = some (aJ 256 (vp_updL G (pd 32 (255 - H) i ||| H) ((G (pd 32 (255 - H) i ||| H)) ||| (((f2 (pd 32 (255 - H) i)) &&& (apw L 6)) <<< ((nI L).toInt64 &&& (63 : Int64)))))) := by rw [eh1]; exact z_s_self _ _ _
      have h1_u : h1.1 u = some (aJ 256 f2) := by rw [eh1]; exact z_so (z_so hu hne) hne
      refine v_blk g [.iload 8, .iload 6, .isub, .iload 6, .iand, .istore 8, .iinc 9 1] (pc' := 78) (lv' := [(9, .int ((nI i) + (1 : Int32))), (8, .int (((nI (pd 32 (255 - H) i)) - (nI (255 - H))) &&& (nI (255 - H)))), (7, .int (nI (2 ^ pp 32 (255 - H)))), (6, .int (nI (255 - H))), (4, .long (apw L 6)), (0, .ref a), (1, .int (nI H)), (2, .int (nI L)), (3, .ref b)]) (st' := []) (by decide +kernel) rfl rfl ?_
      refine v_goto g (off := -48) (tgt := 30) (by decide +kernel) (by decide) ?_
      refine v_lv [0, 1, 2, 3, 4, 5, 6, 7, 8] (lv' := [(9, .int ((nI i) + (1 : Int32))), (8, .int (((nI (pd 32 (255 - H) i)) - (nI (255 - H))) &&& (nI (255 - H)))), (7, .int (nI (2 ^ pp 32 (255 - H)))), (6, .int (nI (255 - H))), (4, .long (apw L 6)), (0, .ref a), (1, .int (nI H)), (2, .int (nI L)), (3, .ref b)]) rfl ?_
      refine v_eqh (h' := z_s h w (aJ 256 (vp_updL G (pd 32 (255 - H) i ||| H) (G (pd 32 (255 - H) i ||| H) ||| (f2 (pd 32 (255 - H) i) &&& apw L 6) <<< ((nI L).toInt64 &&& (63 : Int64)))))) (by rw [eh1, z_ss]) ?_
      refine v_eq (by rw [nI_1]) rfl (ih _ _ (fun n hn => ?_) (fun h9 => by rw [hnx, pd_next 32 (255 - H) i (by omega) h9]))
      rw [lb_or, Bool.or_eq_true, Bool.and_eq_true, decide_eq_true_eq, hG n hn, jn_bit _ hL (by omega)]
      constructor
      · rintro ((h1 | ⟨q, h1, h2⟩) | ⟨h1, j, h2, h3, h4, h5⟩)
        · exact Or.inl h1
        · exact Or.inr ⟨q, by omega, h2⟩
        · exact Or.inr ⟨i, by omega, j, h2, h3, h4, by omega⟩
      · rintro (h1 | ⟨q, h1, j, h2, h3, h4, h5⟩)
        · exact Or.inl (Or.inl h1)
        · rcases Nat.lt_or_ge q i with k | k
          · exact Or.inl (Or.inr ⟨q, k, j, h2, h3, h4, h5⟩)
          · rw [show q = i by omega] at h3 h5
            have hl := (add_or h2 hL h4).2
            exact Or.inr ⟨by omega, j, h2, h3, h4, by omega⟩
  refine v_eqh (z_sid hw).symm ?_
  exact v_eq rfl rfl (key 0 (Nat.zero_le _) f 0 (fun n hn => ⟨fun q => Or.inl q, fun q => q.elim id (fun ⟨q, h1, _⟩ => absurd h1 (Nat.not_lt_zero q))⟩) (fun _ => by rw [pd_0]; rfl))
