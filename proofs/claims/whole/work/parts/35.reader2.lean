/-! reading a plan: the matches -/
theorem z_ind {P : Nat → Prop} (h0 : P 0) (hs : ∀ k, P k → P (k + 1)) : ∀ k, P k := by
  intro k
  induction k with
  | zero => exact h0
  | succ k ih => exact hs k ih
theorem bit_c {n m : Nat} (hn : n < 2 ^ 31) (hm : m < 31) : ((nI n >>> (nI m &&& (31 : Int32))) &&& (1 : Int32) = (1 : Int32)) ↔ n.testBit m = true := by
  rw [pk_shrN hn _ m (s_l m (by omega)), pk_andN (Nat.lt_of_le_of_lt (Nat.div_le_self _ _) (by omega)) 1 (by decide), Nat.testBit_eq_decide_div_mod_eq, show (1 : Int32) = nI 1 from rfl, nI_eq (by omega) (by decide)]
  simp
theorem or_lt14 {M v : Nat} (hM : M < 16384) (hv : v < 14) : M ||| 2 ^ v < 16384 := Nat.or_lt_two_pow (n := 14) hM (Nat.pow_lt_pow_right (by decide) hv)
theorem nI_lti {a b : Nat} (ha : a < 2 ^ 31) (hb : b < 2 ^ 31) : nI a < nI b ↔ a < b := by
  rw [fa_lt, nI_toInt ha, nI_toInt hb]; omega
theorem nI_lei {a b : Nat} (ha : a < 2 ^ 31) (hb : b < 2 ^ 31) : nI a ≤ nI b ↔ a ≤ b := by
  rw [fa_le, nI_toInt ha, nI_toInt hb]; omega
theorem nle14 {i : Nat} (h : i ≤ 14) : ¬ (14 : Int32) < nI i := fun q => by
  rw [show (14 : Int32) = nI 14 from rfl, nI_lti (by decide) (by omega)] at q
  omega
theorem nle_of {v : Nat} (h : (14 : Int32) ≤ nI v) (hv : v < 100) : 14 ≤ v := by
  rw [show (14 : Int32) = nI 14 from rfl, nI_lei (by decide) (by omega)] at h
  exact h
theorem nlt_of {v : Nat} (h : ¬ (14 : Int32) ≤ nI v) (hv : v < 100) : v < 14 := by
  rw [show (14 : Int32) = nI 14 from rfl, nI_lei (by decide) (by omega)] at h
  omega
theorem nI_ne1 {v : Nat} (hv : v < 2 ^ 31) : ¬ nI v = (-1 : Int32) := fun e => by
  have h := nI_pos hv
  rw [e] at h
  exact h (by decide)
theorem dg_end {B : Nat → Int32} {n p : Nat} (h : ¬ dg (txt B n) p = 0) : p + dg (txt B n) p ≤ n := by
  have h1 : ¬ x_digit (txt B n p) = 0 := fun q => h (by rw [dg, if_pos q])
  have h2 := dig_in h1
  by_cases h3 : x_digit (txt B n (p + 1)) = 0
  · rw [dg, if_neg h1, if_pos h3]; omega
  · have h4 := dig_in h3
    rw [dg, if_neg h1, if_neg h3]; omega

set_option maxRecDepth 100000 in
set_option maxHeartbeats 4000000 in
theorem c_PR_matches {F : zF} {h : zH} {a t tb ss n p : Nat} {sp : Option Nat} {fk fp hg : Int32} {B : Nat → Int32} (ha : h.1 a = some (oB 4 [.int fk, .int fp, .ref t, .ref ss, va_rf sp, .int hg, .int (nI p)])) (ht : h.1 t = some (oB 6 [.ref tb, .int (nI n)])) (hb : h.1 tb = some (aI 200 B)) (hn : n ≤ 200) (hp : p ≤ 200) : zMet F yX4_readMatches cX4_readMatches 5 (some .int) { frames := 4, cells := 0, slots := 0, locals := 120 } [.ref a] h (fun v h2 => (∃ kd pl p2, rmt (txt B n) 15 0 p = .inl (kd, pl) ∧ v = some (.int (-1)) ∧ h2 = z_s h a (oB 4 [.int (nI kd), .int (nI pl), .ref t, .ref ss, va_rf sp, .int hg, .int (p2)])) ∨ (∃ M q, rmt (txt B n) 15 0 p = .inr (M, q) ∧ v = some (.int (nI M)) ∧ h2 = z_s h a (oB 4 [.int fk, .int fp, .ref t, .ref ss, va_rf sp, .int hg, .int (nI q)]))) := by
  refine zMet_of (lv := [(0, .ref a)]) (by decide) (by simp [lg_sl, Value.category]) rfl ?_
  intro X g z
  refine v_blk g [.iconst 0, .istore_n 1, .iconst 0, .istore_n 2] (pc' := 4) (lv' := [(2, .int (0 : Int32)), (1, .int (0 : Int32)), (0, .ref a)]) (st' := []) (by decide +kernel) rfl rfl ?_
  have key : ∀ k i M p2 hx, i + k = 15 → p2 ≤ 200 → M < 16384 → hx = z_s h a (oB 4 [.int fk, .int fp, .ref t, .ref ss, va_rf sp, .int hg, .int (nI p2)]) → rmt (txt B n) k M p2 = rmt (txt B n) 15 0 p → zV F X hx 4 [(2, .int (nI i)), (1, .int (nI M)), (0, .ref a)] [] := by
    refine z_ind ?_ ?_
    · intro i M p2 hx hi hp2 hM ex er
      have hx_a : hx.1 a = some (oB 4 [.int fk, .int fp, .ref t, .ref ss, va_rf sp, .int hg, .int (nI p2)]) := by rw [ex]; exact z_s_self _ _ _
      have hx_t : hx.1 t = some (oB 6 [.ref tb, .int (nI n)]) := by rw [ex]; exact z_so ht (z_ne ht ha rfl)
      have hx_b : hx.1 tb = some (aI 200 B) := by rw [ex]; exact z_so hb (z_ne hb ha rfl)
      have hx_c : hx.2.1 = h.2.1 + 0 ∧ hx.2.2 = h.2.2 + 0 := zcs ex ⟨rfl, rfl⟩
      refine v_blk g [.iload_n 2, .bipush 14] (pc' := 7) (lv' := [(2, .int (nI i)), (1, .int (nI M)), (0, .ref a)]) (st' := [.int (14 : Int32), .int (nI i)]) (by decide +kernel) rfl rfl ?_
      refine v_icmp_gt g (off := 100) (tgt := 107) (by decide +kernel) (by decide) (fun _ => ?_) (fun c => absurd c (fun q => q (by rw [show i = 15 by omega]; decide)))
      refine v_blk g [.iload_n 1] (pc' := 108) (lv' := [(2, .int (nI i)), (1, .int (nI M)), (0, .ref a)]) (st' := [.int (nI M)]) (by decide +kernel) rfl rfl ?_
      exact v_iret g z rfl (by decide +kernel) (Or.inr ⟨M, p2, er.symm, rfl, ex⟩) (zcrn 0 0 hx_c.1 hx_c.2 (Nat.le_of_ble_eq_true rfl) (Nat.le_of_ble_eq_true rfl))
    · intro k ih i M p2 hx hi hp2 hM ex er
      have hx_a : hx.1 a = some (oB 4 [.int fk, .int fp, .ref t, .ref ss, va_rf sp, .int hg, .int (nI p2)]) := by rw [ex]; exact z_s_self _ _ _
      have hx_t : hx.1 t = some (oB 6 [.ref tb, .int (nI n)]) := by rw [ex]; exact z_so ht (z_ne ht ha rfl)
      have hx_b : hx.1 tb = some (aI 200 B) := by rw [ex]; exact z_so hb (z_ne hb ha rfl)
      have hx_c : hx.2.1 = h.2.1 + 0 ∧ hx.2.2 = h.2.2 + 0 := zcs ex ⟨rfl, rfl⟩
      refine v_blk g [.iload_n 2, .bipush 14] (pc' := 7) (lv' := [(2, .int (nI i)), (1, .int (nI M)), (0, .ref a)]) (st' := [.int (14 : Int32), .int (nI i)]) (by decide +kernel) rfl rfl ?_
      refine v_icmp_gt g (off := 100) (tgt := 107) (by decide +kernel) (by decide) (fun c => absurd c (nle14 (by omega))) (fun _ => ?_)
      refine v_blk g [.aload_n 0] (pc' := 11) (lv' := [(2, .int (nI i)), (1, .int (nI M)), (0, .ref a)]) (st' := [.ref a]) (by decide +kernel) rfl rfl ?_
      refine v_get g hx_a fl_X4_29 rfl (by decide +kernel) ?_
      refine v_blk g [.istore_n 3, .aload_n 0] (pc' := 16) (lv' := [(3, .int (nI p2)), (2, .int (nI i)), (1, .int (nI M)), (0, .ref a)]) (st' := [.ref a]) (by decide +kernel) rfl rfl ?_
      refine v_callV g (rest := []) (c_PR_number hx_a hx_t hx_b hn hp2) cl_X4_84 hx_a rfl rfl (Nat.le_of_ble_eq_true rfl) (by decide +kernel) ⟨Nat.le_of_ble_eq_true rfl, Nat.le_of_ble_eq_true rfl⟩ (zcsn 0 0 hx_c.1 hx_c.2 (Nat.le_of_ble_eq_true rfl) (Nat.le_of_ble_eq_true rfl)) (fun v9 h9 q9 => ?_)
      rcases q9 with ⟨d0, rfl, e9⟩ | ⟨d0, rfl, e9⟩
      · rw [e9]
        show zV F X hx 19 [(3, .int (nI p2)), (2, .int (nI i)), (1, .int (nI M)), (0, .ref a)] [.int (-1 : Int32)]
        refine v_blk g [.istore 4, .iload 4, .iconst (-1)] (pc' := 24) (lv' := [(4, .int (-1 : Int32)), (3, .int (nI p2)), (2, .int (nI i)), (1, .int (nI M)), (0, .ref a)]) (st' := [.int (-1 : Int32), .int (-1 : Int32)]) (by decide +kernel) rfl rfl ?_
        refine v_icmp_ne g (off := 15) (tgt := 39) (by decide +kernel) (by decide) (fun c => absurd c (fun q => q rfl)) (fun _ => ?_)
        refine v_blk g [.aload_n 0, .iconst 1, .aload_n 0] (pc' := 30) (lv' := [(4, .int (-1 : Int32)), (3, .int (nI p2)), (2, .int (nI i)), (1, .int (nI M)), (0, .ref a)]) (st' := [.ref a, .int (1 : Int32), .ref a]) (by decide +kernel) rfl rfl ?_
        refine v_get g hx_a fl_X4_29 rfl (by decide +kernel) ?_
        refine v_callVp g (rest := []) (c_PR_stopAt hx_a _ _) cl_X4_47 hx_a rfl rfl (Nat.le_of_ble_eq_true rfl) (by decide +kernel) ⟨Nat.le_of_ble_eq_true rfl, Nat.le_of_ble_eq_true rfl⟩ (zcsn 0 0 hx_c.1 hx_c.2 (Nat.le_of_ble_eq_true rfl) (Nat.le_of_ble_eq_true rfl)) ?_
        show zV F X (z_s hx a (oB 4 [.int 1, .int (nI p2), .ref t, .ref ss, va_rf sp, .int hg, .int (nI p2)])) 36 [(4, .int (-1 : Int32)), (3, .int (nI p2)), (2, .int (nI i)), (1, .int (nI M)), (0, .ref a)] [.int 0]
        refine v_blk g [.pop, .iconst (-1)] (pc' := 38) (lv' := [(4, .int (-1 : Int32)), (3, .int (nI p2)), (2, .int (nI i)), (1, .int (nI M)), (0, .ref a)]) (st' := [.int (-1 : Int32)]) (by decide +kernel) rfl rfl ?_
        exact v_iret g z rfl (by decide +kernel) (Or.inl ⟨1, p2, nI p2, by rw [← er, rmt, if_pos d0], rfl, by rw [ex, z_ss]; rfl⟩) (zcrn 0 0 hx_c.1 hx_c.2 (Nat.le_of_ble_eq_true rfl) (Nat.le_of_ble_eq_true rfl))
      · show zV F X h9 19 [(3, .int (nI p2)), (2, .int (nI i)), (1, .int (nI M)), (0, .ref a)] [.int (nI (numv (txt B n) p2))]
        have e8 : h9 = z_s h a (oB 4 [.int fk, .int fp, .ref t, .ref ss, va_rf sp, .int hg, .int (nI (p2 + dg (txt B n) p2))]) := by rw [e9, ex, z_ss]
        have l9 := numv_lt d0
        have m9 := dg_le (txt B n) p2
        have pn : p2 + dg (txt B n) p2 ≤ n := dg_end d0
        have h9_a : h9.1 a = some (oB 4 [.int fk, .int fp, .ref t, .ref ss, va_rf sp, .int hg, .int (nI (p2 + dg (txt B n) p2))]) := by rw [e8]; exact z_s_self _ _ _
        have h9_t : h9.1 t = some (oB 6 [.ref tb, .int (nI n)]) := by rw [e8]; exact z_so ht (z_ne ht ha rfl)
        have h9_b : h9.1 tb = some (aI 200 B) := by rw [e8]; exact z_so hb (z_ne hb ha rfl)
        have h9_c : h9.2.1 = h.2.1 + 0 ∧ h9.2.2 = h.2.2 + 0 := zcs e8 ⟨rfl, rfl⟩
        refine v_blk g [.istore 4, .iload 4, .iconst (-1)] (pc' := 24) (lv' := [(4, .int (nI (numv (txt B n) p2))), (3, .int (nI p2)), (2, .int (nI i)), (1, .int (nI M)), (0, .ref a)]) (st' := [.int (-1 : Int32), .int (nI (numv (txt B n) p2))]) (by decide +kernel) rfl rfl ?_
        refine v_icmp_ne g (off := 15) (tgt := 39) (by decide +kernel) (by decide) (fun _ => ?_) (fun c => absurd c (nI_ne1 (by omega)))
        refine v_blk g [.iload 4, .bipush 14] (pc' := 43) (lv' := [(4, .int (nI (numv (txt B n) p2))), (3, .int (nI p2)), (2, .int (nI i)), (1, .int (nI M)), (0, .ref a)]) (st' := [.int (14 : Int32), .int (nI (numv (txt B n) p2))]) (by decide +kernel) rfl rfl ?_
        refine v_icmp_ge g (off := 13) (tgt := 56) (by decide +kernel) (by decide) (fun c => ?_) (fun c => ?_)
        · have c8 : 14 ≤ numv (txt B n) p2 := nle_of c (by omega)
          refine v_blk g [.aload_n 0, .iconst 2, .iload_n 3] (pc' := 59) (lv' := [(4, .int (nI (numv (txt B n) p2))), (3, .int (nI p2)), (2, .int (nI i)), (1, .int (nI M)), (0, .ref a)]) (st' := [.int (nI p2), .int (2 : Int32), .ref a]) (by decide +kernel) rfl rfl ?_
          refine v_callVp g (rest := []) (c_PR_stopAt h9_a _ _) cl_X4_47 h9_a rfl rfl (Nat.le_of_ble_eq_true rfl) (by decide +kernel) ⟨Nat.le_of_ble_eq_true rfl, Nat.le_of_ble_eq_true rfl⟩ (zcsn 0 0 h9_c.1 h9_c.2 (Nat.le_of_ble_eq_true rfl) (Nat.le_of_ble_eq_true rfl)) ?_
          show zV F X (z_s h9 a (oB 4 [.int 2, .int (nI p2), .ref t, .ref ss, va_rf sp, .int hg, .int (nI (p2 + dg (txt B n) p2))])) 62 [(4, .int (nI (numv (txt B n) p2))), (3, .int (nI p2)), (2, .int (nI i)), (1, .int (nI M)), (0, .ref a)] [.int 0]
          refine v_blk g [.pop, .iconst (-1)] (pc' := 64) (lv' := [(4, .int (nI (numv (txt B n) p2))), (3, .int (nI p2)), (2, .int (nI i)), (1, .int (nI M)), (0, .ref a)]) (st' := [.int (-1 : Int32)]) (by decide +kernel) rfl rfl ?_
          exact v_iret g z rfl (by decide +kernel) (Or.inl ⟨2, p2, _, by rw [← er, rmt, if_neg d0, if_pos (Or.inl c8)], rfl, by rw [e8, z_ss]; rfl⟩) (zcrn 0 0 h9_c.1 h9_c.2 (Nat.le_of_ble_eq_true rfl) (Nat.le_of_ble_eq_true rfl))
        · have c8 : numv (txt B n) p2 < 14 := nlt_of c (by omega)
          refine v_blk g [.iload_n 1, .iload 4, .ishr, .iconst 1, .iand, .iconst 1] (pc' := 53) (lv' := [(4, .int (nI (numv (txt B n) p2))), (3, .int (nI p2)), (2, .int (nI i)), (1, .int (nI M)), (0, .ref a)]) (st' := [.int (1 : Int32), .int (((nI M) >>> ((nI (numv (txt B n) p2)) &&& (31 : Int32))) &&& (1 : Int32))]) (by decide +kernel) rfl rfl ?_
          refine v_icmp_ne g (off := 12) (tgt := 65) (by decide +kernel) (by decide) (fun c7 => ?_) (fun c7 => ?_)
          · have c6 : ¬ M.testBit (numv (txt B n) p2) = true := fun q => c7 ((bit_c (by omega) (by omega)).mpr q)
            refine v_blk g [.iload_n 1, .iconst 1, .iload 4, .ishl, .ior] (pc' := 71) (lv' := [(4, .int (nI (numv (txt B n) p2))), (3, .int (nI p2)), (2, .int (nI i)), (1, .int (nI M)), (0, .ref a)]) (st' := [.int ((nI M) ||| ((1 : Int32) <<< ((nI (numv (txt B n) p2)) &&& (31 : Int32))))]) (by decide +kernel) rfl rfl ?_
            refine v_ti (z := nI (M ||| 2 ^ numv (txt B n) p2)) (by rw [shp (by omega), fa_or]) ?_
            refine v_blk g [.istore_n 1, .aload_n 0] (pc' := 73) (lv' := [(1, .int (nI (M ||| 2 ^ numv (txt B n) p2))), (4, .int (nI (numv (txt B n) p2))), (3, .int (nI p2)), (2, .int (nI i)), (0, .ref a)]) (st' := [.ref a]) (by decide +kernel) rfl rfl ?_
            refine v_get g h9_a fl_X4_9 rfl (by decide +kernel) ?_
            refine v_blk g [.aload_n 0] (pc' := 77) (lv' := [(1, .int (nI (M ||| 2 ^ numv (txt B n) p2))), (4, .int (nI (numv (txt B n) p2))), (3, .int (nI p2)), (2, .int (nI i)), (0, .ref a)]) (st' := [.ref a, .ref t]) (by decide +kernel) rfl rfl ?_
            refine v_get g h9_a fl_X4_29 rfl (by decide +kernel) ?_
            refine v_callVp g (rest := []) (c_Tape_byteAt h9_t h9_b _ hn) cl_X4_59 h9_t rfl rfl (Nat.le_of_ble_eq_true rfl) (by decide +kernel) ⟨Nat.le_of_ble_eq_true rfl, Nat.le_of_ble_eq_true rfl⟩ (zcsn 0 0 h9_c.1 h9_c.2 (Nat.le_of_ble_eq_true rfl) (Nat.le_of_ble_eq_true rfl)) ?_
            show zV F X h9 83 [(1, .int (nI (M ||| 2 ^ numv (txt B n) p2))), (4, .int (nI (numv (txt B n) p2))), (3, .int (nI p2)), (2, .int (nI i)), (0, .ref a)] [.int (x_byteAt B n (nI (p2 + dg (txt B n) p2)))]
            refine v_ti (z := txt B n (p2 + dg (txt B n) p2)) (txt_at (by omega) (by omega)) ?_
            refine v_blk g [.bipush 46] (pc' := 85) (lv' := [(1, .int (nI (M ||| 2 ^ numv (txt B n) p2))), (4, .int (nI (numv (txt B n) p2))), (3, .int (nI p2)), (2, .int (nI i)), (0, .ref a)]) (st' := [.int (46 : Int32), .int (txt B n (p2 + dg (txt B n) p2))]) (by decide +kernel) rfl rfl ?_
            refine v_icmp_eq g (off := 6) (tgt := 91) (by decide +kernel) (by decide) (fun c5 => ?_) (fun c5 => ?_)
            · have pn2 : p2 + dg (txt B n) p2 < n := txt_in c5 (by decide)
              refine v_blk g [.aload_n 0, .dup] (pc' := 93) (lv' := [(1, .int (nI (M ||| 2 ^ numv (txt B n) p2))), (4, .int (nI (numv (txt B n) p2))), (3, .int (nI p2)), (2, .int (nI i)), (0, .ref a)]) (st' := [.ref a, .ref a]) (by decide +kernel) rfl rfl ?_
              refine v_get g h9_a fl_X4_29 rfl (by decide +kernel) ?_
              refine v_blk g [.iconst 1, .iadd] (pc' := 98) (lv' := [(1, .int (nI (M ||| 2 ^ numv (txt B n) p2))), (4, .int (nI (numv (txt B n) p2))), (3, .int (nI p2)), (2, .int (nI i)), (0, .ref a)]) (st' := [.int ((nI (p2 + dg (txt B n) p2)) + (1 : Int32)), .ref a]) (by decide +kernel) rfl rfl ?_
              refine v_ti (z := nI (p2 + dg (txt B n) p2 + 1)) (nI_1 _) ?_
              refine v_put g (fs' := [.int fk, .int fp, .ref t, .ref ss, va_rf sp, .int hg, .int (nI (p2 + dg (txt B n) p2 + 1))]) h9_a fl_X4_29 rfl rfl (Nat.le_of_ble_eq_true rfl) rfl (by decide +kernel) ?_
              refine v_h (fun h8 eh8 => ?_)
              have h8_c : h8.2.1 = h.2.1 + 0 ∧ h8.2.2 = h.2.2 + 0 := zcs eh8 h9_c
              have h8_a : h8.1 a = some (oB 4 [.int fk, .int fp, .ref t, .ref ss, va_rf sp, .int hg, .int (nI (p2 + dg (txt B n) p2 + 1))]) := by rw [eh8]; exact z_s_self _ _ _
              have h8_t : h8.1 t = some (oB 6 [.ref tb, .int (nI n)]) := by rw [eh8]; exact z_so h9_t (Ne.symm (z_ne ha ht rfl))
              have h8_tb : h8.1 tb = some (aI 200 B) := by rw [eh8]; exact z_so h9_b (Ne.symm (z_ne ha hb rfl))
              refine v_blk g [.iinc 2 1] (pc' := 104) (lv' := [(2, .int ((nI i) + (1 : Int32))), (1, .int (nI (M ||| 2 ^ numv (txt B n) p2))), (4, .int (nI (numv (txt B n) p2))), (3, .int (nI p2)), (0, .ref a)]) (st' := []) (by decide +kernel) rfl rfl ?_
              refine v_goto g (off := -100) (tgt := 4) (by decide +kernel) (by decide) ?_
              refine v_eq (lv' := [(2, .int (nI (i + 1))), (1, .int (nI (M ||| 2 ^ numv (txt B n) p2))), (4, .int (nI (numv (txt B n) p2))), (3, .int (nI p2)), (0, .ref a)]) (st' := []) (by rw [nI_1]) rfl ?_
              refine v_lv [0, 1, 4] (lv' := [(2, .int (nI (i + 1))), (1, .int (nI (M ||| 2 ^ numv (txt B n) p2))), (0, .ref a)]) rfl ?_
              exact ih (i + 1) (M ||| 2 ^ numv (txt B n) p2) (p2 + dg (txt B n) p2 + 1) h8 (by omega) (by omega) (or_lt14 hM c8) (by rw [eh8, e8, z_ss]) (by rw [← er]; conv => rhs; rw [rmt, if_neg d0, if_neg (fun q => q.elim (fun q => absurd q (by omega)) c6), if_pos c5])
            · refine v_goto g (off := 19) (tgt := 107) (by decide +kernel) (by decide) ?_
              refine v_blk g [.iload_n 1] (pc' := 108) (lv' := [(1, .int (nI (M ||| 2 ^ numv (txt B n) p2))), (4, .int (nI (numv (txt B n) p2))), (3, .int (nI p2)), (2, .int (nI i)), (0, .ref a)]) (st' := [.int (nI (M ||| 2 ^ numv (txt B n) p2))]) (by decide +kernel) rfl rfl ?_
              exact v_iret g z rfl (by decide +kernel) (Or.inr ⟨_, _, by rw [← er, rmt, if_neg d0, if_neg (fun q => q.elim (fun q => absurd q (by omega)) c6), if_neg c5], rfl, e8⟩) (zcrn 0 0 h9_c.1 h9_c.2 (Nat.le_of_ble_eq_true rfl) (Nat.le_of_ble_eq_true rfl))
          · have c6 : M.testBit (numv (txt B n) p2) = true := (bit_c (by omega) (by omega)).mp c7
            refine v_blk g [.aload_n 0, .iconst 2, .iload_n 3] (pc' := 59) (lv' := [(4, .int (nI (numv (txt B n) p2))), (3, .int (nI p2)), (2, .int (nI i)), (1, .int (nI M)), (0, .ref a)]) (st' := [.int (nI p2), .int (2 : Int32), .ref a]) (by decide +kernel) rfl rfl ?_
            refine v_callVp g (rest := []) (c_PR_stopAt h9_a _ _) cl_X4_47 h9_a rfl rfl (Nat.le_of_ble_eq_true rfl) (by decide +kernel) ⟨Nat.le_of_ble_eq_true rfl, Nat.le_of_ble_eq_true rfl⟩ (zcsn 0 0 h9_c.1 h9_c.2 (Nat.le_of_ble_eq_true rfl) (Nat.le_of_ble_eq_true rfl)) ?_
            show zV F X (z_s h9 a (oB 4 [.int 2, .int (nI p2), .ref t, .ref ss, va_rf sp, .int hg, .int (nI (p2 + dg (txt B n) p2))])) 62 [(4, .int (nI (numv (txt B n) p2))), (3, .int (nI p2)), (2, .int (nI i)), (1, .int (nI M)), (0, .ref a)] [.int 0]
            refine v_blk g [.pop, .iconst (-1)] (pc' := 64) (lv' := [(4, .int (nI (numv (txt B n) p2))), (3, .int (nI p2)), (2, .int (nI i)), (1, .int (nI M)), (0, .ref a)]) (st' := [.int (-1 : Int32)]) (by decide +kernel) rfl rfl ?_
            exact v_iret g z rfl (by decide +kernel) (Or.inl ⟨2, p2, _, by rw [← er, rmt, if_neg d0, if_pos (Or.inr c6)], rfl, by rw [e8, z_ss]; rfl⟩) (zcrn 0 0 h9_c.1 h9_c.2 (Nat.le_of_ble_eq_true rfl) (Nat.le_of_ble_eq_true rfl))
  refine v_eq (lv' := [(2, .int (nI 0)), (1, .int (nI 0)), (0, .ref a)]) (st' := []) rfl rfl ?_
  exact key 15 0 0 p h rfl hp (by decide) (z_sid ha).symm rfl
