/-! two sets put together -/
def opS (sg : Int32) (S T : Nat → Prop) (q : Nat) : Prop := if sg = 124 then S q ∨ T q else if sg = 38 then S q ∧ T q else if sg = 45 then S q ∧ ¬ T q else ∃ l, l < 16384 ∧ S l ∧ ∃ k, k < 16384 ∧ T k ∧ k &&& l = 0 ∧ k ||| l = q
theorem lb_mx (g : Nat → Int64) (f : Nat → Int64) {q : Nat} (hq : q < 16384) : lb (mx g f 256) q = (uN (g (q / 64))).testBit (q % 64) := by
  unfold lb
  rw [mx_lt (by omega)]
theorem uN_not (x : Int64) {j : Nat} (hj : j < 64) : (uN (x ^^^ (-1 : Int64))).testBit j = !(uN x).testBit j := by
  rw [uN_xor', Nat.testBit_xor, show uN (-1 : Int64) = 2 ^ 64 - 1 from rfl, Nat.testBit_two_pow_sub_one]
  simp [hj]
theorem op_or {f g : Nat → Int64} {q : Nat} (hq : q < 16384) : lb (mx (fun k => f k ||| g k) f 256) q = true ↔ opS 124 (fun q => lb f q = true) (fun q => lb g q = true) q := by
  rw [lb_mx _ _ hq, uN_or', Nat.testBit_or, opS, if_pos rfl]
  simp [lb]
theorem op_and {f g : Nat → Int64} {q : Nat} (hq : q < 16384) : lb (mx (fun k => f k &&& g k) f 256) q = true ↔ opS 38 (fun q => lb f q = true) (fun q => lb g q = true) q := by
  rw [lb_mx _ _ hq, uN_and, Nat.testBit_and, opS, if_neg (by decide), if_pos rfl]
  simp [lb]
theorem op_dif {f g : Nat → Int64} {q : Nat} (hq : q < 16384) : lb (mx (fun k => f k &&& (g k ^^^ (-1 : Int64))) f 256) q = true ↔ opS 45 (fun q => lb f q = true) (fun q => lb g q = true) q := by
  rw [lb_mx _ _ hq, uN_and, Nat.testBit_and, uN_not _ (by omega), opS, if_neg (by decide), if_neg (by decide), if_pos rfl]
  simp [lb]
theorem op_jn {f g : Nat → Int64} {q : Nat} : jn2 f g q ↔ opS 43 (fun q => lb f q = true) (fun q => lb g q = true) q := by
  rw [opS, if_neg (by decide), if_neg (by decide), if_neg (by decide)]
  exact Iff.rfl
theorem vaT_sw {G : Nat → Option Nat} {T : Nat → zS} (hG : ∀ j, j < 15 → G j = (T j).map (fun q => q.1)) {k s w : Nat} {f : Nat → Int64} (hk : k < 15) {j : Nat} (hj : j < 15) : va_up G k (some s) j = (swT (upT T 15 (some (s, w, f))) k 15 j).map (fun q => q.1) := by
  by_cases e : j = k
  · rw [e, swT_i, upT_s]; simp [va_up]
  · rw [swT_o e (by omega), upT_o (by omega), ← hG j hj]; simp [va_up, e]

set_option maxRecDepth 100000 in
set_option maxHeartbeats 4000000 in
theorem c_PR_comb {F : zF} {h : zH} {a t tb ss n : Nat} {B : Nat → Int32} {AT fk fp : Int32} {sp : Option Nat} {G : Nat → Option Nat} {T : Nat → zS} {k s1 w1 s2 w2 : Nat} {f1 f2 : Nat → Int64} {sg : Int32} (r : RW h a t tb ss n B (nI (k + 2)) AT fk fp sp G T) (hk : k + 2 ≤ 15) (hT1 : T k = some (s1, w1, f1)) (hT2 : T (k + 1) = some (s2, w2, f2)) (hsg : sg = 124 ∨ sg = 38 ∨ sg = 45 ∨ sg = 43) : zMet F yX4_combineTopTwo cX4_combineTopTwo 5 none { frames := 4, cells := 2 * nn T 16, slots := 257 * nn T 16, locals := 120 } [.ref a, .int sg] h (fun v2 h2 => v2 = none ∧ ∃ sp2 G2 T2, RW h2 a t tb ss n B (nI (k + 1)) AT fk fp sp2 G2 T2 ∧ fr (ow a ss T) (ow a ss T2) h h2 ∧ bud h T h2 T2 ∧ (∀ j, j < k → T2 j = T j) ∧ ∃ s w f, T2 k = some (s, w, f) ∧ ∀ q, q < 16384 → (lb f q = true ↔ opS sg (fun q => lb f1 q = true) (fun q => lb f2 q = true) q)) := by
  refine zMet_of (lv := [(0, .ref a), (1, .int sg)]) (by decide) (by simp [lg_sl, Value.category]) rfl ?_
  intro X g z
  obtain ⟨ha, ht, hb, hss, hsp, hG, hl⟩ := r
  obtain ⟨hs1, hw1⟩ := hl.1 k (by omega) _ _ _ hT1
  obtain ⟨hs2, hw2⟩ := hl.1 (k + 1) (by omega) _ _ _ hT2
  obtain ⟨n12, m12⟩ := hl.2 k (k + 1) (by omega) (by omega) (by omega) _ _ _ _ _ _ hT1 hT2
  refine v_blk g [.aload_n 0] (pc' := 1) (lv' := [(0, .ref a), (1, .int sg)]) (st' := [.ref a]) (by decide +kernel) rfl rfl ?_
  refine v_get g ha fl_X4_25 rfl (by decide +kernel) ?_
  refine v_blk g [.iconst 2] (pc' := 5) (lv' := [(0, .ref a), (1, .int sg)]) (st' := [.int (2 : Int32), .int (nI (k + 2))]) (by decide +kernel) rfl rfl ?_
  refine v_icmp_lt g (off := 12) (tgt := 17) (by decide +kernel) (by decide) (fun c => absurd c (fun q => absurd ((nI_lti (b := 2) (by omega) (by decide)).mp q) (by omega))) (fun _ => ?_)
  refine v_blk g [.aload_n 0] (pc' := 9) (lv' := [(0, .ref a), (1, .int sg)]) (st' := [.ref a]) (by decide +kernel) rfl rfl ?_
  refine v_get g ha fl_X4_25 rfl (by decide +kernel) ?_
  refine v_blk g [.bipush 15] (pc' := 14) (lv' := [(0, .ref a), (1, .int sg)]) (st' := [.int (15 : Int32), .int (nI (k + 2))]) (by decide +kernel) rfl rfl ?_
  refine v_icmp_le g (off := 4) (tgt := 18) (by decide +kernel) (by decide) (fun _ => ?_) (fun c => absurd c (fun q => q (nI_le (b := 15) hk (by decide))))
  refine v_blk g [.aload_n 0, .dup] (pc' := 20) (lv' := [(0, .ref a), (1, .int sg)]) (st' := [.ref a, .ref a]) (by decide +kernel) rfl rfl ?_
  refine v_get g ha fl_X4_25 rfl (by decide +kernel) ?_
  refine v_blk g [.iconst 1, .isub] (pc' := 25) (lv' := [(0, .ref a), (1, .int sg)]) (st' := [.int ((nI (k + 2)) - (1 : Int32)), .ref a]) (by decide +kernel) rfl rfl ?_
  refine v_ti (z := nI (k + 1)) (pk_sub (a := k + 2) (b := 1) (by omega)) ?_
  refine v_put g (fs' := [.int fk, .int fp, .ref t, .ref ss, va_rf sp, .int (nI (k + 1)), .int AT]) ha fl_X4_25 rfl rfl (Nat.le_of_ble_eq_true rfl) rfl (by decide +kernel) ?_
  refine v_h (fun h1 eh1 => ?_)
  have h1_c : h1.2.1 = h.2.1 + 0 ∧ h1.2.2 = h.2.2 + 0 := zcs eh1 ⟨rfl, rfl⟩
  have h1_a : h1.1 a = some (oB 4 [.int fk, .int fp, .ref t, .ref ss, va_rf sp, .int (nI (k + 1)), .int AT]) := by rw [eh1]; exact z_s_self _ _ _
  have h1_ss : h1.1 ss = some (aQ 3 15 G) := by rw [eh1]; exact z_so hss (Ne.symm (z_ne ha hss rfl))
  have h1_s1 : h1.1 s1 = some (oB 3 [.ref w1]) := by rw [eh1]; exact z_so hs1 (Ne.symm (z_ne ha hs1 rfl))
  have h1_w1 : h1.1 w1 = some (aJ 256 f1) := by rw [eh1]; exact z_so hw1 (Ne.symm (z_ne ha hw1 rfl))
  have h1_s2 : h1.1 s2 = some (oB 3 [.ref w2]) := by rw [eh1]; exact z_so hs2 (Ne.symm (z_ne ha hs2 rfl))
  have h1_w2 : h1.1 w2 = some (aJ 256 f2) := by rw [eh1]; exact z_so hw2 (Ne.symm (z_ne ha hw2 rfl))
  refine v_blk g [.aload_n 0] (pc' := 29) (lv' := [(0, .ref a), (1, .int sg)]) (st' := [.ref a]) (by decide +kernel) rfl rfl ?_
  refine v_get g h1_a fl_X4_17 rfl (by decide +kernel) ?_
  refine v_blk g [.aload_n 0] (pc' := 33) (lv' := [(0, .ref a), (1, .int sg)]) (st' := [.ref a, .ref ss]) (by decide +kernel) rfl rfl ?_
  refine v_get g h1_a fl_X4_25 rfl (by decide +kernel) ?_
  refine v_blk g [.iconst 1, .isub] (pc' := 38) (lv' := [(0, .ref a), (1, .int sg)]) (st' := [.int ((nI (k + 1)) - (1 : Int32)), .ref ss]) (by decide +kernel) rfl rfl ?_
  refine v_ti (z := nI k) (pk_sub (a := k + 1) (b := 1) (by omega)) ?_
  refine v_aald3 g h1_ss k rfl (by omega) (Nat.le_of_ble_eq_true rfl) (by decide +kernel) ?_
  refine v_st (st' := [.ref s1]) (by rw [show G k = some s1 from by rw [hG k (by omega), hT1]; rfl]; rfl) ?_
  refine v_blk g [.astore_n 2, .aload_n 0] (pc' := 41) (lv' := [(2, .ref s1), (0, .ref a), (1, .int sg)]) (st' := [.ref a]) (by decide +kernel) rfl rfl ?_
  refine v_get g h1_a fl_X4_17 rfl (by decide +kernel) ?_
  refine v_blk g [.aload_n 0] (pc' := 45) (lv' := [(2, .ref s1), (0, .ref a), (1, .int sg)]) (st' := [.ref a, .ref ss]) (by decide +kernel) rfl rfl ?_
  refine v_get g h1_a fl_X4_25 rfl (by decide +kernel) ?_
  refine v_aald3 g h1_ss (k + 1) rfl (by omega) (Nat.le_of_ble_eq_true rfl) (by decide +kernel) ?_
  refine v_st (st' := [.ref s2]) (by rw [show G (k + 1) = some s2 from by rw [hG (k + 1) (by omega), hT2]; rfl]; rfl) ?_
  refine v_blk g [.astore_n 3, .aload_n 2] (pc' := 51) (lv' := [(3, .ref s2), (2, .ref s1), (0, .ref a), (1, .int sg)]) (st' := [.ref s1]) (by decide +kernel) rfl rfl ?_
  refine v_ifnull g (r := (some s1)) (off := 7) (tgt := 58) (by decide +kernel) (by decide) (fun q => nomatch q) (fun _ _ => ?_)
  refine v_blk g [.aload_n 3] (pc' := 55) (lv' := [(3, .ref s2), (2, .ref s1), (0, .ref a), (1, .int sg)]) (st' := [.ref s2]) (by decide +kernel) rfl rfl ?_
  refine v_ifnonnull g (r := (some s2)) (off := 4) (tgt := 59) (by decide +kernel) (by decide) (fun _ _ => ?_) (fun q => nomatch q)
  refine v_blk g [.iload_n 1] (pc' := 60) (lv' := [(3, .ref s2), (2, .ref s1), (0, .ref a), (1, .int sg)]) (st' := [.int sg]) (by decide +kernel) rfl rfl ?_
  rcases hsg with esg | esg | esg | esg
  · refine v_lookup g (dflt := 60) (ps := #[(38, 44), (45, 52), (124, 36)]) (len := 36) (off := 36) (by decide +kernel) (by decide) (by rw [esg]; decide) (tgt := 96) (by decide) ?_
    refine v_blk g [.aload_n 2, .aload_n 3] (pc' := 98) (lv' := [(3, .ref s2), (2, .ref s1), (0, .ref a), (1, .int sg)]) (st' := [.ref s2, .ref s1]) (by decide +kernel) rfl rfl ?_
    refine v_callVp g (rest := []) (c_LS_addAll h1_s1 h1_w1 h1_s2 h1_w2 (Ne.symm m12)) cl_X4_105 h1_s1 rfl rfl (Nat.le_of_ble_eq_true rfl) (by decide +kernel) ⟨Nat.le_of_ble_eq_true rfl, Nat.le_of_ble_eq_true rfl⟩ (zcsn 0 0 h1_c.1 h1_c.2 (by dsimp only; omega) (by dsimp only; omega)) ?_
    show zV F X (z_s h1 w1 (aJ 256 (mx (fun k => f1 k ||| f2 k) f1 256))) 101 [(3, .ref s2), (2, .ref s1), (0, .ref a), (1, .int sg)] []
    refine v_h (fun h9 eh9 => ?_)
    have h9_c : h9.2.1 = h.2.1 + 0 ∧ h9.2.2 = h.2.2 + 0 := zcs eh9 h1_c
    have h9_a : h9.1 a = some (oB 4 [.int fk, .int fp, .ref t, .ref ss, va_rf sp, .int (nI (k + 1)), .int AT]) := by rw [eh9]; exact z_so h1_a (z_ne ha hw1 rfl)
    have h9_ss : h9.1 ss = some (aQ 3 15 G) := by rw [eh9]; exact z_so h1_ss (z_ne hss hw1 rfl)
    have h9_s1 : h9.1 s1 = some (oB 3 [.ref w1]) := by rw [eh9]; exact z_so h1_s1 (z_ne hs1 hw1 rfl)
    have h9_w1 : h9.1 w1 = some (aJ 256 (mx (fun k => f1 k ||| f2 k) f1 256)) := by rw [eh9]; exact z_s_self _ _ _
    have h9_s2 : h9.1 s2 = some (oB 3 [.ref w2]) := by rw [eh9]; exact z_so h1_s2 (Ne.symm (z_ne hw1 hs2 rfl))
    have h9_w2 : h9.1 w2 = some (aJ 256 f2) := by rw [eh9]; exact z_so h1_w2 (Ne.symm m12)
    refine v_goto g (off := 67) (tgt := 168) (by decide +kernel) (by decide) ?_
    have kp : ∀ x y, h.1 x = some y → x ≠ a → x ≠ ss → x ≠ w1 → h9.1 x = some y := fun x y hx x1 x2 x3 => by rw [eh9]; refine z_so ?_ x3; rw [eh1]; exact z_so hx x1
    have fT : h9.1 t = some (oB 6 [.ref tb, .int (nI n)]) := kp _ _ ht (z_ne ht ha rfl) (z_ne ht hss rfl) (z_ne ht hw1 rfl)
    have fB : h9.1 tb = some (aI 200 B) := kp _ _ hb (z_ne hb ha rfl) (z_ne hb hss rfl) (z_ne hb hw1 rfl)
    have nn8 := nn_old (T := T) (k := k) (v := (s1, w1, mx (fun k => f1 k ||| f2 k) f1 256)) hT1 16
    exact v_vret g z rfl (by decide +kernel) ⟨rfl, sp, G, upT T k (some (s1, w1, mx (fun k => f1 k ||| f2 k) f1 256)), ⟨h9_a, fT, fB, h9_ss, by rw [hsp, upT_o (by omega)], fun j hj => vaT_sm hG hT1 hj, ls_upd hl (by omega) ha hss h9_s1 h9_w1 kp (Or.inl ⟨_, hT1⟩)⟩, fr_upd (by omega) kp (Or.inl ⟨_, hT1⟩), ⟨by omega, by omega⟩, fun j hj => upT_o (by omega), s1, w1, _, upT_s _ _ _, fun q hq => by rw [esg]; exact op_or hq⟩ (zcrn 0 0 h9_c.1 h9_c.2 (by dsimp only; omega) (by dsimp only; omega))
  · refine v_lookup g (dflt := 60) (ps := #[(38, 44), (45, 52), (124, 36)]) (len := 36) (off := 44) (by decide +kernel) (by decide) (by rw [esg]; decide) (tgt := 104) (by decide) ?_
    refine v_blk g [.aload_n 2, .aload_n 3] (pc' := 106) (lv' := [(3, .ref s2), (2, .ref s1), (0, .ref a), (1, .int sg)]) (st' := [.ref s2, .ref s1]) (by decide +kernel) rfl rfl ?_
    refine v_callVp g (rest := []) (c_LS_keepCommon h1_s1 h1_w1 h1_s2 h1_w2 (Ne.symm m12)) cl_X4_108 h1_s1 rfl rfl (Nat.le_of_ble_eq_true rfl) (by decide +kernel) ⟨Nat.le_of_ble_eq_true rfl, Nat.le_of_ble_eq_true rfl⟩ (zcsn 0 0 h1_c.1 h1_c.2 (by dsimp only; omega) (by dsimp only; omega)) ?_
    show zV F X (z_s h1 w1 (aJ 256 (mx (fun k => f1 k &&& f2 k) f1 256))) 109 [(3, .ref s2), (2, .ref s1), (0, .ref a), (1, .int sg)] []
    refine v_h (fun h9 eh9 => ?_)
    have h9_c : h9.2.1 = h.2.1 + 0 ∧ h9.2.2 = h.2.2 + 0 := zcs eh9 h1_c
    have h9_a : h9.1 a = some (oB 4 [.int fk, .int fp, .ref t, .ref ss, va_rf sp, .int (nI (k + 1)), .int AT]) := by rw [eh9]; exact z_so h1_a (z_ne ha hw1 rfl)
    have h9_ss : h9.1 ss = some (aQ 3 15 G) := by rw [eh9]; exact z_so h1_ss (z_ne hss hw1 rfl)
    have h9_s1 : h9.1 s1 = some (oB 3 [.ref w1]) := by rw [eh9]; exact z_so h1_s1 (z_ne hs1 hw1 rfl)
    have h9_w1 : h9.1 w1 = some (aJ 256 (mx (fun k => f1 k &&& f2 k) f1 256)) := by rw [eh9]; exact z_s_self _ _ _
    have h9_s2 : h9.1 s2 = some (oB 3 [.ref w2]) := by rw [eh9]; exact z_so h1_s2 (Ne.symm (z_ne hw1 hs2 rfl))
    have h9_w2 : h9.1 w2 = some (aJ 256 f2) := by rw [eh9]; exact z_so h1_w2 (Ne.symm m12)
    refine v_goto g (off := 59) (tgt := 168) (by decide +kernel) (by decide) ?_
    have kp : ∀ x y, h.1 x = some y → x ≠ a → x ≠ ss → x ≠ w1 → h9.1 x = some y := fun x y hx x1 x2 x3 => by rw [eh9]; refine z_so ?_ x3; rw [eh1]; exact z_so hx x1
    have fT : h9.1 t = some (oB 6 [.ref tb, .int (nI n)]) := kp _ _ ht (z_ne ht ha rfl) (z_ne ht hss rfl) (z_ne ht hw1 rfl)
    have fB : h9.1 tb = some (aI 200 B) := kp _ _ hb (z_ne hb ha rfl) (z_ne hb hss rfl) (z_ne hb hw1 rfl)
    have nn8 := nn_old (T := T) (k := k) (v := (s1, w1, mx (fun k => f1 k &&& f2 k) f1 256)) hT1 16
    exact v_vret g z rfl (by decide +kernel) ⟨rfl, sp, G, upT T k (some (s1, w1, mx (fun k => f1 k &&& f2 k) f1 256)), ⟨h9_a, fT, fB, h9_ss, by rw [hsp, upT_o (by omega)], fun j hj => vaT_sm hG hT1 hj, ls_upd hl (by omega) ha hss h9_s1 h9_w1 kp (Or.inl ⟨_, hT1⟩)⟩, fr_upd (by omega) kp (Or.inl ⟨_, hT1⟩), ⟨by omega, by omega⟩, fun j hj => upT_o (by omega), s1, w1, _, upT_s _ _ _, fun q hq => by rw [esg]; exact op_and hq⟩ (zcrn 0 0 h9_c.1 h9_c.2 (by dsimp only; omega) (by dsimp only; omega))
  · refine v_lookup g (dflt := 60) (ps := #[(38, 44), (45, 52), (124, 36)]) (len := 36) (off := 52) (by decide +kernel) (by decide) (by rw [esg]; decide) (tgt := 112) (by decide) ?_
    refine v_blk g [.aload_n 2, .aload_n 3] (pc' := 114) (lv' := [(3, .ref s2), (2, .ref s1), (0, .ref a), (1, .int sg)]) (st' := [.ref s2, .ref s1]) (by decide +kernel) rfl rfl ?_
    refine v_callVp g (rest := []) (c_LS_takeAway h1_s1 h1_w1 h1_s2 h1_w2 (Ne.symm m12)) cl_X4_111 h1_s1 rfl rfl (Nat.le_of_ble_eq_true rfl) (by decide +kernel) ⟨Nat.le_of_ble_eq_true rfl, Nat.le_of_ble_eq_true rfl⟩ (zcsn 0 0 h1_c.1 h1_c.2 (by dsimp only; omega) (by dsimp only; omega)) ?_
    show zV F X (z_s h1 w1 (aJ 256 (mx (fun k => f1 k &&& (f2 k ^^^ (-1 : Int64))) f1 256))) 117 [(3, .ref s2), (2, .ref s1), (0, .ref a), (1, .int sg)] []
    refine v_h (fun h9 eh9 => ?_)
    have h9_c : h9.2.1 = h.2.1 + 0 ∧ h9.2.2 = h.2.2 + 0 := zcs eh9 h1_c
    have h9_a : h9.1 a = some (oB 4 [.int fk, .int fp, .ref t, .ref ss, va_rf sp, .int (nI (k + 1)), .int AT]) := by rw [eh9]; exact z_so h1_a (z_ne ha hw1 rfl)
    have h9_ss : h9.1 ss = some (aQ 3 15 G) := by rw [eh9]; exact z_so h1_ss (z_ne hss hw1 rfl)
    have h9_s1 : h9.1 s1 = some (oB 3 [.ref w1]) := by rw [eh9]; exact z_so h1_s1 (z_ne hs1 hw1 rfl)
    have h9_w1 : h9.1 w1 = some (aJ 256 (mx (fun k => f1 k &&& (f2 k ^^^ (-1 : Int64))) f1 256)) := by rw [eh9]; exact z_s_self _ _ _
    have h9_s2 : h9.1 s2 = some (oB 3 [.ref w2]) := by rw [eh9]; exact z_so h1_s2 (Ne.symm (z_ne hw1 hs2 rfl))
    have h9_w2 : h9.1 w2 = some (aJ 256 f2) := by rw [eh9]; exact z_so h1_w2 (Ne.symm m12)
    refine v_goto g (off := 51) (tgt := 168) (by decide +kernel) (by decide) ?_
    have kp : ∀ x y, h.1 x = some y → x ≠ a → x ≠ ss → x ≠ w1 → h9.1 x = some y := fun x y hx x1 x2 x3 => by rw [eh9]; refine z_so ?_ x3; rw [eh1]; exact z_so hx x1
    have fT : h9.1 t = some (oB 6 [.ref tb, .int (nI n)]) := kp _ _ ht (z_ne ht ha rfl) (z_ne ht hss rfl) (z_ne ht hw1 rfl)
    have fB : h9.1 tb = some (aI 200 B) := kp _ _ hb (z_ne hb ha rfl) (z_ne hb hss rfl) (z_ne hb hw1 rfl)
    have nn8 := nn_old (T := T) (k := k) (v := (s1, w1, mx (fun k => f1 k &&& (f2 k ^^^ (-1 : Int64))) f1 256)) hT1 16
    exact v_vret g z rfl (by decide +kernel) ⟨rfl, sp, G, upT T k (some (s1, w1, mx (fun k => f1 k &&& (f2 k ^^^ (-1 : Int64))) f1 256)), ⟨h9_a, fT, fB, h9_ss, by rw [hsp, upT_o (by omega)], fun j hj => vaT_sm hG hT1 hj, ls_upd hl (by omega) ha hss h9_s1 h9_w1 kp (Or.inl ⟨_, hT1⟩)⟩, fr_upd (by omega) kp (Or.inl ⟨_, hT1⟩), ⟨by omega, by omega⟩, fun j hj => upT_o (by omega), s1, w1, _, upT_s _ _ _, fun q hq => by rw [esg]; exact op_dif hq⟩ (zcrn 0 0 h9_c.1 h9_c.2 (by dsimp only; omega) (by dsimp only; omega))
  · refine v_lookup g (dflt := 60) (ps := #[(38, 44), (45, 52), (124, 36)]) (len := 36) (off := 60) (by decide +kernel) (by decide) (by rw [esg]; decide) (tgt := 120) (by decide) ?_
    refine v_blk g [.aload_n 0] (pc' := 121) (lv' := [(3, .ref s2), (2, .ref s1), (0, .ref a), (1, .int sg)]) (st' := [.ref a]) (by decide +kernel) rfl rfl ?_
    refine v_get g h1_a fl_X4_21 rfl (by decide +kernel) ?_
    cases hT0 : T 15 with
    | none =>
      have nn9 := nn_new (T := T) (k := 15) (v := (0, 0, fun _ => 0)) hT0 (n := 16) (by omega)
      refine v_st (st' := [.null]) (by rw [show sp = none from by rw [hsp, hT0]; rfl]; rfl) ?_
      refine v_ifnonnull g (r := none) (off := 13) (tgt := 137) (by decide +kernel) (by decide) (fun _ q => nomatch q) (fun _ => ?_)
      refine v_new g nl_X4_15 (zcsk 0 0 1 1 h1_c.1 h1_c.2 (by dsimp only; omega) (by dsimp only; omega)) (by decide +kernel) (fun s0 hs0 => ?_)
      refine v_h (fun h2 eh2 => ?_)
      have h2_c : h2.2.1 = h.2.1 + 1 ∧ h2.2.2 = h.2.2 + 1 := zcn eh2 h1_c
      have h2_a : h2.1 a = some (oB 4 [.int fk, .int fp, .ref t, .ref ss, va_rf sp, .int (nI (k + 1)), .int AT]) := by rw [eh2]; exact z_no h1_a hs0
      have h2_ss : h2.1 ss = some (aQ 3 15 G) := by rw [eh2]; exact z_no h1_ss hs0
      have h2_s1 : h2.1 s1 = some (oB 3 [.ref w1]) := by rw [eh2]; exact z_no h1_s1 hs0
      have h2_w1 : h2.1 w1 = some (aJ 256 f1) := by rw [eh2]; exact z_no h1_w1 hs0
      have h2_s2 : h2.1 s2 = some (oB 3 [.ref w2]) := by rw [eh2]; exact z_no h1_s2 hs0
      have h2_w2 : h2.1 w2 = some (aJ 256 f2) := by rw [eh2]; exact z_no h1_w2 hs0
      have h2_s0 : h2.1 s0 = some (oB 3 [.null]) := by rw [eh2]; exact z_n_self _ _ _ _
      refine v_blk g [.dup] (pc' := 131) (lv' := [(3, .ref s2), (2, .ref s1), (0, .ref a), (1, .int sg)]) (st' := [.ref s0, .ref s0]) (by decide +kernel) rfl rfl ?_
      refine v_callI g (rest := [.ref s0]) (c_LS_init h2_s0) cl_X4_51 rfl (Nat.le_of_ble_eq_true rfl) (by decide +kernel) ⟨Nat.le_of_ble_eq_true rfl, Nat.le_of_ble_eq_true rfl⟩ (zcsn 1 1 h2_c.1 h2_c.2 (by dsimp only; omega) (by dsimp only; omega)) (fun v9 h9 q9 => ?_)
      obtain ⟨rfl, w0, hw0, e7⟩ := q9
      show zV F X h9 134 [(3, .ref s2), (2, .ref s1), (0, .ref a), (1, .int sg)] [.ref s0]
      have g0 : h.1 s0 = none := by
        cases hq : h.1 s0 with
        | none => rfl
        | some y =>
          by_cases e : s0 = a
          · rw [e, h1_a] at hs0; cases hs0
          · rw [eh1, z_so hq e] at hs0; cases hs0
      have f0 : h.1 w0 = none := by
        cases hq : h.1 w0 with
        | none => rfl
        | some y =>
          by_cases e : w0 = a
          · rw [e, h2_a] at hw0; cases hw0
          · have hq2 : h1.1 w0 = some y := by rw [eh1]; exact z_so hq e
            rw [eh2, z_no hq2 hs0] at hw0; cases hw0
      have n0 : w0 ≠ s0 := fun e => by rw [e, h2_s0] at hw0; cases hw0
      have h9_w0 : h9.1 w0 = some (aJ 256 (fun _ => 0)) := by rw [e7]; exact z_so (z_n_self _ _ _ _) n0
      have h9_s0 : h9.1 s0 = some (oB 3 [.ref w0]) := by rw [e7]; exact z_s_self _ _ _
      have h9_a : h9.1 a = some (oB 4 [.int fk, .int fp, .ref t, .ref ss, va_rf sp, .int (nI (k + 1)), .int AT]) := by rw [e7]; exact z_so (z_no h2_a hw0) (z_nn h1_a hs0)
      have h9_ss : h9.1 ss = some (aQ 3 15 G) := by rw [e7]; exact z_so (z_no h2_ss hw0) (z_nn h1_ss hs0)
      have h9_s1 : h9.1 s1 = some (oB 3 [.ref w1]) := by rw [e7]; exact z_so (z_no h2_s1 hw0) (z_nn h1_s1 hs0)
      have h9_w1 : h9.1 w1 = some (aJ 256 f1) := by rw [e7]; exact z_so (z_no h2_w1 hw0) (z_nn h1_w1 hs0)
      have h9_s2 : h9.1 s2 = some (oB 3 [.ref w2]) := by rw [e7]; exact z_so (z_no h2_s2 hw0) (z_nn h1_s2 hs0)
      have h9_w2 : h9.1 w2 = some (aJ 256 f2) := by rw [e7]; exact z_so (z_no h2_w2 hw0) (z_nn h1_w2 hs0)
      have h9_c : h9.2.1 = h.2.1 + 2 ∧ h9.2.2 = h.2.2 + 257 := zcs e7 (zcn (A := 1) (B := 1) rfl h2_c)
      refine v_goto g (off := 7) (tgt := 141) (by decide +kernel) (by decide) ?_
      refine v_blk g [.astore 4, .aload 4, .aload_n 2, .aload_n 3] (pc' := 147) (lv' := [(4, .ref s0), (3, .ref s2), (2, .ref s1), (0, .ref a), (1, .int sg)]) (st' := [.ref s2, .ref s1, .ref s0]) (by decide +kernel) rfl rfl ?_
      refine v_callV g (rest := []) (c_LS_joined h9_s0 h9_w0 h9_s1 h9_w1 h9_s2 h9_w2 (z_nn hw1 f0) (z_nn hw2 f0)) cl_X4_114 h9_s0 rfl rfl (Nat.le_of_ble_eq_true rfl) (by decide +kernel) ⟨Nat.le_of_ble_eq_true rfl, Nat.le_of_ble_eq_true rfl⟩ (zcsn 2 257 h9_c.1 h9_c.2 (by dsimp only; omega) (by dsimp only; omega)) (fun v9 h12 q9 => ?_)
      obtain ⟨rfl, G9, e9, hG9⟩ := q9
      show zV F X h12 150 [(4, .ref s0), (3, .ref s2), (2, .ref s1), (0, .ref a), (1, .int sg)] []
      have eh12 := e9
      have h12_c : h12.2.1 = h.2.1 + 2 ∧ h12.2.2 = h.2.2 + 257 := zcs eh12 h9_c
      have h12_a : h12.1 a = some (oB 4 [.int fk, .int fp, .ref t, .ref ss, va_rf sp, .int (nI (k + 1)), .int AT]) := by rw [eh12]; exact z_so h9_a (z_ne h9_a h9_w0 rfl)
      have h12_ss : h12.1 ss = some (aQ 3 15 G) := by rw [eh12]; exact z_so h9_ss (z_ne h9_ss h9_w0 rfl)
      have h12_s1 : h12.1 s1 = some (oB 3 [.ref w1]) := by rw [eh12]; exact z_so h9_s1 (z_ne h9_s1 h9_w0 rfl)
      have h12_w1 : h12.1 w1 = some (aJ 256 f1) := by rw [eh12]; exact z_so h9_w1 (z_nn hw1 f0)
      have h12_s2 : h12.1 s2 = some (oB 3 [.ref w2]) := by rw [eh12]; exact z_so h9_s2 (z_ne h9_s2 h9_w0 rfl)
      have h12_w2 : h12.1 w2 = some (aJ 256 f2) := by rw [eh12]; exact z_so h9_w2 (z_nn hw2 f0)
      have h12_s0 : h12.1 s0 = some (oB 3 [.ref w0]) := by rw [eh12]; exact z_so h9_s0 (z_ne h9_s0 h9_w0 rfl)
      have h12_w0 : h12.1 w0 = some (aJ 256 G9) := by rw [eh12]; exact z_s_self _ _ _
      refine v_blk g [.aload_n 0] (pc' := 151) (lv' := [(4, .ref s0), (3, .ref s2), (2, .ref s1), (0, .ref a), (1, .int sg)]) (st' := [.ref a]) (by decide +kernel) rfl rfl ?_
      refine v_get g h12_a fl_X4_17 rfl (by decide +kernel) ?_
      refine v_blk g [.aload_n 0] (pc' := 155) (lv' := [(4, .ref s0), (3, .ref s2), (2, .ref s1), (0, .ref a), (1, .int sg)]) (st' := [.ref a, .ref ss]) (by decide +kernel) rfl rfl ?_
      refine v_get g h12_a fl_X4_25 rfl (by decide +kernel) ?_
      refine v_blk g [.iconst 1, .isub, .aload 4] (pc' := 162) (lv' := [(4, .ref s0), (3, .ref s2), (2, .ref s1), (0, .ref a), (1, .int sg)]) (st' := [.ref s0, .int ((nI (k + 1)) - (1 : Int32)), .ref ss]) (by decide +kernel) rfl rfl ?_
      refine v_aast3 g (r := (some s0)) h12_ss (fun v q => by cases q; exact ⟨_, h12_s0⟩) k (pk_sub (a := k + 1) (b := 1) (by omega)) (by omega) (Nat.le_of_ble_eq_true rfl) (by decide +kernel) ?_
      refine v_h (fun h13 eh13 => ?_)
      have h13_c : h13.2.1 = h.2.1 + 2 ∧ h13.2.2 = h.2.2 + 257 := zcs eh13 h12_c
      have h13_a : h13.1 a = some (oB 4 [.int fk, .int fp, .ref t, .ref ss, va_rf sp, .int (nI (k + 1)), .int AT]) := by rw [eh13]; exact z_so h12_a (z_ne ha hss rfl)
      have h13_ss : h13.1 ss = some (aQ 3 15 (va_up G k (some s0))) := by rw [eh13]; exact z_s_self _ _ _
      have h13_s1 : h13.1 s1 = some (oB 3 [.ref w1]) := by rw [eh13]; exact z_so h12_s1 (Ne.symm (z_ne hss hs1 rfl))
      have h13_w1 : h13.1 w1 = some (aJ 256 f1) := by rw [eh13]; exact z_so h12_w1 (Ne.symm (z_ne hss hw1 rfl))
      have h13_s2 : h13.1 s2 = some (oB 3 [.ref w2]) := by rw [eh13]; exact z_so h12_s2 (Ne.symm (z_ne hss hs2 rfl))
      have h13_w2 : h13.1 w2 = some (aJ 256 f2) := by rw [eh13]; exact z_so h12_w2 (Ne.symm (z_ne hss hw2 rfl))
      have h13_s0 : h13.1 s0 = some (oB 3 [.ref w0]) := by rw [eh13]; exact z_so h12_s0 (Ne.symm (z_ne h9_ss h9_s0 rfl))
      have h13_w0 : h13.1 w0 = some (aJ 256 G9) := by rw [eh13]; exact z_so h12_w0 (Ne.symm (z_ne h9_ss h9_w0 rfl))
      refine v_blk g [.aload_n 0, .aload_n 2] (pc' := 165) (lv' := [(4, .ref s0), (3, .ref s2), (2, .ref s1), (0, .ref a), (1, .int sg)]) (st' := [.ref s1, .ref a]) (by decide +kernel) rfl rfl ?_
      refine v_put g (fs' := [.int fk, .int fp, .ref t, .ref ss, .ref s1, .int (nI (k + 1)), .int AT]) h13_a fl_X4_21 rfl rfl (Nat.le_of_ble_eq_true rfl) rfl (by decide +kernel) ?_
      refine v_h (fun h14 eh14 => ?_)
      have h14_c : h14.2.1 = h.2.1 + 2 ∧ h14.2.2 = h.2.2 + 257 := zcs eh14 h13_c
      have h14_a : h14.1 a = some (oB 4 [.int fk, .int fp, .ref t, .ref ss, .ref s1, .int (nI (k + 1)), .int AT]) := by rw [eh14]; exact z_s_self _ _ _
      have h14_ss : h14.1 ss = some (aQ 3 15 (va_up G k (some s0))) := by rw [eh14]; exact z_so h13_ss (Ne.symm (z_ne ha hss rfl))
      have h14_s1 : h14.1 s1 = some (oB 3 [.ref w1]) := by rw [eh14]; exact z_so h13_s1 (Ne.symm (z_ne ha hs1 rfl))
      have h14_w1 : h14.1 w1 = some (aJ 256 f1) := by rw [eh14]; exact z_so h13_w1 (Ne.symm (z_ne ha hw1 rfl))
      have h14_s2 : h14.1 s2 = some (oB 3 [.ref w2]) := by rw [eh14]; exact z_so h13_s2 (Ne.symm (z_ne ha hs2 rfl))
      have h14_w2 : h14.1 w2 = some (aJ 256 f2) := by rw [eh14]; exact z_so h13_w2 (Ne.symm (z_ne ha hw2 rfl))
      have h14_s0 : h14.1 s0 = some (oB 3 [.ref w0]) := by rw [eh14]; exact z_so h13_s0 (Ne.symm (z_ne h9_a h9_s0 rfl))
      have h14_w0 : h14.1 w0 = some (aJ 256 G9) := by rw [eh14]; exact z_so h13_w0 (Ne.symm (z_ne h9_a h9_w0 rfl))
      have kp : ∀ x y, h.1 x = some y → x ≠ a → x ≠ ss → x ≠ w0 → h14.1 x = some y := fun x y hx x1 x2 x3 => by
        rw [eh14]; refine z_so ?_ x1
        rw [eh13]; refine z_so ?_ x2
        rw [eh12]; refine z_so ?_ x3
        rw [e7]; refine z_so ?_ (z_nn hx g0)
        refine z_no ?_ hw0
        rw [eh2]; refine z_no ?_ hs0
        rw [eh1]; exact z_so hx x1
      have fT : h14.1 t = some (oB 6 [.ref tb, .int (nI n)]) := kp _ _ ht (z_ne ht ha rfl) (z_ne ht hss rfl) (z_nn ht f0)
      have fB : h14.1 tb = some (aI 200 B) := kp _ _ hb (z_ne hb ha rfl) (z_ne hb hss rfl) (z_nn hb f0)
      have nn8 := nn_new (T := T) (k := 15) (v := (s0, w0, G9)) hT0 (n := 16) (by omega)
      have nn7 : nn (swT (upT T 15 (some (s0, w0, G9))) k 15) 16 = nn (upT T 15 (some (s0, w0, G9))) 16 := nn_cong (fun j hj => by
        by_cases e1 : j = k
        · rw [e1, swT_i, upT_s, upT_o (by omega), hT1]; rfl
        · by_cases e2 : j = 15
          · rw [e2, swT_j (by omega), upT_o (by omega), upT_s, hT1]; rfl
          · rw [swT_o e1 e2])
      have fu := fr_upd (T := T) (f' := G9) (show 15 < 16 by omega) kp (Or.inr ⟨g0, f0⟩)
      exact v_vret g z rfl (by decide +kernel) ⟨rfl, some s1, va_up G k (some s0), swT (upT T 15 (some (s0, w0, G9))) k 15, ⟨h14_a, fT, fB, h14_ss, by rw [swT_j (by omega), upT_o (by omega), hT1]; rfl, fun j hj => vaT_sw hG (by omega) hj, ls_sw (ls_upd hl (by omega) ha hss h14_s0 h14_w0 kp (Or.inr ⟨g0, f0⟩)) (by omega) (by omega)⟩, ⟨fu.1, fun x hx => fu.2 x (ow_sw (by omega) (by omega) hx)⟩, ⟨by omega, by omega⟩, fun j hj => by rw [swT_o (by omega) (by omega), upT_o (by omega)], s0, w0, G9, by rw [swT_i, upT_s], fun q hq => by rw [esg]; exact (hG9 q hq).trans op_jn⟩ (zcrn 2 257 h14_c.1 h14_c.2 (by dsimp only; omega) (by dsimp only; omega))
    | some u9 =>
      obtain ⟨s0, w0, f0⟩ := u9
      obtain ⟨hs0, hw0⟩ := hl.1 15 (by omega) _ _ _ hT0
      obtain ⟨n10, m10⟩ := hl.2 k 15 (by omega) (by omega) (by omega) _ _ _ _ _ _ hT1 hT0
      obtain ⟨n20, m20⟩ := hl.2 (k + 1) 15 (by omega) (by omega) (by omega) _ _ _ _ _ _ hT2 hT0
      have h1_s0 : h1.1 s0 = some (oB 3 [.ref w0]) := by rw [eh1]; exact z_so hs0 (z_ne hs0 ha rfl)
      have h1_w0 : h1.1 w0 = some (aJ 256 f0) := by rw [eh1]; exact z_so hw0 (z_ne hw0 ha rfl)
      refine v_st (st' := [.ref s0]) (by rw [show sp = some s0 from by rw [hsp, hT0]; rfl]; rfl) ?_
      refine v_ifnonnull g (r := (some s0)) (off := 13) (tgt := 137) (by decide +kernel) (by decide) (fun _ _ => ?_) (fun q => nomatch q)
      refine v_blk g [.aload_n 0] (pc' := 138) (lv' := [(3, .ref s2), (2, .ref s1), (0, .ref a), (1, .int sg)]) (st' := [.ref a]) (by decide +kernel) rfl rfl ?_
      refine v_get g h1_a fl_X4_21 rfl (by decide +kernel) ?_
      refine v_st (st' := [.ref s0]) (by rw [show sp = some s0 from by rw [hsp, hT0]; rfl]; rfl) ?_
      refine v_blk g [.astore 4, .aload 4, .aload_n 2, .aload_n 3] (pc' := 147) (lv' := [(4, .ref s0), (3, .ref s2), (2, .ref s1), (0, .ref a), (1, .int sg)]) (st' := [.ref s2, .ref s1, .ref s0]) (by decide +kernel) rfl rfl ?_
      refine v_callV g (rest := []) (c_LS_joined h1_s0 h1_w0 h1_s1 h1_w1 h1_s2 h1_w2 m10 m20) cl_X4_114 h1_s0 rfl rfl (Nat.le_of_ble_eq_true rfl) (by decide +kernel) ⟨Nat.le_of_ble_eq_true rfl, Nat.le_of_ble_eq_true rfl⟩ (zcsn 0 0 h1_c.1 h1_c.2 (by dsimp only; omega) (by dsimp only; omega)) (fun v9 h12 q9 => ?_)
      obtain ⟨rfl, G9, e9, hG9⟩ := q9
      show zV F X h12 150 [(4, .ref s0), (3, .ref s2), (2, .ref s1), (0, .ref a), (1, .int sg)] []
      have eh12 := e9
      have h12_c : h12.2.1 = h.2.1 + 0 ∧ h12.2.2 = h.2.2 + 0 := zcs eh12 h1_c
      have h12_a : h12.1 a = some (oB 4 [.int fk, .int fp, .ref t, .ref ss, va_rf sp, .int (nI (k + 1)), .int AT]) := by rw [eh12]; exact z_so h1_a (z_ne h1_a h1_w0 rfl)
      have h12_ss : h12.1 ss = some (aQ 3 15 G) := by rw [eh12]; exact z_so h1_ss (z_ne h1_ss h1_w0 rfl)
      have h12_s1 : h12.1 s1 = some (oB 3 [.ref w1]) := by rw [eh12]; exact z_so h1_s1 (z_ne h1_s1 h1_w0 rfl)
      have h12_w1 : h12.1 w1 = some (aJ 256 f1) := by rw [eh12]; exact z_so h1_w1 m10
      have h12_s2 : h12.1 s2 = some (oB 3 [.ref w2]) := by rw [eh12]; exact z_so h1_s2 (z_ne h1_s2 h1_w0 rfl)
      have h12_w2 : h12.1 w2 = some (aJ 256 f2) := by rw [eh12]; exact z_so h1_w2 m20
      have h12_s0 : h12.1 s0 = some (oB 3 [.ref w0]) := by rw [eh12]; exact z_so h1_s0 (z_ne h1_s0 h1_w0 rfl)
      have h12_w0 : h12.1 w0 = some (aJ 256 G9) := by rw [eh12]; exact z_s_self _ _ _
      refine v_blk g [.aload_n 0] (pc' := 151) (lv' := [(4, .ref s0), (3, .ref s2), (2, .ref s1), (0, .ref a), (1, .int sg)]) (st' := [.ref a]) (by decide +kernel) rfl rfl ?_
      refine v_get g h12_a fl_X4_17 rfl (by decide +kernel) ?_
      refine v_blk g [.aload_n 0] (pc' := 155) (lv' := [(4, .ref s0), (3, .ref s2), (2, .ref s1), (0, .ref a), (1, .int sg)]) (st' := [.ref a, .ref ss]) (by decide +kernel) rfl rfl ?_
      refine v_get g h12_a fl_X4_25 rfl (by decide +kernel) ?_
      refine v_blk g [.iconst 1, .isub, .aload 4] (pc' := 162) (lv' := [(4, .ref s0), (3, .ref s2), (2, .ref s1), (0, .ref a), (1, .int sg)]) (st' := [.ref s0, .int ((nI (k + 1)) - (1 : Int32)), .ref ss]) (by decide +kernel) rfl rfl ?_
      refine v_aast3 g (r := (some s0)) h12_ss (fun v q => by cases q; exact ⟨_, h12_s0⟩) k (pk_sub (a := k + 1) (b := 1) (by omega)) (by omega) (Nat.le_of_ble_eq_true rfl) (by decide +kernel) ?_
      refine v_h (fun h13 eh13 => ?_)
      have h13_c : h13.2.1 = h.2.1 + 0 ∧ h13.2.2 = h.2.2 + 0 := zcs eh13 h12_c
      have h13_a : h13.1 a = some (oB 4 [.int fk, .int fp, .ref t, .ref ss, va_rf sp, .int (nI (k + 1)), .int AT]) := by rw [eh13]; exact z_so h12_a (z_ne ha hss rfl)
      have h13_ss : h13.1 ss = some (aQ 3 15 (va_up G k (some s0))) := by rw [eh13]; exact z_s_self _ _ _
      have h13_s1 : h13.1 s1 = some (oB 3 [.ref w1]) := by rw [eh13]; exact z_so h12_s1 (Ne.symm (z_ne hss hs1 rfl))
      have h13_w1 : h13.1 w1 = some (aJ 256 f1) := by rw [eh13]; exact z_so h12_w1 (Ne.symm (z_ne hss hw1 rfl))
      have h13_s2 : h13.1 s2 = some (oB 3 [.ref w2]) := by rw [eh13]; exact z_so h12_s2 (Ne.symm (z_ne hss hs2 rfl))
      have h13_w2 : h13.1 w2 = some (aJ 256 f2) := by rw [eh13]; exact z_so h12_w2 (Ne.symm (z_ne hss hw2 rfl))
      have h13_s0 : h13.1 s0 = some (oB 3 [.ref w0]) := by rw [eh13]; exact z_so h12_s0 (Ne.symm (z_ne h1_ss h1_s0 rfl))
      have h13_w0 : h13.1 w0 = some (aJ 256 G9) := by rw [eh13]; exact z_so h12_w0 (Ne.symm (z_ne h1_ss h1_w0 rfl))
      refine v_blk g [.aload_n 0, .aload_n 2] (pc' := 165) (lv' := [(4, .ref s0), (3, .ref s2), (2, .ref s1), (0, .ref a), (1, .int sg)]) (st' := [.ref s1, .ref a]) (by decide +kernel) rfl rfl ?_
      refine v_put g (fs' := [.int fk, .int fp, .ref t, .ref ss, .ref s1, .int (nI (k + 1)), .int AT]) h13_a fl_X4_21 rfl rfl (Nat.le_of_ble_eq_true rfl) rfl (by decide +kernel) ?_
      refine v_h (fun h14 eh14 => ?_)
      have h14_c : h14.2.1 = h.2.1 + 0 ∧ h14.2.2 = h.2.2 + 0 := zcs eh14 h13_c
      have h14_a : h14.1 a = some (oB 4 [.int fk, .int fp, .ref t, .ref ss, .ref s1, .int (nI (k + 1)), .int AT]) := by rw [eh14]; exact z_s_self _ _ _
      have h14_ss : h14.1 ss = some (aQ 3 15 (va_up G k (some s0))) := by rw [eh14]; exact z_so h13_ss (Ne.symm (z_ne ha hss rfl))
      have h14_s1 : h14.1 s1 = some (oB 3 [.ref w1]) := by rw [eh14]; exact z_so h13_s1 (Ne.symm (z_ne ha hs1 rfl))
      have h14_w1 : h14.1 w1 = some (aJ 256 f1) := by rw [eh14]; exact z_so h13_w1 (Ne.symm (z_ne ha hw1 rfl))
      have h14_s2 : h14.1 s2 = some (oB 3 [.ref w2]) := by rw [eh14]; exact z_so h13_s2 (Ne.symm (z_ne ha hs2 rfl))
      have h14_w2 : h14.1 w2 = some (aJ 256 f2) := by rw [eh14]; exact z_so h13_w2 (Ne.symm (z_ne ha hw2 rfl))
      have h14_s0 : h14.1 s0 = some (oB 3 [.ref w0]) := by rw [eh14]; exact z_so h13_s0 (Ne.symm (z_ne h1_a h1_s0 rfl))
      have h14_w0 : h14.1 w0 = some (aJ 256 G9) := by rw [eh14]; exact z_so h13_w0 (Ne.symm (z_ne h1_a h1_w0 rfl))
      have kp : ∀ x y, h.1 x = some y → x ≠ a → x ≠ ss → x ≠ w0 → h14.1 x = some y := fun x y hx x1 x2 x3 => by
        rw [eh14]; refine z_so ?_ x1
        rw [eh13]; refine z_so ?_ x2
        rw [eh12]; refine z_so ?_ x3
        rw [eh1]; exact z_so hx x1
      have fT : h14.1 t = some (oB 6 [.ref tb, .int (nI n)]) := kp _ _ ht (z_ne ht ha rfl) (z_ne ht hss rfl) (z_ne ht hw0 rfl)
      have fB : h14.1 tb = some (aI 200 B) := kp _ _ hb (z_ne hb ha rfl) (z_ne hb hss rfl) (z_ne hb hw0 rfl)
      have nn8 := nn_old (T := T) (k := 15) (v := (s0, w0, G9)) hT0 16
      have nn7 : nn (swT (upT T 15 (some (s0, w0, G9))) k 15) 16 = nn (upT T 15 (some (s0, w0, G9))) 16 := nn_cong (fun j hj => by
        by_cases e1 : j = k
        · rw [e1, swT_i, upT_s, upT_o (by omega), hT1]; rfl
        · by_cases e2 : j = 15
          · rw [e2, swT_j (by omega), upT_o (by omega), upT_s, hT1]; rfl
          · rw [swT_o e1 e2])
      have fu := fr_upd (T := T) (f' := G9) (show 15 < 16 by omega) kp (Or.inl ⟨_, hT0⟩)
      exact v_vret g z rfl (by decide +kernel) ⟨rfl, some s1, va_up G k (some s0), swT (upT T 15 (some (s0, w0, G9))) k 15, ⟨h14_a, fT, fB, h14_ss, by rw [swT_j (by omega), upT_o (by omega), hT1]; rfl, fun j hj => vaT_sw hG (by omega) hj, ls_sw (ls_upd hl (by omega) ha hss h14_s0 h14_w0 kp (Or.inl ⟨_, hT0⟩)) (by omega) (by omega)⟩, ⟨fu.1, fun x hx => fu.2 x (ow_sw (by omega) (by omega) hx)⟩, ⟨by omega, by omega⟩, fun j hj => by rw [swT_o (by omega) (by omega), upT_o (by omega)], s0, w0, G9, by rw [swT_i, upT_s], fun q hq => by rw [esg]; exact (hG9 q hq).trans op_jn⟩ (zcrn 0 0 h14_c.1 h14_c.2 (by dsimp only; omega) (by dsimp only; omega))
