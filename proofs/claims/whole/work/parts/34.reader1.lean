/-! reading a plan: numbers and matches -/
def txt (B : Nat → Int32) (n p : Nat) : Int32 := if p < n then B p else -1
theorem txt_at {B : Nat → Int32} {n p : Nat} (hn : n ≤ 1000) (hp : p ≤ 1000) : x_byteAt B n (nI p) = txt B n p := by
  unfold x_byteAt txt
  rw [if_neg (nI_pos (by omega)), nI_clamp (by omega)]
  by_cases h : p < n
  · rw [if_neg (nI_ge h (by omega)), if_pos h]
  · rw [if_pos (nI_le (by omega) (by omega)), if_neg h]
def dg (x : Nat → Int32) (p : Nat) : Nat := if x_digit (x p) = 0 then 0 else if x_digit (x (p + 1)) = 0 then 1 else 2
def dgv (x : Nat → Int32) (p : Nat) : Nat := (x p).toNatClampNeg - 48
def numv (x : Nat → Int32) (p : Nat) : Nat := if dg x p = 2 then 10 * dgv x p + dgv x (p + 1) else dgv x p
theorem dig_is {v : Int32} (h : ¬ x_digit v = 0) : ∃ d, d < 10 ∧ v = nI (48 + d) ∧ v.toNatClampNeg - 48 = d := by
  unfold x_digit at h
  split at h
  · exact absurd rfl h
  · rename_i h1
    split at h
    · exact absurd rfl h
    · rename_i h2
      rcases pk_ix v (n := 58) (by decide) with q | q | ⟨k, q1, q2⟩
      · exact absurd (fa_trans q (show (0 : Int32) ≤ 48 by decide)) h1
      · exact absurd (fa_trans (show (57 : Int32) < 58 by decide) q) h2
      · have h3 : 48 ≤ k := by
          rcases Nat.lt_or_ge k 48 with z | z
          · exact absurd (by rw [q2]; exact nI_lt (b := 48) z (by decide)) h1
          · exact z
        exact ⟨k - 48, by omega, by rw [q2]; congr 1; omega, by rw [q2, nI_clamp (by omega)]⟩
theorem dig_in {B : Nat → Int32} {n p : Nat} (h : ¬ x_digit (txt B n p) = 0) : p < n := by
  unfold txt at h
  split at h
  · assumption
  · exact absurd (by decide) h
theorem txt_in {B : Nat → Int32} {n p : Nat} {c : Int32} (h : txt B n p = c) (hc : ¬ c = -1) : p < n := by
  unfold txt at h
  split at h
  · assumption
  · exact absurd h.symm hc
theorem dg_le (x : Nat → Int32) (p : Nat) : dg x p ≤ 2 := by
  unfold dg
  split
  · omega
  · split
    · omega
    · omega
theorem numv_lt {B : Nat → Int32} {n p : Nat} (h : ¬ dg (txt B n) p = 0) : numv (txt B n) p < 100 := by
  have h1 : ¬ x_digit (txt B n p) = 0 := fun q => h (by rw [dg, if_pos q])
  obtain ⟨d, q1, q2, q3⟩ := dig_is h1
  unfold numv
  by_cases h2 : dg (txt B n) p = 2
  · rw [if_pos h2]
    have h3 : ¬ x_digit (txt B n (p + 1)) = 0 := fun q => by rw [dg, if_neg h1, if_pos q] at h2; omega
    obtain ⟨d2, r1, r2, r3⟩ := dig_is h3
    unfold dgv; omega
  · rw [if_neg h2]; unfold dgv; omega
theorem num1 {d : Nat} (hd : d < 10) : (0 : Int32) * (10 : Int32) + nI (48 + d) - (48 : Int32) = nI d := by
  have h : ∀ d : Nat, d < 10 → (0 : Int32) * (10 : Int32) + nI (48 + d) - (48 : Int32) = nI d := by decide
  exact h d hd
theorem num2 {d d2 : Nat} (hd : d < 10) (hd2 : d2 < 10) : nI d * (10 : Int32) + nI (48 + d2) - (48 : Int32) = nI (10 * d + d2) := by
  have h : ∀ d : Nat, d < 10 → ∀ d2 : Nat, d2 < 10 → nI d * (10 : Int32) + nI (48 + d2) - (48 : Int32) = nI (10 * d + d2) := by decide
  exact h d hd d2 hd2
def rmt (x : Nat → Int32) : Nat → Nat → Nat → (Nat × Nat) ⊕ (Nat × Nat)
  | 0, M, p => .inr (M, p)
  | k + 1, M, p => if dg x p = 0 then .inl (1, p) else if 14 ≤ numv x p ∨ M.testBit (numv x p) = true then .inl (2, p) else if x (p + dg x p) = 46 then rmt x k (M ||| 2 ^ numv x p) (p + dg x p + 1) else .inr (M ||| 2 ^ numv x p, p + dg x p)

set_option maxRecDepth 100000 in
set_option maxHeartbeats 4000000 in
theorem c_PR_digits {F : zF} {h : zH} {a t tb ss n p : Nat} {sp : Option Nat} {fk fp hg : Int32} {B : Nat → Int32} (ha : h.1 a = some (oB 4 [.int fk, .int fp, .ref t, .ref ss, va_rf sp, .int hg, .int (nI p)])) (ht : h.1 t = some (oB 6 [.ref tb, .int (nI n)])) (hb : h.1 tb = some (aI 200 B)) (hn : n ≤ 200) (hp : p ≤ 200) : zMet F yX4_digitsHere cX4_digitsHere 1 (some .int) { frames := 2, cells := 0, slots := 0, locals := 60 } [.ref a] h (zP h (some (.int (nI (dg (txt B n) p))))) := by
  refine zMet_of (lv := [(0, .ref a)]) (by decide) (by simp [lg_sl, Value.category]) rfl ?_
  intro X g z
  refine v_blk g [.aload_n 0] (pc' := 1) (lv' := [(0, .ref a)]) (st' := [.ref a]) (by decide +kernel) rfl rfl ?_
  refine v_get g ha fl_X4_9 rfl (by decide +kernel) ?_
  refine v_blk g [.aload_n 0] (pc' := 5) (lv' := [(0, .ref a)]) (st' := [.ref a, .ref t]) (by decide +kernel) rfl rfl ?_
  refine v_get g ha fl_X4_29 rfl (by decide +kernel) ?_
  refine v_callVp g (rest := []) (c_Tape_byteAt ht hb _ hn) cl_X4_59 ht rfl rfl (Nat.le_of_ble_eq_true rfl) (by decide +kernel) ⟨Nat.le_of_ble_eq_true rfl, Nat.le_of_ble_eq_true rfl⟩ (zcsn 0 0 rfl rfl (Nat.le_of_ble_eq_true rfl) (Nat.le_of_ble_eq_true rfl)) ?_
  show zV F X h 11 [(0, .ref a)] [.int (x_byteAt B n (nI p))]
  refine v_ti (z := txt B n p) (txt_at (by omega) (by omega)) ?_
  refine v_callSp g (rest := []) (c_isDigit _) cl_X4_99 rfl (Nat.le_of_ble_eq_true rfl) (by decide +kernel) ⟨Nat.le_of_ble_eq_true rfl, Nat.le_of_ble_eq_true rfl⟩ (zcsn 0 0 rfl rfl (Nat.le_of_ble_eq_true rfl) (Nat.le_of_ble_eq_true rfl)) ?_
  show zV F X h 14 [(0, .ref a)] [.int (x_digit (txt B n p))]
  refine v_if_ne g (off := 5) (tgt := 19) (by decide +kernel) (by decide) (fun c => ?_) (fun c => ?_)
  · refine v_blk g [.aload_n 0] (pc' := 20) (lv' := [(0, .ref a)]) (st' := [.ref a]) (by decide +kernel) rfl rfl ?_
    refine v_get g ha fl_X4_9 rfl (by decide +kernel) ?_
    refine v_blk g [.aload_n 0] (pc' := 24) (lv' := [(0, .ref a)]) (st' := [.ref a, .ref t]) (by decide +kernel) rfl rfl ?_
    refine v_get g ha fl_X4_29 rfl (by decide +kernel) ?_
    refine v_blk g [.iconst 1, .iadd] (pc' := 29) (lv' := [(0, .ref a)]) (st' := [.int ((nI p) + (1 : Int32)), .ref t]) (by decide +kernel) rfl rfl ?_
    refine v_ti (z := nI (p + 1)) (nI_1 p) ?_
    refine v_callVp g (rest := []) (c_Tape_byteAt ht hb _ hn) cl_X4_59 ht rfl rfl (Nat.le_of_ble_eq_true rfl) (by decide +kernel) ⟨Nat.le_of_ble_eq_true rfl, Nat.le_of_ble_eq_true rfl⟩ (zcsn 0 0 rfl rfl (Nat.le_of_ble_eq_true rfl) (Nat.le_of_ble_eq_true rfl)) ?_
    show zV F X h 32 [(0, .ref a)] [.int (x_byteAt B n (nI (p + 1)))]
    refine v_ti (z := txt B n (p + 1)) (txt_at (by omega) (by omega)) ?_
    refine v_callSp g (rest := []) (c_isDigit _) cl_X4_99 rfl (Nat.le_of_ble_eq_true rfl) (by decide +kernel) ⟨Nat.le_of_ble_eq_true rfl, Nat.le_of_ble_eq_true rfl⟩ (zcsn 0 0 rfl rfl (Nat.le_of_ble_eq_true rfl) (Nat.le_of_ble_eq_true rfl)) ?_
    show zV F X h 35 [(0, .ref a)] [.int (x_digit (txt B n (p + 1)))]
    refine v_if_eq g (off := 7) (tgt := 42) (by decide +kernel) (by decide) (fun c1 => ?_) (fun c1 => ?_)
    · refine v_blk g [.iconst 1] (pc' := 43) (lv' := [(0, .ref a)]) (st' := [.int (1 : Int32)]) (by decide +kernel) rfl rfl ?_
      exact v_iret g z rfl (by decide +kernel) ⟨by rw [dg, if_neg c, if_pos c1]; rfl, rfl⟩ (zcrn 0 0 rfl rfl (Nat.le_of_ble_eq_true rfl) (Nat.le_of_ble_eq_true rfl))
    · refine v_blk g [.iconst 2] (pc' := 39) (lv' := [(0, .ref a)]) (st' := [.int (2 : Int32)]) (by decide +kernel) rfl rfl ?_
      refine v_goto g (off := 4) (tgt := 43) (by decide +kernel) (by decide) ?_
      exact v_iret g z rfl (by decide +kernel) ⟨by rw [dg, if_neg c, if_neg c1]; rfl, rfl⟩ (zcrn 0 0 rfl rfl (Nat.le_of_ble_eq_true rfl) (Nat.le_of_ble_eq_true rfl))
  · refine v_blk g [.iconst 0] (pc' := 18) (lv' := [(0, .ref a)]) (st' := [.int (0 : Int32)]) (by decide +kernel) rfl rfl ?_
    exact v_iret g z rfl (by decide +kernel) ⟨by rw [dg, if_pos c]; rfl, rfl⟩ (zcrn 0 0 rfl rfl (Nat.le_of_ble_eq_true rfl) (Nat.le_of_ble_eq_true rfl))

set_option maxRecDepth 100000 in
set_option maxHeartbeats 4000000 in
theorem c_PR_number {F : zF} {h : zH} {a t tb ss n p : Nat} {sp : Option Nat} {fk fp hg : Int32} {B : Nat → Int32} (ha : h.1 a = some (oB 4 [.int fk, .int fp, .ref t, .ref ss, va_rf sp, .int hg, .int (nI p)])) (ht : h.1 t = some (oB 6 [.ref tb, .int (nI n)])) (hb : h.1 tb = some (aI 200 B)) (hn : n ≤ 200) (hp : p ≤ 200) : zMet F yX4_readNumber cX4_readNumber 4 (some .int) { frames := 3, cells := 0, slots := 0, locals := 90 } [.ref a] h (fun v h2 => (dg (txt B n) p = 0 ∧ v = some (.int (-1)) ∧ h2 = h) ∨ (¬ dg (txt B n) p = 0 ∧ v = some (.int (nI (numv (txt B n) p))) ∧ h2 = z_s h a (oB 4 [.int fk, .int fp, .ref t, .ref ss, va_rf sp, .int hg, .int (nI (p + dg (txt B n) p))]))) := by
  refine zMet_of (lv := [(0, .ref a)]) (by decide) (by simp [lg_sl, Value.category]) rfl ?_
  intro X g z
  refine v_blk g [.aload_n 0] (pc' := 1) (lv' := [(0, .ref a)]) (st' := [.ref a]) (by decide +kernel) rfl rfl ?_
  refine v_callVp g (rest := []) (c_PR_digits ha ht hb hn hp) cl_X4_80 ha rfl rfl (Nat.le_of_ble_eq_true rfl) (by decide +kernel) ⟨Nat.le_of_ble_eq_true rfl, Nat.le_of_ble_eq_true rfl⟩ (zcsn 0 0 rfl rfl (Nat.le_of_ble_eq_true rfl) (Nat.le_of_ble_eq_true rfl)) ?_
  show zV F X h 4 [(0, .ref a)] [.int (nI (dg (txt B n) p))]
  refine v_blk g [.istore_n 1, .iload_n 1] (pc' := 6) (lv' := [(1, .int (nI (dg (txt B n) p))), (0, .ref a)]) (st' := [.int (nI (dg (txt B n) p))]) (by decide +kernel) rfl rfl ?_
  refine v_if_ne g (off := 5) (tgt := 11) (by decide +kernel) (by decide) (fun cc9 => ?_) (fun cc9 => ?_)
  · have c : ¬ dg (txt B n) p = 0 := fun q => cc9 (by rw [q]; rfl)
    have c0 : ¬ x_digit (txt B n p) = 0 := fun q => c (by rw [dg, if_pos q])
    have hpn : p < n := dig_in c0
    obtain ⟨d, hd, ed, ev⟩ := dig_is c0
    by_cases c1 : x_digit (txt B n (p + 1)) = 0
    · have hdg : dg (txt B n) p = 1 := by rw [dg, if_neg c0, if_pos c1]
      refine v_eq (lv' := [(1, .int (1 : Int32)), (0, .ref a)]) (st' := []) (by rw [hdg]; rfl) rfl ?_
      refine v_blk g [.iconst 0, .istore_n 2, .iconst 0, .istore_n 3] (pc' := 15) (lv' := [(3, .int (0 : Int32)), (2, .int (0 : Int32)), (1, .int (1 : Int32)), (0, .ref a)]) (st' := []) (by decide +kernel) rfl rfl ?_
      refine v_blk g [.iload_n 3, .iload_n 1] (pc' := 17) (lv' := [(3, .int (0 : Int32)), (2, .int (0 : Int32)), (1, .int (1 : Int32)), (0, .ref a)]) (st' := [.int (1 : Int32), .int (0 : Int32)]) (by decide +kernel) rfl rfl ?_
      refine v_icmp_ge g (off := 39) (tgt := 56) (by decide +kernel) (by decide) (fun c => absurd c (by decide)) (fun _ => ?_)
      refine v_blk g [.iload_n 2, .bipush 10, .imul, .aload_n 0] (pc' := 25) (lv' := [(3, .int (0 : Int32)), (2, .int (0 : Int32)), (1, .int (1 : Int32)), (0, .ref a)]) (st' := [.ref a, .int ((0 : Int32) * (10 : Int32))]) (by decide +kernel) rfl rfl ?_
      refine v_get g ha fl_X4_9 rfl (by decide +kernel) ?_
      refine v_blk g [.aload_n 0] (pc' := 29) (lv' := [(3, .int (0 : Int32)), (2, .int (0 : Int32)), (1, .int (1 : Int32)), (0, .ref a)]) (st' := [.ref a, .ref t, .int ((0 : Int32) * (10 : Int32))]) (by decide +kernel) rfl rfl ?_
      refine v_get g ha fl_X4_29 rfl (by decide +kernel) ?_
      refine v_callVp g (rest := [.int ((0 : Int32) * (10 : Int32))]) (c_Tape_byteAt ht hb _ hn) cl_X4_59 ht rfl rfl (Nat.le_of_ble_eq_true rfl) (by decide +kernel) ⟨Nat.le_of_ble_eq_true rfl, Nat.le_of_ble_eq_true rfl⟩ (zcsn 0 0 rfl rfl (Nat.le_of_ble_eq_true rfl) (Nat.le_of_ble_eq_true rfl)) ?_
      show zV F X h 35 [(3, .int (0 : Int32)), (2, .int (0 : Int32)), (1, .int (1 : Int32)), (0, .ref a)] [.int (x_byteAt B n (nI p)), .int ((0 : Int32) * (10 : Int32))]
      refine v_ti (z := txt B n p) (txt_at (by omega) (by omega)) ?_
      refine v_ti (z := nI (48 + d)) (ed) ?_
      refine v_blk g [.iadd, .bipush 48, .isub] (pc' := 39) (lv' := [(3, .int (0 : Int32)), (2, .int (0 : Int32)), (1, .int (1 : Int32)), (0, .ref a)]) (st' := [.int ((((0 : Int32) * (10 : Int32)) + (nI (48 + d))) - (48 : Int32))]) (by decide +kernel) rfl rfl ?_
      refine v_ti (z := nI (d)) (num1 hd) ?_
      refine v_blk g [.istore_n 2, .aload_n 0, .dup] (pc' := 42) (lv' := [(2, .int (nI (d))), (3, .int (0 : Int32)), (1, .int (1 : Int32)), (0, .ref a)]) (st' := [.ref a, .ref a]) (by decide +kernel) rfl rfl ?_
      refine v_get g ha fl_X4_29 rfl (by decide +kernel) ?_
      refine v_blk g [.iconst 1, .iadd] (pc' := 47) (lv' := [(2, .int (nI (d))), (3, .int (0 : Int32)), (1, .int (1 : Int32)), (0, .ref a)]) (st' := [.int ((nI p) + (1 : Int32)), .ref a]) (by decide +kernel) rfl rfl ?_
      refine v_ti (z := nI (p + 1)) (nI_1 _) ?_
      refine v_put g (fs' := [.int fk, .int fp, .ref t, .ref ss, va_rf sp, .int hg, .int (nI (p + 1))]) ha fl_X4_29 rfl rfl (Nat.le_of_ble_eq_true rfl) rfl (by decide +kernel) ?_
      refine v_h (fun h1 eh1 => ?_)
      have h1_c : h1.2.1 = h.2.1 + 0 ∧ h1.2.2 = h.2.2 + 0 := zcs eh1 ⟨rfl, rfl⟩
      have h1_a : h1.1 a = some (oB 4 [.int fk, .int fp, .ref t, .ref ss, va_rf sp, .int hg, .int (nI (p + 1))]) := by rw [eh1]; exact z_s_self _ _ _
      have h1_t : h1.1 t = some (oB 6 [.ref tb, .int (nI n)]) := by rw [eh1]; exact z_so ht (Ne.symm (z_ne ha ht rfl))
      have h1_tb : h1.1 tb = some (aI 200 B) := by rw [eh1]; exact z_so hb (Ne.symm (z_ne ha hb rfl))
      refine v_blk g [.iinc 3 1] (pc' := 53) (lv' := [(3, .int ((0 : Int32) + (1 : Int32))), (2, .int (nI (d))), (1, .int (1 : Int32)), (0, .ref a)]) (st' := []) (by decide +kernel) rfl rfl ?_
      refine v_goto g (off := -38) (tgt := 15) (by decide +kernel) (by decide) ?_
      refine v_eq (lv' := [(3, .int 1), (2, .int (nI (d))), (1, .int (1 : Int32)), (0, .ref a)]) (st' := []) rfl rfl ?_
      refine v_blk g [.iload_n 3, .iload_n 1] (pc' := 17) (lv' := [(3, .int 1), (2, .int (nI (d))), (1, .int (1 : Int32)), (0, .ref a)]) (st' := [.int (1 : Int32), .int 1]) (by decide +kernel) rfl rfl ?_
      refine v_icmp_ge g (off := 39) (tgt := 56) (by decide +kernel) (by decide) (fun _ => ?_) (fun c => absurd c (fun q => q (by decide)))
      refine v_blk g [.iload_n 2] (pc' := 57) (lv' := [(3, .int 1), (2, .int (nI (d))), (1, .int (1 : Int32)), (0, .ref a)]) (st' := [.int (nI (d))]) (by decide +kernel) rfl rfl ?_
      exact v_iret g z rfl (by decide +kernel) (Or.inr ⟨c, by rw [numv, hdg, if_neg (by decide), dgv, ev], by rw [eh1, hdg]⟩) (zcrn 0 0 h1_c.1 h1_c.2 (Nat.le_of_ble_eq_true rfl) (Nat.le_of_ble_eq_true rfl))
    · have hdg : dg (txt B n) p = 2 := by rw [dg, if_neg c0, if_neg c1]
      have hpn2 : p + 1 < n := dig_in c1
      obtain ⟨d2, hd2, ed2, ev2⟩ := dig_is c1
      refine v_eq (lv' := [(1, .int (2 : Int32)), (0, .ref a)]) (st' := []) (by rw [hdg]; rfl) rfl ?_
      refine v_blk g [.iconst 0, .istore_n 2, .iconst 0, .istore_n 3] (pc' := 15) (lv' := [(3, .int (0 : Int32)), (2, .int (0 : Int32)), (1, .int (2 : Int32)), (0, .ref a)]) (st' := []) (by decide +kernel) rfl rfl ?_
      refine v_blk g [.iload_n 3, .iload_n 1] (pc' := 17) (lv' := [(3, .int (0 : Int32)), (2, .int (0 : Int32)), (1, .int (2 : Int32)), (0, .ref a)]) (st' := [.int (2 : Int32), .int (0 : Int32)]) (by decide +kernel) rfl rfl ?_
      refine v_icmp_ge g (off := 39) (tgt := 56) (by decide +kernel) (by decide) (fun c => absurd c (by decide)) (fun _ => ?_)
      refine v_blk g [.iload_n 2, .bipush 10, .imul, .aload_n 0] (pc' := 25) (lv' := [(3, .int (0 : Int32)), (2, .int (0 : Int32)), (1, .int (2 : Int32)), (0, .ref a)]) (st' := [.ref a, .int ((0 : Int32) * (10 : Int32))]) (by decide +kernel) rfl rfl ?_
      refine v_get g ha fl_X4_9 rfl (by decide +kernel) ?_
      refine v_blk g [.aload_n 0] (pc' := 29) (lv' := [(3, .int (0 : Int32)), (2, .int (0 : Int32)), (1, .int (2 : Int32)), (0, .ref a)]) (st' := [.ref a, .ref t, .int ((0 : Int32) * (10 : Int32))]) (by decide +kernel) rfl rfl ?_
      refine v_get g ha fl_X4_29 rfl (by decide +kernel) ?_
      refine v_callVp g (rest := [.int ((0 : Int32) * (10 : Int32))]) (c_Tape_byteAt ht hb _ hn) cl_X4_59 ht rfl rfl (Nat.le_of_ble_eq_true rfl) (by decide +kernel) ⟨Nat.le_of_ble_eq_true rfl, Nat.le_of_ble_eq_true rfl⟩ (zcsn 0 0 rfl rfl (Nat.le_of_ble_eq_true rfl) (Nat.le_of_ble_eq_true rfl)) ?_
      show zV F X h 35 [(3, .int (0 : Int32)), (2, .int (0 : Int32)), (1, .int (2 : Int32)), (0, .ref a)] [.int (x_byteAt B n (nI p)), .int ((0 : Int32) * (10 : Int32))]
      refine v_ti (z := txt B n p) (txt_at (by omega) (by omega)) ?_
      refine v_ti (z := nI (48 + d)) (ed) ?_
      refine v_blk g [.iadd, .bipush 48, .isub] (pc' := 39) (lv' := [(3, .int (0 : Int32)), (2, .int (0 : Int32)), (1, .int (2 : Int32)), (0, .ref a)]) (st' := [.int ((((0 : Int32) * (10 : Int32)) + (nI (48 + d))) - (48 : Int32))]) (by decide +kernel) rfl rfl ?_
      refine v_ti (z := nI (d)) (num1 hd) ?_
      refine v_blk g [.istore_n 2, .aload_n 0, .dup] (pc' := 42) (lv' := [(2, .int (nI (d))), (3, .int (0 : Int32)), (1, .int (2 : Int32)), (0, .ref a)]) (st' := [.ref a, .ref a]) (by decide +kernel) rfl rfl ?_
      refine v_get g ha fl_X4_29 rfl (by decide +kernel) ?_
      refine v_blk g [.iconst 1, .iadd] (pc' := 47) (lv' := [(2, .int (nI (d))), (3, .int (0 : Int32)), (1, .int (2 : Int32)), (0, .ref a)]) (st' := [.int ((nI p) + (1 : Int32)), .ref a]) (by decide +kernel) rfl rfl ?_
      refine v_ti (z := nI (p + 1)) (nI_1 _) ?_
      refine v_put g (fs' := [.int fk, .int fp, .ref t, .ref ss, va_rf sp, .int hg, .int (nI (p + 1))]) ha fl_X4_29 rfl rfl (Nat.le_of_ble_eq_true rfl) rfl (by decide +kernel) ?_
      refine v_h (fun h1 eh1 => ?_)
      have h1_c : h1.2.1 = h.2.1 + 0 ∧ h1.2.2 = h.2.2 + 0 := zcs eh1 ⟨rfl, rfl⟩
      have h1_a : h1.1 a = some (oB 4 [.int fk, .int fp, .ref t, .ref ss, va_rf sp, .int hg, .int (nI (p + 1))]) := by rw [eh1]; exact z_s_self _ _ _
      have h1_t : h1.1 t = some (oB 6 [.ref tb, .int (nI n)]) := by rw [eh1]; exact z_so ht (Ne.symm (z_ne ha ht rfl))
      have h1_tb : h1.1 tb = some (aI 200 B) := by rw [eh1]; exact z_so hb (Ne.symm (z_ne ha hb rfl))
      refine v_blk g [.iinc 3 1] (pc' := 53) (lv' := [(3, .int ((0 : Int32) + (1 : Int32))), (2, .int (nI (d))), (1, .int (2 : Int32)), (0, .ref a)]) (st' := []) (by decide +kernel) rfl rfl ?_
      refine v_goto g (off := -38) (tgt := 15) (by decide +kernel) (by decide) ?_
      refine v_eq (lv' := [(3, .int 1), (2, .int (nI (d))), (1, .int (2 : Int32)), (0, .ref a)]) (st' := []) rfl rfl ?_
      refine v_blk g [.iload_n 3, .iload_n 1] (pc' := 17) (lv' := [(3, .int 1), (2, .int (nI (d))), (1, .int (2 : Int32)), (0, .ref a)]) (st' := [.int (2 : Int32), .int 1]) (by decide +kernel) rfl rfl ?_
      refine v_icmp_ge g (off := 39) (tgt := 56) (by decide +kernel) (by decide) (fun c => absurd c (by decide)) (fun _ => ?_)
      refine v_blk g [.iload_n 2, .bipush 10, .imul, .aload_n 0] (pc' := 25) (lv' := [(3, .int 1), (2, .int (nI (d))), (1, .int (2 : Int32)), (0, .ref a)]) (st' := [.ref a, .int ((nI (d)) * (10 : Int32))]) (by decide +kernel) rfl rfl ?_
      refine v_get g h1_a fl_X4_9 rfl (by decide +kernel) ?_
      refine v_blk g [.aload_n 0] (pc' := 29) (lv' := [(3, .int 1), (2, .int (nI (d))), (1, .int (2 : Int32)), (0, .ref a)]) (st' := [.ref a, .ref t, .int ((nI (d)) * (10 : Int32))]) (by decide +kernel) rfl rfl ?_
      refine v_get g h1_a fl_X4_29 rfl (by decide +kernel) ?_
      refine v_callVp g (rest := [.int ((nI (d)) * (10 : Int32))]) (c_Tape_byteAt h1_t h1_tb _ hn) cl_X4_59 h1_t rfl rfl (Nat.le_of_ble_eq_true rfl) (by decide +kernel) ⟨Nat.le_of_ble_eq_true rfl, Nat.le_of_ble_eq_true rfl⟩ (zcsn 0 0 h1_c.1 h1_c.2 (Nat.le_of_ble_eq_true rfl) (Nat.le_of_ble_eq_true rfl)) ?_
      show zV F X h1 35 [(3, .int 1), (2, .int (nI (d))), (1, .int (2 : Int32)), (0, .ref a)] [.int (x_byteAt B n (nI (p + 1))), .int ((nI (d)) * (10 : Int32))]
      refine v_ti (z := txt B n (p + 1)) (txt_at (by omega) (by omega)) ?_
      refine v_ti (z := nI (48 + d2)) (ed2) ?_
      refine v_blk g [.iadd, .bipush 48, .isub] (pc' := 39) (lv' := [(3, .int 1), (2, .int (nI (d))), (1, .int (2 : Int32)), (0, .ref a)]) (st' := [.int ((((nI (d)) * (10 : Int32)) + (nI (48 + d2))) - (48 : Int32))]) (by decide +kernel) rfl rfl ?_
      refine v_ti (z := nI (10 * d + d2)) (num2 hd hd2) ?_
      refine v_blk g [.istore_n 2, .aload_n 0, .dup] (pc' := 42) (lv' := [(2, .int (nI (10 * d + d2))), (3, .int 1), (1, .int (2 : Int32)), (0, .ref a)]) (st' := [.ref a, .ref a]) (by decide +kernel) rfl rfl ?_
      refine v_get g h1_a fl_X4_29 rfl (by decide +kernel) ?_
      refine v_blk g [.iconst 1, .iadd] (pc' := 47) (lv' := [(2, .int (nI (10 * d + d2))), (3, .int 1), (1, .int (2 : Int32)), (0, .ref a)]) (st' := [.int ((nI (p + 1)) + (1 : Int32)), .ref a]) (by decide +kernel) rfl rfl ?_
      refine v_ti (z := nI (p + 1 + 1)) (nI_1 _) ?_
      refine v_put g (fs' := [.int fk, .int fp, .ref t, .ref ss, va_rf sp, .int hg, .int (nI (p + 1 + 1))]) h1_a fl_X4_29 rfl rfl (Nat.le_of_ble_eq_true rfl) rfl (by decide +kernel) ?_
      refine v_h (fun h2 eh2 => ?_)
      have h2_c : h2.2.1 = h.2.1 + 0 ∧ h2.2.2 = h.2.2 + 0 := zcs eh2 h1_c
      have h2_a : h2.1 a = some (oB 4 [.int fk, .int fp, .ref t, .ref ss, va_rf sp, .int hg, .int (nI (p + 1 + 1))]) := by rw [eh2]; exact z_s_self _ _ _
      have h2_t : h2.1 t = some (oB 6 [.ref tb, .int (nI n)]) := by rw [eh2]; exact z_so h1_t (Ne.symm (z_ne ha ht rfl))
      have h2_tb : h2.1 tb = some (aI 200 B) := by rw [eh2]; exact z_so h1_tb (Ne.symm (z_ne ha hb rfl))
      refine v_blk g [.iinc 3 1] (pc' := 53) (lv' := [(3, .int (1 + (1 : Int32))), (2, .int (nI (10 * d + d2))), (1, .int (2 : Int32)), (0, .ref a)]) (st' := []) (by decide +kernel) rfl rfl ?_
      refine v_goto g (off := -38) (tgt := 15) (by decide +kernel) (by decide) ?_
      refine v_eq (lv' := [(3, .int 2), (2, .int (nI (10 * d + d2))), (1, .int (2 : Int32)), (0, .ref a)]) (st' := []) rfl rfl ?_
      refine v_blk g [.iload_n 3, .iload_n 1] (pc' := 17) (lv' := [(3, .int 2), (2, .int (nI (10 * d + d2))), (1, .int (2 : Int32)), (0, .ref a)]) (st' := [.int (2 : Int32), .int 2]) (by decide +kernel) rfl rfl ?_
      refine v_icmp_ge g (off := 39) (tgt := 56) (by decide +kernel) (by decide) (fun _ => ?_) (fun c => absurd c (fun q => q (by decide)))
      refine v_blk g [.iload_n 2] (pc' := 57) (lv' := [(3, .int 2), (2, .int (nI (10 * d + d2))), (1, .int (2 : Int32)), (0, .ref a)]) (st' := [.int (nI (10 * d + d2))]) (by decide +kernel) rfl rfl ?_
      exact v_iret g z rfl (by decide +kernel) (Or.inr ⟨c, by rw [numv, hdg, if_pos rfl, dgv, dgv, ev, ev2], by rw [eh2, eh1, z_ss, hdg]⟩) (zcrn 0 0 h2_c.1 h2_c.2 (Nat.le_of_ble_eq_true rfl) (Nat.le_of_ble_eq_true rfl))
  · have c : dg (txt B n) p = 0 := (nI_eq (b := 0) (by have := dg_le (txt B n) p; omega) (by decide)).mp cc9
    refine v_blk g [.iconst (-1)] (pc' := 10) (lv' := [(1, .int (nI (dg (txt B n) p))), (0, .ref a)]) (st' := [.int (-1 : Int32)]) (by decide +kernel) rfl rfl ?_
    exact v_iret g z rfl (by decide +kernel) (Or.inl ⟨c, rfl, rfl⟩) (zcrn 0 0 rfl rfl (Nat.le_of_ble_eq_true rfl) (Nat.le_of_ble_eq_true rfl))
