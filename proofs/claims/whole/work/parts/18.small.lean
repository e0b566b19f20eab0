/-! small leaves: Tape, Dividend, Coupon, tests -/
def x_isIn (v lo hi : Int32) : Int32 := if v < lo then 0 else if hi < v then 0 else 1
def x_goals (a b : Int32) : Int32 := if a = b then (if ¬ a = 0 then 3 else 2) else if a ≤ b then 1 else 0
def x_digit (v : Int32) : Int32 := if v < 48 then 0 else if 57 < v then 0 else 1
def x_sign (v : Int32) : Int32 := if v = 124 then 1 else if v = 38 then 1 else if ¬ v = 45 then 0 else 1
def bt8 (v s : Int32) : Int32 := (v.toUInt32 >>> (s.toUInt32 &&& Int32.toUInt32 31)).toInt32 &&& 255
def ap4 (B : Nat → Int32) (n : Nat) (v : Int32) : Nat → Int32 := upd (upd (upd (upd B n (bt8 v 24)) (n + 1) (bt8 v 16)) (n + 2) (bt8 v 8)) (n + 3) (bt8 v 0)
theorem z_s2 {h : zH} {a b : Nat} (x1 x2 y1 y2 : zE) (hab : a ≠ b) : z_s (z_s (z_s (z_s h a x1) b y1) a x2) b y2 = z_s (z_s h a x2) b y2 := by
  rw [z_scomm _ y1 x2 (Ne.symm hab), z_ss, z_ss]
def x_byteAt (B : Nat → Int32) (n : Nat) (v : Int32) : Int32 := if v < 0 then -1 else if nI n ≤ v then -1 else B v.toNatClampNeg

set_option maxRecDepth 100000 in
set_option maxHeartbeats 4000000 in
theorem c_isIn {F : zF} {h : zH} (v lo hi : Int32) : zMet F yX7_isIn cX7_isIn 3 (some .boolean) { frames := 1, cells := 0, slots := 0, locals := 30 } [.int v, .int lo, .int hi] h (zP h (some (.int (x_isIn v lo hi)))) := by
  refine zMet_of (lv := [(0, .int v), (1, .int lo), (2, .int hi)]) (by decide) (by simp [lg_sl, Value.category]) rfl ?_
  intro X g z
  refine v_blk g [.iload_n 0, .iload_n 1] (pc' := 2) (lv' := [(0, .int v), (1, .int lo), (2, .int hi)]) (st' := [.int lo, .int v]) (by decide +kernel) rfl rfl ?_
  refine v_icmp_lt g (off := 12) (tgt := 14) (by decide +kernel) (by decide) (fun c0 => ?_) (fun c0 => ?_)
  · refine v_blk g [.iconst 0] (pc' := 15) (lv' := [(0, .int v), (1, .int lo), (2, .int hi)]) (st' := [.int (0 : Int32)]) (by decide +kernel) rfl rfl ?_
    exact v_zret g z rfl (by decide) (by decide +kernel) ⟨by simp [x_isIn, c0], rfl⟩ (zcrn 0 0 rfl rfl (Nat.le_of_ble_eq_true rfl) (Nat.le_of_ble_eq_true rfl))
  · refine v_blk g [.iload_n 0, .iload_n 2] (pc' := 7) (lv' := [(0, .int v), (1, .int lo), (2, .int hi)]) (st' := [.int hi, .int v]) (by decide +kernel) rfl rfl ?_
    refine v_icmp_gt g (off := 7) (tgt := 14) (by decide +kernel) (by decide) (fun c1 => ?_) (fun c1 => ?_)
    · refine v_blk g [.iconst 0] (pc' := 15) (lv' := [(0, .int v), (1, .int lo), (2, .int hi)]) (st' := [.int (0 : Int32)]) (by decide +kernel) rfl rfl ?_
      exact v_zret g z rfl (by decide) (by decide +kernel) ⟨by simp [x_isIn, c0, c1], rfl⟩ (zcrn 0 0 rfl rfl (Nat.le_of_ble_eq_true rfl) (Nat.le_of_ble_eq_true rfl))
    · refine v_blk g [.iconst 1] (pc' := 11) (lv' := [(0, .int v), (1, .int lo), (2, .int hi)]) (st' := [.int (1 : Int32)]) (by decide +kernel) rfl rfl ?_
      refine v_goto g (off := 4) (tgt := 15) (by decide +kernel) (by decide) ?_
      exact v_zret g z rfl (by decide) (by decide +kernel) ⟨by simp [x_isIn, c0, c1], rfl⟩ (zcrn 0 0 rfl rfl (Nat.le_of_ble_eq_true rfl) (Nat.le_of_ble_eq_true rfl))

set_option maxRecDepth 100000 in
set_option maxHeartbeats 4000000 in
theorem c_goals {F : zF} {h : zH} (a b : Int32) : zMet F yX7_outcomeOfGoals cX7_outcomeOfGoals 2 (some .int) { frames := 1, cells := 0, slots := 0, locals := 30 } [.int a, .int b] h (zP h (some (.int (x_goals a b)))) := by
  refine zMet_of (lv := [(0, .int a), (1, .int b)]) (by decide) (by simp [lg_sl, Value.category]) rfl ?_
  intro X g z
  refine v_blk g [.iload_n 0, .iload_n 1] (pc' := 2) (lv' := [(0, .int a), (1, .int b)]) (st' := [.int b, .int a]) (by decide +kernel) rfl rfl ?_
  refine v_icmp_eq g (off := 14) (tgt := 16) (by decide +kernel) (by decide) (fun c0 => ?_) (fun c0 => ?_)
  · refine v_blk g [.iload_n 0] (pc' := 17) (lv' := [(0, .int a), (1, .int b)]) (st' := [.int a]) (by decide +kernel) rfl rfl ?_
    refine v_if_ne g (off := 7) (tgt := 24) (by decide +kernel) (by decide) (fun c1 => ?_) (fun c1 => ?_)
    · refine v_blk g [.iconst 3] (pc' := 25) (lv' := [(0, .int a), (1, .int b)]) (st' := [.int (3 : Int32)]) (by decide +kernel) rfl rfl ?_
      exact v_iret g z rfl (by decide +kernel) ⟨by simp_all [x_goals], rfl⟩ (zcrn 0 0 rfl rfl (Nat.le_of_ble_eq_true rfl) (Nat.le_of_ble_eq_true rfl))
    · refine v_blk g [.iconst 2] (pc' := 21) (lv' := [(0, .int a), (1, .int b)]) (st' := [.int (2 : Int32)]) (by decide +kernel) rfl rfl ?_
      refine v_goto g (off := 4) (tgt := 25) (by decide +kernel) (by decide) ?_
      exact v_iret g z rfl (by decide +kernel) ⟨by simp_all [x_goals], rfl⟩ (zcrn 0 0 rfl rfl (Nat.le_of_ble_eq_true rfl) (Nat.le_of_ble_eq_true rfl))
  · refine v_blk g [.iload_n 0, .iload_n 1] (pc' := 7) (lv' := [(0, .int a), (1, .int b)]) (st' := [.int b, .int a]) (by decide +kernel) rfl rfl ?_
    refine v_icmp_le g (off := 7) (tgt := 14) (by decide +kernel) (by decide) (fun c1 => ?_) (fun c1 => ?_)
    · refine v_blk g [.iconst 1] (pc' := 15) (lv' := [(0, .int a), (1, .int b)]) (st' := [.int (1 : Int32)]) (by decide +kernel) rfl rfl ?_
      exact v_iret g z rfl (by decide +kernel) ⟨by simp_all [x_goals], rfl⟩ (zcrn 0 0 rfl rfl (Nat.le_of_ble_eq_true rfl) (Nat.le_of_ble_eq_true rfl))
    · refine v_blk g [.iconst 0] (pc' := 11) (lv' := [(0, .int a), (1, .int b)]) (st' := [.int (0 : Int32)]) (by decide +kernel) rfl rfl ?_
      refine v_goto g (off := 4) (tgt := 15) (by decide +kernel) (by decide) ?_
      exact v_iret g z rfl (by decide +kernel) ⟨by simp_all [x_goals], rfl⟩ (zcrn 0 0 rfl rfl (Nat.le_of_ble_eq_true rfl) (Nat.le_of_ble_eq_true rfl))

set_option maxRecDepth 100000 in
set_option maxHeartbeats 4000000 in
theorem c_isDigit {F : zF} {h : zH} (v : Int32) : zMet F yX4_isDigit cX4_isDigit 1 (some .boolean) { frames := 1, cells := 0, slots := 0, locals := 30 } [.int v] h (zP h (some (.int (x_digit v)))) := by
  refine zMet_of (lv := [(0, .int v)]) (by decide) (by simp [lg_sl, Value.category]) rfl ?_
  intro X g z
  refine v_blk g [.iload_n 0, .bipush 48] (pc' := 3) (lv' := [(0, .int v)]) (st' := [.int (48 : Int32), .int v]) (by decide +kernel) rfl rfl ?_
  refine v_icmp_lt g (off := 13) (tgt := 16) (by decide +kernel) (by decide) (fun c0 => ?_) (fun c0 => ?_)
  · refine v_blk g [.iconst 0] (pc' := 17) (lv' := [(0, .int v)]) (st' := [.int (0 : Int32)]) (by decide +kernel) rfl rfl ?_
    exact v_zret g z rfl (by decide) (by decide +kernel) ⟨by simp [x_digit, c0], rfl⟩ (zcrn 0 0 rfl rfl (Nat.le_of_ble_eq_true rfl) (Nat.le_of_ble_eq_true rfl))
  · refine v_blk g [.iload_n 0, .bipush 57] (pc' := 9) (lv' := [(0, .int v)]) (st' := [.int (57 : Int32), .int v]) (by decide +kernel) rfl rfl ?_
    refine v_icmp_gt g (off := 7) (tgt := 16) (by decide +kernel) (by decide) (fun c1 => ?_) (fun c1 => ?_)
    · refine v_blk g [.iconst 0] (pc' := 17) (lv' := [(0, .int v)]) (st' := [.int (0 : Int32)]) (by decide +kernel) rfl rfl ?_
      exact v_zret g z rfl (by decide) (by decide +kernel) ⟨by simp [x_digit, c0, c1], rfl⟩ (zcrn 0 0 rfl rfl (Nat.le_of_ble_eq_true rfl) (Nat.le_of_ble_eq_true rfl))
    · refine v_blk g [.iconst 1] (pc' := 13) (lv' := [(0, .int v)]) (st' := [.int (1 : Int32)]) (by decide +kernel) rfl rfl ?_
      refine v_goto g (off := 4) (tgt := 17) (by decide +kernel) (by decide) ?_
      exact v_zret g z rfl (by decide) (by decide +kernel) ⟨by simp [x_digit, c0, c1], rfl⟩ (zcrn 0 0 rfl rfl (Nat.le_of_ble_eq_true rfl) (Nat.le_of_ble_eq_true rfl))

set_option maxRecDepth 100000 in
set_option maxHeartbeats 4000000 in
theorem c_isSetSign {F : zF} {h : zH} (v : Int32) : zMet F yX4_isSetSign cX4_isSetSign 1 (some .boolean) { frames := 1, cells := 0, slots := 0, locals := 30 } [.int v] h (zP h (some (.int (x_sign v)))) := by
  refine zMet_of (lv := [(0, .int v)]) (by decide) (by simp [lg_sl, Value.category]) rfl ?_
  intro X g z
  refine v_blk g [.iload_n 0, .bipush 124] (pc' := 3) (lv' := [(0, .int v)]) (st' := [.int (124 : Int32), .int v]) (by decide +kernel) rfl rfl ?_
  refine v_icmp_eq g (off := 15) (tgt := 18) (by decide +kernel) (by decide) (fun c0 => ?_) (fun c0 => ?_)
  · refine v_blk g [.iconst 1] (pc' := 19) (lv' := [(0, .int v)]) (st' := [.int (1 : Int32)]) (by decide +kernel) rfl rfl ?_
    refine v_goto g (off := 4) (tgt := 23) (by decide +kernel) (by decide) ?_
    exact v_zret g z rfl (by decide) (by decide +kernel) ⟨by simp [x_sign, c0], rfl⟩ (zcrn 0 0 rfl rfl (Nat.le_of_ble_eq_true rfl) (Nat.le_of_ble_eq_true rfl))
  · refine v_blk g [.iload_n 0, .bipush 38] (pc' := 9) (lv' := [(0, .int v)]) (st' := [.int (38 : Int32), .int v]) (by decide +kernel) rfl rfl ?_
    refine v_icmp_eq g (off := 9) (tgt := 18) (by decide +kernel) (by decide) (fun c1 => ?_) (fun c1 => ?_)
    · refine v_blk g [.iconst 1] (pc' := 19) (lv' := [(0, .int v)]) (st' := [.int (1 : Int32)]) (by decide +kernel) rfl rfl ?_
      refine v_goto g (off := 4) (tgt := 23) (by decide +kernel) (by decide) ?_
      exact v_zret g z rfl (by decide) (by decide +kernel) ⟨by simp [x_sign, c0, c1], rfl⟩ (zcrn 0 0 rfl rfl (Nat.le_of_ble_eq_true rfl) (Nat.le_of_ble_eq_true rfl))
    · refine v_blk g [.iload_n 0, .bipush 45] (pc' := 15) (lv' := [(0, .int v)]) (st' := [.int (45 : Int32), .int v]) (by decide +kernel) rfl rfl ?_
      refine v_icmp_ne g (off := 7) (tgt := 22) (by decide +kernel) (by decide) (fun c2 => ?_) (fun c2 => ?_)
      · refine v_blk g [.iconst 0] (pc' := 23) (lv' := [(0, .int v)]) (st' := [.int (0 : Int32)]) (by decide +kernel) rfl rfl ?_
        exact v_zret g z rfl (by decide) (by decide +kernel) ⟨by simp [x_sign, c0, c1, c2], rfl⟩ (zcrn 0 0 rfl rfl (Nat.le_of_ble_eq_true rfl) (Nat.le_of_ble_eq_true rfl))
      · refine v_blk g [.iconst 1] (pc' := 19) (lv' := [(0, .int v)]) (st' := [.int (1 : Int32)]) (by decide +kernel) rfl rfl ?_
        refine v_goto g (off := 4) (tgt := 23) (by decide +kernel) (by decide) ?_
        exact v_zret g z rfl (by decide) (by decide +kernel) ⟨by simp [x_sign, c0, c1, c2], rfl⟩ (zcrn 0 0 rfl rfl (Nat.le_of_ble_eq_true rfl) (Nat.le_of_ble_eq_true rfl))

set_option maxRecDepth 100000 in
set_option maxHeartbeats 4000000 in
theorem c_Tape_init {F : zF} {h : zH} {t : Nat} {x : Int32} (ht : h.1 t = some (oB 6 [.null, .int x])) : zMet F yX6_init cX6_init 1 none { frames := 1, cells := 1, slots := 200, locals := 30 } [.ref t] h (fun v h2 => v = none ∧ ∃ q, h.1 q = none ∧ h2 = z_s (z_n h q (aI 200 (fun _ => 0)) 200) t (oB 6 [.ref q, .int 0])) := by
  refine zMet_of (lv := [(0, .ref t)]) (by decide) (by simp [lg_sl, Value.category]) rfl ?_
  intro X g z
  refine v_blk g [.aload_n 0] (pc' := 1) (lv' := [(0, .ref t)]) (st' := [.ref t]) (by decide +kernel) rfl rfl ?_
  refine v_obj g ol_X6_3 (by decide +kernel) ⟨Nat.le_of_ble_eq_true rfl, Nat.le_of_ble_eq_true rfl⟩ (Nat.le_of_ble_eq_true rfl) ?_ ob_i ob_c
  refine v_blk g [.aload_n 0, .sipush 200] (pc' := 8) (lv' := [(0, .ref t)]) (st' := [.int (200 : Int32), .ref t]) (by decide +kernel) rfl rfl ?_
  refine v_newI g 200 rfl (Nat.le_of_ble_eq_true rfl) ac_int (zcsk 0 0 1 200 rfl rfl (Nat.le_of_ble_eq_true rfl) (Nat.le_of_ble_eq_true rfl)) (by decide +kernel) (fun q hq => ?_)
  refine v_h (fun h1 eh1 => ?_)
  have h1_c : h1.2.1 = h.2.1 + 1 ∧ h1.2.2 = h.2.2 + 200 := zcn eh1 ⟨rfl, rfl⟩
  have h1_t : h1.1 t = some (oB 6 [.null, .int x]) := by rw [eh1]; exact z_no ht hq
  have h1_q : h1.1 q = some (aI 200 (fun _ => 0)) := by rw [eh1]; exact z_n_self _ _ _ _
  refine v_putF g (fs' := [.ref q, .int x]) h1_t fl_X6_9 rfl rfl rfl rfl (Nat.le_of_ble_eq_true rfl) rfl (by decide +kernel) ?_
  refine v_h (fun h2 eh2 => ?_)
  have h2_c : h2.2.1 = h.2.1 + 1 ∧ h2.2.2 = h.2.2 + 200 := zcs eh2 h1_c
  have h2_t : h2.1 t = some (oB 6 [.ref q, .int x]) := by rw [eh2]; exact z_s_self _ _ _
  have h2_q : h2.1 q = some (aI 200 (fun _ => 0)) := by rw [eh2]; exact z_so h1_q (z_ne h1_q h1_t rfl)
  refine v_blk g [.aload_n 0, .iconst 0] (pc' := 15) (lv' := [(0, .ref t)]) (st' := [.int (0 : Int32), .ref t]) (by decide +kernel) rfl rfl ?_
  refine v_put g (fs' := [.ref q, .int (0 : Int32)]) h2_t fl_X6_15 rfl rfl (Nat.le_of_ble_eq_true rfl) rfl (by decide +kernel) ?_
  refine v_h (fun h3 eh3 => ?_)
  have h3_c : h3.2.1 = h.2.1 + 1 ∧ h3.2.2 = h.2.2 + 200 := zcs eh3 h2_c
  have h3_t : h3.1 t = some (oB 6 [.ref q, .int (0 : Int32)]) := by rw [eh3]; exact z_s_self _ _ _
  have h3_q : h3.1 q = some (aI 200 (fun _ => 0)) := by rw [eh3]; exact z_so h2_q (z_ne h2_q h2_t rfl)
  exact v_vret g z rfl (by decide +kernel) ⟨rfl, q, hq, by rw [eh3, eh2, eh1, z_ss]⟩ (zcrn 1 200 h3_c.1 h3_c.2 (Nat.le_of_ble_eq_true rfl) (Nat.le_of_ble_eq_true rfl))

set_option maxRecDepth 100000 in
set_option maxHeartbeats 4000000 in
theorem c_Tape_room {F : zF} {h : zH} {t tb n : Nat} {B : Nat → Int32} (ht : h.1 t = some (oB 6 [.ref tb, .int (nI n)])) (hb : h.1 tb = some (aI 200 B)) : zMet F yX6_hasRoomForFive cX6_hasRoomForFive 1 (some .boolean) { frames := 1, cells := 0, slots := 0, locals := 30 } [.ref t] h (zP h (some (.int (if (180 : Int32) < nI n then 0 else 1)))) := by
  refine zMet_of (lv := [(0, .ref t)]) (by decide) (by simp [lg_sl, Value.category]) rfl ?_
  intro X g z
  refine v_blk g [.aload_n 0] (pc' := 1) (lv' := [(0, .ref t)]) (st' := [.ref t]) (by decide +kernel) rfl rfl ?_
  refine v_get g ht fl_X6_15 rfl (by decide +kernel) ?_
  refine v_blk g [.sipush 180] (pc' := 7) (lv' := [(0, .ref t)]) (st' := [.int (180 : Int32), .int (nI n)]) (by decide +kernel) rfl rfl ?_
  refine v_icmp_gt g (off := 7) (tgt := 14) (by decide +kernel) (by decide) (fun c0 => ?_) (fun c0 => ?_)
  · refine v_blk g [.iconst 0] (pc' := 15) (lv' := [(0, .ref t)]) (st' := [.int (0 : Int32)]) (by decide +kernel) rfl rfl ?_
    exact v_zret g z rfl (by decide) (by decide +kernel) ⟨by simp [c0], rfl⟩ (zcrn 0 0 rfl rfl (Nat.le_of_ble_eq_true rfl) (Nat.le_of_ble_eq_true rfl))
  · refine v_blk g [.iconst 1] (pc' := 11) (lv' := [(0, .ref t)]) (st' := [.int (1 : Int32)]) (by decide +kernel) rfl rfl ?_
    refine v_goto g (off := 4) (tgt := 15) (by decide +kernel) (by decide) ?_
    exact v_zret g z rfl (by decide) (by decide +kernel) ⟨by simp [c0], rfl⟩ (zcrn 0 0 rfl rfl (Nat.le_of_ble_eq_true rfl) (Nat.le_of_ble_eq_true rfl))

set_option maxRecDepth 100000 in
set_option maxHeartbeats 4000000 in
theorem c_Tape_append {F : zF} {h : zH} {t tb n : Nat} {B : Nat → Int32} (ht : h.1 t = some (oB 6 [.ref tb, .int (nI n)])) (hb : h.1 tb = some (aI 200 B)) (v : Int32) (hn : n + 4 ≤ 200) : zMet F yX6_append cX6_append 3 none { frames := 1, cells := 0, slots := 0, locals := 30 } [.ref t, .int v] h (zP (z_s (z_s h tb (aI 200 (ap4 B n v))) t (oB 6 [.ref tb, .int (nI (n + 4))])) none) := by
  refine zMet_of (lv := [(0, .ref t), (1, .int v)]) (by decide) (by simp [lg_sl, Value.category]) rfl ?_
  intro X g z
  refine v_blk g [.bipush 24, .istore_n 2] (pc' := 3) (lv' := [(2, .int (24 : Int32)), (0, .ref t), (1, .int v)]) (st' := []) (by decide +kernel) rfl rfl ?_
  refine v_blk g [.iload_n 2] (pc' := 4) (lv' := [(2, .int (24 : Int32)), (0, .ref t), (1, .int v)]) (st' := [.int (24 : Int32)]) (by decide +kernel) rfl rfl ?_
  refine v_if_lt g (off := 45) (tgt := 49) (by decide +kernel) (by decide) (fun c => absurd c (by decide)) (fun _ => ?_)
  refine v_blk g [.aload_n 0] (pc' := 8) (lv' := [(2, .int (24 : Int32)), (0, .ref t), (1, .int v)]) (st' := [.ref t]) (by decide +kernel) rfl rfl ?_
  refine v_get g ht fl_X6_15 rfl (by decide +kernel) ?_
  refine v_blk g [.sipush 200] (pc' := 14) (lv' := [(2, .int (24 : Int32)), (0, .ref t), (1, .int v)]) (st' := [.int (200 : Int32), .int (nI n)]) (by decide +kernel) rfl rfl ?_
  refine v_icmp_ge g (off := 35) (tgt := 49) (by decide +kernel) (by decide) (fun c => absurd c (nI_ge (b := 200) (by omega) (by decide))) (fun _ => ?_)
  refine v_blk g [.aload_n 0] (pc' := 18) (lv' := [(2, .int (24 : Int32)), (0, .ref t), (1, .int v)]) (st' := [.ref t]) (by decide +kernel) rfl rfl ?_
  refine v_get g ht fl_X6_9 rfl (by decide +kernel) ?_
  refine v_blk g [.aload_n 0] (pc' := 22) (lv' := [(2, .int (24 : Int32)), (0, .ref t), (1, .int v)]) (st' := [.ref t, .ref tb]) (by decide +kernel) rfl rfl ?_
  refine v_get g ht fl_X6_15 rfl (by decide +kernel) ?_
  refine v_blk g [.iload_n 1, .iload_n 2, .iushr, .sipush 255, .iand] (pc' := 32) (lv' := [(2, .int (24 : Int32)), (0, .ref t), (1, .int v)]) (st' := [.int (((v.toUInt32 >>> ((24 : Int32).toUInt32 &&& Int32.toUInt32 31)).toInt32) &&& (255 : Int32)), .int (nI n), .ref tb]) (by decide +kernel) rfl rfl ?_
  refine v_eq (lv' := [(2, .int (24 : Int32)), (0, .ref t), (1, .int v)]) (st' := [.int (bt8 v 24), .int (nI n), .ref tb]) rfl rfl ?_
  refine v_iast g hb n rfl (by omega) (Nat.le_of_ble_eq_true rfl) (by decide +kernel) ?_
  refine v_h (fun h1 eh1 => ?_)
  have h1_c : h1.2.1 = h.2.1 + 0 ∧ h1.2.2 = h.2.2 + 0 := zcs eh1 ⟨rfl, rfl⟩
  have h1_t : h1.1 t = some (oB 6 [.ref tb, .int (nI n)]) := by rw [eh1]; exact z_so ht (z_ne ht hb rfl)
  have h1_tb : h1.1 tb = some (aI 200 (upd B n (bt8 v 24))) := by rw [eh1]; exact z_s_self _ _ _
  refine v_blk g [.aload_n 0, .dup] (pc' := 35) (lv' := [(2, .int (24 : Int32)), (0, .ref t), (1, .int v)]) (st' := [.ref t, .ref t]) (by decide +kernel) rfl rfl ?_
  refine v_get g h1_t fl_X6_15 rfl (by decide +kernel) ?_
  refine v_blk g [.iconst 1, .iadd] (pc' := 40) (lv' := [(2, .int (24 : Int32)), (0, .ref t), (1, .int v)]) (st' := [.int ((nI n) + (1 : Int32)), .ref t]) (by decide +kernel) rfl rfl ?_
  refine v_eq (lv' := [(2, .int (24 : Int32)), (0, .ref t), (1, .int v)]) (st' := [.int (nI (n + 1)), .ref t]) rfl (by rw [nI_1]) ?_
  refine v_put g (fs' := [.ref tb, .int (nI (n + 1))]) h1_t fl_X6_15 rfl rfl (Nat.le_of_ble_eq_true rfl) rfl (by decide +kernel) ?_
  refine v_h (fun h2 eh2 => ?_)
  have h2_c : h2.2.1 = h.2.1 + 0 ∧ h2.2.2 = h.2.2 + 0 := zcs eh2 h1_c
  have h2_t : h2.1 t = some (oB 6 [.ref tb, .int (nI (n + 1))]) := by rw [eh2]; exact z_s_self _ _ _
  have h2_tb : h2.1 tb = some (aI 200 (upd B n (bt8 v 24))) := by rw [eh2]; exact z_so h1_tb (Ne.symm (z_ne ht hb rfl))
  refine v_blk g [.iinc 2 (-8)] (pc' := 46) (lv' := [(2, .int ((24 : Int32) + (-8 : Int32))), (0, .ref t), (1, .int v)]) (st' := []) (by decide +kernel) rfl rfl ?_
  refine v_goto g (off := -43) (tgt := 3) (by decide +kernel) (by decide) ?_
  refine v_eq (lv' := [(2, .int (16 : Int32)), (0, .ref t), (1, .int v)]) (st' := []) rfl rfl ?_
  refine v_blk g [.iload_n 2] (pc' := 4) (lv' := [(2, .int (16 : Int32)), (0, .ref t), (1, .int v)]) (st' := [.int (16 : Int32)]) (by decide +kernel) rfl rfl ?_
  refine v_if_lt g (off := 45) (tgt := 49) (by decide +kernel) (by decide) (fun c => absurd c (by decide)) (fun _ => ?_)
  refine v_blk g [.aload_n 0] (pc' := 8) (lv' := [(2, .int (16 : Int32)), (0, .ref t), (1, .int v)]) (st' := [.ref t]) (by decide +kernel) rfl rfl ?_
  refine v_get g h2_t fl_X6_15 rfl (by decide +kernel) ?_
  refine v_blk g [.sipush 200] (pc' := 14) (lv' := [(2, .int (16 : Int32)), (0, .ref t), (1, .int v)]) (st' := [.int (200 : Int32), .int (nI (n + 1))]) (by decide +kernel) rfl rfl ?_
  refine v_icmp_ge g (off := 35) (tgt := 49) (by decide +kernel) (by decide) (fun c => absurd c (nI_ge (b := 200) (by omega) (by decide))) (fun _ => ?_)
  refine v_blk g [.aload_n 0] (pc' := 18) (lv' := [(2, .int (16 : Int32)), (0, .ref t), (1, .int v)]) (st' := [.ref t]) (by decide +kernel) rfl rfl ?_
  refine v_get g h2_t fl_X6_9 rfl (by decide +kernel) ?_
  refine v_blk g [.aload_n 0] (pc' := 22) (lv' := [(2, .int (16 : Int32)), (0, .ref t), (1, .int v)]) (st' := [.ref t, .ref tb]) (by decide +kernel) rfl rfl ?_
  refine v_get g h2_t fl_X6_15 rfl (by decide +kernel) ?_
  refine v_blk g [.iload_n 1, .iload_n 2, .iushr, .sipush 255, .iand] (pc' := 32) (lv' := [(2, .int (16 : Int32)), (0, .ref t), (1, .int v)]) (st' := [.int (((v.toUInt32 >>> ((16 : Int32).toUInt32 &&& Int32.toUInt32 31)).toInt32) &&& (255 : Int32)), .int (nI (n + 1)), .ref tb]) (by decide +kernel) rfl rfl ?_
  refine v_eq (lv' := [(2, .int (16 : Int32)), (0, .ref t), (1, .int v)]) (st' := [.int (bt8 v 16), .int (nI (n + 1)), .ref tb]) rfl rfl ?_
  refine v_iast g h2_tb (n + 1) rfl (by omega) (Nat.le_of_ble_eq_true rfl) (by decide +kernel) ?_
  refine v_h (fun h3 eh3 => ?_)
  have h3_c : h3.2.1 = h.2.1 + 0 ∧ h3.2.2 = h.2.2 + 0 := zcs eh3 h2_c
  have h3_t : h3.1 t = some (oB 6 [.ref tb, .int (nI (n + 1))]) := by rw [eh3]; exact z_so h2_t (z_ne ht hb rfl)
  have h3_tb : h3.1 tb = some (aI 200 (upd (upd B n (bt8 v 24)) (n + 1) (bt8 v 16))) := by rw [eh3]; exact z_s_self _ _ _
  refine v_blk g [.aload_n 0, .dup] (pc' := 35) (lv' := [(2, .int (16 : Int32)), (0, .ref t), (1, .int v)]) (st' := [.ref t, .ref t]) (by decide +kernel) rfl rfl ?_
  refine v_get g h3_t fl_X6_15 rfl (by decide +kernel) ?_
  refine v_blk g [.iconst 1, .iadd] (pc' := 40) (lv' := [(2, .int (16 : Int32)), (0, .ref t), (1, .int v)]) (st' := [.int ((nI (n + 1)) + (1 : Int32)), .ref t]) (by decide +kernel) rfl rfl ?_
  refine v_eq (lv' := [(2, .int (16 : Int32)), (0, .ref t), (1, .int v)]) (st' := [.int (nI (n + 2)), .ref t]) rfl (by rw [nI_1]) ?_
  refine v_put g (fs' := [.ref tb, .int (nI (n + 2))]) h3_t fl_X6_15 rfl rfl (Nat.le_of_ble_eq_true rfl) rfl (by decide +kernel) ?_
  refine v_h (fun h4 eh4 => ?_)
  have h4_c : h4.2.1 = h.2.1 + 0 ∧ h4.2.2 = h.2.2 + 0 := zcs eh4 h3_c
  have h4_t : h4.1 t = some (oB 6 [.ref tb, .int (nI (n + 2))]) := by rw [eh4]; exact z_s_self _ _ _
  have h4_tb : h4.1 tb = some (aI 200 (upd (upd B n (bt8 v 24)) (n + 1) (bt8 v 16))) := by rw [eh4]; exact z_so h3_tb (Ne.symm (z_ne ht hb rfl))
  refine v_blk g [.iinc 2 (-8)] (pc' := 46) (lv' := [(2, .int ((16 : Int32) + (-8 : Int32))), (0, .ref t), (1, .int v)]) (st' := []) (by decide +kernel) rfl rfl ?_
  refine v_goto g (off := -43) (tgt := 3) (by decide +kernel) (by decide) ?_
  refine v_eq (lv' := [(2, .int (8 : Int32)), (0, .ref t), (1, .int v)]) (st' := []) rfl rfl ?_
  refine v_blk g [.iload_n 2] (pc' := 4) (lv' := [(2, .int (8 : Int32)), (0, .ref t), (1, .int v)]) (st' := [.int (8 : Int32)]) (by decide +kernel) rfl rfl ?_
  refine v_if_lt g (off := 45) (tgt := 49) (by decide +kernel) (by decide) (fun c => absurd c (by decide)) (fun _ => ?_)
  refine v_blk g [.aload_n 0] (pc' := 8) (lv' := [(2, .int (8 : Int32)), (0, .ref t), (1, .int v)]) (st' := [.ref t]) (by decide +kernel) rfl rfl ?_
  refine v_get g h4_t fl_X6_15 rfl (by decide +kernel) ?_
  refine v_blk g [.sipush 200] (pc' := 14) (lv' := [(2, .int (8 : Int32)), (0, .ref t), (1, .int v)]) (st' := [.int (200 : Int32), .int (nI (n + 2))]) (by decide +kernel) rfl rfl ?_
  refine v_icmp_ge g (off := 35) (tgt := 49) (by decide +kernel) (by decide) (fun c => absurd c (nI_ge (b := 200) (by omega) (by decide))) (fun _ => ?_)
  refine v_blk g [.aload_n 0] (pc' := 18) (lv' := [(2, .int (8 : Int32)), (0, .ref t), (1, .int v)]) (st' := [.ref t]) (by decide +kernel) rfl rfl ?_
  refine v_get g h4_t fl_X6_9 rfl (by decide +kernel) ?_
  refine v_blk g [.aload_n 0] (pc' := 22) (lv' := [(2, .int (8 : Int32)), (0, .ref t), (1, .int v)]) (st' := [.ref t, .ref tb]) (by decide +kernel) rfl rfl ?_
  refine v_get g h4_t fl_X6_15 rfl (by decide +kernel) ?_
  refine v_blk g [.iload_n 1, .iload_n 2, .iushr, .sipush 255, .iand] (pc' := 32) (lv' := [(2, .int (8 : Int32)), (0, .ref t), (1, .int v)]) (st' := [.int (((v.toUInt32 >>> ((8 : Int32).toUInt32 &&& Int32.toUInt32 31)).toInt32) &&& (255 : Int32)), .int (nI (n + 2)), .ref tb]) (by decide +kernel) rfl rfl ?_
  refine v_eq (lv' := [(2, .int (8 : Int32)), (0, .ref t), (1, .int v)]) (st' := [.int (bt8 v 8), .int (nI (n + 2)), .ref tb]) rfl rfl ?_
  refine v_iast g h4_tb (n + 2) rfl (by omega) (Nat.le_of_ble_eq_true rfl) (by decide +kernel) ?_
  refine v_h (fun h5 eh5 => ?_)
  have h5_c : h5.2.1 = h.2.1 + 0 ∧ h5.2.2 = h.2.2 + 0 := zcs eh5 h4_c
  have h5_t : h5.1 t = some (oB 6 [.ref tb, .int (nI (n + 2))]) := by rw [eh5]; exact z_so h4_t (z_ne ht hb rfl)
  have h5_tb : h5.1 tb = some (aI 200 (upd (upd (upd B n (bt8 v 24)) (n + 1) (bt8 v 16)) (n + 2) (bt8 v 8))) := by rw [eh5]; exact z_s_self _ _ _
  refine v_blk g [.aload_n 0, .dup] (pc' := 35) (lv' := [(2, .int (8 : Int32)), (0, .ref t), (1, .int v)]) (st' := [.ref t, .ref t]) (by decide +kernel) rfl rfl ?_
  refine v_get g h5_t fl_X6_15 rfl (by decide +kernel) ?_
  refine v_blk g [.iconst 1, .iadd] (pc' := 40) (lv' := [(2, .int (8 : Int32)), (0, .ref t), (1, .int v)]) (st' := [.int ((nI (n + 2)) + (1 : Int32)), .ref t]) (by decide +kernel) rfl rfl ?_
  refine v_eq (lv' := [(2, .int (8 : Int32)), (0, .ref t), (1, .int v)]) (st' := [.int (nI (n + 3)), .ref t]) rfl (by rw [nI_1]) ?_
  refine v_put g (fs' := [.ref tb, .int (nI (n + 3))]) h5_t fl_X6_15 rfl rfl (Nat.le_of_ble_eq_true rfl) rfl (by decide +kernel) ?_
  refine v_h (fun h6 eh6 => ?_)
  have h6_c : h6.2.1 = h.2.1 + 0 ∧ h6.2.2 = h.2.2 + 0 := zcs eh6 h5_c
  have h6_t : h6.1 t = some (oB 6 [.ref tb, .int (nI (n + 3))]) := by rw [eh6]; exact z_s_self _ _ _
  have h6_tb : h6.1 tb = some (aI 200 (upd (upd (upd B n (bt8 v 24)) (n + 1) (bt8 v 16)) (n + 2) (bt8 v 8))) := by rw [eh6]; exact z_so h5_tb (Ne.symm (z_ne ht hb rfl))
  refine v_blk g [.iinc 2 (-8)] (pc' := 46) (lv' := [(2, .int ((8 : Int32) + (-8 : Int32))), (0, .ref t), (1, .int v)]) (st' := []) (by decide +kernel) rfl rfl ?_
  refine v_goto g (off := -43) (tgt := 3) (by decide +kernel) (by decide) ?_
  refine v_eq (lv' := [(2, .int (0 : Int32)), (0, .ref t), (1, .int v)]) (st' := []) rfl rfl ?_
  refine v_blk g [.iload_n 2] (pc' := 4) (lv' := [(2, .int (0 : Int32)), (0, .ref t), (1, .int v)]) (st' := [.int (0 : Int32)]) (by decide +kernel) rfl rfl ?_
  refine v_if_lt g (off := 45) (tgt := 49) (by decide +kernel) (by decide) (fun c => absurd c (by decide)) (fun _ => ?_)
  refine v_blk g [.aload_n 0] (pc' := 8) (lv' := [(2, .int (0 : Int32)), (0, .ref t), (1, .int v)]) (st' := [.ref t]) (by decide +kernel) rfl rfl ?_
  refine v_get g h6_t fl_X6_15 rfl (by decide +kernel) ?_
  refine v_blk g [.sipush 200] (pc' := 14) (lv' := [(2, .int (0 : Int32)), (0, .ref t), (1, .int v)]) (st' := [.int (200 : Int32), .int (nI (n + 3))]) (by decide +kernel) rfl rfl ?_
  refine v_icmp_ge g (off := 35) (tgt := 49) (by decide +kernel) (by decide) (fun c => absurd c (nI_ge (b := 200) (by omega) (by decide))) (fun _ => ?_)
  refine v_blk g [.aload_n 0] (pc' := 18) (lv' := [(2, .int (0 : Int32)), (0, .ref t), (1, .int v)]) (st' := [.ref t]) (by decide +kernel) rfl rfl ?_
  refine v_get g h6_t fl_X6_9 rfl (by decide +kernel) ?_
  refine v_blk g [.aload_n 0] (pc' := 22) (lv' := [(2, .int (0 : Int32)), (0, .ref t), (1, .int v)]) (st' := [.ref t, .ref tb]) (by decide +kernel) rfl rfl ?_
  refine v_get g h6_t fl_X6_15 rfl (by decide +kernel) ?_
  refine v_blk g [.iload_n 1, .iload_n 2, .iushr, .sipush 255, .iand] (pc' := 32) (lv' := [(2, .int (0 : Int32)), (0, .ref t), (1, .int v)]) (st' := [.int (((v.toUInt32 >>> ((0 : Int32).toUInt32 &&& Int32.toUInt32 31)).toInt32) &&& (255 : Int32)), .int (nI (n + 3)), .ref tb]) (by decide +kernel) rfl rfl ?_
  refine v_eq (lv' := [(2, .int (0 : Int32)), (0, .ref t), (1, .int v)]) (st' := [.int (bt8 v 0), .int (nI (n + 3)), .ref tb]) rfl rfl ?_
  refine v_iast g h6_tb (n + 3) rfl (by omega) (Nat.le_of_ble_eq_true rfl) (by decide +kernel) ?_
  refine v_h (fun h7 eh7 => ?_)
  have h7_c : h7.2.1 = h.2.1 + 0 ∧ h7.2.2 = h.2.2 + 0 := zcs eh7 h6_c
  have h7_t : h7.1 t = some (oB 6 [.ref tb, .int (nI (n + 3))]) := by rw [eh7]; exact z_so h6_t (z_ne ht hb rfl)
  have h7_tb : h7.1 tb = some (aI 200 (upd (upd (upd (upd B n (bt8 v 24)) (n + 1) (bt8 v 16)) (n + 2) (bt8 v 8)) (n + 3) (bt8 v 0))) := by rw [eh7]; exact z_s_self _ _ _
  refine v_blk g [.aload_n 0, .dup] (pc' := 35) (lv' := [(2, .int (0 : Int32)), (0, .ref t), (1, .int v)]) (st' := [.ref t, .ref t]) (by decide +kernel) rfl rfl ?_
  refine v_get g h7_t fl_X6_15 rfl (by decide +kernel) ?_
  refine v_blk g [.iconst 1, .iadd] (pc' := 40) (lv' := [(2, .int (0 : Int32)), (0, .ref t), (1, .int v)]) (st' := [.int ((nI (n + 3)) + (1 : Int32)), .ref t]) (by decide +kernel) rfl rfl ?_
  refine v_eq (lv' := [(2, .int (0 : Int32)), (0, .ref t), (1, .int v)]) (st' := [.int (nI (n + 4)), .ref t]) rfl (by rw [nI_1]) ?_
  refine v_put g (fs' := [.ref tb, .int (nI (n + 4))]) h7_t fl_X6_15 rfl rfl (Nat.le_of_ble_eq_true rfl) rfl (by decide +kernel) ?_
  refine v_h (fun h8 eh8 => ?_)
  have h8_c : h8.2.1 = h.2.1 + 0 ∧ h8.2.2 = h.2.2 + 0 := zcs eh8 h7_c
  have h8_t : h8.1 t = some (oB 6 [.ref tb, .int (nI (n + 4))]) := by rw [eh8]; exact z_s_self _ _ _
  have h8_tb : h8.1 tb = some (aI 200 (upd (upd (upd (upd B n (bt8 v 24)) (n + 1) (bt8 v 16)) (n + 2) (bt8 v 8)) (n + 3) (bt8 v 0))) := by rw [eh8]; exact z_so h7_tb (Ne.symm (z_ne ht hb rfl))
  refine v_blk g [.iinc 2 (-8)] (pc' := 46) (lv' := [(2, .int ((0 : Int32) + (-8 : Int32))), (0, .ref t), (1, .int v)]) (st' := []) (by decide +kernel) rfl rfl ?_
  refine v_goto g (off := -43) (tgt := 3) (by decide +kernel) (by decide) ?_
  refine v_eq (lv' := [(2, .int (-8 : Int32)), (0, .ref t), (1, .int v)]) (st' := []) rfl rfl ?_
  refine v_blk g [.iload_n 2] (pc' := 4) (lv' := [(2, .int (-8 : Int32)), (0, .ref t), (1, .int v)]) (st' := [.int (-8 : Int32)]) (by decide +kernel) rfl rfl ?_
  refine v_if_lt g (off := 45) (tgt := 49) (by decide +kernel) (by decide) (fun _ => ?_) (fun c => absurd c (fun q => q (by decide)))
  exact v_vret g z rfl (by decide +kernel) ⟨rfl, by rw [eh8, eh7, eh6, eh5, eh4, eh3, eh2, eh1, z_s2 _ _ _ _ (z_ne hb ht rfl), z_s2 _ _ _ _ (z_ne hb ht rfl), z_s2 _ _ _ _ (z_ne hb ht rfl)]; rfl⟩ (zcrn 0 0 h8_c.1 h8_c.2 (Nat.le_of_ble_eq_true rfl) (Nat.le_of_ble_eq_true rfl))

def x_cut (n : Nat) (v : Int32) : Int32 := if v < 0 then 0 else if v ≤ nI n then 1 else 0
set_option maxRecDepth 100000 in
set_option maxHeartbeats 4000000 in
theorem c_Tape_cut {F : zF} {h : zH} {t tb n : Nat} {B : Nat → Int32} (ht : h.1 t = some (oB 6 [.ref tb, .int (nI n)])) (hb : h.1 tb = some (aI 200 B)) (v : Int32) : zMet F yX6_cutTo cX6_cutTo 2 (some .boolean) { frames := 1, cells := 0, slots := 0, locals := 30 } [.ref t, .int v] h (zP (if x_cut n v = 0 then h else z_s h t (oB 6 [.ref tb, .int v])) (some (.int (x_cut n v)))) := by
  refine zMet_of (lv := [(0, .ref t), (1, .int v)]) (by decide) (by simp [lg_sl, Value.category]) rfl ?_
  intro X g z
  refine v_blk g [.iload_n 1] (pc' := 1) (lv' := [(0, .ref t), (1, .int v)]) (st' := [.int v]) (by decide +kernel) rfl rfl ?_
  refine v_if_lt g (off := 11) (tgt := 12) (by decide +kernel) (by decide) (fun c0 => ?_) (fun c0 => ?_)
  · refine v_blk g [.iconst 0] (pc' := 13) (lv' := [(0, .ref t), (1, .int v)]) (st' := [.int (0 : Int32)]) (by decide +kernel) rfl rfl ?_
    exact v_zret g z rfl (by decide) (by decide +kernel) ⟨by rw [x_cut, if_pos c0], by rw [if_pos (by rw [x_cut, if_pos c0])]⟩ (zcrn 0 0 rfl rfl (Nat.le_of_ble_eq_true rfl) (Nat.le_of_ble_eq_true rfl))
  · refine v_blk g [.iload_n 1, .aload_n 0] (pc' := 6) (lv' := [(0, .ref t), (1, .int v)]) (st' := [.ref t, .int v]) (by decide +kernel) rfl rfl ?_
    refine v_get g ht fl_X6_15 rfl (by decide +kernel) ?_
    refine v_icmp_le g (off := 5) (tgt := 14) (by decide +kernel) (by decide) (fun c1 => ?_) (fun c1 => ?_)
    · refine v_blk g [.aload_n 0, .iload_n 1] (pc' := 16) (lv' := [(0, .ref t), (1, .int v)]) (st' := [.int v, .ref t]) (by decide +kernel) rfl rfl ?_
      refine v_put g (fs' := [.ref tb, .int v]) ht fl_X6_15 rfl rfl (Nat.le_of_ble_eq_true rfl) rfl (by decide +kernel) ?_
      refine v_h (fun h1 eh1 => ?_)
      have h1_c : h1.2.1 = h.2.1 + 0 ∧ h1.2.2 = h.2.2 + 0 := zcs eh1 ⟨rfl, rfl⟩
      have h1_t : h1.1 t = some (oB 6 [.ref tb, .int v]) := by rw [eh1]; exact z_s_self _ _ _
      have h1_tb : h1.1 tb = some (aI 200 B) := by rw [eh1]; exact z_so hb (Ne.symm (z_ne ht hb rfl))
      refine v_blk g [.iconst 1] (pc' := 20) (lv' := [(0, .ref t), (1, .int v)]) (st' := [.int (1 : Int32)]) (by decide +kernel) rfl rfl ?_
      exact v_zret g z rfl (by decide) (by decide +kernel) ⟨by rw [x_cut, if_neg c0, if_pos c1], by rw [if_neg (by rw [x_cut, if_neg c0, if_pos c1]; decide)]; exact eh1⟩ (zcrn 0 0 h1_c.1 h1_c.2 (Nat.le_of_ble_eq_true rfl) (Nat.le_of_ble_eq_true rfl))
    · refine v_blk g [.iconst 0] (pc' := 13) (lv' := [(0, .ref t), (1, .int v)]) (st' := [.int (0 : Int32)]) (by decide +kernel) rfl rfl ?_
      exact v_zret g z rfl (by decide) (by decide +kernel) ⟨by rw [x_cut, if_neg c0, if_neg c1], by rw [if_pos (by rw [x_cut, if_neg c0, if_neg c1])]⟩ (zcrn 0 0 rfl rfl (Nat.le_of_ble_eq_true rfl) (Nat.le_of_ble_eq_true rfl))

set_option maxRecDepth 100000 in
set_option maxHeartbeats 4000000 in
theorem c_Tape_byteAt {F : zF} {h : zH} {t tb n : Nat} {B : Nat → Int32} (ht : h.1 t = some (oB 6 [.ref tb, .int (nI n)])) (hb : h.1 tb = some (aI 200 B)) (v : Int32) (hn : n ≤ 200) : zMet F yX6_byteAt cX6_byteAt 2 (some .int) { frames := 1, cells := 0, slots := 0, locals := 30 } [.ref t, .int v] h (zP h (some (.int (x_byteAt B n v)))) := by
  refine zMet_of (lv := [(0, .ref t), (1, .int v)]) (by decide) (by simp [lg_sl, Value.category]) rfl ?_
  intro X g z
  refine v_blk g [.iload_n 1] (pc' := 1) (lv' := [(0, .ref t), (1, .int v)]) (st' := [.int v]) (by decide +kernel) rfl rfl ?_
  refine v_if_lt g (off := 27) (tgt := 28) (by decide +kernel) (by decide) (fun c0 => ?_) (fun c0 => ?_)
  · refine v_blk g [.iconst (-1)] (pc' := 29) (lv' := [(0, .ref t), (1, .int v)]) (st' := [.int (-1 : Int32)]) (by decide +kernel) rfl rfl ?_
    exact v_iret g z rfl (by decide +kernel) ⟨by simp [x_byteAt, c0], rfl⟩ (zcrn 0 0 rfl rfl (Nat.le_of_ble_eq_true rfl) (Nat.le_of_ble_eq_true rfl))
  · refine v_blk g [.iload_n 1, .aload_n 0] (pc' := 6) (lv' := [(0, .ref t), (1, .int v)]) (st' := [.ref t, .int v]) (by decide +kernel) rfl rfl ?_
    refine v_get g ht fl_X6_15 rfl (by decide +kernel) ?_
    refine v_icmp_ge g (off := 19) (tgt := 28) (by decide +kernel) (by decide) (fun c1 => ?_) (fun c1 => ?_)
    · refine v_blk g [.iconst (-1)] (pc' := 29) (lv' := [(0, .ref t), (1, .int v)]) (st' := [.int (-1 : Int32)]) (by decide +kernel) rfl rfl ?_
      exact v_iret g z rfl (by decide +kernel) ⟨by simp [x_byteAt, c0, c1], rfl⟩ (zcrn 0 0 rfl rfl (Nat.le_of_ble_eq_true rfl) (Nat.le_of_ble_eq_true rfl))
    · obtain ⟨k, hk, rfl⟩ : ∃ k : Nat, k < n ∧ v = nI k := by
        rcases pk_ix v (n := n) (by omega) with q | q | ⟨k, q1, q2⟩
        · exact absurd q c0
        · exact absurd q c1
        · exact ⟨k, q1, q2⟩
      refine v_blk g [.iload_n 1, .sipush 200] (pc' := 16) (lv' := [(0, .ref t), (1, .int (nI k))]) (st' := [.int (200 : Int32), .int (nI k)]) (by decide +kernel) rfl rfl ?_
      refine v_icmp_ge g (off := 12) (tgt := 28) (by decide +kernel) (by decide) (fun c => absurd c (nI_ge (b := 200) (by omega) (by decide))) (fun _ => ?_)
      refine v_blk g [.aload_n 0] (pc' := 20) (lv' := [(0, .ref t), (1, .int (nI k))]) (st' := [.ref t]) (by decide +kernel) rfl rfl ?_
      refine v_get g ht fl_X6_9 rfl (by decide +kernel) ?_
      refine v_blk g [.iload_n 1] (pc' := 24) (lv' := [(0, .ref t), (1, .int (nI k))]) (st' := [.int (nI k), .ref tb]) (by decide +kernel) rfl rfl ?_
      refine v_iald g hb k rfl (by omega) (Nat.le_of_ble_eq_true rfl) (by decide +kernel) ?_
      refine v_goto g (off := 4) (tgt := 29) (by decide +kernel) (by decide) ?_
      exact v_iret g z rfl (by decide +kernel) ⟨by simp [x_byteAt, c0, c1, nI_clamp (show k < 2 ^ 31 by omega)], rfl⟩ (zcrn 0 0 rfl rfl (Nat.le_of_ble_eq_true rfl) (Nat.le_of_ble_eq_true rfl))

set_option maxRecDepth 100000 in
set_option maxHeartbeats 4000000 in
theorem c_Div_begin {F : zF} {h : zH} {a : Nat} {l s c : Int32} {k wi co : Int64} (ha : h.1 a = some (oB 2 [.int l, .int s, .int c, .long k, .long wi, .long co])) (x y z9 : Int32) : zMet F yX2_begin cX2_begin 4 none { frames := 1, cells := 0, slots := 0, locals := 30 } [.ref a, .int x, .int y, .int z9] h (zP (z_s h a (oB 2 [.int x, .int y, .int z9, .long 0, .long 0, .long 0])) none) := by
  refine zMet_of (lv := [(0, .ref a), (1, .int x), (2, .int y), (3, .int z9)]) (by decide) (by simp [lg_sl, Value.category]) rfl ?_
  intro X g z
  refine v_blk g [.aload_n 0, .iload_n 1] (pc' := 2) (lv' := [(0, .ref a), (1, .int x), (2, .int y), (3, .int z9)]) (st' := [.int x, .ref a]) (by decide +kernel) rfl rfl ?_
  refine v_put g (fs' := [.int x, .int s, .int c, .long k, .long wi, .long co]) ha fl_X2_13 rfl rfl (Nat.le_of_ble_eq_true rfl) rfl (by decide +kernel) ?_
  refine v_h (fun h1 eh1 => ?_)
  have h1_c : h1.2.1 = h.2.1 + 0 ∧ h1.2.2 = h.2.2 + 0 := zcs eh1 ⟨rfl, rfl⟩
  have h1_a : h1.1 a = some (oB 2 [.int x, .int s, .int c, .long k, .long wi, .long co]) := by rw [eh1]; exact z_s_self _ _ _
  refine v_blk g [.aload_n 0, .iload_n 2] (pc' := 7) (lv' := [(0, .ref a), (1, .int x), (2, .int y), (3, .int z9)]) (st' := [.int y, .ref a]) (by decide +kernel) rfl rfl ?_
  refine v_put g (fs' := [.int x, .int y, .int c, .long k, .long wi, .long co]) h1_a fl_X2_17 rfl rfl (Nat.le_of_ble_eq_true rfl) rfl (by decide +kernel) ?_
  refine v_h (fun h2 eh2 => ?_)
  have h2_c : h2.2.1 = h.2.1 + 0 ∧ h2.2.2 = h.2.2 + 0 := zcs eh2 h1_c
  have h2_a : h2.1 a = some (oB 2 [.int x, .int y, .int c, .long k, .long wi, .long co]) := by rw [eh2]; exact z_s_self _ _ _
  refine v_blk g [.aload_n 0, .iload_n 3] (pc' := 12) (lv' := [(0, .ref a), (1, .int x), (2, .int y), (3, .int z9)]) (st' := [.int z9, .ref a]) (by decide +kernel) rfl rfl ?_
  refine v_put g (fs' := [.int x, .int y, .int z9, .long k, .long wi, .long co]) h2_a fl_X2_20 rfl rfl (Nat.le_of_ble_eq_true rfl) rfl (by decide +kernel) ?_
  refine v_h (fun h3 eh3 => ?_)
  have h3_c : h3.2.1 = h.2.1 + 0 ∧ h3.2.2 = h.2.2 + 0 := zcs eh3 h2_c
  have h3_a : h3.1 a = some (oB 2 [.int x, .int y, .int z9, .long k, .long wi, .long co]) := by rw [eh3]; exact z_s_self _ _ _
  refine v_blk g [.aload_n 0, .lconst 0] (pc' := 17) (lv' := [(0, .ref a), (1, .int x), (2, .int y), (3, .int z9)]) (st' := [.long (0 : Int64), .ref a]) (by decide +kernel) rfl rfl ?_
  refine v_put g (fs' := [.int x, .int y, .int z9, .long (0 : Int64), .long wi, .long co]) h3_a fl_X2_23 rfl rfl (Nat.le_of_ble_eq_true rfl) rfl (by decide +kernel) ?_
  refine v_h (fun h4 eh4 => ?_)
  have h4_c : h4.2.1 = h.2.1 + 0 ∧ h4.2.2 = h.2.2 + 0 := zcs eh4 h3_c
  have h4_a : h4.1 a = some (oB 2 [.int x, .int y, .int z9, .long (0 : Int64), .long wi, .long co]) := by rw [eh4]; exact z_s_self _ _ _
  refine v_blk g [.aload_n 0, .lconst 0] (pc' := 22) (lv' := [(0, .ref a), (1, .int x), (2, .int y), (3, .int z9)]) (st' := [.long (0 : Int64), .ref a]) (by decide +kernel) rfl rfl ?_
  refine v_put g (fs' := [.int x, .int y, .int z9, .long (0 : Int64), .long (0 : Int64), .long co]) h4_a fl_X2_27 rfl rfl (Nat.le_of_ble_eq_true rfl) rfl (by decide +kernel) ?_
  refine v_h (fun h5 eh5 => ?_)
  have h5_c : h5.2.1 = h.2.1 + 0 ∧ h5.2.2 = h.2.2 + 0 := zcs eh5 h4_c
  have h5_a : h5.1 a = some (oB 2 [.int x, .int y, .int z9, .long (0 : Int64), .long (0 : Int64), .long co]) := by rw [eh5]; exact z_s_self _ _ _
  refine v_blk g [.aload_n 0, .lconst 0] (pc' := 27) (lv' := [(0, .ref a), (1, .int x), (2, .int y), (3, .int z9)]) (st' := [.long (0 : Int64), .ref a]) (by decide +kernel) rfl rfl ?_
  refine v_put g (fs' := [.int x, .int y, .int z9, .long (0 : Int64), .long (0 : Int64), .long (0 : Int64)]) h5_a fl_X2_30 rfl rfl (Nat.le_of_ble_eq_true rfl) rfl (by decide +kernel) ?_
  refine v_h (fun h6 eh6 => ?_)
  have h6_c : h6.2.1 = h.2.1 + 0 ∧ h6.2.2 = h.2.2 + 0 := zcs eh6 h5_c
  have h6_a : h6.1 a = some (oB 2 [.int x, .int y, .int z9, .long (0 : Int64), .long (0 : Int64), .long (0 : Int64)]) := by rw [eh6]; exact z_s_self _ _ _
  exact v_vret g z rfl (by decide +kernel) ⟨rfl, by rw [eh6, eh5, eh4, eh3, eh2, eh1]; simp only [z_ss]⟩ (zcrn 0 0 h6_c.1 h6_c.2 (Nat.le_of_ble_eq_true rfl) (Nat.le_of_ble_eq_true rfl))

set_option maxRecDepth 100000 in
set_option maxHeartbeats 4000000 in
theorem c_Div_init {F : zF} {h : zH} {a : Nat} {l s c : Int32} {k wi co : Int64} (ha : h.1 a = some (oB 2 [.int l, .int s, .int c, .long k, .long wi, .long co])) : zMet F yX2_init cX2_init 1 none { frames := 2, cells := 0, slots := 0, locals := 60 } [.ref a] h (zP (z_s h a (oB 2 [.int 0, .int 0, .int 0, .long 0, .long 0, .long 0])) none) := by
  refine zMet_of (lv := [(0, .ref a)]) (by decide) (by simp [lg_sl, Value.category]) rfl ?_
  intro X g z
  refine v_blk g [.aload_n 0] (pc' := 1) (lv' := [(0, .ref a)]) (st' := [.ref a]) (by decide +kernel) rfl rfl ?_
  refine v_obj g ol_X2_1 (by decide +kernel) ⟨Nat.le_of_ble_eq_true rfl, Nat.le_of_ble_eq_true rfl⟩ (Nat.le_of_ble_eq_true rfl) ?_ ob_i ob_c
  refine v_blk g [.aload_n 0, .iconst 0, .iconst 0, .iconst 0] (pc' := 8) (lv' := [(0, .ref a)]) (st' := [.int (0 : Int32), .int (0 : Int32), .int (0 : Int32), .ref a]) (by decide +kernel) rfl rfl ?_
  refine v_callVp g (rest := []) (c_Div_begin ha 0 0 0) cl_X2_7 ha rfl rfl (Nat.le_of_ble_eq_true rfl) (by decide +kernel) ⟨Nat.le_of_ble_eq_true rfl, Nat.le_of_ble_eq_true rfl⟩ (zcsn 0 0 rfl rfl (Nat.le_of_ble_eq_true rfl) (Nat.le_of_ble_eq_true rfl)) ?_
  show zV F X (z_s h a (oB 2 [.int 0, .int 0, .int 0, .long 0, .long 0, .long 0])) 11 [(0, .ref a)] []
  exact v_vret g z rfl (by decide +kernel) ⟨rfl, rfl⟩ (zcrn 0 0 rfl rfl (Nat.le_of_ble_eq_true rfl) (Nat.le_of_ble_eq_true rfl))

set_option maxRecDepth 100000 in
set_option maxHeartbeats 4000000 in
theorem c_Div_copy {F : zF} {h : zH} {a : Nat} {l s c : Int32} {k wi co : Int64} (ha : h.1 a = some (oB 2 [.int l, .int s, .int c, .long k, .long wi, .long co])) {b : Nat} {l2 s2 c2 : Int32} {k2 wi2 co2 : Int64} (hb : h.1 b = some (oB 2 [.int l2, .int s2, .int c2, .long k2, .long wi2, .long co2])) (hne : b ≠ a) : zMet F yX2_copyFrom cX2_copyFrom 2 none { frames := 1, cells := 0, slots := 0, locals := 30 } [.ref a, .ref b] h (zP (z_s h a (oB 2 [.int l2, .int s2, .int c2, .long k2, .long wi2, .long co2])) none) := by
  refine zMet_of (lv := [(0, .ref a), (1, .ref b)]) (by decide) (by simp [lg_sl, Value.category]) rfl ?_
  intro X g z
  refine v_blk g [.aload_n 0, .aload_n 1] (pc' := 2) (lv' := [(0, .ref a), (1, .ref b)]) (st' := [.ref b, .ref a]) (by decide +kernel) rfl rfl ?_
  refine v_get g hb fl_X2_13 rfl (by decide +kernel) ?_
  refine v_put g (fs' := [.int l2, .int s, .int c, .long k, .long wi, .long co]) ha fl_X2_13 rfl rfl (Nat.le_of_ble_eq_true rfl) rfl (by decide +kernel) ?_
  refine v_h (fun h1 eh1 => ?_)
  have h1_c : h1.2.1 = h.2.1 + 0 ∧ h1.2.2 = h.2.2 + 0 := zcs eh1 ⟨rfl, rfl⟩
  have h1_a : h1.1 a = some (oB 2 [.int l2, .int s, .int c, .long k, .long wi, .long co]) := by rw [eh1]; exact z_s_self _ _ _
  have h1_b : h1.1 b = some (oB 2 [.int l2, .int s2, .int c2, .long k2, .long wi2, .long co2]) := by rw [eh1]; exact z_so hb hne
  refine v_blk g [.aload_n 0, .aload_n 1] (pc' := 10) (lv' := [(0, .ref a), (1, .ref b)]) (st' := [.ref b, .ref a]) (by decide +kernel) rfl rfl ?_
  refine v_get g h1_b fl_X2_17 rfl (by decide +kernel) ?_
  refine v_put g (fs' := [.int l2, .int s2, .int c, .long k, .long wi, .long co]) h1_a fl_X2_17 rfl rfl (Nat.le_of_ble_eq_true rfl) rfl (by decide +kernel) ?_
  refine v_h (fun h2 eh2 => ?_)
  have h2_c : h2.2.1 = h.2.1 + 0 ∧ h2.2.2 = h.2.2 + 0 := zcs eh2 h1_c
  have h2_a : h2.1 a = some (oB 2 [.int l2, .int s2, .int c, .long k, .long wi, .long co]) := by rw [eh2]; exact z_s_self _ _ _
  have h2_b : h2.1 b = some (oB 2 [.int l2, .int s2, .int c2, .long k2, .long wi2, .long co2]) := by rw [eh2]; exact z_so h1_b hne
  refine v_blk g [.aload_n 0, .aload_n 1] (pc' := 18) (lv' := [(0, .ref a), (1, .ref b)]) (st' := [.ref b, .ref a]) (by decide +kernel) rfl rfl ?_
  refine v_get g h2_b fl_X2_20 rfl (by decide +kernel) ?_
  refine v_put g (fs' := [.int l2, .int s2, .int c2, .long k, .long wi, .long co]) h2_a fl_X2_20 rfl rfl (Nat.le_of_ble_eq_true rfl) rfl (by decide +kernel) ?_
  refine v_h (fun h3 eh3 => ?_)
  have h3_c : h3.2.1 = h.2.1 + 0 ∧ h3.2.2 = h.2.2 + 0 := zcs eh3 h2_c
  have h3_a : h3.1 a = some (oB 2 [.int l2, .int s2, .int c2, .long k, .long wi, .long co]) := by rw [eh3]; exact z_s_self _ _ _
  have h3_b : h3.1 b = some (oB 2 [.int l2, .int s2, .int c2, .long k2, .long wi2, .long co2]) := by rw [eh3]; exact z_so h2_b hne
  refine v_blk g [.aload_n 0, .aload_n 1] (pc' := 26) (lv' := [(0, .ref a), (1, .ref b)]) (st' := [.ref b, .ref a]) (by decide +kernel) rfl rfl ?_
  refine v_get g h3_b fl_X2_23 rfl (by decide +kernel) ?_
  refine v_put g (fs' := [.int l2, .int s2, .int c2, .long k2, .long wi, .long co]) h3_a fl_X2_23 rfl rfl (Nat.le_of_ble_eq_true rfl) rfl (by decide +kernel) ?_
  refine v_h (fun h4 eh4 => ?_)
  have h4_c : h4.2.1 = h.2.1 + 0 ∧ h4.2.2 = h.2.2 + 0 := zcs eh4 h3_c
  have h4_a : h4.1 a = some (oB 2 [.int l2, .int s2, .int c2, .long k2, .long wi, .long co]) := by rw [eh4]; exact z_s_self _ _ _
  have h4_b : h4.1 b = some (oB 2 [.int l2, .int s2, .int c2, .long k2, .long wi2, .long co2]) := by rw [eh4]; exact z_so h3_b hne
  refine v_blk g [.aload_n 0, .aload_n 1] (pc' := 34) (lv' := [(0, .ref a), (1, .ref b)]) (st' := [.ref b, .ref a]) (by decide +kernel) rfl rfl ?_
  refine v_get g h4_b fl_X2_27 rfl (by decide +kernel) ?_
  refine v_put g (fs' := [.int l2, .int s2, .int c2, .long k2, .long wi2, .long co]) h4_a fl_X2_27 rfl rfl (Nat.le_of_ble_eq_true rfl) rfl (by decide +kernel) ?_
  refine v_h (fun h5 eh5 => ?_)
  have h5_c : h5.2.1 = h.2.1 + 0 ∧ h5.2.2 = h.2.2 + 0 := zcs eh5 h4_c
  have h5_a : h5.1 a = some (oB 2 [.int l2, .int s2, .int c2, .long k2, .long wi2, .long co]) := by rw [eh5]; exact z_s_self _ _ _
  have h5_b : h5.1 b = some (oB 2 [.int l2, .int s2, .int c2, .long k2, .long wi2, .long co2]) := by rw [eh5]; exact z_so h4_b hne
  refine v_blk g [.aload_n 0, .aload_n 1] (pc' := 42) (lv' := [(0, .ref a), (1, .ref b)]) (st' := [.ref b, .ref a]) (by decide +kernel) rfl rfl ?_
  refine v_get g h5_b fl_X2_30 rfl (by decide +kernel) ?_
  refine v_put g (fs' := [.int l2, .int s2, .int c2, .long k2, .long wi2, .long co2]) h5_a fl_X2_30 rfl rfl (Nat.le_of_ble_eq_true rfl) rfl (by decide +kernel) ?_
  refine v_h (fun h6 eh6 => ?_)
  have h6_c : h6.2.1 = h.2.1 + 0 ∧ h6.2.2 = h.2.2 + 0 := zcs eh6 h5_c
  have h6_a : h6.1 a = some (oB 2 [.int l2, .int s2, .int c2, .long k2, .long wi2, .long co2]) := by rw [eh6]; exact z_s_self _ _ _
  have h6_b : h6.1 b = some (oB 2 [.int l2, .int s2, .int c2, .long k2, .long wi2, .long co2]) := by rw [eh6]; exact z_so h5_b hne
  exact v_vret g z rfl (by decide +kernel) ⟨rfl, by rw [eh6, eh5, eh4, eh3, eh2, eh1]; simp only [z_ss]⟩ (zcrn 0 0 h6_c.1 h6_c.2 (Nat.le_of_ble_eq_true rfl) (Nat.le_of_ble_eq_true rfl))

def x_coin (k wi : Int64) (c u : Int32) : Int64 := if wi ≤ 0 then 0 else if u ≤ 0 then 0 else (if c.toInt64 < k / wi - (k / wi - k / wi / u.toInt64 * u.toInt64) then c.toInt64 else k / wi - (k / wi - k / wi / u.toInt64 * u.toInt64))

set_option maxRecDepth 100000 in
set_option maxHeartbeats 4000000 in
theorem c_Div_pay {F : zF} {h : zH} {a : Nat} {l s c : Int32} {k wi co : Int64} (ha : h.1 a = some (oB 2 [.int l, .int s, .int c, .long k, .long wi, .long co])) (x : Int64) (u : Int32) : zMet F yX2_pay cX2_pay 6 (some .long) { frames := 2, cells := 0, slots := 0, locals := 60 } [.ref a, .long x, .int u] h (zP (z_s h a (oB 2 [.int l, .int s, .int c, .long (k - x_coin k x c u * x), .long x, .long (x_coin k x c u)])) (some (.long (x_coin k x c u * x)))) := by
  refine zMet_of (lv := [(0, .ref a), (1, .long x), (3, .int u)]) (by decide) (by simp [lg_sl, Value.category]) rfl ?_
  intro X g z
  refine v_blk g [.aload_n 0, .lload_n 1] (pc' := 2) (lv' := [(0, .ref a), (1, .long x), (3, .int u)]) (st' := [.long x, .ref a]) (by decide +kernel) rfl rfl ?_
  refine v_put g (fs' := [.int l, .int s, .int c, .long k, .long x, .long co]) ha fl_X2_27 rfl rfl (Nat.le_of_ble_eq_true rfl) rfl (by decide +kernel) ?_
  refine v_h (fun h1 eh1 => ?_)
  have h1_c : h1.2.1 = h.2.1 + 0 ∧ h1.2.2 = h.2.2 + 0 := zcs eh1 ⟨rfl, rfl⟩
  have h1_a : h1.1 a = some (oB 2 [.int l, .int s, .int c, .long k, .long x, .long co]) := by rw [eh1]; exact z_s_self _ _ _
  refine v_blk g [.aload_n 0, .lconst 0] (pc' := 7) (lv' := [(0, .ref a), (1, .long x), (3, .int u)]) (st' := [.long (0 : Int64), .ref a]) (by decide +kernel) rfl rfl ?_
  refine v_put g (fs' := [.int l, .int s, .int c, .long k, .long x, .long (0 : Int64)]) h1_a fl_X2_30 rfl rfl (Nat.le_of_ble_eq_true rfl) rfl (by decide +kernel) ?_
  refine v_h (fun h2 eh2 => ?_)
  have h2_c : h2.2.1 = h.2.1 + 0 ∧ h2.2.2 = h.2.2 + 0 := zcs eh2 h1_c
  have h2_a : h2.1 a = some (oB 2 [.int l, .int s, .int c, .long k, .long x, .long (0 : Int64)]) := by rw [eh2]; exact z_s_self _ _ _
  refine v_blk g [.aload_n 0] (pc' := 11) (lv' := [(0, .ref a), (1, .long x), (3, .int u)]) (st' := [.ref a]) (by decide +kernel) rfl rfl ?_
  refine v_get g h2_a fl_X2_27 rfl (by decide +kernel) ?_
  refine v_blk g [.lconst 0, .lcmp] (pc' := 16) (lv' := [(0, .ref a), (1, .long x), (3, .int u)]) (st' := [.int (lg_cmp x (0 : Int64))]) (by decide +kernel) rfl rfl ?_
  refine v_if_le g (off := 38) (tgt := 54) (by decide +kernel) (by decide) (fun c0 => ?_) (fun c0 => ?_)
  · have hco : x_coin k x c u = 0 := by rw [x_coin, if_pos ((lg_cmp_le x 0).mp c0)]
    refine v_blk g [.aload_n 0] (pc' := 55) (lv' := [(0, .ref a), (1, .long x), (3, .int u)]) (st' := [.ref a]) (by decide +kernel) rfl rfl ?_
    refine v_get g h2_a fl_X2_30 rfl (by decide +kernel) ?_
    refine v_blk g [.aload_n 0] (pc' := 59) (lv' := [(0, .ref a), (1, .long x), (3, .int u)]) (st' := [.ref a, .long (0 : Int64)]) (by decide +kernel) rfl rfl ?_
    refine v_get g h2_a fl_X2_27 rfl (by decide +kernel) ?_
    refine v_blk g [.lmul, .lstore 4, .aload_n 0, .dup] (pc' := 67) (lv' := [(4, .long ((0 : Int64) * x)), (0, .ref a), (1, .long x), (3, .int u)]) (st' := [.ref a, .ref a]) (by decide +kernel) rfl rfl ?_
    refine v_get g h2_a fl_X2_23 rfl (by decide +kernel) ?_
    refine v_blk g [.lload 4, .lsub] (pc' := 73) (lv' := [(4, .long ((0 : Int64) * x)), (0, .ref a), (1, .long x), (3, .int u)]) (st' := [.long (k - ((0 : Int64) * x)), .ref a]) (by decide +kernel) rfl rfl ?_
    refine v_put g (fs' := [.int l, .int s, .int c, .long (k - ((0 : Int64) * x)), .long x, .long (0 : Int64)]) h2_a fl_X2_23 rfl rfl (Nat.le_of_ble_eq_true rfl) rfl (by decide +kernel) ?_
    refine v_h (fun h3 eh3 => ?_)
    have h3_c : h3.2.1 = h.2.1 + 0 ∧ h3.2.2 = h.2.2 + 0 := zcs eh3 h2_c
    have h3_a : h3.1 a = some (oB 2 [.int l, .int s, .int c, .long (k - ((0 : Int64) * x)), .long x, .long (0 : Int64)]) := by rw [eh3]; exact z_s_self _ _ _
    refine v_blk g [.lload 4] (pc' := 78) (lv' := [(4, .long ((0 : Int64) * x)), (0, .ref a), (1, .long x), (3, .int u)]) (st' := [.long ((0 : Int64) * x)]) (by decide +kernel) rfl rfl ?_
    exact v_lret g z rfl (by decide +kernel) ⟨by simp only [hco], by rw [eh3, eh2, eh1]; simp only [z_ss, hco]⟩ (zcrn 0 0 h3_c.1 h3_c.2 (Nat.le_of_ble_eq_true rfl) (Nat.le_of_ble_eq_true rfl))
  · refine v_blk g [.iload_n 3] (pc' := 20) (lv' := [(0, .ref a), (1, .long x), (3, .int u)]) (st' := [.int u]) (by decide +kernel) rfl rfl ?_
    have hx : ¬ x ≤ 0 := fun q => c0 ((lg_cmp_le x 0).mpr q)
    refine v_if_le g (off := 34) (tgt := 54) (by decide +kernel) (by decide) (fun c1 => ?_) (fun c1 => ?_)
    · have hco : x_coin k x c u = 0 := by rw [x_coin, if_neg hx, if_pos c1]
      refine v_blk g [.aload_n 0] (pc' := 55) (lv' := [(0, .ref a), (1, .long x), (3, .int u)]) (st' := [.ref a]) (by decide +kernel) rfl rfl ?_
      refine v_get g h2_a fl_X2_30 rfl (by decide +kernel) ?_
      refine v_blk g [.aload_n 0] (pc' := 59) (lv' := [(0, .ref a), (1, .long x), (3, .int u)]) (st' := [.ref a, .long (0 : Int64)]) (by decide +kernel) rfl rfl ?_
      refine v_get g h2_a fl_X2_27 rfl (by decide +kernel) ?_
      refine v_blk g [.lmul, .lstore 4, .aload_n 0, .dup] (pc' := 67) (lv' := [(4, .long ((0 : Int64) * x)), (0, .ref a), (1, .long x), (3, .int u)]) (st' := [.ref a, .ref a]) (by decide +kernel) rfl rfl ?_
      refine v_get g h2_a fl_X2_23 rfl (by decide +kernel) ?_
      refine v_blk g [.lload 4, .lsub] (pc' := 73) (lv' := [(4, .long ((0 : Int64) * x)), (0, .ref a), (1, .long x), (3, .int u)]) (st' := [.long (k - ((0 : Int64) * x)), .ref a]) (by decide +kernel) rfl rfl ?_
      refine v_put g (fs' := [.int l, .int s, .int c, .long (k - ((0 : Int64) * x)), .long x, .long (0 : Int64)]) h2_a fl_X2_23 rfl rfl (Nat.le_of_ble_eq_true rfl) rfl (by decide +kernel) ?_
      refine v_h (fun h3 eh3 => ?_)
      have h3_c : h3.2.1 = h.2.1 + 0 ∧ h3.2.2 = h.2.2 + 0 := zcs eh3 h2_c
      have h3_a : h3.1 a = some (oB 2 [.int l, .int s, .int c, .long (k - ((0 : Int64) * x)), .long x, .long (0 : Int64)]) := by rw [eh3]; exact z_s_self _ _ _
      refine v_blk g [.lload 4] (pc' := 78) (lv' := [(4, .long ((0 : Int64) * x)), (0, .ref a), (1, .long x), (3, .int u)]) (st' := [.long ((0 : Int64) * x)]) (by decide +kernel) rfl rfl ?_
      exact v_lret g z rfl (by decide +kernel) ⟨by simp only [hco], by rw [eh3, eh2, eh1]; simp only [z_ss, hco]⟩ (zcrn 0 0 h3_c.1 h3_c.2 (Nat.le_of_ble_eq_true rfl) (Nat.le_of_ble_eq_true rfl))
    · have hco : x_coin k x c u = (if c.toInt64 < k / x - (k / x - k / x / u.toInt64 * u.toInt64) then c.toInt64 else k / x - (k / x - k / x / u.toInt64 * u.toInt64)) := by rw [x_coin, if_neg hx, if_neg c1]
      refine v_blk g [.aload_n 0] (pc' := 24) (lv' := [(0, .ref a), (1, .long x), (3, .int u)]) (st' := [.ref a]) (by decide +kernel) rfl rfl ?_
      refine v_get g h2_a fl_X2_23 rfl (by decide +kernel) ?_
      refine v_blk g [.aload_n 0] (pc' := 28) (lv' := [(0, .ref a), (1, .long x), (3, .int u)]) (st' := [.ref a, .long k]) (by decide +kernel) rfl rfl ?_
      refine v_get g h2_a fl_X2_27 rfl (by decide +kernel) ?_
      refine v_ldiv g (by decide +kernel) (fun q => c0 ((lg_cmp_le x 0).mpr (by rw [q]; exact Int64.le_refl 0))) ?_
      refine v_blk g [.lstore 4, .aload_n 0, .lload 4, .lload 4, .iload_n 3, .i2l] (pc' := 41) (lv' := [(4, .long (k / x)), (0, .ref a), (1, .long x), (3, .int u)]) (st' := [.long u.toInt64, .long (k / x), .long (k / x), .ref a]) (by decide +kernel) rfl rfl ?_
      refine v_lrem g (by decide +kernel) (fun q => c1 (by have h9 : u.toInt64 = (0 : Int32).toInt64 := q; rw [(fa_wide_eq u 0).mp h9]; exact Int32.le_refl 0)) ?_
      refine v_blk g [.lsub, .aload_n 0] (pc' := 44) (lv' := [(4, .long (k / x)), (0, .ref a), (1, .long x), (3, .int u)]) (st' := [.ref a, .long ((k / x) - ((k / x) - (k / x) / u.toInt64 * u.toInt64)), .ref a]) (by decide +kernel) rfl rfl ?_
      refine v_get g h2_a fl_X2_20 rfl (by decide +kernel) ?_
      refine v_blk g [.i2l] (pc' := 48) (lv' := [(4, .long (k / x)), (0, .ref a), (1, .long x), (3, .int u)]) (st' := [.long c.toInt64, .long ((k / x) - ((k / x) - (k / x) / u.toInt64 * u.toInt64)), .ref a]) (by decide +kernel) rfl rfl ?_
      refine v_mminL g xl_X2_33 (by decide +kernel) ⟨Nat.le_of_ble_eq_true rfl, Nat.le_of_ble_eq_true rfl⟩ (Nat.le_of_ble_eq_true rfl) (zcrn 0 0 h2_c.1 h2_c.2 (Nat.le_of_ble_eq_true rfl) (Nat.le_of_ble_eq_true rfl)) ?_
      refine v_put g (fs' := [.int l, .int s, .int c, .long k, .long x, .long (if c.toInt64 < (k / x) - ((k / x) - (k / x) / u.toInt64 * u.toInt64) then c.toInt64 else (k / x) - ((k / x) - (k / x) / u.toInt64 * u.toInt64))]) h2_a fl_X2_30 rfl rfl (Nat.le_of_ble_eq_true rfl) rfl (by decide +kernel) ?_
      refine v_h (fun h3 eh3 => ?_)
      have h3_c : h3.2.1 = h.2.1 + 0 ∧ h3.2.2 = h.2.2 + 0 := zcs eh3 h2_c
      have h3_a : h3.1 a = some (oB 2 [.int l, .int s, .int c, .long k, .long x, .long (if c.toInt64 < (k / x) - ((k / x) - (k / x) / u.toInt64 * u.toInt64) then c.toInt64 else (k / x) - ((k / x) - (k / x) / u.toInt64 * u.toInt64))]) := by rw [eh3]; exact z_s_self _ _ _
      refine v_blk g [.aload_n 0] (pc' := 55) (lv' := [(4, .long (k / x)), (0, .ref a), (1, .long x), (3, .int u)]) (st' := [.ref a]) (by decide +kernel) rfl rfl ?_
      refine v_get g h3_a fl_X2_30 rfl (by decide +kernel) ?_
      refine v_blk g [.aload_n 0] (pc' := 59) (lv' := [(4, .long (k / x)), (0, .ref a), (1, .long x), (3, .int u)]) (st' := [.ref a, .long (if c.toInt64 < (k / x) - ((k / x) - (k / x) / u.toInt64 * u.toInt64) then c.toInt64 else (k / x) - ((k / x) - (k / x) / u.toInt64 * u.toInt64))]) (by decide +kernel) rfl rfl ?_
      refine v_get g h3_a fl_X2_27 rfl (by decide +kernel) ?_
      refine v_blk g [.lmul, .lstore 4, .aload_n 0, .dup] (pc' := 67) (lv' := [(4, .long ((if c.toInt64 < (k / x) - ((k / x) - (k / x) / u.toInt64 * u.toInt64) then c.toInt64 else (k / x) - ((k / x) - (k / x) / u.toInt64 * u.toInt64)) * x)), (0, .ref a), (1, .long x), (3, .int u)]) (st' := [.ref a, .ref a]) (by decide +kernel) rfl rfl ?_
      refine v_get g h3_a fl_X2_23 rfl (by decide +kernel) ?_
      refine v_blk g [.lload 4, .lsub] (pc' := 73) (lv' := [(4, .long ((if c.toInt64 < (k / x) - ((k / x) - (k / x) / u.toInt64 * u.toInt64) then c.toInt64 else (k / x) - ((k / x) - (k / x) / u.toInt64 * u.toInt64)) * x)), (0, .ref a), (1, .long x), (3, .int u)]) (st' := [.long (k - ((if c.toInt64 < (k / x) - ((k / x) - (k / x) / u.toInt64 * u.toInt64) then c.toInt64 else (k / x) - ((k / x) - (k / x) / u.toInt64 * u.toInt64)) * x)), .ref a]) (by decide +kernel) rfl rfl ?_
      refine v_put g (fs' := [.int l, .int s, .int c, .long (k - ((if c.toInt64 < (k / x) - ((k / x) - (k / x) / u.toInt64 * u.toInt64) then c.toInt64 else (k / x) - ((k / x) - (k / x) / u.toInt64 * u.toInt64)) * x)), .long x, .long (if c.toInt64 < (k / x) - ((k / x) - (k / x) / u.toInt64 * u.toInt64) then c.toInt64 else (k / x) - ((k / x) - (k / x) / u.toInt64 * u.toInt64))]) h3_a fl_X2_23 rfl rfl (Nat.le_of_ble_eq_true rfl) rfl (by decide +kernel) ?_
      refine v_h (fun h4 eh4 => ?_)
      have h4_c : h4.2.1 = h.2.1 + 0 ∧ h4.2.2 = h.2.2 + 0 := zcs eh4 h3_c
      have h4_a : h4.1 a = some (oB 2 [.int l, .int s, .int c, .long (k - ((if c.toInt64 < (k / x) - ((k / x) - (k / x) / u.toInt64 * u.toInt64) then c.toInt64 else (k / x) - ((k / x) - (k / x) / u.toInt64 * u.toInt64)) * x)), .long x, .long (if c.toInt64 < (k / x) - ((k / x) - (k / x) / u.toInt64 * u.toInt64) then c.toInt64 else (k / x) - ((k / x) - (k / x) / u.toInt64 * u.toInt64))]) := by rw [eh4]; exact z_s_self _ _ _
      refine v_blk g [.lload 4] (pc' := 78) (lv' := [(4, .long ((if c.toInt64 < (k / x) - ((k / x) - (k / x) / u.toInt64 * u.toInt64) then c.toInt64 else (k / x) - ((k / x) - (k / x) / u.toInt64 * u.toInt64)) * x)), (0, .ref a), (1, .long x), (3, .int u)]) (st' := [.long ((if c.toInt64 < (k / x) - ((k / x) - (k / x) / u.toInt64 * u.toInt64) then c.toInt64 else (k / x) - ((k / x) - (k / x) / u.toInt64 * u.toInt64)) * x)]) (by decide +kernel) rfl rfl ?_
      exact v_lret g z rfl (by decide +kernel) ⟨by simp only [hco], by rw [eh4, eh3, eh2, eh1]; simp only [z_ss, hco]⟩ (zcrn 0 0 h4_c.1 h4_c.2 (Nat.le_of_ble_eq_true rfl) (Nat.le_of_ble_eq_true rfl))

set_option maxRecDepth 100000 in
set_option maxHeartbeats 4000000 in
theorem c_Cou_init {F : zF} {h : zH} {a b w : Nat} {x1 x2 x3 x4 : Int32} {f : Nat → Int64} (p q : Int32) (ha : h.1 a = some (oB 1 [.null, .int x1, .int x2, .int x3, .int x4])) (hb : h.1 b = some (oB 3 [.ref w])) (hw : h.1 w = some (aJ 256 f)) : zMet F yX1_init cX1_init 4 none { frames := 3, cells := 0, slots := 0, locals := 90 } [.ref a, .ref b, .int p, .int q] h (zP (z_s h a (oB 1 [.ref b, .int (nI (fb_sm (fun k => pc64 (f k)) 256)), .int p, .int q, .int 0])) none) := by
  refine zMet_of (lv := [(0, .ref a), (1, .ref b), (2, .int p), (3, .int q)]) (by decide) (by simp [lg_sl, Value.category]) rfl ?_
  intro X g z
  refine v_blk g [.aload_n 0] (pc' := 1) (lv' := [(0, .ref a), (1, .ref b), (2, .int p), (3, .int q)]) (st' := [.ref a]) (by decide +kernel) rfl rfl ?_
  refine v_obj g ol_X1_1 (by decide +kernel) ⟨Nat.le_of_ble_eq_true rfl, Nat.le_of_ble_eq_true rfl⟩ (Nat.le_of_ble_eq_true rfl) ?_ ob_i ob_c
  refine v_blk g [.aload_n 0, .aload_n 1] (pc' := 6) (lv' := [(0, .ref a), (1, .ref b), (2, .int p), (3, .int q)]) (st' := [.ref b, .ref a]) (by decide +kernel) rfl rfl ?_
  refine v_putF g (fs' := [.ref b, .int x1, .int x2, .int x3, .int x4]) ha fl_X1_7 rfl rfl rfl rfl (Nat.le_of_ble_eq_true rfl) rfl (by decide +kernel) ?_
  refine v_h (fun h1 eh1 => ?_)
  have h1_c : h1.2.1 = h.2.1 + 0 ∧ h1.2.2 = h.2.2 + 0 := zcs eh1 ⟨rfl, rfl⟩
  have h1_a : h1.1 a = some (oB 1 [.ref b, .int x1, .int x2, .int x3, .int x4]) := by rw [eh1]; exact z_s_self _ _ _
  have h1_b : h1.1 b = some (oB 3 [.ref w]) := by rw [eh1]; exact z_so hb (Ne.symm (z_ne ha hb rfl))
  have h1_w : h1.1 w = some (aJ 256 f) := by rw [eh1]; exact z_so hw (Ne.symm (z_ne ha hw rfl))
  refine v_blk g [.aload_n 0, .aload_n 1] (pc' := 11) (lv' := [(0, .ref a), (1, .ref b), (2, .int p), (3, .int q)]) (st' := [.ref b, .ref a]) (by decide +kernel) rfl rfl ?_
  refine v_callVp g (rest := [.ref a]) (c_sizeOfAll h1_b h1_w) cl_X1_13 h1_b rfl rfl (Nat.le_of_ble_eq_true rfl) (by decide +kernel) ⟨Nat.le_of_ble_eq_true rfl, Nat.le_of_ble_eq_true rfl⟩ (zcsn 0 0 h1_c.1 h1_c.2 (Nat.le_of_ble_eq_true rfl) (Nat.le_of_ble_eq_true rfl)) ?_
  show zV F X h1 14 [(0, .ref a), (1, .ref b), (2, .int p), (3, .int q)] [.int (nI (fb_sm (fun k => pc64 (f k)) 256)), .ref a]
  refine v_putF g (fs' := [.ref b, .int (nI (fb_sm (fun k => pc64 (f k)) 256)), .int x2, .int x3, .int x4]) h1_a fl_X1_19 rfl rfl rfl rfl (Nat.le_of_ble_eq_true rfl) rfl (by decide +kernel) ?_
  refine v_h (fun h2 eh2 => ?_)
  have h2_c : h2.2.1 = h.2.1 + 0 ∧ h2.2.2 = h.2.2 + 0 := zcs eh2 h1_c
  have h2_a : h2.1 a = some (oB 1 [.ref b, .int (nI (fb_sm (fun k => pc64 (f k)) 256)), .int x2, .int x3, .int x4]) := by rw [eh2]; exact z_s_self _ _ _
  have h2_b : h2.1 b = some (oB 3 [.ref w]) := by rw [eh2]; exact z_so h1_b (Ne.symm (z_ne ha hb rfl))
  have h2_w : h2.1 w = some (aJ 256 f) := by rw [eh2]; exact z_so h1_w (Ne.symm (z_ne ha hw rfl))
  refine v_blk g [.aload_n 0, .iload_n 2] (pc' := 19) (lv' := [(0, .ref a), (1, .ref b), (2, .int p), (3, .int q)]) (st' := [.int p, .ref a]) (by decide +kernel) rfl rfl ?_
  refine v_putF g (fs' := [.ref b, .int (nI (fb_sm (fun k => pc64 (f k)) 256)), .int p, .int x3, .int x4]) h2_a fl_X1_23 rfl rfl rfl rfl (Nat.le_of_ble_eq_true rfl) rfl (by decide +kernel) ?_
  refine v_h (fun h3 eh3 => ?_)
  have h3_c : h3.2.1 = h.2.1 + 0 ∧ h3.2.2 = h.2.2 + 0 := zcs eh3 h2_c
  have h3_a : h3.1 a = some (oB 1 [.ref b, .int (nI (fb_sm (fun k => pc64 (f k)) 256)), .int p, .int x3, .int x4]) := by rw [eh3]; exact z_s_self _ _ _
  have h3_b : h3.1 b = some (oB 3 [.ref w]) := by rw [eh3]; exact z_so h2_b (Ne.symm (z_ne ha hb rfl))
  have h3_w : h3.1 w = some (aJ 256 f) := by rw [eh3]; exact z_so h2_w (Ne.symm (z_ne ha hw rfl))
  refine v_blk g [.aload_n 0, .iload_n 3] (pc' := 24) (lv' := [(0, .ref a), (1, .ref b), (2, .int p), (3, .int q)]) (st' := [.int q, .ref a]) (by decide +kernel) rfl rfl ?_
  refine v_putF g (fs' := [.ref b, .int (nI (fb_sm (fun k => pc64 (f k)) 256)), .int p, .int q, .int x4]) h3_a fl_X1_26 rfl rfl rfl rfl (Nat.le_of_ble_eq_true rfl) rfl (by decide +kernel) ?_
  refine v_h (fun h4 eh4 => ?_)
  have h4_c : h4.2.1 = h.2.1 + 0 ∧ h4.2.2 = h.2.2 + 0 := zcs eh4 h3_c
  have h4_a : h4.1 a = some (oB 1 [.ref b, .int (nI (fb_sm (fun k => pc64 (f k)) 256)), .int p, .int q, .int x4]) := by rw [eh4]; exact z_s_self _ _ _
  have h4_b : h4.1 b = some (oB 3 [.ref w]) := by rw [eh4]; exact z_so h3_b (Ne.symm (z_ne ha hb rfl))
  have h4_w : h4.1 w = some (aJ 256 f) := by rw [eh4]; exact z_so h3_w (Ne.symm (z_ne ha hw rfl))
  refine v_blk g [.aload_n 0, .iconst 0] (pc' := 29) (lv' := [(0, .ref a), (1, .ref b), (2, .int p), (3, .int q)]) (st' := [.int (0 : Int32), .ref a]) (by decide +kernel) rfl rfl ?_
  refine v_put g (fs' := [.ref b, .int (nI (fb_sm (fun k => pc64 (f k)) 256)), .int p, .int q, .int (0 : Int32)]) h4_a fl_X1_29 rfl rfl (Nat.le_of_ble_eq_true rfl) rfl (by decide +kernel) ?_
  refine v_h (fun h5 eh5 => ?_)
  have h5_c : h5.2.1 = h.2.1 + 0 ∧ h5.2.2 = h.2.2 + 0 := zcs eh5 h4_c
  have h5_a : h5.1 a = some (oB 1 [.ref b, .int (nI (fb_sm (fun k => pc64 (f k)) 256)), .int p, .int q, .int (0 : Int32)]) := by rw [eh5]; exact z_s_self _ _ _
  have h5_b : h5.1 b = some (oB 3 [.ref w]) := by rw [eh5]; exact z_so h4_b (Ne.symm (z_ne ha hb rfl))
  have h5_w : h5.1 w = some (aJ 256 f) := by rw [eh5]; exact z_so h4_w (Ne.symm (z_ne ha hw rfl))
  exact v_vret g z rfl (by decide +kernel) ⟨rfl, by rw [eh5, eh4, eh3, eh2, eh1]; simp only [z_ss]⟩ (zcrn 0 0 h5_c.1 h5_c.2 (Nat.le_of_ble_eq_true rfl) (Nat.le_of_ble_eq_true rfl))

set_option maxRecDepth 100000 in
set_option maxHeartbeats 4000000 in
theorem c_Cou_stake {F : zF} {h : zH} {a b : Nat} {s p q vd : Int32} (ha : h.1 a = some (oB 1 [.ref b, .int s, .int p, .int q, .int vd])) : zMet F yX1_stakeInCoins cX1_stakeInCoins 1 (some .int) { frames := 1, cells := 0, slots := 0, locals := 30 } [.ref a] h (zP h (some (.int (s * p)))) := by
  refine zMet_of (lv := [(0, .ref a)]) (by decide) (by simp [lg_sl, Value.category]) rfl ?_
  intro X g z
  refine v_blk g [.aload_n 0] (pc' := 1) (lv' := [(0, .ref a)]) (st' := [.ref a]) (by decide +kernel) rfl rfl ?_
  refine v_get g ha fl_X1_19 rfl (by decide +kernel) ?_
  refine v_blk g [.aload_n 0] (pc' := 5) (lv' := [(0, .ref a)]) (st' := [.ref a, .int s]) (by decide +kernel) rfl rfl ?_
  refine v_get g ha fl_X1_23 rfl (by decide +kernel) ?_
  refine v_blk g [.imul] (pc' := 9) (lv' := [(0, .ref a)]) (st' := [.int (s * p)]) (by decide +kernel) rfl rfl ?_
  exact v_iret g z rfl (by decide +kernel) ⟨rfl, rfl⟩ (zcrn 0 0 rfl rfl (Nat.le_of_ble_eq_true rfl) (Nat.le_of_ble_eq_true rfl))

set_option maxRecDepth 100000 in
set_option maxHeartbeats 4000000 in
theorem c_PR_stopAt {F : zF} {h : zH} {a : Nat} {fk fp hg at9 : Int32} {t ss : Nat} {sp : Option Nat} (ha : h.1 a = some (oB 4 [.int fk, .int fp, .ref t, .ref ss, va_rf sp, .int hg, .int at9])) (k p : Int32) : zMet F yX4_stopAt cX4_stopAt 3 (some .boolean) { frames := 1, cells := 0, slots := 0, locals := 30 } [.ref a, .int k, .int p] h (zP (z_s h a (oB 4 [.int k, .int p, .ref t, .ref ss, va_rf sp, .int hg, .int at9])) (some (.int 0))) := by
  refine zMet_of (lv := [(0, .ref a), (1, .int k), (2, .int p)]) (by decide) (by simp [lg_sl, Value.category]) rfl ?_
  intro X g z
  refine v_blk g [.aload_n 0, .iload_n 1] (pc' := 2) (lv' := [(0, .ref a), (1, .int k), (2, .int p)]) (st' := [.int k, .ref a]) (by decide +kernel) rfl rfl ?_
  refine v_put g (fs' := [.int k, .int fp, .ref t, .ref ss, va_rf sp, .int hg, .int at9]) ha fl_X4_32 rfl rfl (Nat.le_of_ble_eq_true rfl) rfl (by decide +kernel) ?_
  refine v_h (fun h1 eh1 => ?_)
  have h1_c : h1.2.1 = h.2.1 + 0 ∧ h1.2.2 = h.2.2 + 0 := zcs eh1 ⟨rfl, rfl⟩
  have h1_a : h1.1 a = some (oB 4 [.int k, .int fp, .ref t, .ref ss, va_rf sp, .int hg, .int at9]) := by rw [eh1]; exact z_s_self _ _ _
  refine v_blk g [.aload_n 0, .iload_n 2] (pc' := 7) (lv' := [(0, .ref a), (1, .int k), (2, .int p)]) (st' := [.int p, .ref a]) (by decide +kernel) rfl rfl ?_
  refine v_put g (fs' := [.int k, .int p, .ref t, .ref ss, va_rf sp, .int hg, .int at9]) h1_a fl_X4_35 rfl rfl (Nat.le_of_ble_eq_true rfl) rfl (by decide +kernel) ?_
  refine v_h (fun h2 eh2 => ?_)
  have h2_c : h2.2.1 = h.2.1 + 0 ∧ h2.2.2 = h.2.2 + 0 := zcs eh2 h1_c
  have h2_a : h2.1 a = some (oB 4 [.int k, .int p, .ref t, .ref ss, va_rf sp, .int hg, .int at9]) := by rw [eh2]; exact z_s_self _ _ _
  refine v_blk g [.iconst 0] (pc' := 11) (lv' := [(0, .ref a), (1, .int k), (2, .int p)]) (st' := [.int (0 : Int32)]) (by decide +kernel) rfl rfl ?_
  exact v_zret g z rfl (by decide) (by decide +kernel) ⟨rfl, by rw [eh2, eh1]; simp only [z_ss]⟩ (zcrn 0 0 h2_c.1 h2_c.2 (Nat.le_of_ble_eq_true rfl) (Nat.le_of_ble_eq_true rfl))

set_option maxRecDepth 100000 in
set_option maxHeartbeats 4000000 in
theorem c_PR_forget {F : zF} {h : zH} {a : Nat} {fk fp hg at9 : Int32} {t ss : Nat} {sp : Option Nat} (ha : h.1 a = some (oB 4 [.int fk, .int fp, .ref t, .ref ss, va_rf sp, .int hg, .int at9])) : zMet F yX4_forgetFault cX4_forgetFault 1 none { frames := 1, cells := 0, slots := 0, locals := 30 } [.ref a] h (zP (z_s h a (oB 4 [.int 0, .int 0, .ref t, .ref ss, va_rf sp, .int hg, .int at9])) none) := by
  refine zMet_of (lv := [(0, .ref a)]) (by decide) (by simp [lg_sl, Value.category]) rfl ?_
  intro X g z
  refine v_blk g [.aload_n 0, .iconst 0] (pc' := 2) (lv' := [(0, .ref a)]) (st' := [.int (0 : Int32), .ref a]) (by decide +kernel) rfl rfl ?_
  refine v_put g (fs' := [.int (0 : Int32), .int fp, .ref t, .ref ss, va_rf sp, .int hg, .int at9]) ha fl_X4_32 rfl rfl (Nat.le_of_ble_eq_true rfl) rfl (by decide +kernel) ?_
  refine v_h (fun h1 eh1 => ?_)
  have h1_c : h1.2.1 = h.2.1 + 0 ∧ h1.2.2 = h.2.2 + 0 := zcs eh1 ⟨rfl, rfl⟩
  have h1_a : h1.1 a = some (oB 4 [.int (0 : Int32), .int fp, .ref t, .ref ss, va_rf sp, .int hg, .int at9]) := by rw [eh1]; exact z_s_self _ _ _
  refine v_blk g [.aload_n 0, .iconst 0] (pc' := 7) (lv' := [(0, .ref a)]) (st' := [.int (0 : Int32), .ref a]) (by decide +kernel) rfl rfl ?_
  refine v_put g (fs' := [.int (0 : Int32), .int (0 : Int32), .ref t, .ref ss, va_rf sp, .int hg, .int at9]) h1_a fl_X4_35 rfl rfl (Nat.le_of_ble_eq_true rfl) rfl (by decide +kernel) ?_
  refine v_h (fun h2 eh2 => ?_)
  have h2_c : h2.2.1 = h.2.1 + 0 ∧ h2.2.2 = h.2.2 + 0 := zcs eh2 h1_c
  have h2_a : h2.1 a = some (oB 4 [.int (0 : Int32), .int (0 : Int32), .ref t, .ref ss, va_rf sp, .int hg, .int at9]) := by rw [eh2]; exact z_s_self _ _ _
  exact v_vret g z rfl (by decide +kernel) ⟨rfl, by rw [eh2, eh1]; simp only [z_ss]⟩ (zcrn 0 0 h2_c.1 h2_c.2 (Nat.le_of_ble_eq_true rfl) (Nat.le_of_ble_eq_true rfl))
