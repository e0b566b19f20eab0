/-! the class: made anew -/
def kdz (x : zE) : Nat × Nat := match x with
  | .inl a => (a.1, a.2.1)
  | .inr o => (50 + o.1, 0)
def kcq (k : Nat) : Nat × Nat := match k with
  | 0 => (57, 0) | 1 => (56, 0) | 2 => (0, 200) | 3 => (54, 0) | 4 => (3, 15) | 5 => (55, 0) | 6 => (0, 14) | 7 => (0, 64) | 8 => (0, 256) | 9 => (1, 55)
  | 10 => (50, 0) | 11 => (0, 14) | 12 => (4, 20) | 13 => (5, 4) | 14 => (1, 20) | 15 => (0, 20)
  | 16 => (52, 0) | 17 => (52, 0) | 18 => (52, 0) | 19 => (52, 0)
  | 20 => (50, 0) | 21 => (0, 14) | 22 => (4, 20) | 23 => (5, 4) | 24 => (1, 20) | 25 => (0, 20)
  | 26 => (52, 0) | 27 => (52, 0) | 28 => (52, 0) | 29 => (52, 0)
  | _ => (0, 4)
def kcb (i j : Nat) : Bool := (i == 10 && j == 20) || (i == 6 && j == 11) || (i == 6 && j == 21) || (i == 11 && j == 21) || (i == 12 && j == 22) || (i == 13 && j == 23) || (i == 14 && j == 24) || (i == 15 && j == 25) || (decide (16 ≤ i) && decide (i < 20) && decide (16 ≤ j) && decide (j < 20)) || (decide (16 ≤ i) && decide (i < 20) && decide (26 ≤ j) && decide (j < 30)) || (decide (26 ≤ i) && decide (i < 30) && decide (26 ≤ j) && decide (j < 30))
theorem kcq_b : ∀ i, i < 31 → ∀ j, j < 31 → (!(decide (i < j)) || !(kcq i == kcq j) || kcb i j) = true := by decide +kernel
theorem kcq_eq (i : Nat) (hi : i < 31) (j : Nat) (hj : j < 31) (hij : i < j) (e : kcq i = kcq j) : ((i = 10 ∧ j = 20) ∨ (i = 6 ∧ j = 11) ∨ (i = 6 ∧ j = 21) ∨ (i = 11 ∧ j = 21) ∨ (i = 12 ∧ j = 22) ∨ (i = 13 ∧ j = 23) ∨ (i = 14 ∧ j = 24) ∨ (i = 15 ∧ j = 25) ∨ (16 ≤ i ∧ i < 20 ∧ 16 ≤ j ∧ j < 20) ∨ (16 ≤ i ∧ i < 20 ∧ 26 ≤ j ∧ j < 30) ∨ (26 ≤ i ∧ i < 30 ∧ 26 ≤ j ∧ j < 30)) := by
  have h := kcq_b i hi j hj
  simp only [hij, e, kcb, decide_true, Bool.not_true, Bool.false_or, beq_self_eq_true, Bool.or_eq_true, Bool.and_eq_true, beq_iff_eq, decide_eq_true_eq, or_assoc, and_assoc] at h
  exact h
def mkQ (x t tb a ss sc wa la hi9 fa b oc cs ds pz pq : Nat) (da : Nat → Nat) (b2 oc2 cs2 ds2 pz2 pq2 : Nat) (da2 : Nat → Nat) (wo k : Nat) : Nat := match k with
  | 0 => x | 1 => t | 2 => tb | 3 => a | 4 => ss | 5 => sc | 6 => wa | 7 => la | 8 => hi9 | 9 => fa
  | 10 => b | 11 => oc | 12 => cs | 13 => ds | 14 => pz | 15 => pq
  | 16 => da 0 | 17 => da 1 | 18 => da 2 | 19 => da 3
  | 20 => b2 | 21 => oc2 | 22 => cs2 | 23 => ds2 | 24 => pz2 | 25 => pq2
  | 26 => da2 0 | 27 => da2 1 | 28 => da2 2 | 29 => da2 3
  | _ => wo

set_option maxRecDepth 100000 in
set_option maxHeartbeats 4000000 in
theorem p_init {F : zF} {h : zH} {x : Nat} (hx : h.1 x = some (oB 7 [.null, .null, .null, .null, .null, .null, .int 0, .int 0, .int 0])) : zMet F yX7_init cX7_init 1 none { frames := 4, cells := 30, slots := 847, locals := 120 } [.ref x] h (fun v h2 => v = none ∧ ∃ (Q : Nat → Nat), Q 0 = x ∧ ∃ D D2 : Nat → Option Nat, PC h2 (fun _ => True) Q 0 30 1 0 (fun _ => 0) 0 0 0 0 none (fun _ => none) (fun _ => none) (fun _ => 0) (fun _ => 0) (fun _ => 0) (fun _ => 0) (upd (upd (upd (upd (fun _ => 0) 0 2) 1 3) 2 4) 3 6) 0 0 0 (mx (fun _ => (-1 : Int32)) (fun _ => 0) 14) (fun _ => none) 0 D 0 (fun _ => (0, 0, 0, 0, 0, 0)) (fun _ => 0) (fun _ => 0) 0 (fun _ => 0) (fun _ => 0) (fun _ => 0) (fun _ => (0, 0, 0, 0)) (fun _ _ => 0) 0 0 0 (mx (fun _ => (-1 : Int32)) (fun _ => 0) 14) (fun _ => none) 0 D2 0 (fun _ => (0, 0, 0, 0, 0, 0)) (fun _ => 0) (fun _ => 0) 0 (fun _ => 0) (fun _ => 0) (fun _ => 0) (fun _ => (0, 0, 0, 0)) (fun _ _ => 0) ∧ (h2.2.1 = h.2.1 + 30 ∧ h2.2.2 = h.2.2 + 847)) := by
  refine zMet_of (lv := [(0, .ref x)]) (by decide) (by simp [lg_sl, Value.category]) rfl ?_
  intro X g z
  refine v_blk g [.aload_n 0] (pc' := 1) (lv' := [(0, .ref x)]) (st' := [.ref x]) (by decide +kernel) rfl rfl ?_
  refine v_obj g ol_X7_1 (by decide +kernel) ⟨Nat.le_of_ble_eq_true rfl, Nat.le_of_ble_eq_true rfl⟩ (Nat.le_of_ble_eq_true rfl) ?_ ob_i ob_c
  refine v_blk g [.aload_n 0] (pc' := 5) (lv' := [(0, .ref x)]) (st' := [.ref x]) (by decide +kernel) rfl rfl ?_
  refine v_new g nl_X7_7 (zcsk 0 0 1 2 rfl rfl (Nat.le_of_ble_eq_true rfl) (Nat.le_of_ble_eq_true rfl)) (by decide +kernel) (fun t ht => ?_)
  refine v_h (fun h1 eh1 => ?_)
  have h1_c : h1.2.1 = h.2.1 + 1 ∧ h1.2.2 = h.2.2 + 2 := zcn eh1 ⟨rfl, rfl⟩
  have h1_x : h1.1 x = some (oB 7 [.null, .null, .null, .null, .null, .null, .int 0, .int 0, .int 0]) := by rw [eh1]; exact z_no hx ht
  have h1_t : h1.1 t = some (oB 6 [.null, .int 0]) := by rw [eh1]; exact z_n_self _ _ _ _
  refine v_blk g [.dup] (pc' := 9) (lv' := [(0, .ref x)]) (st' := [.ref t, .ref t, .ref x]) (by decide +kernel) rfl rfl ?_
  refine v_callI g (rest := [.ref t, .ref x]) (c_Tape_init h1_t) cl_X7_9 rfl (Nat.le_of_ble_eq_true rfl) (by decide +kernel) ⟨Nat.le_of_ble_eq_true rfl, Nat.le_of_ble_eq_true rfl⟩ (zcsn 1 2 h1_c.1 h1_c.2 (Nat.le_of_ble_eq_true rfl) (Nat.le_of_ble_eq_true rfl)) (fun v9 h2 q2 => ?_)
  obtain ⟨rfl, tb, htb, e2⟩ := q2
  show zV F X h2 12 [(0, .ref x)] [.ref t, .ref x]
  have cc_h2 := h1_c
  have h2_c : h2.2.1 = h.2.1 + 2 ∧ h2.2.2 = h.2.2 + 202 := by rw [e2]; exact ⟨by show _ + 1 = _; omega, by show _ + 200 = _; omega⟩
  have h2_x : h2.1 x = some (oB 7 [.null, .null, .null, .null, .null, .null, .int 0, .int 0, .int 0]) := by rw [e2]; exact z_so (z_no h1_x htb) (z_ne h1_x h1_t rfl)
  have h2_t : h2.1 t = some (oB 6 [.ref tb, .int 0]) := by rw [e2]; exact z_s_self _ _ _
  have h2_tb : h2.1 tb = some (aI 200 (fun _ => 0)) := by rw [e2]; exact z_so (z_n_self _ _ _ _) (fun e => by rw [e] at htb; rw [h1_t] at htb; cases htb)
  refine v_putF g (fs' := [.ref t, .null, .null, .null, .null, .null, .int 0, .int 0, .int 0]) h2_x fl_X7_10 rfl rfl rfl rfl (Nat.le_of_ble_eq_true rfl) rfl (by decide +kernel) ?_
  refine v_h (fun h11 eh11 => ?_)
  have h11_c : h11.2.1 = h.2.1 + 2 ∧ h11.2.2 = h.2.2 + 202 := zcs eh11 h2_c
  have h11_x : h11.1 x = some (oB 7 [.ref t, .null, .null, .null, .null, .null, .int 0, .int 0, .int 0]) := by rw [eh11]; exact z_s_self _ _ _
  have h11_t : h11.1 t = some (oB 6 [.ref tb, .int 0]) := by rw [eh11]; exact z_so h2_t (Ne.symm (z_ne h1_x h1_t rfl))
  have h11_tb : h11.1 tb = some (aI 200 (fun _ => 0)) := by rw [eh11]; exact z_so h2_tb (Ne.symm (z_ne h2_x h2_tb rfl))
  refine v_blk g [.aload_n 0] (pc' := 16) (lv' := [(0, .ref x)]) (st' := [.ref x]) (by decide +kernel) rfl rfl ?_
  refine v_new g nl_X7_16 (zcsk 2 202 1 7 h11_c.1 h11_c.2 (Nat.le_of_ble_eq_true rfl) (Nat.le_of_ble_eq_true rfl)) (by decide +kernel) (fun a ha => ?_)
  refine v_h (fun h12 eh12 => ?_)
  have h12_c : h12.2.1 = h.2.1 + 3 ∧ h12.2.2 = h.2.2 + 209 := zcn eh12 h11_c
  have h12_x : h12.1 x = some (oB 7 [.ref t, .null, .null, .null, .null, .null, .int 0, .int 0, .int 0]) := by rw [eh12]; exact z_no h11_x ha
  have h12_t : h12.1 t = some (oB 6 [.ref tb, .int 0]) := by rw [eh12]; exact z_no h11_t ha
  have h12_tb : h12.1 tb = some (aI 200 (fun _ => 0)) := by rw [eh12]; exact z_no h11_tb ha
  have h12_a : h12.1 a = some (oB 4 [.int 0, .int 0, .null, .null, .null, .int 0, .int 0]) := by rw [eh12]; exact z_n_self _ _ _ _
  refine v_blk g [.dup, .aload_n 0] (pc' := 21) (lv' := [(0, .ref x)]) (st' := [.ref x, .ref a, .ref a, .ref x]) (by decide +kernel) rfl rfl ?_
  refine v_get g h12_x fl_X7_10 rfl (by decide +kernel) ?_
  refine v_callI g (rest := [.ref a, .ref x]) (c_PR_init h12_a) cl_X7_18 rfl (Nat.le_of_ble_eq_true rfl) (by decide +kernel) ⟨Nat.le_of_ble_eq_true rfl, Nat.le_of_ble_eq_true rfl⟩ (zcsn 3 209 h12_c.1 h12_c.2 (Nat.le_of_ble_eq_true rfl) (Nat.le_of_ble_eq_true rfl)) (fun v9 h20 q20 => ?_)
  obtain ⟨rfl, ss, hss, g1, g2, g3, g4, gk⟩ := q20
  show zV F X h20 27 [(0, .ref x)] [.ref a, .ref x]
  have cc_h20 := h12_c
  have h20_c : h20.2.1 = h.2.1 + 4 ∧ h20.2.2 = h.2.2 + 224 := ⟨by omega, by omega⟩
  have h20_x : h20.1 x = some (oB 7 [.ref t, .null, .null, .null, .null, .null, .int 0, .int 0, .int 0]) := gk _ _ h12_x (z_ne h12_x h12_a rfl)
  have h20_t : h20.1 t = some (oB 6 [.ref tb, .int 0]) := gk _ _ h12_t (z_ne h12_t h12_a rfl)
  have h20_tb : h20.1 tb = some (aI 200 (fun _ => 0)) := gk _ _ h12_tb (z_ne h12_tb h12_a rfl)
  refine v_putF g (fs' := [.ref t, .ref a, .null, .null, .null, .null, .int 0, .int 0, .int 0]) h20_x fl_X7_21 rfl rfl rfl rfl (Nat.le_of_ble_eq_true rfl) rfl (by decide +kernel) ?_
  refine v_h (fun h31 eh31 => ?_)
  have h31_c : h31.2.1 = h.2.1 + 4 ∧ h31.2.2 = h.2.2 + 224 := zcs eh31 h20_c
  have h31_x : h31.1 x = some (oB 7 [.ref t, .ref a, .null, .null, .null, .null, .int 0, .int 0, .int 0]) := by rw [eh31]; exact z_s_self _ _ _
  have h31_t : h31.1 t = some (oB 6 [.ref tb, .int 0]) := by rw [eh31]; exact z_so h20_t (Ne.symm (z_ne h1_x h1_t rfl))
  have h31_tb : h31.1 tb = some (aI 200 (fun _ => 0)) := by rw [eh31]; exact z_so h20_tb (Ne.symm (z_ne h2_x h2_tb rfl))
  have h31_a : h31.1 a = some (oB 4 [.int 0, .int 0, .ref t, .ref ss, .null, .int 0, .int 0]) := by rw [eh31]; exact z_so g1 (Ne.symm (z_ne h12_x h12_a rfl))
  have h31_ss : h31.1 ss = some (aQ 3 15 (fun _ => none)) := by rw [eh31]; exact z_so g2 (Ne.symm (z_ne h20_x g2 rfl))
  refine v_blk g [.aload_n 0] (pc' := 31) (lv' := [(0, .ref x)]) (st' := [.ref x]) (by decide +kernel) rfl rfl ?_
  refine v_new g nl_X7_25 (zcsk 4 224 1 4 h31_c.1 h31_c.2 (Nat.le_of_ble_eq_true rfl) (Nat.le_of_ble_eq_true rfl)) (by decide +kernel) (fun sc hsc => ?_)
  refine v_h (fun h32 eh32 => ?_)
  have h32_c : h32.2.1 = h.2.1 + 5 ∧ h32.2.2 = h.2.2 + 228 := zcn eh32 h31_c
  have h32_x : h32.1 x = some (oB 7 [.ref t, .ref a, .null, .null, .null, .null, .int 0, .int 0, .int 0]) := by rw [eh32]; exact z_no h31_x hsc
  have h32_t : h32.1 t = some (oB 6 [.ref tb, .int 0]) := by rw [eh32]; exact z_no h31_t hsc
  have h32_tb : h32.1 tb = some (aI 200 (fun _ => 0)) := by rw [eh32]; exact z_no h31_tb hsc
  have h32_a : h32.1 a = some (oB 4 [.int 0, .int 0, .ref t, .ref ss, .null, .int 0, .int 0]) := by rw [eh32]; exact z_no h31_a hsc
  have h32_ss : h32.1 ss = some (aQ 3 15 (fun _ => none)) := by rw [eh32]; exact z_no h31_ss hsc
  have h32_sc : h32.1 sc = some (oB 5 [.null, .null, .null, .null]) := by rw [eh32]; exact z_n_self _ _ _ _
  refine v_blk g [.dup] (pc' := 35) (lv' := [(0, .ref x)]) (st' := [.ref sc, .ref sc, .ref x]) (by decide +kernel) rfl rfl ?_
  refine v_callI g (rest := [.ref sc, .ref x]) (c_Sc_init h32_sc) cl_X7_27 rfl (Nat.le_of_ble_eq_true rfl) (by decide +kernel) ⟨Nat.le_of_ble_eq_true rfl, Nat.le_of_ble_eq_true rfl⟩ (zcsn 5 228 h32_c.1 h32_c.2 (Nat.le_of_ble_eq_true rfl) (Nat.le_of_ble_eq_true rfl)) (fun v9 h40 q40 => ?_)
  obtain ⟨rfl, wa, la, hi9, fa, s1, s2, s3, s4, s5, s6, s7, sk⟩ := q40
  show zV F X h40 38 [(0, .ref x)] [.ref sc, .ref x]
  have cc_h40 := h32_c
  have h40_c : h40.2.1 = h.2.1 + 9 ∧ h40.2.2 = h.2.2 + 617 := ⟨by omega, by omega⟩
  have h40_x : h40.1 x = some (oB 7 [.ref t, .ref a, .null, .null, .null, .null, .int 0, .int 0, .int 0]) := sk _ _ h32_x (z_ne h32_x h32_sc rfl)
  have h40_t : h40.1 t = some (oB 6 [.ref tb, .int 0]) := sk _ _ h32_t (z_ne h32_t h32_sc rfl)
  have h40_tb : h40.1 tb = some (aI 200 (fun _ => 0)) := sk _ _ h32_tb (z_ne h32_tb h32_sc rfl)
  have h40_a : h40.1 a = some (oB 4 [.int 0, .int 0, .ref t, .ref ss, .null, .int 0, .int 0]) := sk _ _ h32_a (z_ne h32_a h32_sc rfl)
  have h40_ss : h40.1 ss = some (aQ 3 15 (fun _ => none)) := sk _ _ h32_ss (z_ne h32_ss h32_sc rfl)
  refine v_putF g (fs' := [.ref t, .ref a, .ref sc, .null, .null, .null, .int 0, .int 0, .int 0]) h40_x fl_X7_28 rfl rfl rfl rfl (Nat.le_of_ble_eq_true rfl) rfl (by decide +kernel) ?_
  refine v_h (fun h51 eh51 => ?_)
  have h51_c : h51.2.1 = h.2.1 + 9 ∧ h51.2.2 = h.2.2 + 617 := zcs eh51 h40_c
  have h51_x : h51.1 x = some (oB 7 [.ref t, .ref a, .ref sc, .null, .null, .null, .int 0, .int 0, .int 0]) := by rw [eh51]; exact z_s_self _ _ _
  have h51_t : h51.1 t = some (oB 6 [.ref tb, .int 0]) := by rw [eh51]; exact z_so h40_t (Ne.symm (z_ne h1_x h1_t rfl))
  have h51_tb : h51.1 tb = some (aI 200 (fun _ => 0)) := by rw [eh51]; exact z_so h40_tb (Ne.symm (z_ne h2_x h2_tb rfl))
  have h51_a : h51.1 a = some (oB 4 [.int 0, .int 0, .ref t, .ref ss, .null, .int 0, .int 0]) := by rw [eh51]; exact z_so h40_a (Ne.symm (z_ne h12_x h12_a rfl))
  have h51_ss : h51.1 ss = some (aQ 3 15 (fun _ => none)) := by rw [eh51]; exact z_so h40_ss (Ne.symm (z_ne h20_x g2 rfl))
  have h51_sc : h51.1 sc = some (oB 5 [.ref wa, .ref la, .ref hi9, .ref fa]) := by rw [eh51]; exact z_so s1 (Ne.symm (z_ne h32_x h32_sc rfl))
  have h51_wa : h51.1 wa = some (aI 14 (fun _ => 0)) := by rw [eh51]; exact z_so s2 (Ne.symm (z_ne h40_x s2 rfl))
  have h51_la : h51.1 la = some (aI 64 (fun _ => 0)) := by rw [eh51]; exact z_so s3 (Ne.symm (z_ne h40_x s3 rfl))
  have h51_hi9 : h51.1 hi9 = some (aI 256 (fun _ => 0)) := by rw [eh51]; exact z_so s4 (Ne.symm (z_ne h40_x s4 rfl))
  have h51_fa : h51.1 fa = some (aJ 55 (fun _ => 0)) := by rw [eh51]; exact z_so s5 (Ne.symm (z_ne h40_x s5 rfl))
  refine v_blk g [.aload_n 0] (pc' := 42) (lv' := [(0, .ref x)]) (st' := [.ref x]) (by decide +kernel) rfl rfl ?_
  refine v_new g nl_X7_32 (zcsk 9 617 1 11 h51_c.1 h51_c.2 (Nat.le_of_ble_eq_true rfl) (Nat.le_of_ble_eq_true rfl)) (by decide +kernel) (fun b hb => ?_)
  refine v_h (fun h52 eh52 => ?_)
  have h52_c : h52.2.1 = h.2.1 + 10 ∧ h52.2.2 = h.2.2 + 628 := zcn eh52 h51_c
  have h52_x : h52.1 x = some (oB 7 [.ref t, .ref a, .ref sc, .null, .null, .null, .int 0, .int 0, .int 0]) := by rw [eh52]; exact z_no h51_x hb
  have h52_t : h52.1 t = some (oB 6 [.ref tb, .int 0]) := by rw [eh52]; exact z_no h51_t hb
  have h52_tb : h52.1 tb = some (aI 200 (fun _ => 0)) := by rw [eh52]; exact z_no h51_tb hb
  have h52_a : h52.1 a = some (oB 4 [.int 0, .int 0, .ref t, .ref ss, .null, .int 0, .int 0]) := by rw [eh52]; exact z_no h51_a hb
  have h52_ss : h52.1 ss = some (aQ 3 15 (fun _ => none)) := by rw [eh52]; exact z_no h51_ss hb
  have h52_sc : h52.1 sc = some (oB 5 [.ref wa, .ref la, .ref hi9, .ref fa]) := by rw [eh52]; exact z_no h51_sc hb
  have h52_wa : h52.1 wa = some (aI 14 (fun _ => 0)) := by rw [eh52]; exact z_no h51_wa hb
  have h52_la : h52.1 la = some (aI 64 (fun _ => 0)) := by rw [eh52]; exact z_no h51_la hb
  have h52_hi9 : h52.1 hi9 = some (aI 256 (fun _ => 0)) := by rw [eh52]; exact z_no h51_hi9 hb
  have h52_fa : h52.1 fa = some (aJ 55 (fun _ => 0)) := by rw [eh52]; exact z_no h51_fa hb
  have h52_b : h52.1 b = some (oB 0 [.int 0, .long 0, .long 0, .null, .null, .int 0, .null, .int 0, .null, .null, .int 0]) := by rw [eh52]; exact z_n_self _ _ _ _
  refine v_blk g [.dup] (pc' := 46) (lv' := [(0, .ref x)]) (st' := [.ref b, .ref b, .ref x]) (by decide +kernel) rfl rfl ?_
  refine v_callI g (rest := [.ref b, .ref x]) (c_Bk_init h52_b) cl_X7_34 rfl (Nat.le_of_ble_eq_true rfl) (by decide +kernel) ⟨Nat.le_of_ble_eq_true rfl, Nat.le_of_ble_eq_true rfl⟩ (zcsn 10 628 h52_c.1 h52_c.2 (Nat.le_of_ble_eq_true rfl) (Nat.le_of_ble_eq_true rfl)) (fun v9 h60 q60 => ?_)
  obtain ⟨rfl, oc, cs, ds, pz, pq, D, da, k0, k1, k2, k3, k4, k5, kE, kI, n1, n2, n3, n4, n5, ⟨c1, c2⟩, kk⟩ := q60
  have d_wa : wa ≠ oc := z_nn h52_wa n1
  show zV F X h60 49 [(0, .ref x)] [.ref b, .ref x]
  have cc_h60 := h52_c
  have h60_c : h60.2.1 = h.2.1 + 19 ∧ h60.2.2 = h.2.2 + 730 := ⟨by omega, by omega⟩
  have h60_x : h60.1 x = some (oB 7 [.ref t, .ref a, .ref sc, .null, .null, .null, .int 0, .int 0, .int 0]) := kk _ _ h52_x (z_ne h52_x h52_b rfl)
  have h60_t : h60.1 t = some (oB 6 [.ref tb, .int 0]) := kk _ _ h52_t (z_ne h52_t h52_b rfl)
  have h60_tb : h60.1 tb = some (aI 200 (fun _ => 0)) := kk _ _ h52_tb (z_ne h52_tb h52_b rfl)
  have h60_a : h60.1 a = some (oB 4 [.int 0, .int 0, .ref t, .ref ss, .null, .int 0, .int 0]) := kk _ _ h52_a (z_ne h52_a h52_b rfl)
  have h60_ss : h60.1 ss = some (aQ 3 15 (fun _ => none)) := kk _ _ h52_ss (z_ne h52_ss h52_b rfl)
  have h60_sc : h60.1 sc = some (oB 5 [.ref wa, .ref la, .ref hi9, .ref fa]) := kk _ _ h52_sc (z_ne h52_sc h52_b rfl)
  have h60_wa : h60.1 wa = some (aI 14 (fun _ => 0)) := kk _ _ h52_wa (z_ne h52_wa h52_b rfl)
  have h60_la : h60.1 la = some (aI 64 (fun _ => 0)) := kk _ _ h52_la (z_ne h52_la h52_b rfl)
  have h60_hi9 : h60.1 hi9 = some (aI 256 (fun _ => 0)) := kk _ _ h52_hi9 (z_ne h52_hi9 h52_b rfl)
  have h60_fa : h60.1 fa = some (aJ 55 (fun _ => 0)) := kk _ _ h52_fa (z_ne h52_fa h52_b rfl)
  refine v_putF g (fs' := [.ref t, .ref a, .ref sc, .ref b, .null, .null, .int 0, .int 0, .int 0]) h60_x fl_X7_35 rfl rfl rfl rfl (Nat.le_of_ble_eq_true rfl) rfl (by decide +kernel) ?_
  refine v_h (fun h71 eh71 => ?_)
  have h71_c : h71.2.1 = h.2.1 + 19 ∧ h71.2.2 = h.2.2 + 730 := zcs eh71 h60_c
  have h71_x : h71.1 x = some (oB 7 [.ref t, .ref a, .ref sc, .ref b, .null, .null, .int 0, .int 0, .int 0]) := by rw [eh71]; exact z_s_self _ _ _
  have h71_t : h71.1 t = some (oB 6 [.ref tb, .int 0]) := by rw [eh71]; exact z_so h60_t (Ne.symm (z_ne h1_x h1_t rfl))
  have h71_tb : h71.1 tb = some (aI 200 (fun _ => 0)) := by rw [eh71]; exact z_so h60_tb (Ne.symm (z_ne h2_x h2_tb rfl))
  have h71_a : h71.1 a = some (oB 4 [.int 0, .int 0, .ref t, .ref ss, .null, .int 0, .int 0]) := by rw [eh71]; exact z_so h60_a (Ne.symm (z_ne h12_x h12_a rfl))
  have h71_ss : h71.1 ss = some (aQ 3 15 (fun _ => none)) := by rw [eh71]; exact z_so h60_ss (Ne.symm (z_ne h20_x g2 rfl))
  have h71_sc : h71.1 sc = some (oB 5 [.ref wa, .ref la, .ref hi9, .ref fa]) := by rw [eh71]; exact z_so h60_sc (Ne.symm (z_ne h32_x h32_sc rfl))
  have h71_wa : h71.1 wa = some (aI 14 (fun _ => 0)) := by rw [eh71]; exact z_so h60_wa (Ne.symm (z_ne h40_x s2 rfl))
  have h71_la : h71.1 la = some (aI 64 (fun _ => 0)) := by rw [eh71]; exact z_so h60_la (Ne.symm (z_ne h40_x s3 rfl))
  have h71_hi9 : h71.1 hi9 = some (aI 256 (fun _ => 0)) := by rw [eh71]; exact z_so h60_hi9 (Ne.symm (z_ne h40_x s4 rfl))
  have h71_fa : h71.1 fa = some (aJ 55 (fun _ => 0)) := by rw [eh71]; exact z_so h60_fa (Ne.symm (z_ne h40_x s5 rfl))
  have h71_b : h71.1 b = some (oB 0 [.int 0, .long 0, .long 0, .ref oc, .ref cs, .int 0, .ref ds, .int 0, .ref pz, .ref pq, .int 0]) := by rw [eh71]; exact z_so k0 (Ne.symm (z_ne h52_x h52_b rfl))
  have h71_oc : h71.1 oc = some (aI 14 (mx (fun _ => (-1 : Int32)) (fun _ => 0) 14)) := by rw [eh71]; exact z_so k1 (Ne.symm (z_ne h60_x k1 rfl))
  have h71_cs : h71.1 cs = some (aQ 4 20 (fun _ => none)) := by rw [eh71]; exact z_so k2 (Ne.symm (z_ne h60_x k2 rfl))
  have h71_ds : h71.1 ds = some (aQ 5 4 D) := by rw [eh71]; exact z_so k3 (Ne.symm (z_ne h60_x k3 rfl))
  have h71_pz : h71.1 pz = some (aJ 20 (fun _ => 0)) := by rw [eh71]; exact z_so k4 (Ne.symm (z_ne h60_x k4 rfl))
  have h71_pq : h71.1 pq = some (aI 20 (fun _ => 0)) := by rw [eh71]; exact z_so k5 (Ne.symm (z_ne h60_x k5 rfl))
  have h71_dv : ∀ e, e < 4 → h71.1 (da e) = some (oD (0, 0, 0, 0, 0, 0)) := fun e he => by rw [eh71]; exact z_so ((fun e he => (kE e he).2.1) e he) (z_ne ((fun e he => (kE e he).2.1) e he) h60_x rfl)
  refine v_blk g [.aload_n 0] (pc' := 53) (lv' := [(0, .ref x)]) (st' := [.ref x]) (by decide +kernel) rfl rfl ?_
  refine v_new g nl_X7_32 (zcsk 19 730 1 11 h71_c.1 h71_c.2 (Nat.le_of_ble_eq_true rfl) (Nat.le_of_ble_eq_true rfl)) (by decide +kernel) (fun b2 hb2 => ?_)
  refine v_h (fun h72 eh72 => ?_)
  have h72_c : h72.2.1 = h.2.1 + 20 ∧ h72.2.2 = h.2.2 + 741 := zcn eh72 h71_c
  have h72_x : h72.1 x = some (oB 7 [.ref t, .ref a, .ref sc, .ref b, .null, .null, .int 0, .int 0, .int 0]) := by rw [eh72]; exact z_no h71_x hb2
  have h72_t : h72.1 t = some (oB 6 [.ref tb, .int 0]) := by rw [eh72]; exact z_no h71_t hb2
  have h72_tb : h72.1 tb = some (aI 200 (fun _ => 0)) := by rw [eh72]; exact z_no h71_tb hb2
  have h72_a : h72.1 a = some (oB 4 [.int 0, .int 0, .ref t, .ref ss, .null, .int 0, .int 0]) := by rw [eh72]; exact z_no h71_a hb2
  have h72_ss : h72.1 ss = some (aQ 3 15 (fun _ => none)) := by rw [eh72]; exact z_no h71_ss hb2
  have h72_sc : h72.1 sc = some (oB 5 [.ref wa, .ref la, .ref hi9, .ref fa]) := by rw [eh72]; exact z_no h71_sc hb2
  have h72_wa : h72.1 wa = some (aI 14 (fun _ => 0)) := by rw [eh72]; exact z_no h71_wa hb2
  have h72_la : h72.1 la = some (aI 64 (fun _ => 0)) := by rw [eh72]; exact z_no h71_la hb2
  have h72_hi9 : h72.1 hi9 = some (aI 256 (fun _ => 0)) := by rw [eh72]; exact z_no h71_hi9 hb2
  have h72_fa : h72.1 fa = some (aJ 55 (fun _ => 0)) := by rw [eh72]; exact z_no h71_fa hb2
  have h72_b : h72.1 b = some (oB 0 [.int 0, .long 0, .long 0, .ref oc, .ref cs, .int 0, .ref ds, .int 0, .ref pz, .ref pq, .int 0]) := by rw [eh72]; exact z_no h71_b hb2
  have h72_oc : h72.1 oc = some (aI 14 (mx (fun _ => (-1 : Int32)) (fun _ => 0) 14)) := by rw [eh72]; exact z_no h71_oc hb2
  have h72_cs : h72.1 cs = some (aQ 4 20 (fun _ => none)) := by rw [eh72]; exact z_no h71_cs hb2
  have h72_ds : h72.1 ds = some (aQ 5 4 D) := by rw [eh72]; exact z_no h71_ds hb2
  have h72_pz : h72.1 pz = some (aJ 20 (fun _ => 0)) := by rw [eh72]; exact z_no h71_pz hb2
  have h72_pq : h72.1 pq = some (aI 20 (fun _ => 0)) := by rw [eh72]; exact z_no h71_pq hb2
  have h72_b2 : h72.1 b2 = some (oB 0 [.int 0, .long 0, .long 0, .null, .null, .int 0, .null, .int 0, .null, .null, .int 0]) := by rw [eh72]; exact z_n_self _ _ _ _
  have h72_dv : ∀ e, e < 4 → h72.1 (da e) = some (oD (0, 0, 0, 0, 0, 0)) := fun e he => by rw [eh72]; exact z_no (h71_dv e he) hb2
  refine v_blk g [.dup] (pc' := 57) (lv' := [(0, .ref x)]) (st' := [.ref b2, .ref b2, .ref x]) (by decide +kernel) rfl rfl ?_
  refine v_callI g (rest := [.ref b2, .ref x]) (c_Bk_init h72_b2) cl_X7_34 rfl (Nat.le_of_ble_eq_true rfl) (by decide +kernel) ⟨Nat.le_of_ble_eq_true rfl, Nat.le_of_ble_eq_true rfl⟩ (zcsn 20 741 h72_c.1 h72_c.2 (Nat.le_of_ble_eq_true rfl) (Nat.le_of_ble_eq_true rfl)) (fun v9 h80 q80 => ?_)
  obtain ⟨rfl, oc2, cs2, ds2, pz2, pq2, D2, da2, k02, k12, k22, k32, k42, k52, kE2, kI2, n12, n22, n32, n42, n52, ⟨c12, c22⟩, kk2⟩ := q80
  show zV F X h80 60 [(0, .ref x)] [.ref b2, .ref x]
  have cc_h80 := h72_c
  have h80_c : h80.2.1 = h.2.1 + 29 ∧ h80.2.2 = h.2.2 + 843 := ⟨by omega, by omega⟩
  have h80_x : h80.1 x = some (oB 7 [.ref t, .ref a, .ref sc, .ref b, .null, .null, .int 0, .int 0, .int 0]) := kk2 _ _ h72_x (z_ne h72_x h72_b2 rfl)
  have h80_t : h80.1 t = some (oB 6 [.ref tb, .int 0]) := kk2 _ _ h72_t (z_ne h72_t h72_b2 rfl)
  have h80_tb : h80.1 tb = some (aI 200 (fun _ => 0)) := kk2 _ _ h72_tb (z_ne h72_tb h72_b2 rfl)
  have h80_a : h80.1 a = some (oB 4 [.int 0, .int 0, .ref t, .ref ss, .null, .int 0, .int 0]) := kk2 _ _ h72_a (z_ne h72_a h72_b2 rfl)
  have h80_ss : h80.1 ss = some (aQ 3 15 (fun _ => none)) := kk2 _ _ h72_ss (z_ne h72_ss h72_b2 rfl)
  have h80_sc : h80.1 sc = some (oB 5 [.ref wa, .ref la, .ref hi9, .ref fa]) := kk2 _ _ h72_sc (z_ne h72_sc h72_b2 rfl)
  have h80_wa : h80.1 wa = some (aI 14 (fun _ => 0)) := kk2 _ _ h72_wa (z_ne h72_wa h72_b2 rfl)
  have h80_la : h80.1 la = some (aI 64 (fun _ => 0)) := kk2 _ _ h72_la (z_ne h72_la h72_b2 rfl)
  have h80_hi9 : h80.1 hi9 = some (aI 256 (fun _ => 0)) := kk2 _ _ h72_hi9 (z_ne h72_hi9 h72_b2 rfl)
  have h80_fa : h80.1 fa = some (aJ 55 (fun _ => 0)) := kk2 _ _ h72_fa (z_ne h72_fa h72_b2 rfl)
  have h80_b : h80.1 b = some (oB 0 [.int 0, .long 0, .long 0, .ref oc, .ref cs, .int 0, .ref ds, .int 0, .ref pz, .ref pq, .int 0]) := kk2 _ _ h72_b (z_nn h71_b hb2)
  have h80_oc : h80.1 oc = some (aI 14 (mx (fun _ => (-1 : Int32)) (fun _ => 0) 14)) := kk2 _ _ h72_oc (z_ne h72_oc h72_b2 rfl)
  have h80_cs : h80.1 cs = some (aQ 4 20 (fun _ => none)) := kk2 _ _ h72_cs (z_ne h72_cs h72_b2 rfl)
  have h80_ds : h80.1 ds = some (aQ 5 4 D) := kk2 _ _ h72_ds (z_ne h72_ds h72_b2 rfl)
  have h80_pz : h80.1 pz = some (aJ 20 (fun _ => 0)) := kk2 _ _ h72_pz (z_ne h72_pz h72_b2 rfl)
  have h80_pq : h80.1 pq = some (aI 20 (fun _ => 0)) := kk2 _ _ h72_pq (z_ne h72_pq h72_b2 rfl)
  have h80_dv : ∀ e, e < 4 → h80.1 (da e) = some (oD (0, 0, 0, 0, 0, 0)) := fun e he => kk2 _ _ (h72_dv e he) (z_ne (h72_dv e he) h72_b2 rfl)
  have d_b : b ≠ b2 := z_nn h71_b hb2
  have d_oc : oc ≠ oc2 := z_nn h72_oc n12
  have d_cs : cs ≠ cs2 := z_nn h72_cs n22
  have d_ds : ds ≠ ds2 := z_nn h72_ds n32
  have d_pz : pz ≠ pz2 := z_nn h72_pz n42
  have d_pq : pq ≠ pq2 := z_nn h72_pq n52
  have d_wa2 : wa ≠ oc2 := z_nn h72_wa n12
  have d_da : ∀ e e2, e < 4 → e2 < 4 → da e ≠ da2 e2 := fun e e2 he he2 => z_nn (h72_dv e he) (kE2 e2 he2).2.2
  refine v_putF g (fs' := [.ref t, .ref a, .ref sc, .ref b, .ref b2, .null, .int 0, .int 0, .int 0]) h80_x fl_X7_39 rfl rfl rfl rfl (Nat.le_of_ble_eq_true rfl) rfl (by decide +kernel) ?_
  refine v_h (fun h91 eh91 => ?_)
  have h91_c : h91.2.1 = h.2.1 + 29 ∧ h91.2.2 = h.2.2 + 843 := zcs eh91 h80_c
  have h91_x : h91.1 x = some (oB 7 [.ref t, .ref a, .ref sc, .ref b, .ref b2, .null, .int 0, .int 0, .int 0]) := by rw [eh91]; exact z_s_self _ _ _
  have h91_t : h91.1 t = some (oB 6 [.ref tb, .int 0]) := by rw [eh91]; exact z_so h80_t (Ne.symm (z_ne h1_x h1_t rfl))
  have h91_tb : h91.1 tb = some (aI 200 (fun _ => 0)) := by rw [eh91]; exact z_so h80_tb (Ne.symm (z_ne h2_x h2_tb rfl))
  have h91_a : h91.1 a = some (oB 4 [.int 0, .int 0, .ref t, .ref ss, .null, .int 0, .int 0]) := by rw [eh91]; exact z_so h80_a (Ne.symm (z_ne h12_x h12_a rfl))
  have h91_ss : h91.1 ss = some (aQ 3 15 (fun _ => none)) := by rw [eh91]; exact z_so h80_ss (Ne.symm (z_ne h20_x g2 rfl))
  have h91_sc : h91.1 sc = some (oB 5 [.ref wa, .ref la, .ref hi9, .ref fa]) := by rw [eh91]; exact z_so h80_sc (Ne.symm (z_ne h32_x h32_sc rfl))
  have h91_wa : h91.1 wa = some (aI 14 (fun _ => 0)) := by rw [eh91]; exact z_so h80_wa (Ne.symm (z_ne h40_x s2 rfl))
  have h91_la : h91.1 la = some (aI 64 (fun _ => 0)) := by rw [eh91]; exact z_so h80_la (Ne.symm (z_ne h40_x s3 rfl))
  have h91_hi9 : h91.1 hi9 = some (aI 256 (fun _ => 0)) := by rw [eh91]; exact z_so h80_hi9 (Ne.symm (z_ne h40_x s4 rfl))
  have h91_fa : h91.1 fa = some (aJ 55 (fun _ => 0)) := by rw [eh91]; exact z_so h80_fa (Ne.symm (z_ne h40_x s5 rfl))
  have h91_b : h91.1 b = some (oB 0 [.int 0, .long 0, .long 0, .ref oc, .ref cs, .int 0, .ref ds, .int 0, .ref pz, .ref pq, .int 0]) := by rw [eh91]; exact z_so h80_b (Ne.symm (z_ne h52_x h52_b rfl))
  have h91_oc : h91.1 oc = some (aI 14 (mx (fun _ => (-1 : Int32)) (fun _ => 0) 14)) := by rw [eh91]; exact z_so h80_oc (Ne.symm (z_ne h60_x k1 rfl))
  have h91_cs : h91.1 cs = some (aQ 4 20 (fun _ => none)) := by rw [eh91]; exact z_so h80_cs (Ne.symm (z_ne h60_x k2 rfl))
  have h91_ds : h91.1 ds = some (aQ 5 4 D) := by rw [eh91]; exact z_so h80_ds (Ne.symm (z_ne h60_x k3 rfl))
  have h91_pz : h91.1 pz = some (aJ 20 (fun _ => 0)) := by rw [eh91]; exact z_so h80_pz (Ne.symm (z_ne h60_x k4 rfl))
  have h91_pq : h91.1 pq = some (aI 20 (fun _ => 0)) := by rw [eh91]; exact z_so h80_pq (Ne.symm (z_ne h60_x k5 rfl))
  have h91_b2 : h91.1 b2 = some (oB 0 [.int 0, .long 0, .long 0, .ref oc2, .ref cs2, .int 0, .ref ds2, .int 0, .ref pz2, .ref pq2, .int 0]) := by rw [eh91]; exact z_so k02 (Ne.symm (z_ne h72_x h72_b2 rfl))
  have h91_oc2 : h91.1 oc2 = some (aI 14 (mx (fun _ => (-1 : Int32)) (fun _ => 0) 14)) := by rw [eh91]; exact z_so k12 (Ne.symm (z_ne h80_x k12 rfl))
  have h91_cs2 : h91.1 cs2 = some (aQ 4 20 (fun _ => none)) := by rw [eh91]; exact z_so k22 (Ne.symm (z_ne h80_x k22 rfl))
  have h91_ds2 : h91.1 ds2 = some (aQ 5 4 D2) := by rw [eh91]; exact z_so k32 (Ne.symm (z_ne h80_x k32 rfl))
  have h91_pz2 : h91.1 pz2 = some (aJ 20 (fun _ => 0)) := by rw [eh91]; exact z_so k42 (Ne.symm (z_ne h80_x k42 rfl))
  have h91_pq2 : h91.1 pq2 = some (aI 20 (fun _ => 0)) := by rw [eh91]; exact z_so k52 (Ne.symm (z_ne h80_x k52 rfl))
  have h91_dv : ∀ e, e < 4 → h91.1 (da e) = some (oD (0, 0, 0, 0, 0, 0)) := fun e he => by rw [eh91]; exact z_so (h80_dv e he) (z_ne (h80_dv e he) h80_x rfl)
  have h91_dv2 : ∀ e, e < 4 → h91.1 (da2 e) = some (oD (0, 0, 0, 0, 0, 0)) := fun e he => by rw [eh91]; exact z_so ((fun e he => (kE2 e he).2.1) e he) (z_ne ((fun e he => (kE2 e he).2.1) e he) h80_x rfl)
  refine v_blk g [.aload_n 0, .iconst 4] (pc' := 65) (lv' := [(0, .ref x)]) (st' := [.int (4 : Int32), .ref x]) (by decide +kernel) rfl rfl ?_
  refine v_newI g 4 rfl (Nat.le_of_ble_eq_true rfl) ac_int (zcsk 29 843 1 4 h91_c.1 h91_c.2 (Nat.le_of_ble_eq_true rfl) (Nat.le_of_ble_eq_true rfl)) (by decide +kernel) (fun wo hwo => ?_)
  refine v_h (fun h92 eh92 => ?_)
  have h92_c : h92.2.1 = h.2.1 + 30 ∧ h92.2.2 = h.2.2 + 847 := zcn eh92 h91_c
  have h92_x : h92.1 x = some (oB 7 [.ref t, .ref a, .ref sc, .ref b, .ref b2, .null, .int 0, .int 0, .int 0]) := by rw [eh92]; exact z_no h91_x hwo
  have h92_t : h92.1 t = some (oB 6 [.ref tb, .int 0]) := by rw [eh92]; exact z_no h91_t hwo
  have h92_tb : h92.1 tb = some (aI 200 (fun _ => 0)) := by rw [eh92]; exact z_no h91_tb hwo
  have h92_a : h92.1 a = some (oB 4 [.int 0, .int 0, .ref t, .ref ss, .null, .int 0, .int 0]) := by rw [eh92]; exact z_no h91_a hwo
  have h92_ss : h92.1 ss = some (aQ 3 15 (fun _ => none)) := by rw [eh92]; exact z_no h91_ss hwo
  have h92_sc : h92.1 sc = some (oB 5 [.ref wa, .ref la, .ref hi9, .ref fa]) := by rw [eh92]; exact z_no h91_sc hwo
  have h92_wa : h92.1 wa = some (aI 14 (fun _ => 0)) := by rw [eh92]; exact z_no h91_wa hwo
  have h92_la : h92.1 la = some (aI 64 (fun _ => 0)) := by rw [eh92]; exact z_no h91_la hwo
  have h92_hi9 : h92.1 hi9 = some (aI 256 (fun _ => 0)) := by rw [eh92]; exact z_no h91_hi9 hwo
  have h92_fa : h92.1 fa = some (aJ 55 (fun _ => 0)) := by rw [eh92]; exact z_no h91_fa hwo
  have h92_b : h92.1 b = some (oB 0 [.int 0, .long 0, .long 0, .ref oc, .ref cs, .int 0, .ref ds, .int 0, .ref pz, .ref pq, .int 0]) := by rw [eh92]; exact z_no h91_b hwo
  have h92_oc : h92.1 oc = some (aI 14 (mx (fun _ => (-1 : Int32)) (fun _ => 0) 14)) := by rw [eh92]; exact z_no h91_oc hwo
  have h92_cs : h92.1 cs = some (aQ 4 20 (fun _ => none)) := by rw [eh92]; exact z_no h91_cs hwo
  have h92_ds : h92.1 ds = some (aQ 5 4 D) := by rw [eh92]; exact z_no h91_ds hwo
  have h92_pz : h92.1 pz = some (aJ 20 (fun _ => 0)) := by rw [eh92]; exact z_no h91_pz hwo
  have h92_pq : h92.1 pq = some (aI 20 (fun _ => 0)) := by rw [eh92]; exact z_no h91_pq hwo
  have h92_b2 : h92.1 b2 = some (oB 0 [.int 0, .long 0, .long 0, .ref oc2, .ref cs2, .int 0, .ref ds2, .int 0, .ref pz2, .ref pq2, .int 0]) := by rw [eh92]; exact z_no h91_b2 hwo
  have h92_oc2 : h92.1 oc2 = some (aI 14 (mx (fun _ => (-1 : Int32)) (fun _ => 0) 14)) := by rw [eh92]; exact z_no h91_oc2 hwo
  have h92_cs2 : h92.1 cs2 = some (aQ 4 20 (fun _ => none)) := by rw [eh92]; exact z_no h91_cs2 hwo
  have h92_ds2 : h92.1 ds2 = some (aQ 5 4 D2) := by rw [eh92]; exact z_no h91_ds2 hwo
  have h92_pz2 : h92.1 pz2 = some (aJ 20 (fun _ => 0)) := by rw [eh92]; exact z_no h91_pz2 hwo
  have h92_pq2 : h92.1 pq2 = some (aI 20 (fun _ => 0)) := by rw [eh92]; exact z_no h91_pq2 hwo
  have h92_wo : h92.1 wo = some (aI 4 (fun _ => 0)) := by rw [eh92]; exact z_n_self _ _ _ _
  have h92_dv : ∀ e, e < 4 → h92.1 (da e) = some (oD (0, 0, 0, 0, 0, 0)) := fun e he => by rw [eh92]; exact z_no (h91_dv e he) hwo
  have h92_dv2 : ∀ e, e < 4 → h92.1 (da2 e) = some (oD (0, 0, 0, 0, 0, 0)) := fun e he => by rw [eh92]; exact z_no (h91_dv2 e he) hwo
  refine v_blk g [.dup, .iconst 0, .iconst 2] (pc' := 70) (lv' := [(0, .ref x)]) (st' := [.int (2 : Int32), .int (0 : Int32), .ref wo, .ref wo, .ref x]) (by decide +kernel) rfl rfl ?_
  refine v_iast g h92_wo 0 rfl (by decide) (Nat.le_of_ble_eq_true rfl) (by decide +kernel) ?_
  refine v_h (fun h93 eh93 => ?_)
  have h93_c : h93.2.1 = h.2.1 + 30 ∧ h93.2.2 = h.2.2 + 847 := zcs eh93 h92_c
  have h93_x : h93.1 x = some (oB 7 [.ref t, .ref a, .ref sc, .ref b, .ref b2, .null, .int 0, .int 0, .int 0]) := by rw [eh93]; exact z_so h92_x (z_ne h92_x h92_wo rfl)
  have h93_t : h93.1 t = some (oB 6 [.ref tb, .int 0]) := by rw [eh93]; exact z_so h92_t (z_ne h92_t h92_wo rfl)
  have h93_tb : h93.1 tb = some (aI 200 (fun _ => 0)) := by rw [eh93]; exact z_so h92_tb (z_ne h92_tb h92_wo rfl)
  have h93_a : h93.1 a = some (oB 4 [.int 0, .int 0, .ref t, .ref ss, .null, .int 0, .int 0]) := by rw [eh93]; exact z_so h92_a (z_ne h92_a h92_wo rfl)
  have h93_ss : h93.1 ss = some (aQ 3 15 (fun _ => none)) := by rw [eh93]; exact z_so h92_ss (z_ne h92_ss h92_wo rfl)
  have h93_sc : h93.1 sc = some (oB 5 [.ref wa, .ref la, .ref hi9, .ref fa]) := by rw [eh93]; exact z_so h92_sc (z_ne h92_sc h92_wo rfl)
  have h93_wa : h93.1 wa = some (aI 14 (fun _ => 0)) := by rw [eh93]; exact z_so h92_wa (z_ne h92_wa h92_wo rfl)
  have h93_la : h93.1 la = some (aI 64 (fun _ => 0)) := by rw [eh93]; exact z_so h92_la (z_ne h92_la h92_wo rfl)
  have h93_hi9 : h93.1 hi9 = some (aI 256 (fun _ => 0)) := by rw [eh93]; exact z_so h92_hi9 (z_ne h92_hi9 h92_wo rfl)
  have h93_fa : h93.1 fa = some (aJ 55 (fun _ => 0)) := by rw [eh93]; exact z_so h92_fa (z_ne h92_fa h92_wo rfl)
  have h93_b : h93.1 b = some (oB 0 [.int 0, .long 0, .long 0, .ref oc, .ref cs, .int 0, .ref ds, .int 0, .ref pz, .ref pq, .int 0]) := by rw [eh93]; exact z_so h92_b (z_ne h92_b h92_wo rfl)
  have h93_oc : h93.1 oc = some (aI 14 (mx (fun _ => (-1 : Int32)) (fun _ => 0) 14)) := by rw [eh93]; exact z_so h92_oc (z_ne h92_oc h92_wo rfl)
  have h93_cs : h93.1 cs = some (aQ 4 20 (fun _ => none)) := by rw [eh93]; exact z_so h92_cs (z_ne h92_cs h92_wo rfl)
  have h93_ds : h93.1 ds = some (aQ 5 4 D) := by rw [eh93]; exact z_so h92_ds (z_ne h92_ds h92_wo rfl)
  have h93_pz : h93.1 pz = some (aJ 20 (fun _ => 0)) := by rw [eh93]; exact z_so h92_pz (z_ne h92_pz h92_wo rfl)
  have h93_pq : h93.1 pq = some (aI 20 (fun _ => 0)) := by rw [eh93]; exact z_so h92_pq (z_ne h92_pq h92_wo rfl)
  have h93_b2 : h93.1 b2 = some (oB 0 [.int 0, .long 0, .long 0, .ref oc2, .ref cs2, .int 0, .ref ds2, .int 0, .ref pz2, .ref pq2, .int 0]) := by rw [eh93]; exact z_so h92_b2 (z_ne h92_b2 h92_wo rfl)
  have h93_oc2 : h93.1 oc2 = some (aI 14 (mx (fun _ => (-1 : Int32)) (fun _ => 0) 14)) := by rw [eh93]; exact z_so h92_oc2 (z_ne h92_oc2 h92_wo rfl)
  have h93_cs2 : h93.1 cs2 = some (aQ 4 20 (fun _ => none)) := by rw [eh93]; exact z_so h92_cs2 (z_ne h92_cs2 h92_wo rfl)
  have h93_ds2 : h93.1 ds2 = some (aQ 5 4 D2) := by rw [eh93]; exact z_so h92_ds2 (z_ne h92_ds2 h92_wo rfl)
  have h93_pz2 : h93.1 pz2 = some (aJ 20 (fun _ => 0)) := by rw [eh93]; exact z_so h92_pz2 (z_ne h92_pz2 h92_wo rfl)
  have h93_pq2 : h93.1 pq2 = some (aI 20 (fun _ => 0)) := by rw [eh93]; exact z_so h92_pq2 (z_ne h92_pq2 h92_wo rfl)
  have h93_wo : h93.1 wo = some (aI 4 (upd (fun _ => 0) 0 (2 : Int32))) := by rw [eh93]; exact z_s_self _ _ _
  have h93_dv : ∀ e, e < 4 → h93.1 (da e) = some (oD (0, 0, 0, 0, 0, 0)) := fun e he => by rw [eh93]; exact z_so (h92_dv e he) (z_ne (h92_dv e he) h92_wo rfl)
  have h93_dv2 : ∀ e, e < 4 → h93.1 (da2 e) = some (oD (0, 0, 0, 0, 0, 0)) := fun e he => by rw [eh93]; exact z_so (h92_dv2 e he) (z_ne (h92_dv2 e he) h92_wo rfl)
  refine v_blk g [.dup, .iconst 1, .iconst 3] (pc' := 74) (lv' := [(0, .ref x)]) (st' := [.int (3 : Int32), .int (1 : Int32), .ref wo, .ref wo, .ref x]) (by decide +kernel) rfl rfl ?_
  refine v_iast g h93_wo 1 rfl (by decide) (Nat.le_of_ble_eq_true rfl) (by decide +kernel) ?_
  refine v_h (fun h94 eh94 => ?_)
  have h94_c : h94.2.1 = h.2.1 + 30 ∧ h94.2.2 = h.2.2 + 847 := zcs eh94 h93_c
  have h94_x : h94.1 x = some (oB 7 [.ref t, .ref a, .ref sc, .ref b, .ref b2, .null, .int 0, .int 0, .int 0]) := by rw [eh94]; exact z_so h93_x (z_ne h92_x h92_wo rfl)
  have h94_t : h94.1 t = some (oB 6 [.ref tb, .int 0]) := by rw [eh94]; exact z_so h93_t (z_ne h92_t h92_wo rfl)
  have h94_tb : h94.1 tb = some (aI 200 (fun _ => 0)) := by rw [eh94]; exact z_so h93_tb (z_ne h92_tb h92_wo rfl)
  have h94_a : h94.1 a = some (oB 4 [.int 0, .int 0, .ref t, .ref ss, .null, .int 0, .int 0]) := by rw [eh94]; exact z_so h93_a (z_ne h92_a h92_wo rfl)
  have h94_ss : h94.1 ss = some (aQ 3 15 (fun _ => none)) := by rw [eh94]; exact z_so h93_ss (z_ne h92_ss h92_wo rfl)
  have h94_sc : h94.1 sc = some (oB 5 [.ref wa, .ref la, .ref hi9, .ref fa]) := by rw [eh94]; exact z_so h93_sc (z_ne h92_sc h92_wo rfl)
  have h94_wa : h94.1 wa = some (aI 14 (fun _ => 0)) := by rw [eh94]; exact z_so h93_wa (z_ne h92_wa h92_wo rfl)
  have h94_la : h94.1 la = some (aI 64 (fun _ => 0)) := by rw [eh94]; exact z_so h93_la (z_ne h92_la h92_wo rfl)
  have h94_hi9 : h94.1 hi9 = some (aI 256 (fun _ => 0)) := by rw [eh94]; exact z_so h93_hi9 (z_ne h92_hi9 h92_wo rfl)
  have h94_fa : h94.1 fa = some (aJ 55 (fun _ => 0)) := by rw [eh94]; exact z_so h93_fa (z_ne h92_fa h92_wo rfl)
  have h94_b : h94.1 b = some (oB 0 [.int 0, .long 0, .long 0, .ref oc, .ref cs, .int 0, .ref ds, .int 0, .ref pz, .ref pq, .int 0]) := by rw [eh94]; exact z_so h93_b (z_ne h92_b h92_wo rfl)
  have h94_oc : h94.1 oc = some (aI 14 (mx (fun _ => (-1 : Int32)) (fun _ => 0) 14)) := by rw [eh94]; exact z_so h93_oc (z_ne h92_oc h92_wo rfl)
  have h94_cs : h94.1 cs = some (aQ 4 20 (fun _ => none)) := by rw [eh94]; exact z_so h93_cs (z_ne h92_cs h92_wo rfl)
  have h94_ds : h94.1 ds = some (aQ 5 4 D) := by rw [eh94]; exact z_so h93_ds (z_ne h92_ds h92_wo rfl)
  have h94_pz : h94.1 pz = some (aJ 20 (fun _ => 0)) := by rw [eh94]; exact z_so h93_pz (z_ne h92_pz h92_wo rfl)
  have h94_pq : h94.1 pq = some (aI 20 (fun _ => 0)) := by rw [eh94]; exact z_so h93_pq (z_ne h92_pq h92_wo rfl)
  have h94_b2 : h94.1 b2 = some (oB 0 [.int 0, .long 0, .long 0, .ref oc2, .ref cs2, .int 0, .ref ds2, .int 0, .ref pz2, .ref pq2, .int 0]) := by rw [eh94]; exact z_so h93_b2 (z_ne h92_b2 h92_wo rfl)
  have h94_oc2 : h94.1 oc2 = some (aI 14 (mx (fun _ => (-1 : Int32)) (fun _ => 0) 14)) := by rw [eh94]; exact z_so h93_oc2 (z_ne h92_oc2 h92_wo rfl)
  have h94_cs2 : h94.1 cs2 = some (aQ 4 20 (fun _ => none)) := by rw [eh94]; exact z_so h93_cs2 (z_ne h92_cs2 h92_wo rfl)
  have h94_ds2 : h94.1 ds2 = some (aQ 5 4 D2) := by rw [eh94]; exact z_so h93_ds2 (z_ne h92_ds2 h92_wo rfl)
  have h94_pz2 : h94.1 pz2 = some (aJ 20 (fun _ => 0)) := by rw [eh94]; exact z_so h93_pz2 (z_ne h92_pz2 h92_wo rfl)
  have h94_pq2 : h94.1 pq2 = some (aI 20 (fun _ => 0)) := by rw [eh94]; exact z_so h93_pq2 (z_ne h92_pq2 h92_wo rfl)
  have h94_wo : h94.1 wo = some (aI 4 (upd (upd (fun _ => 0) 0 (2 : Int32)) 1 (3 : Int32))) := by rw [eh94]; exact z_s_self _ _ _
  have h94_dv : ∀ e, e < 4 → h94.1 (da e) = some (oD (0, 0, 0, 0, 0, 0)) := fun e he => by rw [eh94]; exact z_so (h93_dv e he) (z_ne (h93_dv e he) h93_wo rfl)
  have h94_dv2 : ∀ e, e < 4 → h94.1 (da2 e) = some (oD (0, 0, 0, 0, 0, 0)) := fun e he => by rw [eh94]; exact z_so (h93_dv2 e he) (z_ne (h93_dv2 e he) h93_wo rfl)
  refine v_blk g [.dup, .iconst 2, .iconst 4] (pc' := 78) (lv' := [(0, .ref x)]) (st' := [.int (4 : Int32), .int (2 : Int32), .ref wo, .ref wo, .ref x]) (by decide +kernel) rfl rfl ?_
  refine v_iast g h94_wo 2 rfl (by decide) (Nat.le_of_ble_eq_true rfl) (by decide +kernel) ?_
  refine v_h (fun h95 eh95 => ?_)
  have h95_c : h95.2.1 = h.2.1 + 30 ∧ h95.2.2 = h.2.2 + 847 := zcs eh95 h94_c
  have h95_x : h95.1 x = some (oB 7 [.ref t, .ref a, .ref sc, .ref b, .ref b2, .null, .int 0, .int 0, .int 0]) := by rw [eh95]; exact z_so h94_x (z_ne h92_x h92_wo rfl)
  have h95_t : h95.1 t = some (oB 6 [.ref tb, .int 0]) := by rw [eh95]; exact z_so h94_t (z_ne h92_t h92_wo rfl)
  have h95_tb : h95.1 tb = some (aI 200 (fun _ => 0)) := by rw [eh95]; exact z_so h94_tb (z_ne h92_tb h92_wo rfl)
  have h95_a : h95.1 a = some (oB 4 [.int 0, .int 0, .ref t, .ref ss, .null, .int 0, .int 0]) := by rw [eh95]; exact z_so h94_a (z_ne h92_a h92_wo rfl)
  have h95_ss : h95.1 ss = some (aQ 3 15 (fun _ => none)) := by rw [eh95]; exact z_so h94_ss (z_ne h92_ss h92_wo rfl)
  have h95_sc : h95.1 sc = some (oB 5 [.ref wa, .ref la, .ref hi9, .ref fa]) := by rw [eh95]; exact z_so h94_sc (z_ne h92_sc h92_wo rfl)
  have h95_wa : h95.1 wa = some (aI 14 (fun _ => 0)) := by rw [eh95]; exact z_so h94_wa (z_ne h92_wa h92_wo rfl)
  have h95_la : h95.1 la = some (aI 64 (fun _ => 0)) := by rw [eh95]; exact z_so h94_la (z_ne h92_la h92_wo rfl)
  have h95_hi9 : h95.1 hi9 = some (aI 256 (fun _ => 0)) := by rw [eh95]; exact z_so h94_hi9 (z_ne h92_hi9 h92_wo rfl)
  have h95_fa : h95.1 fa = some (aJ 55 (fun _ => 0)) := by rw [eh95]; exact z_so h94_fa (z_ne h92_fa h92_wo rfl)
  have h95_b : h95.1 b = some (oB 0 [.int 0, .long 0, .long 0, .ref oc, .ref cs, .int 0, .ref ds, .int 0, .ref pz, .ref pq, .int 0]) := by rw [eh95]; exact z_so h94_b (z_ne h92_b h92_wo rfl)
  have h95_oc : h95.1 oc = some (aI 14 (mx (fun _ => (-1 : Int32)) (fun _ => 0) 14)) := by rw [eh95]; exact z_so h94_oc (z_ne h92_oc h92_wo rfl)
  have h95_cs : h95.1 cs = some (aQ 4 20 (fun _ => none)) := by rw [eh95]; exact z_so h94_cs (z_ne h92_cs h92_wo rfl)
  have h95_ds : h95.1 ds = some (aQ 5 4 D) := by rw [eh95]; exact z_so h94_ds (z_ne h92_ds h92_wo rfl)
  have h95_pz : h95.1 pz = some (aJ 20 (fun _ => 0)) := by rw [eh95]; exact z_so h94_pz (z_ne h92_pz h92_wo rfl)
  have h95_pq : h95.1 pq = some (aI 20 (fun _ => 0)) := by rw [eh95]; exact z_so h94_pq (z_ne h92_pq h92_wo rfl)
  have h95_b2 : h95.1 b2 = some (oB 0 [.int 0, .long 0, .long 0, .ref oc2, .ref cs2, .int 0, .ref ds2, .int 0, .ref pz2, .ref pq2, .int 0]) := by rw [eh95]; exact z_so h94_b2 (z_ne h92_b2 h92_wo rfl)
  have h95_oc2 : h95.1 oc2 = some (aI 14 (mx (fun _ => (-1 : Int32)) (fun _ => 0) 14)) := by rw [eh95]; exact z_so h94_oc2 (z_ne h92_oc2 h92_wo rfl)
  have h95_cs2 : h95.1 cs2 = some (aQ 4 20 (fun _ => none)) := by rw [eh95]; exact z_so h94_cs2 (z_ne h92_cs2 h92_wo rfl)
  have h95_ds2 : h95.1 ds2 = some (aQ 5 4 D2) := by rw [eh95]; exact z_so h94_ds2 (z_ne h92_ds2 h92_wo rfl)
  have h95_pz2 : h95.1 pz2 = some (aJ 20 (fun _ => 0)) := by rw [eh95]; exact z_so h94_pz2 (z_ne h92_pz2 h92_wo rfl)
  have h95_pq2 : h95.1 pq2 = some (aI 20 (fun _ => 0)) := by rw [eh95]; exact z_so h94_pq2 (z_ne h92_pq2 h92_wo rfl)
  have h95_wo : h95.1 wo = some (aI 4 (upd (upd (upd (fun _ => 0) 0 (2 : Int32)) 1 (3 : Int32)) 2 (4 : Int32))) := by rw [eh95]; exact z_s_self _ _ _
  have h95_dv : ∀ e, e < 4 → h95.1 (da e) = some (oD (0, 0, 0, 0, 0, 0)) := fun e he => by rw [eh95]; exact z_so (h94_dv e he) (z_ne (h94_dv e he) h94_wo rfl)
  have h95_dv2 : ∀ e, e < 4 → h95.1 (da2 e) = some (oD (0, 0, 0, 0, 0, 0)) := fun e he => by rw [eh95]; exact z_so (h94_dv2 e he) (z_ne (h94_dv2 e he) h94_wo rfl)
  refine v_blk g [.dup, .iconst 3, .bipush 6] (pc' := 83) (lv' := [(0, .ref x)]) (st' := [.int (6 : Int32), .int (3 : Int32), .ref wo, .ref wo, .ref x]) (by decide +kernel) rfl rfl ?_
  refine v_iast g h95_wo 3 rfl (by decide) (Nat.le_of_ble_eq_true rfl) (by decide +kernel) ?_
  refine v_h (fun h96 eh96 => ?_)
  have h96_c : h96.2.1 = h.2.1 + 30 ∧ h96.2.2 = h.2.2 + 847 := zcs eh96 h95_c
  have h96_x : h96.1 x = some (oB 7 [.ref t, .ref a, .ref sc, .ref b, .ref b2, .null, .int 0, .int 0, .int 0]) := by rw [eh96]; exact z_so h95_x (z_ne h92_x h92_wo rfl)
  have h96_t : h96.1 t = some (oB 6 [.ref tb, .int 0]) := by rw [eh96]; exact z_so h95_t (z_ne h92_t h92_wo rfl)
  have h96_tb : h96.1 tb = some (aI 200 (fun _ => 0)) := by rw [eh96]; exact z_so h95_tb (z_ne h92_tb h92_wo rfl)
  have h96_a : h96.1 a = some (oB 4 [.int 0, .int 0, .ref t, .ref ss, .null, .int 0, .int 0]) := by rw [eh96]; exact z_so h95_a (z_ne h92_a h92_wo rfl)
  have h96_ss : h96.1 ss = some (aQ 3 15 (fun _ => none)) := by rw [eh96]; exact z_so h95_ss (z_ne h92_ss h92_wo rfl)
  have h96_sc : h96.1 sc = some (oB 5 [.ref wa, .ref la, .ref hi9, .ref fa]) := by rw [eh96]; exact z_so h95_sc (z_ne h92_sc h92_wo rfl)
  have h96_wa : h96.1 wa = some (aI 14 (fun _ => 0)) := by rw [eh96]; exact z_so h95_wa (z_ne h92_wa h92_wo rfl)
  have h96_la : h96.1 la = some (aI 64 (fun _ => 0)) := by rw [eh96]; exact z_so h95_la (z_ne h92_la h92_wo rfl)
  have h96_hi9 : h96.1 hi9 = some (aI 256 (fun _ => 0)) := by rw [eh96]; exact z_so h95_hi9 (z_ne h92_hi9 h92_wo rfl)
  have h96_fa : h96.1 fa = some (aJ 55 (fun _ => 0)) := by rw [eh96]; exact z_so h95_fa (z_ne h92_fa h92_wo rfl)
  have h96_b : h96.1 b = some (oB 0 [.int 0, .long 0, .long 0, .ref oc, .ref cs, .int 0, .ref ds, .int 0, .ref pz, .ref pq, .int 0]) := by rw [eh96]; exact z_so h95_b (z_ne h92_b h92_wo rfl)
  have h96_oc : h96.1 oc = some (aI 14 (mx (fun _ => (-1 : Int32)) (fun _ => 0) 14)) := by rw [eh96]; exact z_so h95_oc (z_ne h92_oc h92_wo rfl)
  have h96_cs : h96.1 cs = some (aQ 4 20 (fun _ => none)) := by rw [eh96]; exact z_so h95_cs (z_ne h92_cs h92_wo rfl)
  have h96_ds : h96.1 ds = some (aQ 5 4 D) := by rw [eh96]; exact z_so h95_ds (z_ne h92_ds h92_wo rfl)
  have h96_pz : h96.1 pz = some (aJ 20 (fun _ => 0)) := by rw [eh96]; exact z_so h95_pz (z_ne h92_pz h92_wo rfl)
  have h96_pq : h96.1 pq = some (aI 20 (fun _ => 0)) := by rw [eh96]; exact z_so h95_pq (z_ne h92_pq h92_wo rfl)
  have h96_b2 : h96.1 b2 = some (oB 0 [.int 0, .long 0, .long 0, .ref oc2, .ref cs2, .int 0, .ref ds2, .int 0, .ref pz2, .ref pq2, .int 0]) := by rw [eh96]; exact z_so h95_b2 (z_ne h92_b2 h92_wo rfl)
  have h96_oc2 : h96.1 oc2 = some (aI 14 (mx (fun _ => (-1 : Int32)) (fun _ => 0) 14)) := by rw [eh96]; exact z_so h95_oc2 (z_ne h92_oc2 h92_wo rfl)
  have h96_cs2 : h96.1 cs2 = some (aQ 4 20 (fun _ => none)) := by rw [eh96]; exact z_so h95_cs2 (z_ne h92_cs2 h92_wo rfl)
  have h96_ds2 : h96.1 ds2 = some (aQ 5 4 D2) := by rw [eh96]; exact z_so h95_ds2 (z_ne h92_ds2 h92_wo rfl)
  have h96_pz2 : h96.1 pz2 = some (aJ 20 (fun _ => 0)) := by rw [eh96]; exact z_so h95_pz2 (z_ne h92_pz2 h92_wo rfl)
  have h96_pq2 : h96.1 pq2 = some (aI 20 (fun _ => 0)) := by rw [eh96]; exact z_so h95_pq2 (z_ne h92_pq2 h92_wo rfl)
  have h96_wo : h96.1 wo = some (aI 4 (upd (upd (upd (upd (fun _ => 0) 0 (2 : Int32)) 1 (3 : Int32)) 2 (4 : Int32)) 3 (6 : Int32))) := by rw [eh96]; exact z_s_self _ _ _
  have h96_dv : ∀ e, e < 4 → h96.1 (da e) = some (oD (0, 0, 0, 0, 0, 0)) := fun e he => by rw [eh96]; exact z_so (h95_dv e he) (z_ne (h95_dv e he) h95_wo rfl)
  have h96_dv2 : ∀ e, e < 4 → h96.1 (da2 e) = some (oD (0, 0, 0, 0, 0, 0)) := fun e he => by rw [eh96]; exact z_so (h95_dv2 e he) (z_ne (h95_dv2 e he) h95_wo rfl)
  refine v_putF g (fs' := [.ref t, .ref a, .ref sc, .ref b, .ref b2, .ref wo, .int 0, .int 0, .int 0]) h96_x fl_X7_42 rfl rfl rfl rfl (Nat.le_of_ble_eq_true rfl) rfl (by decide +kernel) ?_
  refine v_h (fun h97 eh97 => ?_)
  have h97_c : h97.2.1 = h.2.1 + 30 ∧ h97.2.2 = h.2.2 + 847 := zcs eh97 h96_c
  have h97_x : h97.1 x = some (oB 7 [.ref t, .ref a, .ref sc, .ref b, .ref b2, .ref wo, .int 0, .int 0, .int 0]) := by rw [eh97]; exact z_s_self _ _ _
  have h97_t : h97.1 t = some (oB 6 [.ref tb, .int 0]) := by rw [eh97]; exact z_so h96_t (Ne.symm (z_ne h1_x h1_t rfl))
  have h97_tb : h97.1 tb = some (aI 200 (fun _ => 0)) := by rw [eh97]; exact z_so h96_tb (Ne.symm (z_ne h2_x h2_tb rfl))
  have h97_a : h97.1 a = some (oB 4 [.int 0, .int 0, .ref t, .ref ss, .null, .int 0, .int 0]) := by rw [eh97]; exact z_so h96_a (Ne.symm (z_ne h12_x h12_a rfl))
  have h97_ss : h97.1 ss = some (aQ 3 15 (fun _ => none)) := by rw [eh97]; exact z_so h96_ss (Ne.symm (z_ne h20_x g2 rfl))
  have h97_sc : h97.1 sc = some (oB 5 [.ref wa, .ref la, .ref hi9, .ref fa]) := by rw [eh97]; exact z_so h96_sc (Ne.symm (z_ne h32_x h32_sc rfl))
  have h97_wa : h97.1 wa = some (aI 14 (fun _ => 0)) := by rw [eh97]; exact z_so h96_wa (Ne.symm (z_ne h40_x s2 rfl))
  have h97_la : h97.1 la = some (aI 64 (fun _ => 0)) := by rw [eh97]; exact z_so h96_la (Ne.symm (z_ne h40_x s3 rfl))
  have h97_hi9 : h97.1 hi9 = some (aI 256 (fun _ => 0)) := by rw [eh97]; exact z_so h96_hi9 (Ne.symm (z_ne h40_x s4 rfl))
  have h97_fa : h97.1 fa = some (aJ 55 (fun _ => 0)) := by rw [eh97]; exact z_so h96_fa (Ne.symm (z_ne h40_x s5 rfl))
  have h97_b : h97.1 b = some (oB 0 [.int 0, .long 0, .long 0, .ref oc, .ref cs, .int 0, .ref ds, .int 0, .ref pz, .ref pq, .int 0]) := by rw [eh97]; exact z_so h96_b (Ne.symm (z_ne h52_x h52_b rfl))
  have h97_oc : h97.1 oc = some (aI 14 (mx (fun _ => (-1 : Int32)) (fun _ => 0) 14)) := by rw [eh97]; exact z_so h96_oc (Ne.symm (z_ne h60_x k1 rfl))
  have h97_cs : h97.1 cs = some (aQ 4 20 (fun _ => none)) := by rw [eh97]; exact z_so h96_cs (Ne.symm (z_ne h60_x k2 rfl))
  have h97_ds : h97.1 ds = some (aQ 5 4 D) := by rw [eh97]; exact z_so h96_ds (Ne.symm (z_ne h60_x k3 rfl))
  have h97_pz : h97.1 pz = some (aJ 20 (fun _ => 0)) := by rw [eh97]; exact z_so h96_pz (Ne.symm (z_ne h60_x k4 rfl))
  have h97_pq : h97.1 pq = some (aI 20 (fun _ => 0)) := by rw [eh97]; exact z_so h96_pq (Ne.symm (z_ne h60_x k5 rfl))
  have h97_b2 : h97.1 b2 = some (oB 0 [.int 0, .long 0, .long 0, .ref oc2, .ref cs2, .int 0, .ref ds2, .int 0, .ref pz2, .ref pq2, .int 0]) := by rw [eh97]; exact z_so h96_b2 (Ne.symm (z_ne h72_x h72_b2 rfl))
  have h97_oc2 : h97.1 oc2 = some (aI 14 (mx (fun _ => (-1 : Int32)) (fun _ => 0) 14)) := by rw [eh97]; exact z_so h96_oc2 (Ne.symm (z_ne h80_x k12 rfl))
  have h97_cs2 : h97.1 cs2 = some (aQ 4 20 (fun _ => none)) := by rw [eh97]; exact z_so h96_cs2 (Ne.symm (z_ne h80_x k22 rfl))
  have h97_ds2 : h97.1 ds2 = some (aQ 5 4 D2) := by rw [eh97]; exact z_so h96_ds2 (Ne.symm (z_ne h80_x k32 rfl))
  have h97_pz2 : h97.1 pz2 = some (aJ 20 (fun _ => 0)) := by rw [eh97]; exact z_so h96_pz2 (Ne.symm (z_ne h80_x k42 rfl))
  have h97_pq2 : h97.1 pq2 = some (aI 20 (fun _ => 0)) := by rw [eh97]; exact z_so h96_pq2 (Ne.symm (z_ne h80_x k52 rfl))
  have h97_wo : h97.1 wo = some (aI 4 (upd (upd (upd (upd (fun _ => 0) 0 (2 : Int32)) 1 (3 : Int32)) 2 (4 : Int32)) 3 (6 : Int32))) := by rw [eh97]; exact z_so h96_wo (Ne.symm (z_ne h92_x h92_wo rfl))
  have h97_dv : ∀ e, e < 4 → h97.1 (da e) = some (oD (0, 0, 0, 0, 0, 0)) := fun e he => by rw [eh97]; exact z_so (h96_dv e he) (z_ne (h96_dv e he) h96_x rfl)
  have h97_dv2 : ∀ e, e < 4 → h97.1 (da2 e) = some (oD (0, 0, 0, 0, 0, 0)) := fun e he => by rw [eh97]; exact z_so (h96_dv2 e he) (z_ne (h96_dv2 e he) h96_x rfl)
  refine v_blk g [.aload_n 0, .iconst 0] (pc' := 89) (lv' := [(0, .ref x)]) (st' := [.int (0 : Int32), .ref x]) (by decide +kernel) rfl rfl ?_
  refine v_put g (fs' := [.ref t, .ref a, .ref sc, .ref b, .ref b2, .ref wo, .int (0 : Int32), .int 0, .int 0]) h97_x fl_X7_46 rfl rfl (Nat.le_of_ble_eq_true rfl) rfl (by decide +kernel) ?_
  refine v_h (fun h98 eh98 => ?_)
  have h98_c : h98.2.1 = h.2.1 + 30 ∧ h98.2.2 = h.2.2 + 847 := zcs eh98 h97_c
  have h98_x : h98.1 x = some (oB 7 [.ref t, .ref a, .ref sc, .ref b, .ref b2, .ref wo, .int (0 : Int32), .int 0, .int 0]) := by rw [eh98]; exact z_s_self _ _ _
  have h98_t : h98.1 t = some (oB 6 [.ref tb, .int 0]) := by rw [eh98]; exact z_so h97_t (Ne.symm (z_ne h1_x h1_t rfl))
  have h98_tb : h98.1 tb = some (aI 200 (fun _ => 0)) := by rw [eh98]; exact z_so h97_tb (Ne.symm (z_ne h2_x h2_tb rfl))
  have h98_a : h98.1 a = some (oB 4 [.int 0, .int 0, .ref t, .ref ss, .null, .int 0, .int 0]) := by rw [eh98]; exact z_so h97_a (Ne.symm (z_ne h12_x h12_a rfl))
  have h98_ss : h98.1 ss = some (aQ 3 15 (fun _ => none)) := by rw [eh98]; exact z_so h97_ss (Ne.symm (z_ne h20_x g2 rfl))
  have h98_sc : h98.1 sc = some (oB 5 [.ref wa, .ref la, .ref hi9, .ref fa]) := by rw [eh98]; exact z_so h97_sc (Ne.symm (z_ne h32_x h32_sc rfl))
  have h98_wa : h98.1 wa = some (aI 14 (fun _ => 0)) := by rw [eh98]; exact z_so h97_wa (Ne.symm (z_ne h40_x s2 rfl))
  have h98_la : h98.1 la = some (aI 64 (fun _ => 0)) := by rw [eh98]; exact z_so h97_la (Ne.symm (z_ne h40_x s3 rfl))
  have h98_hi9 : h98.1 hi9 = some (aI 256 (fun _ => 0)) := by rw [eh98]; exact z_so h97_hi9 (Ne.symm (z_ne h40_x s4 rfl))
  have h98_fa : h98.1 fa = some (aJ 55 (fun _ => 0)) := by rw [eh98]; exact z_so h97_fa (Ne.symm (z_ne h40_x s5 rfl))
  have h98_b : h98.1 b = some (oB 0 [.int 0, .long 0, .long 0, .ref oc, .ref cs, .int 0, .ref ds, .int 0, .ref pz, .ref pq, .int 0]) := by rw [eh98]; exact z_so h97_b (Ne.symm (z_ne h52_x h52_b rfl))
  have h98_oc : h98.1 oc = some (aI 14 (mx (fun _ => (-1 : Int32)) (fun _ => 0) 14)) := by rw [eh98]; exact z_so h97_oc (Ne.symm (z_ne h60_x k1 rfl))
  have h98_cs : h98.1 cs = some (aQ 4 20 (fun _ => none)) := by rw [eh98]; exact z_so h97_cs (Ne.symm (z_ne h60_x k2 rfl))
  have h98_ds : h98.1 ds = some (aQ 5 4 D) := by rw [eh98]; exact z_so h97_ds (Ne.symm (z_ne h60_x k3 rfl))
  have h98_pz : h98.1 pz = some (aJ 20 (fun _ => 0)) := by rw [eh98]; exact z_so h97_pz (Ne.symm (z_ne h60_x k4 rfl))
  have h98_pq : h98.1 pq = some (aI 20 (fun _ => 0)) := by rw [eh98]; exact z_so h97_pq (Ne.symm (z_ne h60_x k5 rfl))
  have h98_b2 : h98.1 b2 = some (oB 0 [.int 0, .long 0, .long 0, .ref oc2, .ref cs2, .int 0, .ref ds2, .int 0, .ref pz2, .ref pq2, .int 0]) := by rw [eh98]; exact z_so h97_b2 (Ne.symm (z_ne h72_x h72_b2 rfl))
  have h98_oc2 : h98.1 oc2 = some (aI 14 (mx (fun _ => (-1 : Int32)) (fun _ => 0) 14)) := by rw [eh98]; exact z_so h97_oc2 (Ne.symm (z_ne h80_x k12 rfl))
  have h98_cs2 : h98.1 cs2 = some (aQ 4 20 (fun _ => none)) := by rw [eh98]; exact z_so h97_cs2 (Ne.symm (z_ne h80_x k22 rfl))
  have h98_ds2 : h98.1 ds2 = some (aQ 5 4 D2) := by rw [eh98]; exact z_so h97_ds2 (Ne.symm (z_ne h80_x k32 rfl))
  have h98_pz2 : h98.1 pz2 = some (aJ 20 (fun _ => 0)) := by rw [eh98]; exact z_so h97_pz2 (Ne.symm (z_ne h80_x k42 rfl))
  have h98_pq2 : h98.1 pq2 = some (aI 20 (fun _ => 0)) := by rw [eh98]; exact z_so h97_pq2 (Ne.symm (z_ne h80_x k52 rfl))
  have h98_wo : h98.1 wo = some (aI 4 (upd (upd (upd (upd (fun _ => 0) 0 (2 : Int32)) 1 (3 : Int32)) 2 (4 : Int32)) 3 (6 : Int32))) := by rw [eh98]; exact z_so h97_wo (Ne.symm (z_ne h92_x h92_wo rfl))
  have h98_dv : ∀ e, e < 4 → h98.1 (da e) = some (oD (0, 0, 0, 0, 0, 0)) := fun e he => by rw [eh98]; exact z_so (h97_dv e he) (z_ne (h97_dv e he) h97_x rfl)
  have h98_dv2 : ∀ e, e < 4 → h98.1 (da2 e) = some (oD (0, 0, 0, 0, 0, 0)) := fun e he => by rw [eh98]; exact z_so (h97_dv2 e he) (z_ne (h97_dv2 e he) h97_x rfl)
  refine v_blk g [.aload_n 0, .bipush 30] (pc' := 95) (lv' := [(0, .ref x)]) (st' := [.int (30 : Int32), .ref x]) (by decide +kernel) rfl rfl ?_
  refine v_put g (fs' := [.ref t, .ref a, .ref sc, .ref b, .ref b2, .ref wo, .int (0 : Int32), .int (30 : Int32), .int 0]) h98_x fl_X7_50 rfl rfl (Nat.le_of_ble_eq_true rfl) rfl (by decide +kernel) ?_
  refine v_h (fun h99 eh99 => ?_)
  have h99_c : h99.2.1 = h.2.1 + 30 ∧ h99.2.2 = h.2.2 + 847 := zcs eh99 h98_c
  have h99_x : h99.1 x = some (oB 7 [.ref t, .ref a, .ref sc, .ref b, .ref b2, .ref wo, .int (0 : Int32), .int (30 : Int32), .int 0]) := by rw [eh99]; exact z_s_self _ _ _
  have h99_t : h99.1 t = some (oB 6 [.ref tb, .int 0]) := by rw [eh99]; exact z_so h98_t (Ne.symm (z_ne h1_x h1_t rfl))
  have h99_tb : h99.1 tb = some (aI 200 (fun _ => 0)) := by rw [eh99]; exact z_so h98_tb (Ne.symm (z_ne h2_x h2_tb rfl))
  have h99_a : h99.1 a = some (oB 4 [.int 0, .int 0, .ref t, .ref ss, .null, .int 0, .int 0]) := by rw [eh99]; exact z_so h98_a (Ne.symm (z_ne h12_x h12_a rfl))
  have h99_ss : h99.1 ss = some (aQ 3 15 (fun _ => none)) := by rw [eh99]; exact z_so h98_ss (Ne.symm (z_ne h20_x g2 rfl))
  have h99_sc : h99.1 sc = some (oB 5 [.ref wa, .ref la, .ref hi9, .ref fa]) := by rw [eh99]; exact z_so h98_sc (Ne.symm (z_ne h32_x h32_sc rfl))
  have h99_wa : h99.1 wa = some (aI 14 (fun _ => 0)) := by rw [eh99]; exact z_so h98_wa (Ne.symm (z_ne h40_x s2 rfl))
  have h99_la : h99.1 la = some (aI 64 (fun _ => 0)) := by rw [eh99]; exact z_so h98_la (Ne.symm (z_ne h40_x s3 rfl))
  have h99_hi9 : h99.1 hi9 = some (aI 256 (fun _ => 0)) := by rw [eh99]; exact z_so h98_hi9 (Ne.symm (z_ne h40_x s4 rfl))
  have h99_fa : h99.1 fa = some (aJ 55 (fun _ => 0)) := by rw [eh99]; exact z_so h98_fa (Ne.symm (z_ne h40_x s5 rfl))
  have h99_b : h99.1 b = some (oB 0 [.int 0, .long 0, .long 0, .ref oc, .ref cs, .int 0, .ref ds, .int 0, .ref pz, .ref pq, .int 0]) := by rw [eh99]; exact z_so h98_b (Ne.symm (z_ne h52_x h52_b rfl))
  have h99_oc : h99.1 oc = some (aI 14 (mx (fun _ => (-1 : Int32)) (fun _ => 0) 14)) := by rw [eh99]; exact z_so h98_oc (Ne.symm (z_ne h60_x k1 rfl))
  have h99_cs : h99.1 cs = some (aQ 4 20 (fun _ => none)) := by rw [eh99]; exact z_so h98_cs (Ne.symm (z_ne h60_x k2 rfl))
  have h99_ds : h99.1 ds = some (aQ 5 4 D) := by rw [eh99]; exact z_so h98_ds (Ne.symm (z_ne h60_x k3 rfl))
  have h99_pz : h99.1 pz = some (aJ 20 (fun _ => 0)) := by rw [eh99]; exact z_so h98_pz (Ne.symm (z_ne h60_x k4 rfl))
  have h99_pq : h99.1 pq = some (aI 20 (fun _ => 0)) := by rw [eh99]; exact z_so h98_pq (Ne.symm (z_ne h60_x k5 rfl))
  have h99_b2 : h99.1 b2 = some (oB 0 [.int 0, .long 0, .long 0, .ref oc2, .ref cs2, .int 0, .ref ds2, .int 0, .ref pz2, .ref pq2, .int 0]) := by rw [eh99]; exact z_so h98_b2 (Ne.symm (z_ne h72_x h72_b2 rfl))
  have h99_oc2 : h99.1 oc2 = some (aI 14 (mx (fun _ => (-1 : Int32)) (fun _ => 0) 14)) := by rw [eh99]; exact z_so h98_oc2 (Ne.symm (z_ne h80_x k12 rfl))
  have h99_cs2 : h99.1 cs2 = some (aQ 4 20 (fun _ => none)) := by rw [eh99]; exact z_so h98_cs2 (Ne.symm (z_ne h80_x k22 rfl))
  have h99_ds2 : h99.1 ds2 = some (aQ 5 4 D2) := by rw [eh99]; exact z_so h98_ds2 (Ne.symm (z_ne h80_x k32 rfl))
  have h99_pz2 : h99.1 pz2 = some (aJ 20 (fun _ => 0)) := by rw [eh99]; exact z_so h98_pz2 (Ne.symm (z_ne h80_x k42 rfl))
  have h99_pq2 : h99.1 pq2 = some (aI 20 (fun _ => 0)) := by rw [eh99]; exact z_so h98_pq2 (Ne.symm (z_ne h80_x k52 rfl))
  have h99_wo : h99.1 wo = some (aI 4 (upd (upd (upd (upd (fun _ => 0) 0 (2 : Int32)) 1 (3 : Int32)) 2 (4 : Int32)) 3 (6 : Int32))) := by rw [eh99]; exact z_so h98_wo (Ne.symm (z_ne h92_x h92_wo rfl))
  have h99_dv : ∀ e, e < 4 → h99.1 (da e) = some (oD (0, 0, 0, 0, 0, 0)) := fun e he => by rw [eh99]; exact z_so (h98_dv e he) (z_ne (h98_dv e he) h98_x rfl)
  have h99_dv2 : ∀ e, e < 4 → h99.1 (da2 e) = some (oD (0, 0, 0, 0, 0, 0)) := fun e he => by rw [eh99]; exact z_so (h98_dv2 e he) (z_ne (h98_dv2 e he) h98_x rfl)
  refine v_blk g [.aload_n 0, .iconst 1] (pc' := 100) (lv' := [(0, .ref x)]) (st' := [.int (1 : Int32), .ref x]) (by decide +kernel) rfl rfl ?_
  refine v_put g (fs' := [.ref t, .ref a, .ref sc, .ref b, .ref b2, .ref wo, .int (0 : Int32), .int (30 : Int32), .int (1 : Int32)]) h99_x fl_X7_54 rfl rfl (Nat.le_of_ble_eq_true rfl) rfl (by decide +kernel) ?_
  refine v_h (fun h100 eh100 => ?_)
  have h100_c : h100.2.1 = h.2.1 + 30 ∧ h100.2.2 = h.2.2 + 847 := zcs eh100 h99_c
  have h100_x : h100.1 x = some (oB 7 [.ref t, .ref a, .ref sc, .ref b, .ref b2, .ref wo, .int (0 : Int32), .int (30 : Int32), .int (1 : Int32)]) := by rw [eh100]; exact z_s_self _ _ _
  have h100_t : h100.1 t = some (oB 6 [.ref tb, .int 0]) := by rw [eh100]; exact z_so h99_t (Ne.symm (z_ne h1_x h1_t rfl))
  have h100_tb : h100.1 tb = some (aI 200 (fun _ => 0)) := by rw [eh100]; exact z_so h99_tb (Ne.symm (z_ne h2_x h2_tb rfl))
  have h100_a : h100.1 a = some (oB 4 [.int 0, .int 0, .ref t, .ref ss, .null, .int 0, .int 0]) := by rw [eh100]; exact z_so h99_a (Ne.symm (z_ne h12_x h12_a rfl))
  have h100_ss : h100.1 ss = some (aQ 3 15 (fun _ => none)) := by rw [eh100]; exact z_so h99_ss (Ne.symm (z_ne h20_x g2 rfl))
  have h100_sc : h100.1 sc = some (oB 5 [.ref wa, .ref la, .ref hi9, .ref fa]) := by rw [eh100]; exact z_so h99_sc (Ne.symm (z_ne h32_x h32_sc rfl))
  have h100_wa : h100.1 wa = some (aI 14 (fun _ => 0)) := by rw [eh100]; exact z_so h99_wa (Ne.symm (z_ne h40_x s2 rfl))
  have h100_la : h100.1 la = some (aI 64 (fun _ => 0)) := by rw [eh100]; exact z_so h99_la (Ne.symm (z_ne h40_x s3 rfl))
  have h100_hi9 : h100.1 hi9 = some (aI 256 (fun _ => 0)) := by rw [eh100]; exact z_so h99_hi9 (Ne.symm (z_ne h40_x s4 rfl))
  have h100_fa : h100.1 fa = some (aJ 55 (fun _ => 0)) := by rw [eh100]; exact z_so h99_fa (Ne.symm (z_ne h40_x s5 rfl))
  have h100_b : h100.1 b = some (oB 0 [.int 0, .long 0, .long 0, .ref oc, .ref cs, .int 0, .ref ds, .int 0, .ref pz, .ref pq, .int 0]) := by rw [eh100]; exact z_so h99_b (Ne.symm (z_ne h52_x h52_b rfl))
  have h100_oc : h100.1 oc = some (aI 14 (mx (fun _ => (-1 : Int32)) (fun _ => 0) 14)) := by rw [eh100]; exact z_so h99_oc (Ne.symm (z_ne h60_x k1 rfl))
  have h100_cs : h100.1 cs = some (aQ 4 20 (fun _ => none)) := by rw [eh100]; exact z_so h99_cs (Ne.symm (z_ne h60_x k2 rfl))
  have h100_ds : h100.1 ds = some (aQ 5 4 D) := by rw [eh100]; exact z_so h99_ds (Ne.symm (z_ne h60_x k3 rfl))
  have h100_pz : h100.1 pz = some (aJ 20 (fun _ => 0)) := by rw [eh100]; exact z_so h99_pz (Ne.symm (z_ne h60_x k4 rfl))
  have h100_pq : h100.1 pq = some (aI 20 (fun _ => 0)) := by rw [eh100]; exact z_so h99_pq (Ne.symm (z_ne h60_x k5 rfl))
  have h100_b2 : h100.1 b2 = some (oB 0 [.int 0, .long 0, .long 0, .ref oc2, .ref cs2, .int 0, .ref ds2, .int 0, .ref pz2, .ref pq2, .int 0]) := by rw [eh100]; exact z_so h99_b2 (Ne.symm (z_ne h72_x h72_b2 rfl))
  have h100_oc2 : h100.1 oc2 = some (aI 14 (mx (fun _ => (-1 : Int32)) (fun _ => 0) 14)) := by rw [eh100]; exact z_so h99_oc2 (Ne.symm (z_ne h80_x k12 rfl))
  have h100_cs2 : h100.1 cs2 = some (aQ 4 20 (fun _ => none)) := by rw [eh100]; exact z_so h99_cs2 (Ne.symm (z_ne h80_x k22 rfl))
  have h100_ds2 : h100.1 ds2 = some (aQ 5 4 D2) := by rw [eh100]; exact z_so h99_ds2 (Ne.symm (z_ne h80_x k32 rfl))
  have h100_pz2 : h100.1 pz2 = some (aJ 20 (fun _ => 0)) := by rw [eh100]; exact z_so h99_pz2 (Ne.symm (z_ne h80_x k42 rfl))
  have h100_pq2 : h100.1 pq2 = some (aI 20 (fun _ => 0)) := by rw [eh100]; exact z_so h99_pq2 (Ne.symm (z_ne h80_x k52 rfl))
  have h100_wo : h100.1 wo = some (aI 4 (upd (upd (upd (upd (fun _ => 0) 0 (2 : Int32)) 1 (3 : Int32)) 2 (4 : Int32)) 3 (6 : Int32))) := by rw [eh100]; exact z_so h99_wo (Ne.symm (z_ne h92_x h92_wo rfl))
  have h100_dv : ∀ e, e < 4 → h100.1 (da e) = some (oD (0, 0, 0, 0, 0, 0)) := fun e he => by rw [eh100]; exact z_so (h99_dv e he) (z_ne (h99_dv e he) h99_x rfl)
  have h100_dv2 : ∀ e, e < 4 → h100.1 (da2 e) = some (oD (0, 0, 0, 0, 0, 0)) := fun e he => by rw [eh100]; exact z_so (h99_dv2 e he) (z_ne (h99_dv2 e he) h99_x rfl)
  obtain ⟨Q, eQ⟩ : ∃ Q : Nat → Nat, Q = mkQ x t tb a ss sc wa la hi9 fa b oc cs ds pz pq da b2 oc2 cs2 ds2 pz2 pq2 da2 wo := ⟨_, rfl⟩
  have hc : ∀ k, k < 31 → ∃ c, h100.1 (Q k) = some c ∧ kdz c = kcq k := by
    intro k hk
    have : k = 0 ∨ k = 1 ∨ k = 2 ∨ k = 3 ∨ k = 4 ∨ k = 5 ∨ k = 6 ∨ k = 7 ∨ k = 8 ∨ k = 9 ∨ k = 10 ∨ k = 11 ∨ k = 12 ∨ k = 13 ∨ k = 14 ∨ k = 15 ∨ k = 16 ∨ k = 17 ∨ k = 18 ∨ k = 19 ∨ k = 20 ∨ k = 21 ∨ k = 22 ∨ k = 23 ∨ k = 24 ∨ k = 25 ∨ k = 26 ∨ k = 27 ∨ k = 28 ∨ k = 29 ∨ k = 30 := by omega
    rcases this with rfl | rfl | rfl | rfl | rfl | rfl | rfl | rfl | rfl | rfl | rfl | rfl | rfl | rfl | rfl | rfl | rfl | rfl | rfl | rfl | rfl | rfl | rfl | rfl | rfl | rfl | rfl | rfl | rfl | rfl | rfl <;> rw [eQ]
    · exact ⟨_, h100_x, rfl⟩
    · exact ⟨_, h100_t, rfl⟩
    · exact ⟨_, h100_tb, rfl⟩
    · exact ⟨_, h100_a, rfl⟩
    · exact ⟨_, h100_ss, rfl⟩
    · exact ⟨_, h100_sc, rfl⟩
    · exact ⟨_, h100_wa, rfl⟩
    · exact ⟨_, h100_la, rfl⟩
    · exact ⟨_, h100_hi9, rfl⟩
    · exact ⟨_, h100_fa, rfl⟩
    · exact ⟨_, h100_b, rfl⟩
    · exact ⟨_, h100_oc, rfl⟩
    · exact ⟨_, h100_cs, rfl⟩
    · exact ⟨_, h100_ds, rfl⟩
    · exact ⟨_, h100_pz, rfl⟩
    · exact ⟨_, h100_pq, rfl⟩
    · exact ⟨_, (h100_dv 0 (by decide)), rfl⟩
    · exact ⟨_, (h100_dv 1 (by decide)), rfl⟩
    · exact ⟨_, (h100_dv 2 (by decide)), rfl⟩
    · exact ⟨_, (h100_dv 3 (by decide)), rfl⟩
    · exact ⟨_, h100_b2, rfl⟩
    · exact ⟨_, h100_oc2, rfl⟩
    · exact ⟨_, h100_cs2, rfl⟩
    · exact ⟨_, h100_ds2, rfl⟩
    · exact ⟨_, h100_pz2, rfl⟩
    · exact ⟨_, h100_pq2, rfl⟩
    · exact ⟨_, (h100_dv2 0 (by decide)), rfl⟩
    · exact ⟨_, (h100_dv2 1 (by decide)), rfl⟩
    · exact ⟨_, (h100_dv2 2 (by decide)), rfl⟩
    · exact ⟨_, (h100_dv2 3 (by decide)), rfl⟩
    · exact ⟨_, h100_wo, rfl⟩
  have qda : ∀ e, e < 4 → Q (10 + 6 + e) = da e := fun e he => by rcases (by omega : e = 0 ∨ e = 1 ∨ e = 2 ∨ e = 3) with rfl | rfl | rfl | rfl <;> rw [eQ] <;> rfl
  have qdb : ∀ e, e < 4 → Q (20 + 6 + e) = da2 e := fun e he => by rcases (by omega : e = 0 ∨ e = 1 ∨ e = 2 ∨ e = 3) with rfl | rfl | rfl | rfl <;> rw [eQ] <;> rfl
  have hlt : ∀ i j, i < 31 → j < 31 → i < j → Q i ≠ Q j := by
    intro i j hi hj hij e
    obtain ⟨c1, p1, p2⟩ := hc i hi
    obtain ⟨c2, p3, p4⟩ := hc j hj
    rw [e, p3] at p1
    cases p1
    rcases kcq_eq i hi j hj hij (by rw [← p2, ← p4]) with ⟨rfl, rfl⟩ | ⟨rfl, rfl⟩ | ⟨rfl, rfl⟩ | ⟨rfl, rfl⟩ | ⟨rfl, rfl⟩ | ⟨rfl, rfl⟩ | ⟨rfl, rfl⟩ | ⟨rfl, rfl⟩ | ⟨u1, u2, u3, u4⟩ | ⟨u1, u2, u3, u4⟩ | ⟨u1, u2, u3, u4⟩
    · rw [eQ] at e; exact d_b e
    · rw [eQ] at e; exact d_wa e
    · rw [eQ] at e; exact d_wa2 e
    · rw [eQ] at e; exact d_oc e
    · rw [eQ] at e; exact d_cs e
    · rw [eQ] at e; exact d_ds e
    · rw [eQ] at e; exact d_pz e
    · rw [eQ] at e; exact d_pq e
    · have e1 := qda (i - 16) (by omega); have e2 := qda (j - 16) (by omega); rw [show 10 + 6 + (i - 16) = i by omega] at e1; rw [show 10 + 6 + (j - 16) = j by omega] at e2; rw [e1, e2] at e; have := kI _ _ (by omega) (by omega) e; omega
    · have e1 := qda (i - 16) (by omega); have e2 := qdb (j - 26) (by omega); rw [show 10 + 6 + (i - 16) = i by omega] at e1; rw [show 20 + 6 + (j - 26) = j by omega] at e2; rw [e1, e2] at e; exact d_da _ _ (by omega) (by omega) e
    · have e1 := qdb (i - 26) (by omega); have e2 := qdb (j - 26) (by omega); rw [show 20 + 6 + (i - 26) = i by omega] at e1; rw [show 20 + 6 + (j - 26) = j by omega] at e2; rw [e1, e2] at e; have := kI2 _ _ (by omega) (by omega) e; omega
  have hQ : ∀ i j, i < 31 → j < 31 → i ≠ j → Q i ≠ Q j := fun i j hi hj hij => (Nat.lt_or_gt_of_ne hij).elim (fun q => hlt i j hi hj q) (fun q => Ne.symm (hlt j i hj hi q))
  have Wf : PC h100 (fun _ => True) Q 0 30 1 0 (fun _ => 0) 0 0 0 0 none (fun _ => none) (fun _ => none) (fun _ => 0) (fun _ => 0) (fun _ => 0) (fun _ => 0) (upd (upd (upd (upd (fun _ => 0) 0 2) 1 3) 2 4) 3 6) 0 0 0 (mx (fun _ => (-1 : Int32)) (fun _ => 0) 14) (fun _ => none) 0 D 0 (fun _ => (0, 0, 0, 0, 0, 0)) (fun _ => 0) (fun _ => 0) 0 (fun _ => 0) (fun _ => 0) (fun _ => 0) (fun _ => (0, 0, 0, 0)) (fun _ _ => 0) 0 0 0 (mx (fun _ => (-1 : Int32)) (fun _ => 0) 14) (fun _ => none) 0 D2 0 (fun _ => (0, 0, 0, 0, 0, 0)) (fun _ => 0) (fun _ => 0) 0 (fun _ => 0) (fun _ => 0) (fun _ => 0) (fun _ => (0, 0, 0, 0)) (fun _ _ => 0) := ⟨⟨by rw [eQ]; exact h100_x, trivial⟩, ⟨by rw [eQ]; exact h100_t, trivial⟩, ⟨by rw [eQ]; exact h100_tb, trivial⟩, ⟨by rw [eQ]; exact h100_a, trivial⟩, ⟨by rw [eQ]; exact h100_ss, trivial⟩, rfl, fun _ _ => rfl, fun t ht s w f hT => (by cases hT), fun t u ht hu hn s w f s2 w2 f2 hT => (by cases hT), ⟨by rw [eQ]; exact h100_sc, trivial⟩, ⟨by rw [eQ]; exact h100_wa, trivial⟩, ⟨by rw [eQ]; exact h100_la, trivial⟩, ⟨by rw [eQ]; exact h100_hi9, trivial⟩, ⟨by rw [eQ]; exact h100_fa, trivial⟩, ⟨by rw [eQ]; exact h100_wo, trivial⟩, ⟨⟨by rw [eQ]; exact h100_b, trivial⟩, ⟨by rw [eQ]; exact h100_oc, trivial⟩, ⟨by rw [eQ]; exact h100_cs, trivial⟩, ⟨by rw [eQ]; exact h100_ds, trivial⟩, ⟨by rw [eQ]; exact h100_pz, trivial⟩, ⟨by rw [eQ]; exact h100_pq, trivial⟩, fun e he => by rw [qda e he]; exact (kE e he).1, fun e he => ⟨by rw [qda e he]; exact h100_dv e he, trivial⟩, fun q hq v hv => by cases hv⟩, ⟨⟨by rw [eQ]; exact h100_b2, trivial⟩, ⟨by rw [eQ]; exact h100_oc2, trivial⟩, ⟨by rw [eQ]; exact h100_cs2, trivial⟩, ⟨by rw [eQ]; exact h100_ds2, trivial⟩, ⟨by rw [eQ]; exact h100_pz2, trivial⟩, ⟨by rw [eQ]; exact h100_pq2, trivial⟩, fun e he => by rw [qdb e he]; exact (kE2 e he).1, fun e he => ⟨by rw [qdb e he]; exact h100_dv2 e he, trivial⟩, fun q hq v hv => by cases hv⟩, KP.none, fun u => absurd rfl u, hQ⟩
  exact v_vret g z rfl (by decide +kernel) ⟨rfl, Q, by rw [eQ]; rfl, D, D2, Wf, h100_c⟩ (zcrn 30 847 h100_c.1 h100_c.2 (Nat.le_of_ble_eq_true rfl) (Nat.le_of_ble_eq_true rfl))
