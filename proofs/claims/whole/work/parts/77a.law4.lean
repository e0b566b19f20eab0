/-! the law: from its entry -/
theorem nn0 : nn (fun _ => none) 16 = 16 := by decide
theorem nIs4 : nIs (upd (upd (upd (upd (fun _ => 0) 0 2) 1 3) 2 4) 3 6) (fun j => if j = 0 then 2 else if j = 1 then 3 else if j = 2 then 4 else 6) 4 := fun q hq => by
  have : q = 0 ∨ q = 1 ∨ q = 2 ∨ q = 3 := by omega
  rcases this with rfl | rfl | rfl | rfl
  · rfl
  · rfl
  · rfl
  · rfl
set_option maxRecDepth 100000 in
set_option maxHeartbeats 4000000 in
theorem law_go {F : zF} {X : zX} {b L : Nat} {xs : Nat → Int32} {h0 : zH} (e0 : h0 = (fun _ => none, 0, 0)) (g : zG F X yL_law cL_law 7 ret room_1 (0, 0)) (sc : zSc F X b L xs) (hkx : zKL F X) (hl : F.1.stackTraces = false) (z : zZL F X b) (hL : L ≤ 3072) : zV F X h0 0 [(0, .ref b)] [] := by
  have hb0 : h0.2.1 = 0 ∧ h0.2.2 = 0 := by rw [e0]; exact ⟨rfl, rfl⟩
  refine v_new g nl_L_8 ⟨by show h0.2.1 + 1 ≤ 0 + 601024; omega, by show h0.2.2 + 9 ≤ 0 + 7293034; omega⟩ (by decide +kernel) (fun x hx => ?_)
  refine v_h (fun h1 eh1 => ?_)
  have h1x : h1.1 x = some (oB 7 [.null, .null, .null, .null, .null, .null, .int 0, .int 0, .int 0]) := by rw [eh1]; exact z_n_self _ _ _ _
  have h1c : h1.2.1 = 1 ∧ h1.2.2 = 9 := by rw [eh1]; exact ⟨by show h0.2.1 + 1 = 1; omega, by show h0.2.2 + 9 = 9; omega⟩
  refine v_blk g [.dup] (pc' := 4) (lv' := [(0, .ref b)]) (st' := [.ref x, .ref x]) (by decide +kernel) rfl rfl ?_
  refine v_callI g (As := []) (rest := [.ref x]) (p_init h1x) cl_L_15 rfl (Nat.le_of_ble_eq_true rfl) (by decide +kernel) (by decide) ⟨by show h1.2.1 + 30 ≤ 0 + 601024; omega, by show h1.2.2 + 847 ≤ 0 + 7293034; omega⟩ (fun v9 h2 q => ?_)
  obtain ⟨rfl, Q, rfl, D, D2, W, c1, c2⟩ := q
  show zV F X h2 7 [(0, .ref b)] [.ref (Q 0)]
  refine v_blk g [.astore_n 1] (pc' := 8) (lv' := [(1, .ref (Q 0)), (0, .ref b)]) (st' := []) (by decide +kernel) rfl rfl ?_
  refine v_new g nl_L_16 ⟨by show h2.2.1 + 1 ≤ 0 + 601024; omega, by show h2.2.2 + 44 ≤ 0 + 7293034; omega⟩ (by decide +kernel) (fun m hm => ?_)
  refine v_h (fun h3 eh3 => ?_)
  have h3m : h3.1 m = some (oB 8 [.null, .null, .null, .null, .int 0, .int 0, .int 0, .null, .null, .null, .null, .int 0, .int 0, .int 0, .null, .int 0, .int 0, .long 0, .long 0, .null, .null, .int 0, .int 0, .null, .null, .null, .null, .null, .null, .int 0, .null, .int 0, .long 0, .long 0, .null, .null, .int 0, .null, .null, .null, .int 0, .int 0, .int 0, .int 0]) := by rw [eh3]; exact z_n_self _ _ _ _
  have h3c : h3.2.1 = 32 ∧ h3.2.2 = 900 := by rw [eh3]; exact ⟨by show h2.2.1 + 1 = 32; omega, by show h2.2.2 + 44 = 900; omega⟩
  refine v_blk g [.dup] (pc' := 12) (lv' := [(1, .ref (Q 0)), (0, .ref b)]) (st' := [.ref m, .ref m]) (by decide +kernel) rfl rfl ?_
  refine v_callI g (As := []) (rest := [.ref m]) (m_init h3m) cl_L_18 rfl (Nat.le_of_ble_eq_true rfl) (by decide +kernel) (by decide) ⟨by show h3.2.1 + 23 ≤ 0 + 601024; omega, by show h3.2.2 + 315900 ≤ 0 + 7293034; omega⟩ (fun v9 h4 q => ?_)
  obtain ⟨rfl, R, M, hRn, ⟨c3, c4⟩, hkp⟩ := q
  show zV F X h4 15 [(1, .ref (Q 0)), (0, .ref b)] [.ref m]
  refine v_blk g [.astore_n 2, .iconst 1] (pc' := 17) (lv' := [(2, .ref m), (1, .ref (Q 0)), (0, .ref b)]) (st' := [.int (1 : Int32)]) (by decide +kernel) rfl rfl ?_
  refine v_newJ g 1 rfl (Nat.le_of_ble_eq_true rfl) ac_long ⟨by show h4.2.1 + 1 ≤ 0 + 601024; omega, by show h4.2.2 + 1 ≤ 0 + 7293034; omega⟩ (by decide +kernel) (fun o ho => ?_)
  refine v_h (fun h5 e5 => ?_)
  refine v_blk g [.astore_n 3, .iconst 0, .istore 4] (pc' := 23) (lv' := [(4, .int (0 : Int32)), (3, .ref o), (2, .ref m), (1, .ref (Q 0)), (0, .ref b)]) (st' := []) (by decide +kernel) rfl rfl ?_
  refine v_lv [4, 3, 2, 1, 0] (lv' := [(0, .ref b), (1, .ref (Q 0)), (2, .ref m), (3, .ref o), (4, .int (0 : Int32))]) rfl ?_
  have h5o : h5.1 o = some (aJ 1 (fun _ => 0)) := by rw [e5]; exact z_n_self _ _ _ _
  have h5k : ∀ y c, h4.1 y = some c → h5.1 y = some c := fun y c hc => by rw [e5]; exact z_no hc ho
  have h23 : ∀ y c, h2.1 y = some c → h3.1 y = some c ∧ y ≠ m := fun y c hc => ⟨by rw [eh3]; exact z_no hc hm, fun e => by rw [e, hm] at hc; cases hc⟩
  have h24 : ∀ y c, h2.1 y = some c → h4.1 y = some c := fun y c hc => hkp y c (h23 y c hc).1 (h23 y c hc).2
  have M5 := M.kp (h1 := h5) (fun y c _ hc => h5k y c hc)
  have s5 : SP h5 (fun y => ∃ c, h2.1 y = some c) m R o := by
    refine ⟨fun y hy => ?_, ⟨fun e => ?_, fun j hj e => ?_⟩, _, h5o⟩
    · obtain ⟨c, hc⟩ := hy
      exact ⟨(h23 y c hc).2, fun j hj e => (by have := hRn j hj; rw [← e, (h23 y c hc).1] at this; cases this), fun e => (by rw [e] at hc; have := h24 o c hc; rw [ho] at this; cases this)⟩
    · rw [e, M.o] at ho; cases ho
    · have hh : ∃ c, h4.1 (R j) = some c := by
        have : j = 0 ∨ j = 1 ∨ j = 2 ∨ j = 3 ∨ j = 4 ∨ j = 5 ∨ j = 6 ∨ j = 7 ∨ j = 8 ∨ j = 9 ∨ j = 10 ∨ j = 11 ∨ j = 12 ∨ j = 13 ∨ j = 14 ∨ j = 15 ∨ j = 16 ∨ j = 17 ∨ j = 18 ∨ j = 19 ∨ j = 20 ∨ j = 21 ∨ j = 22 := by omega
        rcases this with rfl | rfl | rfl | rfl | rfl | rfl | rfl | rfl | rfl | rfl | rfl | rfl | rfl | rfl | rfl | rfl | rfl | rfl | rfl | rfl | rfl | rfl | rfl
        · exact ⟨_, M.k0⟩
        · exact ⟨_, M.k1⟩
        · exact ⟨_, M.k2⟩
        · exact ⟨_, M.k3⟩
        · exact ⟨_, M.k4⟩
        · exact ⟨_, M.k5⟩
        · exact ⟨_, M.k6⟩
        · exact ⟨_, M.k7⟩
        · exact ⟨_, M.k8⟩
        · exact ⟨_, M.k9⟩
        · exact ⟨_, M.k10⟩
        · exact ⟨_, M.k11⟩
        · exact ⟨_, M.k12⟩
        · exact ⟨_, M.k13⟩
        · exact ⟨_, M.k14⟩
        · exact ⟨_, M.k15⟩
        · exact ⟨_, M.k16⟩
        · exact ⟨_, M.k17⟩
        · exact ⟨_, M.k18⟩
        · exact ⟨_, M.k19⟩
        · exact ⟨_, M.k20⟩
        · exact ⟨_, M.k21⟩
        · exact ⟨_, M.k22⟩
      obtain ⟨c, hc⟩ := hh
      rw [e, hc] at ho; cases ho
  have W5 := W.keep (h2 := h5) (Ω2 := fun y => ∃ c, h2.1 y = some c) (fun y c p => ⟨h5k y c (h24 y c p.1), c, p.1⟩)
  have c5 : h5.2.1 = 56 ∧ h5.2.2 = 316801 := by rw [e5]; exact ⟨by show h4.2.1 + 1 = 56; omega, by show h4.2.2 + 1 = 316801; omega⟩
  have L0 : LW h5 (Q 0) m o 0 := LW.fin (N := 0) (v := fun j => if j = 0 then 2 else if j = 1 then 3 else if j = 2 then 4 else 6) W5 M5 rfl s5 ⟨fun q hq => (by unfold mo; rw [mx_lt hq, if_pos rfl]), okO_m1 _, by omega, fun q hq => absurd hq (Nat.not_lt_zero q), by omega, fun d hd => absurd hd (Nat.not_lt_zero d), ⟨fun d hd => absurd hd (Nat.not_lt_zero d), fun d hd => absurd hd (Nat.not_lt_zero _)⟩, by omega, fun q hq => absurd hq (Nat.not_lt_zero q)⟩ (fun c => absurd rfl c) ⟨by omega, by decide, by decide, by omega, nIs4, fun j => (by show (if j = 0 then 2 else if j = 1 then 3 else if j = 2 then 4 else 6) ≤ 9; split; decide; split; decide; split <;> decide), fun _ _ => Or.inl rfl, fun _ _ => Or.inl rfl⟩ (by rw [c5.1, c5.2, nn0]; decide) (by omega)
  exact law_loop g sc hkx hl z hL 0 (by omega) h5 L0
