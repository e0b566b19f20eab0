def frx (Ω : Nat → Prop) (h h2 : zH) : Prop := ∀ x y, h.1 x = some y → ¬ Ω x → h2.1 x = some y

set_option maxRecDepth 100000 in
set_option maxHeartbeats 4000000 in
theorem p_coupon {F : zF} {h : zH} {Ω : Nat → Prop} {Q : Nat → Nat} {cu ha un : Int32} {n : Nat} {B : Nat → Int32} {hg at9 fk fp : Int32} {sp : Option Nat} {G : Nat → Option Nat} {T : Nat → zS} {wf lf hf : Nat → Int32} {ff : Nat → Int64} {V : Nat → Int32} {wk : Int32} {hm pm : Int64} {O : Nat → Int32} {C : Nat → Option Nat} {ch : Nat} {D : Nat → Option Nat} {dh : Nat} {E : Nat → zD} {Z : Nat → Int64} {P : Nat → Int32} {ph : Nat} {ca cl cw : Nat → Nat} {K : Nat → Int32 × Int32 × Int32 × Int32} {cf : Nat → Nat → Int64} {wk2 : Int32} {hm2 pm2 : Int64} {O2 : Nat → Int32} {C2 : Nat → Option Nat} {ch2 : Nat} {D2 : Nat → Option Nat} {dh2 : Nat} {E2 : Nat → zD} {Z2 : Nat → Int64} {P2 : Nat → Int32} {ph2 : Nat} {ca2 cl2 cw2 : Nat → Nat} {K2 : Nat → Int32 × Int32 × Int32 × Int32} {cf2 : Nat → Nat → Int64} (W : PC h (Ω) Q cu ha un n B hg at9 fk fp sp G T wf lf hf ff V wk hm pm O C ch D dh E Z P ph ca cl cw K cf wk2 hm2 pm2 O2 C2 ch2 D2 dh2 E2 Z2 P2 ph2 ca2 cl2 cw2 K2 cf2) (hch : ch ≤ 20) (hn : n ≤ 200) (pr9 pa9 : Int32) : zMet F yX7_coupon cX7_coupon 5 (some .int) { frames := 35, cells := 2 * nn T 16 + 3, slots := 257 * nn T 16 + 262, locals := 1050 } [.ref (Q 0), .int pr9, .int pa9] h (fun v9 h2 => (¬ okCp ch pr9 pa9 ∧ v9 = some (.int (-1)) ∧ PC h2 (Ω) Q cu ha un 0 B hg at9 0 0 sp G T wf lf hf ff V wk hm pm O C ch D dh E Z P ph ca cl cw K cf wk2 hm2 pm2 O2 C2 ch2 D2 dh2 E2 Z2 P2 ph2 ca2 cl2 cw2 K2 cf2 ∧ frq Ω h h2) ∨ (okCp ch pr9 pa9 ∧ ∃ (kd pl9 : Nat) (hg2 at2 : Int32) (sp2 : Option Nat) (G2 : Nat → Option Nat) (T2 : Nat → zS), par9 (txt B n) n = .inl (kd, pl9) ∧ v9 = some (.int (-1)) ∧ PC h2 (fun x => Ω x ∨ h.1 x = none) Q cu ha un 0 B hg2 at2 (nI kd) (nI pl9) sp2 G2 T2 wf lf hf ff V wk hm pm O C ch D dh E Z P ph ca cl cw K cf wk2 hm2 pm2 O2 C2 ch2 D2 dh2 E2 Z2 P2 ph2 ca2 cl2 cw2 K2 cf2 ∧ frx Ω h h2 ∧ h2.2.1 + 2 * nn T2 16 = h.2.1 + 2 * nn T 16 ∧ h2.2.2 + 257 * nn T2 16 = h.2.2 + 257 * nn T 16) ∨ (okCp ch pr9 pa9 ∧ ∃ (q : Nat) (S : Nat → Prop) (hg2 at2 : Int32) (sp2 : Option Nat) (G2 : Nat → Option Nat) (T2 : Nat → zS) (cp s sw : Nat) (f9 : Nat → Int64), par9 (txt B n) n = .inr (q, S) ∧ v9 = some (.int (nI ch)) ∧ PC h2 (fun x => Ω x ∨ h.1 x = none) Q cu ha un 0 B hg2 at2 0 0 sp2 G2 T2 wf lf hf ff V wk hm pm O (va_up C ch (some cp)) (ch + 1) D dh E Z P ph (va_up ca ch cp) (va_up cl ch s) (va_up cw ch sw) (va_up K ch (nI (fb_sm (fun k => pc64 (f9 k)) 256), pr9, pa9, 0)) (va_up cf ch f9) wk2 hm2 pm2 O2 C2 ch2 D2 dh2 E2 Z2 P2 ph2 ca2 cl2 cw2 K2 cf2 ∧ (∀ m, m < 16384 → (lb f9 m = true ↔ S m)) ∧ (¬ cu = 0 → ∀ r, r < ch2 → cp ≠ ca2 r) ∧ frx Ω h h2 ∧ h2.2.1 + 2 * nn T2 16 = h.2.1 + 2 * nn T 16 + 3 ∧ h2.2.2 + 257 * nn T2 16 = h.2.2 + 257 * nn T 16 + 262)) := by
  refine zMet_of (lv := [(0, .ref (Q 0)), (1, .int pr9), (2, .int pa9)]) (by decide) (by simp [lg_sl, Value.category]) rfl ?_
  intro X g z
  obtain ⟨x0, t1, t2, r3, r4, sp9, gg, ls, lsd, s5, s6, s7, s8, s9, v30, bn, be, kn, ke, hQ⟩ := id W
  obtain ⟨b0, b1, b2, b3, b4, b5, bD, bE, bC⟩ := id bn
  obtain ⟨kn1, kn2, kn3, kn4, kn5, kn6⟩ := id kn
  refine v_blk g [.iconst (-1), .istore_n 3, .aload_n 0] (pc' := 3) (lv' := [(3, .int (-1 : Int32)), (0, .ref (Q 0)), (1, .int pr9), (2, .int pa9)]) (st' := [.ref (Q 0)]) (by decide +kernel) rfl rfl ?_
  refine v_get g x0.1 fl_X7_21 rfl (by decide +kernel) ?_
  refine v_callVp g (rest := []) (c_PR_forget r3.1) cl_X7_83 r3.1 rfl rfl (Nat.le_of_ble_eq_true rfl) (by decide +kernel) ⟨Nat.le_of_ble_eq_true rfl, Nat.le_of_ble_eq_true rfl⟩ (zcsn 0 0 rfl rfl (Nat.le_of_ble_eq_true rfl) (Nat.le_of_ble_eq_true rfl)) ?_
  show zV F X (z_s h (Q 3) (oB 4 [.int 0, .int 0, .ref (Q 1), .ref (Q 4), va_rf sp, .int hg, .int at9])) 9 [(3, .int (-1 : Int32)), (0, .ref (Q 0)), (1, .int pr9), (2, .int pa9)] []
  refine v_h (fun h1 eh1 => ?_)
  have W1 : PC h1 (Ω) Q cu ha un n B hg at9 0 0 sp G T wf lf hf ff V wk hm pm O C ch D dh E Z P ph ca cl cw K cf wk2 hm2 pm2 O2 C2 ch2 D2 dh2 E2 Z2 P2 ph2 ca2 cl2 cw2 K2 cf2 := by rw [eh1]; exact W.u3 0 0 hg at9
  have f1 : frq Ω h h1 := by rw [eh1]; exact frq.refl.s r3.2
  have h1_c := f1.c
  obtain ⟨x0u, t1u, t2u, r3u, r4u, sp9u, ggu, lsu, lsdu, s5u, s6u, s7u, s8u, s9u, v30u, bnu, beu, knu, keu, hQu⟩ := id W1
  obtain ⟨b0u, b1u, b2u, b3u, b4u, b5u, bDu, bEu, bCu⟩ := id bnu
  obtain ⟨kn1u, kn2u, kn3u, kn4u, kn5u, kn6u⟩ := id knu
  obtain ⟨c1a, c1b⟩ := h1_c
  refine v_blk g [.iload_n 1, .iconst 1, .bipush 100] (pc' := 13) (lv' := [(3, .int (-1 : Int32)), (0, .ref (Q 0)), (1, .int pr9), (2, .int pa9)]) (st' := [.int (100 : Int32), .int (1 : Int32), .int pr9]) (by decide +kernel) rfl rfl ?_
  refine v_callSp g (rest := []) (c_isIn _ _ _) cl_X7_57 rfl (Nat.le_of_ble_eq_true rfl) (by decide +kernel) ⟨Nat.le_of_ble_eq_true rfl, Nat.le_of_ble_eq_true rfl⟩ ⟨by dsimp only; omega, by dsimp only; omega⟩ ?_
  show zV F X h1 16 [(3, .int (-1 : Int32)), (0, .ref (Q 0)), (1, .int pr9), (2, .int pa9)] [.int (x_isIn pr9 (1) (100))]
  refine v_if_eq g (off := 58) (tgt := 74) (by decide +kernel) (by decide) (fun c1 => ?_) (fun c1 => ?_)
  · refine v_blk g [.aload_n 0] (pc' := 75) (lv' := [(3, .int (-1 : Int32)), (0, .ref (Q 0)), (1, .int pr9), (2, .int pa9)]) (st' := [.ref (Q 0)]) (by decide +kernel) rfl rfl ?_
    refine v_get g x0u.1 fl_X7_10 rfl (by decide +kernel) ?_
    refine v_blk g [.iconst 0] (pc' := 79) (lv' := [(3, .int (-1 : Int32)), (0, .ref (Q 0)), (1, .int pr9), (2, .int pa9)]) (st' := [.int (0 : Int32), .ref (Q 1)]) (by decide +kernel) rfl rfl ?_
    refine v_callVp g (rest := []) (c_Tape_cut t1u.1 t2u.1 0) cl_X7_79 t1u.1 rfl rfl (Nat.le_of_ble_eq_true rfl) (by decide +kernel) ⟨Nat.le_of_ble_eq_true rfl, Nat.le_of_ble_eq_true rfl⟩ ⟨by dsimp only; omega, by dsimp only; omega⟩ ?_
    show zV F X (if x_cut n 0 = 0 then h1 else z_s h1 (Q 1) (oB 6 [.ref (Q 2), .int 0])) 82 [(3, .int (-1 : Int32)), (0, .ref (Q 0)), (1, .int pr9), (2, .int pa9)] [.int (x_cut n 0)]
    have ecut : x_cut n 0 = 1 := by rw [x_cut, if_neg (by decide), if_pos (nI_pos' (by omega))]
    refine v_eqh (h' := z_s h1 (Q 1) (oB 6 [.ref (Q 2), .int (nI 0)])) (by rw [ecut, if_neg (by decide)]; rfl) ?_
    refine v_blk g [.pop, .iload_n 3] (pc' := 84) (lv' := [(3, .int (-1 : Int32)), (0, .ref (Q 0)), (1, .int pr9), (2, .int pa9)]) (st' := [.int (-1 : Int32)]) (by decide +kernel) rfl rfl ?_
    exact v_iret g z rfl (by decide +kernel) (Or.inl ⟨(fun q => q.1 c1), rfl, W1.u1 0, f1.s t1.2⟩) ⟨by show h1.2.1 ≤ _; dsimp only; omega, by show h1.2.2 ≤ _; dsimp only; omega⟩
  · refine v_blk g [.iload_n 2, .iconst 1, .bipush 9] (pc' := 23) (lv' := [(3, .int (-1 : Int32)), (0, .ref (Q 0)), (1, .int pr9), (2, .int pa9)]) (st' := [.int (9 : Int32), .int (1 : Int32), .int pa9]) (by decide +kernel) rfl rfl ?_
    refine v_callSp g (rest := []) (c_isIn _ _ _) cl_X7_57 rfl (Nat.le_of_ble_eq_true rfl) (by decide +kernel) ⟨Nat.le_of_ble_eq_true rfl, Nat.le_of_ble_eq_true rfl⟩ ⟨by dsimp only; omega, by dsimp only; omega⟩ ?_
    show zV F X h1 26 [(3, .int (-1 : Int32)), (0, .ref (Q 0)), (1, .int pr9), (2, .int pa9)] [.int (x_isIn pa9 (1) (9))]
    refine v_if_eq g (off := 48) (tgt := 74) (by decide +kernel) (by decide) (fun c2 => ?_) (fun c2 => ?_)
    · refine v_blk g [.aload_n 0] (pc' := 75) (lv' := [(3, .int (-1 : Int32)), (0, .ref (Q 0)), (1, .int pr9), (2, .int pa9)]) (st' := [.ref (Q 0)]) (by decide +kernel) rfl rfl ?_
      refine v_get g x0u.1 fl_X7_10 rfl (by decide +kernel) ?_
      refine v_blk g [.iconst 0] (pc' := 79) (lv' := [(3, .int (-1 : Int32)), (0, .ref (Q 0)), (1, .int pr9), (2, .int pa9)]) (st' := [.int (0 : Int32), .ref (Q 1)]) (by decide +kernel) rfl rfl ?_
      refine v_callVp g (rest := []) (c_Tape_cut t1u.1 t2u.1 0) cl_X7_79 t1u.1 rfl rfl (Nat.le_of_ble_eq_true rfl) (by decide +kernel) ⟨Nat.le_of_ble_eq_true rfl, Nat.le_of_ble_eq_true rfl⟩ ⟨by dsimp only; omega, by dsimp only; omega⟩ ?_
      show zV F X (if x_cut n 0 = 0 then h1 else z_s h1 (Q 1) (oB 6 [.ref (Q 2), .int 0])) 82 [(3, .int (-1 : Int32)), (0, .ref (Q 0)), (1, .int pr9), (2, .int pa9)] [.int (x_cut n 0)]
      have ecut : x_cut n 0 = 1 := by rw [x_cut, if_neg (by decide), if_pos (nI_pos' (by omega))]
      refine v_eqh (h' := z_s h1 (Q 1) (oB 6 [.ref (Q 2), .int (nI 0)])) (by rw [ecut, if_neg (by decide)]; rfl) ?_
      refine v_blk g [.pop, .iload_n 3] (pc' := 84) (lv' := [(3, .int (-1 : Int32)), (0, .ref (Q 0)), (1, .int pr9), (2, .int pa9)]) (st' := [.int (-1 : Int32)]) (by decide +kernel) rfl rfl ?_
      exact v_iret g z rfl (by decide +kernel) (Or.inl ⟨(fun q => q.2.1 c2), rfl, W1.u1 0, f1.s t1.2⟩) ⟨by show h1.2.1 ≤ _; dsimp only; omega, by show h1.2.2 ≤ _; dsimp only; omega⟩
    · refine v_blk g [.aload_n 0] (pc' := 30) (lv' := [(3, .int (-1 : Int32)), (0, .ref (Q 0)), (1, .int pr9), (2, .int pa9)]) (st' := [.ref (Q 0)]) (by decide +kernel) rfl rfl ?_
      refine v_get g x0u.1 fl_X7_35 rfl (by decide +kernel) ?_
      refine v_get g b0u.1 fl_X7_86 rfl (by decide +kernel) ?_
      refine v_blk g [.bipush 20] (pc' := 38) (lv' := [(3, .int (-1 : Int32)), (0, .ref (Q 0)), (1, .int pr9), (2, .int pa9)]) (st' := [.int (20 : Int32), .int (nI ch)]) (by decide +kernel) rfl rfl ?_
      refine v_icmp_ge g (off := 36) (tgt := 74) (by decide +kernel) (by decide) (fun c3 => ?_) (fun c3 => ?_)
      · refine v_blk g [.aload_n 0] (pc' := 75) (lv' := [(3, .int (-1 : Int32)), (0, .ref (Q 0)), (1, .int pr9), (2, .int pa9)]) (st' := [.ref (Q 0)]) (by decide +kernel) rfl rfl ?_
        refine v_get g x0u.1 fl_X7_10 rfl (by decide +kernel) ?_
        refine v_blk g [.iconst 0] (pc' := 79) (lv' := [(3, .int (-1 : Int32)), (0, .ref (Q 0)), (1, .int pr9), (2, .int pa9)]) (st' := [.int (0 : Int32), .ref (Q 1)]) (by decide +kernel) rfl rfl ?_
        refine v_callVp g (rest := []) (c_Tape_cut t1u.1 t2u.1 0) cl_X7_79 t1u.1 rfl rfl (Nat.le_of_ble_eq_true rfl) (by decide +kernel) ⟨Nat.le_of_ble_eq_true rfl, Nat.le_of_ble_eq_true rfl⟩ ⟨by dsimp only; omega, by dsimp only; omega⟩ ?_
        show zV F X (if x_cut n 0 = 0 then h1 else z_s h1 (Q 1) (oB 6 [.ref (Q 2), .int 0])) 82 [(3, .int (-1 : Int32)), (0, .ref (Q 0)), (1, .int pr9), (2, .int pa9)] [.int (x_cut n 0)]
        have ecut : x_cut n 0 = 1 := by rw [x_cut, if_neg (by decide), if_pos (nI_pos' (by omega))]
        refine v_eqh (h' := z_s h1 (Q 1) (oB 6 [.ref (Q 2), .int (nI 0)])) (by rw [ecut, if_neg (by decide)]; rfl) ?_
        refine v_blk g [.pop, .iload_n 3] (pc' := 84) (lv' := [(3, .int (-1 : Int32)), (0, .ref (Q 0)), (1, .int pr9), (2, .int pa9)]) (st' := [.int (-1 : Int32)]) (by decide +kernel) rfl rfl ?_
        exact v_iret g z rfl (by decide +kernel) (Or.inl ⟨(fun q => by have := (nI_lei (a := 20) (by decide) (by omega)).mp c3; have := q.2.2; omega), rfl, W1.u1 0, f1.s t1.2⟩) ⟨by show h1.2.1 ≤ _; dsimp only; omega, by show h1.2.2 ≤ _; dsimp only; omega⟩
      · have c20 : ch < 20 := Classical.byContradiction (fun q => c3 (nI_le (a := 20) (by omega) (by omega)))
        have okc : okCp ch pr9 pa9 := ⟨c1, c2, c20⟩
        refine v_blk g [.aload_n 0] (pc' := 42) (lv' := [(3, .int (-1 : Int32)), (0, .ref (Q 0)), (1, .int pr9), (2, .int pa9)]) (st' := [.ref (Q 0)]) (by decide +kernel) rfl rfl ?_
        refine v_get g x0u.1 fl_X7_21 rfl (by decide +kernel) ?_
        refine v_callV g (rest := []) (c_PR_tape W1.rw hn) cl_X7_89 r3u.1 rfl rfl (Nat.le_of_ble_eq_true rfl) (by decide +kernel) ⟨Nat.le_of_ble_eq_true rfl, Nat.le_of_ble_eq_true rfl⟩ ⟨by dsimp only; omega, by dsimp only; omega⟩ (fun v9 h2 q2 => ?_)
        rcases q2 with ⟨kd, pl9, hg2, at2, sp2, G2, T2, e2, rfl, r2, f2, b2c⟩ | ⟨q, S, hg2, at2, sp2, G2, T2, s, sw, f9, e2, rfl, r2, f2, ⟨os, ow9⟩, ⟨ns, nw⟩, hs, hw, lS, b2a, b2b⟩
        · obtain ⟨b2a, b2b⟩ := b2c
          show zV F X h2 48 [(3, .int (-1 : Int32)), (0, .ref (Q 0)), (1, .int pr9), (2, .int pa9)] [.null]
          have W2 := W1.tape r2 f2
          have x2 : frx Ω h h2 := fun x y hx hO => f2.1 x y (by rw [f1.1 x hO]; exact hx) (fun o => hO (W1.own o))
          have om1 : ∀ x, (Ω x ∨ h1.1 x = none) → (Ω x ∨ h.1 x = none) := fun x o => o.elim Or.inl (fun e => by by_cases hO : Ω x; exact Or.inl hO; exact Or.inr (by rw [← f1.1 x hO]; exact e))
          obtain ⟨x0t, t1t, t2t, r3t, r4t, sp9t, ggt, lst, lsdt, s5t, s6t, s7t, s8t, s9t, v30t, bnt, bet, knt, ket, hQt⟩ := id W2
          obtain ⟨b0t, b1t, b2t, b3t, b4t, b5t, bDt, bEt, bCt⟩ := id bnt
          obtain ⟨kn1t, kn2t, kn3t, kn4t, kn5t, kn6t⟩ := id knt
          refine v_blk g [.astore 4, .aload 4] (pc' := 52) (lv' := [(4, .null), (3, .int (-1 : Int32)), (0, .ref (Q 0)), (1, .int pr9), (2, .int pa9)]) (st' := [.null]) (by decide +kernel) rfl rfl ?_
          refine v_ifnull g (r := none) (off := 22) (tgt := 74) (by decide +kernel) (by decide) (fun _ => ?_) (fun _ q => nomatch q)
          refine v_blk g [.aload_n 0] (pc' := 75) (lv' := [(4, .null), (3, .int (-1 : Int32)), (0, .ref (Q 0)), (1, .int pr9), (2, .int pa9)]) (st' := [.ref (Q 0)]) (by decide +kernel) rfl rfl ?_
          refine v_get g x0t.1 fl_X7_10 rfl (by decide +kernel) ?_
          refine v_blk g [.iconst 0] (pc' := 79) (lv' := [(4, .null), (3, .int (-1 : Int32)), (0, .ref (Q 0)), (1, .int pr9), (2, .int pa9)]) (st' := [.int (0 : Int32), .ref (Q 1)]) (by decide +kernel) rfl rfl ?_
          refine v_callVp g (rest := []) (c_Tape_cut t1t.1 t2t.1 0) cl_X7_79 t1t.1 rfl rfl (Nat.le_of_ble_eq_true rfl) (by decide +kernel) ⟨Nat.le_of_ble_eq_true rfl, Nat.le_of_ble_eq_true rfl⟩ ⟨by dsimp only; omega, by dsimp only; omega⟩ ?_
          show zV F X (if x_cut n 0 = 0 then h2 else z_s h2 (Q 1) (oB 6 [.ref (Q 2), .int 0])) 82 [(4, .null), (3, .int (-1 : Int32)), (0, .ref (Q 0)), (1, .int pr9), (2, .int pa9)] [.int (x_cut n 0)]
          have ecut : x_cut n 0 = 1 := by rw [x_cut, if_neg (by decide), if_pos (nI_pos' (by omega))]
          refine v_eqh (h' := z_s h2 (Q 1) (oB 6 [.ref (Q 2), .int (nI 0)])) (by rw [ecut, if_neg (by decide)]; rfl) ?_
          refine v_blk g [.pop, .iload_n 3] (pc' := 84) (lv' := [(4, .null), (3, .int (-1 : Int32)), (0, .ref (Q 0)), (1, .int pr9), (2, .int pa9)]) (st' := [.int (-1 : Int32)]) (by decide +kernel) rfl rfl ?_
          exact v_iret g z rfl (by decide +kernel) (Or.inr (Or.inl ⟨okc, kd, pl9, hg2, at2, sp2, G2, T2, e2, rfl, (W2.u1 0).keep (fun x y p => ⟨p.1, om1 x p.2⟩), fun x y hx hO => z_so (x2 x y hx hO) (fun e => hO (by rw [e]; exact t1.2)), by show h2.2.1 + _ = _; omega, by show h2.2.2 + _ = _; omega⟩)) ⟨by show h2.2.1 ≤ _; dsimp only; omega, by show h2.2.2 ≤ _; dsimp only; omega⟩
        · show zV F X h2 48 [(3, .int (-1 : Int32)), (0, .ref (Q 0)), (1, .int pr9), (2, .int pa9)] [.ref s]
          have W2 := W1.tape r2 f2
          have x2 : frx Ω h h2 := fun x y hx hO => f2.1 x y (by rw [f1.1 x hO]; exact hx) (fun o => hO (W1.own o))
          have om1 : ∀ x, (Ω x ∨ h1.1 x = none) → (Ω x ∨ h.1 x = none) := fun x o => o.elim Or.inl (fun e => by by_cases hO : Ω x; exact Or.inl hO; exact Or.inr (by rw [← f1.1 x hO]; exact e))
          have ps : pt h2 (fun x => Ω x ∨ h1.1 x = none) s (oB 3 [.ref sw]) := ⟨hs, os.elim Or.inr (fun o => Or.inl (W1.own o))⟩
          have pw : pt h2 (fun x => Ω x ∨ h1.1 x = none) sw (aJ 256 f9) := ⟨hw, ow9.elim Or.inr (fun o => Or.inl (W1.own o))⟩
          obtain ⟨x0t, t1t, t2t, r3t, r4t, sp9t, ggt, lst, lsdt, s5t, s6t, s7t, s8t, s9t, v30t, bnt, bet, knt, ket, hQt⟩ := id W2
          obtain ⟨b0t, b1t, b2t, b3t, b4t, b5t, bDt, bEt, bCt⟩ := id bnt
          obtain ⟨kn1t, kn2t, kn3t, kn4t, kn5t, kn6t⟩ := id knt
          refine v_blk g [.astore 4, .aload 4] (pc' := 52) (lv' := [(4, .ref s), (3, .int (-1 : Int32)), (0, .ref (Q 0)), (1, .int pr9), (2, .int pa9)]) (st' := [.ref s]) (by decide +kernel) rfl rfl ?_
          refine v_ifnull g (r := (some s)) (off := 22) (tgt := 74) (by decide +kernel) (by decide) (fun q => nomatch q) (fun _ _ => ?_)
          refine v_blk g [.aload_n 0] (pc' := 56) (lv' := [(4, .ref s), (3, .int (-1 : Int32)), (0, .ref (Q 0)), (1, .int pr9), (2, .int pa9)]) (st' := [.ref (Q 0)]) (by decide +kernel) rfl rfl ?_
          refine v_get g x0t.1 fl_X7_35 rfl (by decide +kernel) ?_
          refine v_new g nl_X7_93 ⟨by dsimp only; omega, by dsimp only; omega⟩ (by decide +kernel) (fun cp hcp => ?_)
          refine v_h (fun h3 eh3 => ?_)
          have h3_cp : h3.1 cp = some (oB 1 [.null, .int 0, .int 0, .int 0, .int 0]) := by rw [eh3]; exact z_n_self _ _ _ _
          have k3 : ∀ {x : Nat} {y : zE}, h2.1 x = some y → h3.1 x = some y := fun {x y} hx => by rw [eh3]; exact z_no hx hcp
          have c3a : h3.2.1 = h2.2.1 + 1 ∧ h3.2.2 = h2.2.2 + 5 := by rw [eh3]; exact ⟨rfl, rfl⟩
          obtain ⟨c3x, c3y⟩ := c3a
          have ocp : Ω cp ∨ h1.1 cp = none := (fr_none f2 W1.rw hcp).elim Or.inr (fun o => Or.inl (W1.own o))
          refine v_blk g [.dup, .aload 4, .iload_n 1, .iload_n 2] (pc' := 67) (lv' := [(4, .ref s), (3, .int (-1 : Int32)), (0, .ref (Q 0)), (1, .int pr9), (2, .int pa9)]) (st' := [.int pa9, .int pr9, .ref s, .ref cp, .ref cp, .ref (Q 10)]) (by decide +kernel) rfl rfl ?_
          refine v_callIp g (rest := [.ref cp, .ref (Q 10)]) (c_Cou_init pr9 pa9 h3_cp (k3 hs) (k3 hw)) cl_X7_95 rfl (Nat.le_of_ble_eq_true rfl) (by decide +kernel) ⟨Nat.le_of_ble_eq_true rfl, Nat.le_of_ble_eq_true rfl⟩ ⟨by dsimp only; omega, by dsimp only; omega⟩ ?_
          show zV F X (z_s h3 cp (oB 1 [.ref s, .int (nI (fb_sm (fun k => pc64 (f9 k)) 256)), .int pr9, .int pa9, .int 0])) 70 [(4, .ref s), (3, .int (-1 : Int32)), (0, .ref (Q 0)), (1, .int pr9), (2, .int pa9)] [.ref cp, .ref (Q 10)]
          refine v_h (fun h4 eh4 => ?_)
          have h4_cp : h4.1 cp = some (oB 1 [.ref s, .int (nI (fb_sm (fun k => pc64 (f9 k)) 256)), .int pr9, .int pa9, .int 0]) := by rw [eh4]; exact z_s_self _ _ _
          have k4 : ∀ {x : Nat} {y : zE}, h2.1 x = some y → h4.1 x = some y := fun {x y} hx => by rw [eh4]; exact z_so (k3 hx) (z_nn hx hcp)
          have c4a : h4.2.1 = h2.2.1 + 1 ∧ h4.2.2 = h2.2.2 + 5 := by rw [eh4]; exact ⟨c3x, c3y⟩
          obtain ⟨c4x, c4y⟩ := c4a
          refine v_callVp g (rest := []) (c_Bk_addCoupon (k4 b0t.1) (k4 b2t.1) h4_cp c20) cl_X7_98 (k4 b0t.1) rfl rfl (Nat.le_of_ble_eq_true rfl) (by decide +kernel) ⟨Nat.le_of_ble_eq_true rfl, Nat.le_of_ble_eq_true rfl⟩ ⟨by dsimp only; omega, by dsimp only; omega⟩ ?_
          show zV F X (z_s (z_s h4 (Q (10 + 2)) (aQ 4 20 (va_up C ch (some cp)))) (Q 10) (oB 0 [.int wk, .long hm, .long pm, .ref (Q (10 + 1)), .ref (Q (10 + 2)), .int (nI (ch + 1)), .ref (Q (10 + 3)), .int (nI dh), .ref (Q (10 + 4)), .ref (Q (10 + 5)), .int (nI ph)])) 73 [(4, .ref s), (3, .int (-1 : Int32)), (0, .ref (Q 0)), (1, .int pr9), (2, .int pa9)] [.int (nI ch)]
          refine v_h (fun h5 eh5 => ?_)
          have W5 := W2.addc (c0 := oB 1 [.null, .int 0, .int 0, .int 0, .int 0]) (sz9 := nI (fb_sm (fun k => pc64 (f9 k)) 256)) (pr9 := pr9) (pa9 := pa9) hcp ocp ps pw ns nw
          rw [← eh3, ← eh4, ← eh5] at W5
          have c5a : h5.2.1 = h2.2.1 + 1 ∧ h5.2.2 = h2.2.2 + 5 := by rw [eh5]; exact ⟨c4x, c4y⟩
          obtain ⟨c5x, c5y⟩ := c5a
          have x5 : frx Ω h h5 := fun x y hx hO => by rw [eh5]; exact z_so (z_so (k4 (x2 x y hx hO)) (fun e => hO (by rw [e]; exact b2.2))) (fun e => hO (by rw [e]; exact b0.2))
          have kd9 : ¬ cu = 0 → ∀ r, r < ch2 → cp ≠ ca2 r := fun u r hr e => by have p := (ket u).2.1 r hr; rw [← e] at p; have q9 := p.1; rw [hcp] at q9; cases q9
          obtain ⟨x0r, t1r, t2r, r3r, r4r, sp9r, ggr, lsr, lsdr, s5r, s6r, s7r, s8r, s9r, v30r, bnr, ber, knr, ker, hQr⟩ := id W5
          obtain ⟨b0r, b1r, b2r, b3r, b4r, b5r, bDr, bEr, bCr⟩ := id bnr
          obtain ⟨kn1r, kn2r, kn3r, kn4r, kn5r, kn6r⟩ := id knr
          refine v_blk g [.istore_n 3] (pc' := 74) (lv' := [(3, .int (nI ch)), (4, .ref s), (0, .ref (Q 0)), (1, .int pr9), (2, .int pa9)]) (st' := []) (by decide +kernel) rfl rfl ?_
          refine v_blk g [.aload_n 0] (pc' := 75) (lv' := [(3, .int (nI ch)), (4, .ref s), (0, .ref (Q 0)), (1, .int pr9), (2, .int pa9)]) (st' := [.ref (Q 0)]) (by decide +kernel) rfl rfl ?_
          refine v_get g x0r.1 fl_X7_10 rfl (by decide +kernel) ?_
          refine v_blk g [.iconst 0] (pc' := 79) (lv' := [(3, .int (nI ch)), (4, .ref s), (0, .ref (Q 0)), (1, .int pr9), (2, .int pa9)]) (st' := [.int (0 : Int32), .ref (Q 1)]) (by decide +kernel) rfl rfl ?_
          refine v_callVp g (rest := []) (c_Tape_cut t1r.1 t2r.1 0) cl_X7_79 t1r.1 rfl rfl (Nat.le_of_ble_eq_true rfl) (by decide +kernel) ⟨Nat.le_of_ble_eq_true rfl, Nat.le_of_ble_eq_true rfl⟩ ⟨by dsimp only; omega, by dsimp only; omega⟩ ?_
          show zV F X (if x_cut n 0 = 0 then h5 else z_s h5 (Q 1) (oB 6 [.ref (Q 2), .int 0])) 82 [(3, .int (nI ch)), (4, .ref s), (0, .ref (Q 0)), (1, .int pr9), (2, .int pa9)] [.int (x_cut n 0)]
          have ecut : x_cut n 0 = 1 := by rw [x_cut, if_neg (by decide), if_pos (nI_pos' (by omega))]
          refine v_eqh (h' := z_s h5 (Q 1) (oB 6 [.ref (Q 2), .int (nI 0)])) (by rw [ecut, if_neg (by decide)]; rfl) ?_
          refine v_blk g [.pop, .iload_n 3] (pc' := 84) (lv' := [(3, .int (nI ch)), (4, .ref s), (0, .ref (Q 0)), (1, .int pr9), (2, .int pa9)]) (st' := [.int (nI ch)]) (by decide +kernel) rfl rfl ?_
          exact v_iret g z rfl (by decide +kernel) (Or.inr (Or.inr ⟨okc, q, S, hg2, at2, sp2, G2, T2, cp, s, sw, f9, e2, rfl, (W5.u1 0).keep (fun x y p => ⟨p.1, om1 x p.2⟩), lS, kd9, fun x y hx hO => z_so (x5 x y hx hO) (fun e => hO (by rw [e]; exact t1.2)), by show h5.2.1 + _ = _; omega, by show h5.2.2 + _ = _; omega⟩)) ⟨by show h5.2.1 ≤ _; dsimp only; omega, by show h5.2.2 ≤ _; dsimp only; omega⟩
