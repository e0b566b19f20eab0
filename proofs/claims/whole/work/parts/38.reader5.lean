/-! the plan's meaning: a reader without a machine -/
abbrev pR : Type := (Nat × Nat) ⊕ (Nat × (Nat → Prop))
def pcN (m : Nat) : Nat := fb_ct (fun t => m.testBit t) 32
theorem pcN_le (m : Nat) : pcN m ≤ 32 := fb_ct_le _ 32
abbrev keyed (x : Nat → Int32) (p : Nat) : Prop := ¬ dg x p = 0 ∧ x (p + dg x p) = 58
def choE (x : Nat → Int32) (p : Nat) (ky : Bool) : (Nat × Nat) ⊕ (Nat × Nat) → pR
  | .inl e => .inl e
  | .inr (M, q) => if ky = true ∧ pcN M < numv x p then .inl (2, p) else .inr (q, fun m => m &&& M = m ∧ pcN m = if ky = true then numv x p else pcN M)
def cho (x : Nat → Int32) (p : Nat) : pR := if keyed x p then choE x p true (rmt x 15 0 (p + dg x p + 1)) else choE x p false (rmt x 15 0 p)
theorem rmt_lt {x : Nat → Int32} : ∀ {k M p M2 q : Nat}, rmt x k M p = .inr (M2, q) → M < 16384 → M2 < 16384
  | 0, M, p, M2, q, h, hM => by rw [rmt] at h; cases h; exact hM
  | k + 1, M, p, M2, q, h, hM => by
    rw [rmt] at h
    by_cases h1 : dg x p = 0
    · rw [if_pos h1] at h; cases h
    · rw [if_neg h1] at h
      by_cases h2 : 14 ≤ numv x p ∨ M.testBit (numv x p) = true
      · rw [if_pos h2] at h; cases h
      · rw [if_neg h2] at h
        have h3 : M ||| 2 ^ numv x p < 16384 := or_lt14 hM (by omega)
        by_cases h4 : x (p + dg x p) = 46
        · rw [if_pos h4] at h; exact rmt_lt h h3
        · rw [if_neg h4] at h; cases h; exact h3
theorem rmt_end {B : Nat → Int32} {n : Nat} : ∀ {k M p M2 q : Nat}, rmt (txt B n) k M p = .inr (M2, q) → (p < q ∧ q ≤ n) ∨ (k = 0 ∧ q = p)
  | 0, M, p, M2, q, h => by rw [rmt] at h; cases h; exact Or.inr ⟨rfl, rfl⟩
  | k + 1, M, p, M2, q, h => by
    rw [rmt] at h
    by_cases h1 : dg (txt B n) p = 0
    · rw [if_pos h1] at h; cases h
    · rw [if_neg h1] at h
      have h0 := dg_end h1
      by_cases h2 : 14 ≤ numv (txt B n) p ∨ M.testBit (numv (txt B n) p) = true
      · rw [if_pos h2] at h; cases h
      · rw [if_neg h2] at h
        by_cases h4 : txt B n (p + dg (txt B n) p) = 46
        · rw [if_pos h4] at h
          have h5 := txt_in h4 (by decide)
          rcases rmt_end h with h6 | h6
          · exact Or.inl (by omega)
          · exact Or.inl (by omega)
        · rw [if_neg h4] at h; cases h; exact Or.inl (by omega)
theorem cho_end {B : Nat → Int32} {n p q : Nat} {S : Nat → Prop} (h : cho (txt B n) p = .inr (q, S)) : p < q ∧ q ≤ n := by
  unfold cho at h
  by_cases hk : keyed (txt B n) p
  · rw [if_pos hk] at h
    cases hr : rmt (txt B n) 15 0 (p + dg (txt B n) p + 1) with
    | inl e => rw [hr] at h; cases h
    | inr v =>
      obtain ⟨M, q2⟩ := v
      rw [hr, choE] at h
      split at h
      · cases h
      · cases h
        rcases rmt_end hr with h6 | h6
        · omega
        · omega
  · rw [if_neg hk] at h
    cases hr : rmt (txt B n) 15 0 p with
    | inl e => rw [hr] at h; cases h
    | inr v =>
      obtain ⟨M, q2⟩ := v
      rw [hr, choE] at h
      split at h
      · cases h
      · cases h
        rcases rmt_end hr with h6 | h6
        · omega
        · omega
/-- how a reader's method ends -/
def RP (h : zH) (a t tb ss n : Nat) (B : Nat → Int32) (k : Nat) (fk fp : Int32) (T : Nat → zS) (res : pR) (v : Option Value) (h2 : zH) : Prop :=
  (∃ kd pl hg2 at2 sp2 G2 T2, res = .inl (kd, pl) ∧ v = some (.int 0) ∧ RW h2 a t tb ss n B hg2 at2 (nI kd) (nI pl) sp2 G2 T2 ∧ fr (ow a ss T) (ow a ss T2) h h2 ∧ bud h T h2 T2) ∨
  (∃ q S sp2 G2 T2, res = .inr (q, S) ∧ v = some (.int 1) ∧ RW h2 a t tb ss n B (nI (k + 1)) (nI q) fk fp sp2 G2 T2 ∧ fr (ow a ss T) (ow a ss T2) h h2 ∧ bud h T h2 T2 ∧ (∀ j, j < k → T2 j = T j) ∧ ∃ s w f, T2 k = some (s, w, f) ∧ ∀ m, m < 16384 → (lb f m = true ↔ S m))

theorem fa_trans2 {x : Int32} (h : 0 ≤ x) : (-1 : Int32) ≤ x := by
  rw [fa_le] at *
  have : (-1 : Int32).toInt = -1 := by decide
  have h0 : (0 : Int32).toInt = 0 := by decide
  omega

set_option maxRecDepth 100000 in
set_option maxHeartbeats 4000000 in
theorem c_PR_choices {F : zF} {h : zH} {a t tb ss n : Nat} {B : Nat → Int32} {fk fp : Int32} {sp : Option Nat} {G : Nat → Option Nat} {T : Nat → zS} {k p : Nat} (r : RW h a t tb ss n B (nI k) (nI p) fk fp sp G T) (hk : k < 15) (hn : n ≤ 200) (hp : p ≤ 200) : zMet F yX4_readChoices cX4_readChoices 6 (some .boolean) { frames := 5, cells := 2 * nn T 16, slots := 257 * nn T 16, locals := 150 } [.ref a] h (RP h a t tb ss n B k fk fp T (cho (txt B n) p)) := by
  refine zMet_of (lv := [(0, .ref a)]) (by decide) (by simp [lg_sl, Value.category]) rfl ?_
  intro X g z
  obtain ⟨ha, ht, hb, hss, hsp, hG, hl⟩ := id r
  refine v_blk g [.aload_n 0] (pc' := 1) (lv' := [(0, .ref a)]) (st' := [.ref a]) (by decide +kernel) rfl rfl ?_
  refine v_get g ha fl_X4_29 rfl (by decide +kernel) ?_
  refine v_blk g [.istore_n 1, .iconst (-1), .istore_n 2, .aload_n 0] (pc' := 8) (lv' := [(2, .int (-1 : Int32)), (1, .int (nI p)), (0, .ref a)]) (st' := [.ref a]) (by decide +kernel) rfl rfl ?_
  have tail : ∀ hx p1 c2, hx = z_s h a (oB 4 [.int fk, .int fp, .ref t, .ref ss, va_rf sp, .int (nI k), .int (nI p1)]) → p1 ≤ 200 → ((c2 = (-1 : Int32) ∧ ¬ keyed (txt B n) p ∧ p1 = p) ∨ (c2 = nI (numv (txt B n) p) ∧ keyed (txt B n) p ∧ p1 = p + dg (txt B n) p + 1)) → zV F X hx 49 [(2, .int c2), (1, .int (nI p)), (0, .ref a)] [] := by
    intro hx p1 c2 ex hp1 hc
    have hx_a : hx.1 a = some (oB 4 [.int fk, .int fp, .ref t, .ref ss, va_rf sp, .int (nI k), .int (nI p1)]) := by rw [ex]; exact z_s_self _ _ _
    have hx_t : hx.1 t = some (oB 6 [.ref tb, .int (nI n)]) := by rw [ex]; exact z_so ht (z_ne ht ha rfl)
    have hx_tb : hx.1 tb = some (aI 200 B) := by rw [ex]; exact z_so hb (z_ne hb ha rfl)
    have hx_ss : hx.1 ss = some (aQ 3 15 G) := by rw [ex]; exact z_so hss (z_ne hss ha rfl)
    have hx_c : hx.2.1 = h.2.1 + 0 ∧ hx.2.2 = h.2.2 + 0 := zcs ex ⟨rfl, rfl⟩
    have dv : ∃ ky : Bool, cho (txt B n) p = choE (txt B n) p ky (rmt (txt B n) 15 0 p1) ∧ ((c2 = (-1 : Int32) ∧ ky = false) ∨ (c2 = nI (numv (txt B n) p) ∧ ky = true ∧ numv (txt B n) p < 100)) := by
      rcases hc with ⟨c1, c3, c4⟩ | ⟨c1, c3, c4⟩
      · exact ⟨false, by rw [cho, if_neg c3, c4], Or.inl ⟨c1, rfl⟩⟩
      · exact ⟨true, by rw [cho, if_pos c3, c4], Or.inr ⟨c1, rfl, numv_lt c3.1⟩⟩
    obtain ⟨ky, echo, hc2⟩ := dv
    refine v_blk g [.aload_n 0] (pc' := 50) (lv' := [(2, .int c2), (1, .int (nI p)), (0, .ref a)]) (st' := [.ref a]) (by decide +kernel) rfl rfl ?_
    refine v_callV g (rest := []) (c_PR_matches hx_a hx_t hx_tb hn hp1) cl_X4_87 hx_a rfl rfl (Nat.le_of_ble_eq_true rfl) (by decide +kernel) ⟨Nat.le_of_ble_eq_true rfl, Nat.le_of_ble_eq_true rfl⟩ (zcsn 0 0 hx_c.1 hx_c.2 (by dsimp only; omega) (by dsimp only; omega)) (fun v9 h9 q9 => ?_)
    rcases q9 with ⟨kd, pl, p2, e1, rfl, e9⟩ | ⟨M, q, e1, rfl, e9⟩
    · show zV F X h9 53 [(2, .int c2), (1, .int (nI p)), (0, .ref a)] [.int (-1 : Int32)]
      have e8 : h9 = z_s h a (oB 4 [.int (nI kd), .int (nI pl), .ref t, .ref ss, va_rf sp, .int (nI k), .int (p2)]) := by rw [e9, ex, z_ss]
      have h9_c : h9.2.1 = h.2.1 + 0 ∧ h9.2.2 = h.2.2 + 0 := zcs e8 ⟨rfl, rfl⟩
      refine v_blk g [.istore 4, .iload 4, .iconst (-1)] (pc' := 58) (lv' := [(4, .int (-1 : Int32)), (2, .int c2), (1, .int (nI p)), (0, .ref a)]) (st' := [.int (-1 : Int32), .int (-1 : Int32)]) (by decide +kernel) rfl rfl ?_
      refine v_icmp_ne g (off := 5) (tgt := 63) (by decide +kernel) (by decide) (fun c => absurd c (fun q => q rfl)) (fun _ => ?_)
      refine v_blk g [.iconst 0] (pc' := 62) (lv' := [(4, .int (-1 : Int32)), (2, .int c2), (1, .int (nI p)), (0, .ref a)]) (st' := [.int (0 : Int32)]) (by decide +kernel) rfl rfl ?_
      exact v_zret g z rfl (by decide) (by decide +kernel) (Or.inl ⟨kd, pl, nI k, p2, sp, G, T, by rw [echo, e1]; rfl, rfl, by rw [e8]; exact r.num _ _ _ _, by rw [e8]; exact fr_num, by rw [e8]; exact bud_s⟩) (zcrn 0 0 h9_c.1 h9_c.2 (by dsimp only; omega) (by dsimp only; omega))
    · show zV F X h9 53 [(2, .int c2), (1, .int (nI p)), (0, .ref a)] [.int (nI M)]
      have e8 : h9 = z_s h a (oB 4 [.int fk, .int fp, .ref t, .ref ss, va_rf sp, .int (nI k), .int (nI q)]) := by rw [e9, ex, z_ss]
      have hM : M < 16384 := rmt_lt e1 (by decide)
      have h9_a : h9.1 a = some (oB 4 [.int fk, .int fp, .ref t, .ref ss, va_rf sp, .int (nI k), .int (nI q)]) := by rw [e8]; exact z_s_self _ _ _
      have h9_t : h9.1 t = some (oB 6 [.ref tb, .int (nI n)]) := by rw [e8]; exact z_so ht (z_ne ht ha rfl)
      have h9_tb : h9.1 tb = some (aI 200 B) := by rw [e8]; exact z_so hb (z_ne hb ha rfl)
      have h9_ss : h9.1 ss = some (aQ 3 15 G) := by rw [e8]; exact z_so hss (z_ne hss ha rfl)
      have h9_c : h9.2.1 = h.2.1 + 0 ∧ h9.2.2 = h.2.2 + 0 := zcs e8 ⟨rfl, rfl⟩
      have r9 : RW h9 a t tb ss n B (nI k) (nI q) fk fp sp G T := by rw [e8]; exact r.num _ _ _ _
      have b9 := pcN_le M
      refine v_blk g [.istore 4, .iload 4, .iconst (-1)] (pc' := 58) (lv' := [(4, .int (nI M)), (2, .int c2), (1, .int (nI p)), (0, .ref a)]) (st' := [.int (-1 : Int32), .int (nI M)]) (by decide +kernel) rfl rfl ?_
      refine v_icmp_ne g (off := 5) (tgt := 63) (by decide +kernel) (by decide) (fun _ => ?_) (fun c => absurd c (nI_ne1 (by omega)))
      refine v_blk g [.iload 4] (pc' := 65) (lv' := [(4, .int (nI M)), (2, .int c2), (1, .int (nI p)), (0, .ref a)]) (st' := [.int (nI M)]) (by decide +kernel) rfl rfl ?_
      refine v_callSp g (rest := []) (c_bitCountI _) cl_X4_90 rfl (Nat.le_of_ble_eq_true rfl) (by decide +kernel) ⟨Nat.le_of_ble_eq_true rfl, Nat.le_of_ble_eq_true rfl⟩ (zcsn 0 0 h9_c.1 h9_c.2 (by dsimp only; omega) (by dsimp only; omega)) ?_
      show zV F X h9 68 [(4, .int (nI M)), (2, .int c2), (1, .int (nI p)), (0, .ref a)] [.int (nI (pc32 (nI M)))]
      refine v_ti (z := nI (pcN M)) (by rw [pc32, u32_nI (by omega)]; rfl) ?_
      refine v_blk g [.istore 5, .iload_n 2, .iload 5] (pc' := 73) (lv' := [(5, .int (nI (pcN M))), (4, .int (nI M)), (2, .int c2), (1, .int (nI p)), (0, .ref a)]) (st' := [.int (nI (pcN M)), .int c2]) (by decide +kernel) rfl rfl ?_
      refine v_icmp_le g (off := 10) (tgt := 83) (by decide +kernel) (by decide) (fun c3 => ?_) (fun c3 => ?_)
      · refine v_blk g [.aload_n 0, .iload 4, .iload_n 2, .iconst (-1)] (pc' := 88) (lv' := [(5, .int (nI (pcN M))), (4, .int (nI M)), (2, .int c2), (1, .int (nI p)), (0, .ref a)]) (st' := [.int (-1 : Int32), .int c2, .int (nI M), .ref a]) (by decide +kernel) rfl rfl ?_
        refine v_icmp_ne g (off := 8) (tgt := 96) (by decide +kernel) (by decide) (fun c4 => ?_) (fun c4 => ?_)
        · refine v_blk g [.iload_n 2] (pc' := 97) (lv' := [(5, .int (nI (pcN M))), (4, .int (nI M)), (2, .int c2), (1, .int (nI p)), (0, .ref a)]) (st' := [.int c2, .int (nI M), .ref a]) (by decide +kernel) rfl rfl ?_
          have hky : ky = true ∧ c2 = nI (numv (txt B n) p) ∧ numv (txt B n) p < 100 := by
            rcases hc2 with ⟨q1, q2⟩ | ⟨q1, q2, q3⟩
            · exact absurd q1 c4
            · exact ⟨q2, q1, q3⟩
          obtain ⟨q2, q1, q3⟩ := hky
          have q4 : ¬ pcN M < numv (txt B n) p := fun q5 => by
            rw [q1, nI_lei (by omega) (by omega)] at c3; omega
          refine v_callV g (rest := []) (c_PR_push r9 hk hM) cl_X4_95 h9_a rfl rfl (Nat.le_of_ble_eq_true rfl) (by decide +kernel) ⟨Nat.le_of_ble_eq_true rfl, Nat.le_of_ble_eq_true rfl⟩ (zcsn 0 0 h9_c.1 h9_c.2 (by dsimp only; omega) (by dsimp only; omega)) (fun v8 h8 q8 => ?_)
          obtain ⟨rfl, G2, T2, r8, f8, b8, o8, s, w, f, x8, y8⟩ := q8
          show zV F X h8 100 [(5, .int (nI (pcN M))), (4, .int (nI M)), (2, .int c2), (1, .int (nI p)), (0, .ref a)] []
          have b7 : bud h T h8 T2 := bud_trans (T2 := T) (h2 := h9) ⟨by omega, by omega⟩ b8
          have b6 := b7.1
          have b5 := b7.2
          refine v_blk g [.iconst 1] (pc' := 101) (lv' := [(5, .int (nI (pcN M))), (4, .int (nI M)), (2, .int c2), (1, .int (nI p)), (0, .ref a)]) (st' := [.int (1 : Int32)]) (by decide +kernel) rfl rfl ?_
          exact v_zret g z rfl (by decide) (by decide +kernel) (Or.inr ⟨q, _, sp, G2, T2, by rw [echo, e1, q2, choE, if_neg (fun q5 => q4 q5.2)], rfl, r8, fr_trans (by rw [e8]; exact fr_num) f8, b7, o8, s, w, f, x8, fun m hm => by rw [y8 m hm, q1]; show _ ∧ nI (pcN m) = _ ↔ _ ∧ pcN m = _; rw [nI_eq (by have := pcN_le m; omega) (by omega), if_pos rfl]⟩) ⟨by dsimp only; omega, by dsimp only; omega⟩
        · have hky : ky = false := by
            rcases hc2 with ⟨q1, q2⟩ | ⟨q1, q2, q3⟩
            · exact q2
            · exact absurd (q1.symm.trans c4) (nI_ne1 (by omega))
          refine v_blk g [.iload 5] (pc' := 93) (lv' := [(5, .int (nI (pcN M))), (4, .int (nI M)), (2, .int c2), (1, .int (nI p)), (0, .ref a)]) (st' := [.int (nI (pcN M)), .int (nI M), .ref a]) (by decide +kernel) rfl rfl ?_
          refine v_goto g (off := 4) (tgt := 97) (by decide +kernel) (by decide) ?_
          refine v_callV g (rest := []) (c_PR_push r9 hk hM) cl_X4_95 h9_a rfl rfl (Nat.le_of_ble_eq_true rfl) (by decide +kernel) ⟨Nat.le_of_ble_eq_true rfl, Nat.le_of_ble_eq_true rfl⟩ (zcsn 0 0 h9_c.1 h9_c.2 (by dsimp only; omega) (by dsimp only; omega)) (fun v8 h8 q8 => ?_)
          obtain ⟨rfl, G2, T2, r8, f8, b8, o8, s, w, f, x8, y8⟩ := q8
          show zV F X h8 100 [(5, .int (nI (pcN M))), (4, .int (nI M)), (2, .int c2), (1, .int (nI p)), (0, .ref a)] []
          have b7 : bud h T h8 T2 := bud_trans (T2 := T) (h2 := h9) ⟨by omega, by omega⟩ b8
          have b6 := b7.1
          have b5 := b7.2
          refine v_blk g [.iconst 1] (pc' := 101) (lv' := [(5, .int (nI (pcN M))), (4, .int (nI M)), (2, .int c2), (1, .int (nI p)), (0, .ref a)]) (st' := [.int (1 : Int32)]) (by decide +kernel) rfl rfl ?_
          exact v_zret g z rfl (by decide) (by decide +kernel) (Or.inr ⟨q, _, sp, G2, T2, by rw [echo, e1, hky, choE, if_neg (fun q5 => nomatch q5.1)], rfl, r8, fr_trans (by rw [e8]; exact fr_num) f8, b7, o8, s, w, f, x8, fun m hm => by rw [y8 m hm]; show _ ∧ nI (pcN m) = _ ↔ _ ∧ pcN m = _; rw [nI_eq (by have := pcN_le m; omega) (by omega), if_neg (fun q5 => nomatch q5)]⟩) ⟨by dsimp only; omega, by dsimp only; omega⟩
      · have hky : ky = true ∧ pcN M < numv (txt B n) p := by
          rcases hc2 with ⟨q1, q2⟩ | ⟨q1, q2, q3⟩
          · exact absurd (by rw [q1]; exact fa_trans2 (nI_pos' (by omega))) c3
          · refine ⟨q2, ?_⟩
            rw [q1, nI_lei (by omega) (by omega)] at c3
            omega
        refine v_blk g [.aload_n 0, .iconst 2, .iload_n 1] (pc' := 79) (lv' := [(5, .int (nI (pcN M))), (4, .int (nI M)), (2, .int c2), (1, .int (nI p)), (0, .ref a)]) (st' := [.int (nI p), .int (2 : Int32), .ref a]) (by decide +kernel) rfl rfl ?_
        refine v_callVp g (rest := []) (c_PR_stopAt h9_a _ _) cl_X4_47 h9_a rfl rfl (Nat.le_of_ble_eq_true rfl) (by decide +kernel) ⟨Nat.le_of_ble_eq_true rfl, Nat.le_of_ble_eq_true rfl⟩ (zcsn 0 0 h9_c.1 h9_c.2 (by dsimp only; omega) (by dsimp only; omega)) ?_
        show zV F X (z_s h9 a (oB 4 [.int 2, .int (nI p), .ref t, .ref ss, va_rf sp, .int (nI k), .int (nI q)])) 82 [(5, .int (nI (pcN M))), (4, .int (nI M)), (2, .int c2), (1, .int (nI p)), (0, .ref a)] [.int 0]
        exact v_zret g z rfl (by decide) (by decide +kernel) (Or.inl ⟨2, p, nI k, nI q, sp, G, T, by rw [echo, e1, choE, if_pos hky], rfl, r9.num _ _ _ _, fr_trans (O2 := ow a ss T) (by rw [e8]; exact fr_num) fr_num, ⟨by show h9.2.1 + _ = _; omega, by show h9.2.2 + _ = _; omega⟩⟩) (zcrn 0 0 h9_c.1 h9_c.2 (by dsimp only; omega) (by dsimp only; omega))
  refine v_callVp g (rest := []) (c_PR_digits ha ht hb hn hp) cl_X4_80 ha rfl rfl (Nat.le_of_ble_eq_true rfl) (by decide +kernel) ⟨Nat.le_of_ble_eq_true rfl, Nat.le_of_ble_eq_true rfl⟩ (zcsn 0 0 rfl rfl (by dsimp only; omega) (by dsimp only; omega)) ?_
  show zV F X h 11 [(2, .int (-1 : Int32)), (1, .int (nI p)), (0, .ref a)] [.int (nI (dg (txt B n) p))]
  have d9 := dg_le (txt B n) p
  refine v_blk g [.istore_n 3, .iload_n 3] (pc' := 13) (lv' := [(3, .int (nI (dg (txt B n) p))), (2, .int (-1 : Int32)), (1, .int (nI p)), (0, .ref a)]) (st' := [.int (nI (dg (txt B n) p))]) (by decide +kernel) rfl rfl ?_
  refine v_if_le g (off := 36) (tgt := 49) (by decide +kernel) (by decide) (fun c => ?_) (fun c => ?_)
  · have c0 : dg (txt B n) p = 0 := by rw [show (0 : Int32) = nI 0 from rfl, nI_lei (by omega) (by decide)] at c; omega
    refine v_lv [1, 2, 3] (lv' := [(2, .int (-1 : Int32)), (1, .int (nI p)), (0, .ref a)]) rfl ?_
    exact tail h p (-1) (z_sid ha).symm hp (Or.inl ⟨rfl, fun q => q.1 c0, rfl⟩)
  · have c0 : ¬ dg (txt B n) p = 0 := fun q => c (by rw [q]; decide)
    have e0 := dg_end c0
    refine v_blk g [.aload_n 0] (pc' := 17) (lv' := [(3, .int (nI (dg (txt B n) p))), (2, .int (-1 : Int32)), (1, .int (nI p)), (0, .ref a)]) (st' := [.ref a]) (by decide +kernel) rfl rfl ?_
    refine v_get g ha fl_X4_9 rfl (by decide +kernel) ?_
    refine v_blk g [.aload_n 0] (pc' := 21) (lv' := [(3, .int (nI (dg (txt B n) p))), (2, .int (-1 : Int32)), (1, .int (nI p)), (0, .ref a)]) (st' := [.ref a, .ref t]) (by decide +kernel) rfl rfl ?_
    refine v_get g ha fl_X4_29 rfl (by decide +kernel) ?_
    refine v_blk g [.iload_n 3, .iadd] (pc' := 26) (lv' := [(3, .int (nI (dg (txt B n) p))), (2, .int (-1 : Int32)), (1, .int (nI p)), (0, .ref a)]) (st' := [.int ((nI p) + (nI (dg (txt B n) p))), .ref t]) (by decide +kernel) rfl rfl ?_
    refine v_ti (z := nI (p + dg (txt B n) p)) (nI_add _ _) ?_
    refine v_callVp g (rest := []) (c_Tape_byteAt ht hb _ hn) cl_X4_59 ht rfl rfl (Nat.le_of_ble_eq_true rfl) (by decide +kernel) ⟨Nat.le_of_ble_eq_true rfl, Nat.le_of_ble_eq_true rfl⟩ (zcsn 0 0 rfl rfl (by dsimp only; omega) (by dsimp only; omega)) ?_
    show zV F X h 29 [(3, .int (nI (dg (txt B n) p))), (2, .int (-1 : Int32)), (1, .int (nI p)), (0, .ref a)] [.int (x_byteAt B n (nI (p + dg (txt B n) p)))]
    refine v_ti (z := txt B n (p + dg (txt B n) p)) (txt_at (by omega) (by omega)) ?_
    refine v_blk g [.bipush 58] (pc' := 31) (lv' := [(3, .int (nI (dg (txt B n) p))), (2, .int (-1 : Int32)), (1, .int (nI p)), (0, .ref a)]) (st' := [.int (58 : Int32), .int (txt B n (p + dg (txt B n) p))]) (by decide +kernel) rfl rfl ?_
    refine v_icmp_ne g (off := 18) (tgt := 49) (by decide +kernel) (by decide) (fun c1 => ?_) (fun c1 => ?_)
    · refine v_lv [1, 2, 3] (lv' := [(2, .int (-1 : Int32)), (1, .int (nI p)), (0, .ref a)]) rfl ?_
      exact tail h p (-1) (z_sid ha).symm hp (Or.inl ⟨rfl, fun q => c1 q.2, rfl⟩)
    · have e2 := txt_in c1 (by decide)
      refine v_blk g [.aload_n 0] (pc' := 35) (lv' := [(3, .int (nI (dg (txt B n) p))), (2, .int (-1 : Int32)), (1, .int (nI p)), (0, .ref a)]) (st' := [.ref a]) (by decide +kernel) rfl rfl ?_
      refine v_callV g (rest := []) (c_PR_number ha ht hb hn hp) cl_X4_84 ha rfl rfl (Nat.le_of_ble_eq_true rfl) (by decide +kernel) ⟨Nat.le_of_ble_eq_true rfl, Nat.le_of_ble_eq_true rfl⟩ (zcsn 0 0 rfl rfl (by dsimp only; omega) (by dsimp only; omega)) (fun v9 h9 q9 => ?_)
      rcases q9 with ⟨d0, -, -⟩ | ⟨d0, rfl, e9⟩
      · exact absurd d0 c0
      show zV F X h9 38 [(3, .int (nI (dg (txt B n) p))), (2, .int (-1 : Int32)), (1, .int (nI p)), (0, .ref a)] [.int (nI (numv (txt B n) p))]
      have h9_a : h9.1 a = some (oB 4 [.int fk, .int fp, .ref t, .ref ss, va_rf sp, .int (nI k), .int (nI (p + dg (txt B n) p))]) := by rw [e9]; exact z_s_self _ _ _
      have h9_t : h9.1 t = some (oB 6 [.ref tb, .int (nI n)]) := by rw [e9]; exact z_so ht (z_ne ht ha rfl)
      have h9_tb : h9.1 tb = some (aI 200 B) := by rw [e9]; exact z_so hb (z_ne hb ha rfl)
      have h9_ss : h9.1 ss = some (aQ 3 15 G) := by rw [e9]; exact z_so hss (z_ne hss ha rfl)
      have h9_c : h9.2.1 = h.2.1 + 0 ∧ h9.2.2 = h.2.2 + 0 := zcs e9 ⟨rfl, rfl⟩
      refine v_blk g [.istore_n 2, .aload_n 0, .dup] (pc' := 41) (lv' := [(2, .int (nI (numv (txt B n) p))), (3, .int (nI (dg (txt B n) p))), (1, .int (nI p)), (0, .ref a)]) (st' := [.ref a, .ref a]) (by decide +kernel) rfl rfl ?_
      refine v_get g h9_a fl_X4_29 rfl (by decide +kernel) ?_
      refine v_blk g [.iconst 1, .iadd] (pc' := 46) (lv' := [(2, .int (nI (numv (txt B n) p))), (3, .int (nI (dg (txt B n) p))), (1, .int (nI p)), (0, .ref a)]) (st' := [.int ((nI (p + dg (txt B n) p)) + (1 : Int32)), .ref a]) (by decide +kernel) rfl rfl ?_
      refine v_ti (z := nI (p + dg (txt B n) p + 1)) (nI_1 _) ?_
      refine v_put g (fs' := [.int fk, .int fp, .ref t, .ref ss, va_rf sp, .int (nI k), .int (nI (p + dg (txt B n) p + 1))]) h9_a fl_X4_29 rfl rfl (Nat.le_of_ble_eq_true rfl) rfl (by decide +kernel) ?_
      refine v_h (fun h8 eh8 => ?_)
      have h8_c : h8.2.1 = h.2.1 + 0 ∧ h8.2.2 = h.2.2 + 0 := zcs eh8 h9_c
      have h8_a : h8.1 a = some (oB 4 [.int fk, .int fp, .ref t, .ref ss, va_rf sp, .int (nI k), .int (nI (p + dg (txt B n) p + 1))]) := by rw [eh8]; exact z_s_self _ _ _
      have h8_ss : h8.1 ss = some (aQ 3 15 G) := by rw [eh8]; exact z_so h9_ss (Ne.symm (z_ne ha hss rfl))
      have h8_t : h8.1 t = some (oB 6 [.ref tb, .int (nI n)]) := by rw [eh8]; exact z_so h9_t (Ne.symm (z_ne ha ht rfl))
      have h8_tb : h8.1 tb = some (aI 200 B) := by rw [eh8]; exact z_so h9_tb (Ne.symm (z_ne ha hb rfl))
      refine v_lv [0, 2, 3] (lv' := [(2, .int (nI (numv (txt B n) p))), (1, .int (nI p)), (0, .ref a)]) rfl ?_
      exact tail h8 _ _ (by rw [eh8, e9, z_ss]) (by omega) (Or.inr ⟨rfl, ⟨c0, c1⟩, rfl⟩)
