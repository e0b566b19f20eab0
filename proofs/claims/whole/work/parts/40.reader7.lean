/-! the whole text -/
def par9 (x : Nat → Int32) (n : Nat) : pR := match pln (alt (prt x 6) x) x 0 with | .inl e => .inl e | .inr (q, S) => if q < n then .inl (1, q) else .inr (q, S)
theorem RW.mono {h h2 : zH} {a t tb ss n : Nat} {B : Nat → Int32} {hg at9 fk fp : Int32} {sp : Option Nat} {G : Nat → Option Nat} {T : Nat → zS} (r : RW h a t tb ss n B hg at9 fk fp sp G T) (k : ∀ x y, h.1 x = some y → h2.1 x = some y) : RW h2 a t tb ss n B hg at9 fk fp sp G T := by
  obtain ⟨ha, ht, hb, hss, hsp, hG, hl⟩ := r
  exact ⟨k _ _ ha, k _ _ ht, k _ _ hb, k _ _ hss, hsp, hG, fun j hj s w f hT => ⟨k _ _ (hl.1 j hj s w f hT).1, k _ _ (hl.1 j hj s w f hT).2⟩, hl.2⟩
theorem RW.some {h : zH} {a t tb ss n : Nat} {B : Nat → Int32} {hg at9 fk fp : Int32} {sp : Option Nat} {G : Nat → Option Nat} {T : Nat → zS} (r : RW h a t tb ss n B hg at9 fk fp sp G T) {x : Nat} (o : ow a ss T x) : ∃ y, h.1 x = some y := by
  obtain ⟨ha, ht, hb, hss, hsp, hG, hl⟩ := r
  rcases o with rfl | rfl | ⟨j, s, w, f, hj, hT, e⟩
  · exact ⟨_, ha⟩
  · exact ⟨_, hss⟩
  · rcases e with rfl | rfl
    · exact ⟨_, (hl.1 j hj _ _ _ hT).1⟩
    · exact ⟨_, (hl.1 j hj _ _ _ hT).2⟩
theorem lb_cpy (f g : Nat → Int64) {q : Nat} (hq : q < 16384) : lb (va_cpy f g 0 0 256) q = lb f q := by
  unfold lb va_cpy
  rw [if_pos (by omega), show 0 + (q / 64 - 0) = q / 64 by omega]

theorem fr_none {h h2 : zH} {a t tb ss n : Nat} {B : Nat → Int32} {hg at9 fk fp : Int32} {sp : Option Nat} {G : Nat → Option Nat} {T T2 : Nat → zS} (f : fr (ow a ss T) (ow a ss T2) h h2) (r : RW h a t tb ss n B hg at9 fk fp sp G T) {x : Nat} (hx : h2.1 x = none) : h.1 x = none ∨ ow a ss T x := by
  cases hy : h.1 x with
  | none => exact Or.inl rfl
  | some y =>
    refine Or.inr (Classical.byContradiction (fun hO => ?_))
    rw [f.1 x y hy hO] at hx
    cases hx

set_option maxRecDepth 100000 in
set_option maxHeartbeats 4000000 in
theorem c_PR_tape {F : zF} {h : zH} {a t tb ss n : Nat} {B : Nat → Int32} {HG AT fk fp : Int32} {sp : Option Nat} {G : Nat → Option Nat} {T : Nat → zS} (r : RW h a t tb ss n B HG AT fk fp sp G T) (hn : n ≤ 200) : zMet F yX4_readTape cX4_readTape 2 (some (.object "PoolsHall$LineSet")) { frames := 34, cells := 2 * nn T 16 + 2, slots := 257 * nn T 16 + 257, locals := 1020 } [.ref a] h (fun v h2 => (∃ kd pl hg2 at2 sp2 G2 T2, par9 (txt B n) n = .inl (kd, pl) ∧ v = some (va_rf none) ∧ RW h2 a t tb ss n B hg2 at2 (nI kd) (nI pl) sp2 G2 T2 ∧ fr (ow a ss T) (ow a ss T2) h h2 ∧ bud h T h2 T2) ∨ (∃ q S hg2 at2 sp2 G2 T2 s w f, par9 (txt B n) n = .inr (q, S) ∧ v = some (va_rf (some s)) ∧ RW h2 a t tb ss n B hg2 at2 fk fp sp2 G2 T2 ∧ fr (ow a ss T) (ow a ss T2) h h2 ∧ ((h.1 s = none ∨ ow a ss T s) ∧ (h.1 w = none ∨ ow a ss T w)) ∧ (¬ ow a ss T2 s ∧ ¬ ow a ss T2 w) ∧ h2.1 s = some (oB 3 [.ref w]) ∧ h2.1 w = some (aJ 256 f) ∧ (∀ m, m < 16384 → (lb f m = true ↔ S m)) ∧ h2.2.1 + 2 * nn T2 16 = h.2.1 + 2 * nn T 16 + 2 ∧ h2.2.2 + 257 * nn T2 16 = h.2.2 + 257 * nn T 16 + 257)) := by
  refine zMet_of (lv := [(0, .ref a)]) (by decide) (by simp [lg_sl, Value.category]) rfl ?_
  intro X g z
  obtain ⟨ha, ht, hb, hss, hsp, hG, hl⟩ := id r
  refine v_blk g [.aload_n 0, .iconst 0] (pc' := 2) (lv' := [(0, .ref a)]) (st' := [.int (0 : Int32), .ref a]) (by decide +kernel) rfl rfl ?_
  refine v_put g (fs' := [.int fk, .int fp, .ref t, .ref ss, va_rf sp, .int HG, .int (0 : Int32)]) ha fl_X4_29 rfl rfl (Nat.le_of_ble_eq_true rfl) rfl (by decide +kernel) ?_
  refine v_h (fun h1 eh1 => ?_)
  have h1_c : h1.2.1 = h.2.1 + 0 ∧ h1.2.2 = h.2.2 + 0 := zcs eh1 ⟨rfl, rfl⟩
  have h1_a : h1.1 a = some (oB 4 [.int fk, .int fp, .ref t, .ref ss, va_rf sp, .int HG, .int (0 : Int32)]) := by rw [eh1]; exact z_s_self _ _ _
  have h1_ss : h1.1 ss = some (aQ 3 15 G) := by rw [eh1]; exact z_so hss (Ne.symm (z_ne ha hss rfl))
  have h1_t : h1.1 t = some (oB 6 [.ref tb, .int (nI n)]) := by rw [eh1]; exact z_so ht (Ne.symm (z_ne ha ht rfl))
  have h1_tb : h1.1 tb = some (aI 200 B) := by rw [eh1]; exact z_so hb (Ne.symm (z_ne ha hb rfl))
  refine v_blk g [.aload_n 0, .iconst 0] (pc' := 7) (lv' := [(0, .ref a)]) (st' := [.int (0 : Int32), .ref a]) (by decide +kernel) rfl rfl ?_
  refine v_put g (fs' := [.int fk, .int fp, .ref t, .ref ss, va_rf sp, .int (0 : Int32), .int (0 : Int32)]) h1_a fl_X4_25 rfl rfl (Nat.le_of_ble_eq_true rfl) rfl (by decide +kernel) ?_
  refine v_h (fun h2 eh2 => ?_)
  have h2_c : h2.2.1 = h.2.1 + 0 ∧ h2.2.2 = h.2.2 + 0 := zcs eh2 h1_c
  have h2_a : h2.1 a = some (oB 4 [.int fk, .int fp, .ref t, .ref ss, va_rf sp, .int (0 : Int32), .int (0 : Int32)]) := by rw [eh2]; exact z_s_self _ _ _
  have h2_ss : h2.1 ss = some (aQ 3 15 G) := by rw [eh2]; exact z_so h1_ss (Ne.symm (z_ne ha hss rfl))
  have h2_t : h2.1 t = some (oB 6 [.ref tb, .int (nI n)]) := by rw [eh2]; exact z_so h1_t (Ne.symm (z_ne ha ht rfl))
  have h2_tb : h2.1 tb = some (aI 200 B) := by rw [eh2]; exact z_so h1_tb (Ne.symm (z_ne ha hb rfl))
  have r2 : RW h2 a t tb ss n B (nI 0) (nI 0) fk fp sp G T := by rw [eh2, eh1, z_ss]; exact r.num _ _ _ _
  have f2 : fr (ow a ss T) (ow a ss T) h h2 := by rw [eh2, eh1, z_ss]; exact fr_num
  refine v_blk g [.aload_n 0, .iconst 0] (pc' := 12) (lv' := [(0, .ref a)]) (st' := [.int (0 : Int32), .ref a]) (by decide +kernel) rfl rfl ?_
  refine v_callV g (rest := []) (c_PR_all 6 h2 a t tb ss n B fk fp sp G T 0 0 0 r2 (by omega) (by omega) hn (by omega)) cl_X4_38 h2_a rfl rfl (Nat.le_of_ble_eq_true rfl) (by decide +kernel) ⟨Nat.le_of_ble_eq_true rfl, Nat.le_of_ble_eq_true rfl⟩ (zcsn 0 0 h2_c.1 h2_c.2 (by dsimp only; omega) (by dsimp only; omega)) (fun v9 h9 q9 => ?_)
  rcases q9 with ⟨kd, pl, hg3, at3, sp3, G3, T3, e3, rfl, r3, f3, b3⟩ | ⟨q, S, sp3, G3, T3, e3, rfl, r3, f3, b3, -, s0, w0, f0, x3, y3⟩
  · show zV F X h9 15 [(0, .ref a)] [.int 0]
    have b4 : bud h T h9 T3 := bud_trans ⟨by omega, by omega⟩ b3
    have b5 := b4.1
    have b6 := b4.2
    have f5 := fr_trans f2 f3
    refine v_if_ne g (off := 5) (tgt := 20) (by decide +kernel) (by decide) (fun c => absurd c (fun q => q rfl)) (fun _ => ?_)
    refine v_blk g [.aconst_null] (pc' := 19) (lv' := [(0, .ref a)]) (st' := [.null]) (by decide +kernel) rfl rfl ?_
    exact v_aret g z rfl (by decide +kernel) (Or.inl ⟨kd, pl, hg3, at3, sp3, G3, T3, by rw [par9, e3], rfl, r3, f5, b4⟩) ⟨by dsimp only; omega, by dsimp only; omega⟩
  · show zV F X h9 15 [(0, .ref a)] [.int 1]
    have b4 : bud h T h9 T3 := bud_trans ⟨by omega, by omega⟩ b3
    have b5 := b4.1
    have b6 := b4.2
    have f5 := fr_trans f2 f3
    have q9 : 0 < q ∧ q ≤ n := pln_end (alt_end (prt_end 6)) _ _ _ e3
    obtain ⟨xa, xt, xb, xs, xp, xg, xl⟩ := id r3
    refine v_if_ne g (off := 5) (tgt := 20) (by decide +kernel) (by decide) (fun _ => ?_) (fun c => absurd c (by decide))
    refine v_blk g [.aload_n 0] (pc' := 21) (lv' := [(0, .ref a)]) (st' := [.ref a]) (by decide +kernel) rfl rfl ?_
    refine v_get g xa fl_X4_29 rfl (by decide +kernel) ?_
    refine v_blk g [.aload_n 0] (pc' := 25) (lv' := [(0, .ref a)]) (st' := [.ref a, .int (nI q)]) (by decide +kernel) rfl rfl ?_
    refine v_get g xa fl_X4_9 rfl (by decide +kernel) ?_
    refine v_get g xt fl_X4_42 rfl (by decide +kernel) ?_
    refine v_icmp_ge g (off := 15) (tgt := 46) (by decide +kernel) (by decide) (fun c => ?_) (fun c => ?_)
    · have c5 : ¬ q < n := fun z => by rw [nI_lei (by omega) (by omega)] at c; omega
      obtain ⟨ks, kw⟩ := xl.1 0 (by omega) _ _ _ x3
      refine v_new g nl_X4_15 ⟨by dsimp only; omega, by dsimp only; omega⟩ (by decide +kernel) (fun s9 hs9 => ?_)
      refine v_h (fun h10 eh10 => ?_)
      have h10_s9 : h10.1 s9 = some (oB 3 [.null]) := by rw [eh10]; exact z_n_self _ _ _ _
      have c10 : h10.2.1 = h9.2.1 + 1 ∧ h10.2.2 = h9.2.2 + 1 := by rw [eh10]; exact ⟨rfl, rfl⟩
      refine v_blk g [.dup] (pc' := 50) (lv' := [(0, .ref a)]) (st' := [.ref s9, .ref s9]) (by decide +kernel) rfl rfl ?_
      refine v_callI g (rest := [.ref s9]) (c_LS_init h10_s9) cl_X4_51 rfl (Nat.le_of_ble_eq_true rfl) (by decide +kernel) ⟨Nat.le_of_ble_eq_true rfl, Nat.le_of_ble_eq_true rfl⟩ ⟨by dsimp only; omega, by dsimp only; omega⟩ (fun v9 h11 q8 => ?_)
      obtain ⟨rfl, w9, hw9, e11⟩ := q8
      show zV F X h11 53 [(0, .ref a)] [.ref s9]
      have k11 : ∀ x y, h9.1 x = some y → h11.1 x = some y := fun x y hx => by rw [e11]; exact z_so (z_no (by rw [eh10]; exact z_no hx hs9) hw9) (z_nn hx hs9)
      have n9 : w9 ≠ s9 := fun e => by rw [e, h10_s9] at hw9; cases hw9
      have g9 : h9.1 w9 = none := by
        cases hq : h9.1 w9 with
        | none => rfl
        | some y => rw [eh10, z_no hq hs9] at hw9; cases hw9
      have s11 : h11.1 s9 = some (oB 3 [.ref w9]) := by rw [e11]; exact z_s_self _ _ _
      have w11 : h11.1 w9 = some (aJ 256 (fun _ => 0)) := by rw [e11]; exact z_so (z_n_self _ _ _ _) n9
      have c11 : h11.2.1 = h9.2.1 + 2 ∧ h11.2.2 = h9.2.2 + 257 := by rw [e11]; exact ⟨by show h10.2.1 + 1 = _; omega, by show h10.2.2 + 256 = _; omega⟩
      have a11 := k11 _ _ xa
      have ss11 := k11 _ _ xs
      refine v_blk g [.astore_n 1, .aload_n 0] (pc' := 55) (lv' := [(1, .ref s9), (0, .ref a)]) (st' := [.ref a]) (by decide +kernel) rfl rfl ?_
      refine v_get g a11 fl_X4_17 rfl (by decide +kernel) ?_
      refine v_blk g [.iconst 0] (pc' := 59) (lv' := [(1, .ref s9), (0, .ref a)]) (st' := [.int (0 : Int32), .ref ss]) (by decide +kernel) rfl rfl ?_
      refine v_aald3 g ss11 0 rfl (by omega) (Nat.le_of_ble_eq_true rfl) (by decide +kernel) ?_
      refine v_st (st' := [.ref s0]) (by rw [show G3 0 = some s0 from by rw [xg 0 (by omega), x3]; rfl]; rfl) ?_
      refine v_ifnull g (r := (some s0)) (off := 13) (tgt := 73) (by decide +kernel) (by decide) (fun q => nomatch q) (fun _ _ => ?_)
      refine v_blk g [.aload_n 1, .aload_n 0] (pc' := 65) (lv' := [(1, .ref s9), (0, .ref a)]) (st' := [.ref a, .ref s9]) (by decide +kernel) rfl rfl ?_
      refine v_get g a11 fl_X4_17 rfl (by decide +kernel) ?_
      refine v_blk g [.iconst 0] (pc' := 69) (lv' := [(1, .ref s9), (0, .ref a)]) (st' := [.int (0 : Int32), .ref ss, .ref s9]) (by decide +kernel) rfl rfl ?_
      refine v_aald3 g ss11 0 rfl (by omega) (Nat.le_of_ble_eq_true rfl) (by decide +kernel) ?_
      refine v_st (st' := [.ref s0, .ref s9]) (by rw [show G3 0 = some s0 from by rw [xg 0 (by omega), x3]; rfl]; rfl) ?_
      refine v_callVp g (rest := []) (c_LS_copyFrom s11 w11 (k11 _ _ ks) (k11 _ _ kw) (z_nn kw g9)) cl_X4_52 s11 rfl rfl (Nat.le_of_ble_eq_true rfl) (by decide +kernel) ⟨Nat.le_of_ble_eq_true rfl, Nat.le_of_ble_eq_true rfl⟩ ⟨by dsimp only; omega, by dsimp only; omega⟩ ?_
      show zV F X (z_s h11 w9 (aJ 256 (va_cpy f0 (fun _ => 0) 0 0 256))) 73 [(1, .ref s9), (0, .ref a)] []
      refine v_h (fun h12 eh12 => ?_)
      have k12 : ∀ x y, h9.1 x = some y → h12.1 x = some y := fun x y hx => by rw [eh12]; exact z_so (k11 x y hx) (z_nn hx g9)
      have s12 : h12.1 s9 = some (oB 3 [.ref w9]) := by rw [eh12]; exact z_so s11 (Ne.symm n9)
      have w12 : h12.1 w9 = some (aJ 256 (va_cpy f0 (fun _ => 0) 0 0 256)) := by rw [eh12]; exact z_s_self _ _ _
      have c12 : h12.2.1 = h9.2.1 + 2 ∧ h12.2.2 = h9.2.2 + 257 := by rw [eh12]; exact c11
      have o1 : ∀ x, h9.1 x = none → ¬ ow a ss T3 x := fun x hx o => by obtain ⟨y, hy⟩ := r3.some o; rw [hx] at hy; cases hy
      refine v_blk g [.aload_n 1] (pc' := 74) (lv' := [(1, .ref s9), (0, .ref a)]) (st' := [.ref s9]) (by decide +kernel) rfl rfl ?_
      exact v_aret g z rfl (by decide +kernel) (Or.inr ⟨q, S, nI 1, nI q, sp3, G3, T3, s9, w9, _, by rw [par9, e3]; exact if_neg c5, rfl, r3.mono k12, ⟨fun x y hx hO => k12 x y (f5.1 x y hx hO), f5.2⟩, ⟨fr_none f5 r hs9, fr_none f5 r g9⟩, ⟨o1 _ hs9, o1 _ g9⟩, s12, w12, fun m hm => by rw [lb_cpy _ _ hm]; exact y3 m hm, by omega, by omega⟩) ⟨by dsimp only; omega, by dsimp only; omega⟩
    · have c5 : q < n := Classical.byContradiction (fun z => c (nI_le (by omega) (by omega)))
      refine v_blk g [.aload_n 0, .iconst 1, .aload_n 0] (pc' := 37) (lv' := [(0, .ref a)]) (st' := [.ref a, .int (1 : Int32), .ref a]) (by decide +kernel) rfl rfl ?_
      refine v_get g xa fl_X4_29 rfl (by decide +kernel) ?_
      refine v_callVp g (rest := []) (c_PR_stopAt xa _ _) cl_X4_47 xa rfl rfl (Nat.le_of_ble_eq_true rfl) (by decide +kernel) ⟨Nat.le_of_ble_eq_true rfl, Nat.le_of_ble_eq_true rfl⟩ ⟨by dsimp only; omega, by dsimp only; omega⟩ ?_
      show zV F X (z_s h9 a (oB 4 [.int 1, .int (nI q), .ref t, .ref ss, va_rf sp3, .int (nI 1), .int (nI q)])) 43 [(0, .ref a)] [.int 0]
      refine v_blk g [.pop, .aconst_null] (pc' := 45) (lv' := [(0, .ref a)]) (st' := [.null]) (by decide +kernel) rfl rfl ?_
      exact v_aret g z rfl (by decide +kernel) (Or.inl ⟨1, q, nI 1, nI q, sp3, G3, T3, by rw [par9, e3]; exact if_pos c5, rfl, r3.num _ _ _ _, fr_trans f5 fr_num, bud_trans b4 bud_s⟩) ⟨by show h9.2.1 ≤ _; dsimp only; omega, by show h9.2.2 ≤ _; dsimp only; omega⟩

set_option maxRecDepth 100000 in
set_option maxHeartbeats 4000000 in
theorem c_PR_init {F : zF} {h : zH} {a t : Nat} (ha : h.1 a = some (oB 4 [.int 0, .int 0, .null, .null, .null, .int 0, .int 0])) : zMet F yX4_init cX4_init 2 none { frames := 1, cells := 1, slots := 15, locals := 30 } [.ref a, .ref t] h (fun v h2 => v = none ∧ ∃ ss, h.1 ss = none ∧ h2.1 a = some (oB 4 [.int 0, .int 0, .ref t, .ref ss, .null, .int 0, .int 0]) ∧ h2.1 ss = some (aQ 3 15 (fun _ => none)) ∧ h2.2.1 = h.2.1 + 1 ∧ h2.2.2 = h.2.2 + 15 ∧ ∀ b x, h.1 b = some x → b ≠ a → h2.1 b = some x) := by
  refine zMet_of (lv := [(0, .ref a), (1, .ref t)]) (by decide) (by simp [lg_sl, Value.category]) rfl ?_
  intro X g z
  refine v_blk g [.aload_n 0] (pc' := 1) (lv' := [(0, .ref a), (1, .ref t)]) (st' := [.ref a]) (by decide +kernel) rfl rfl ?_
  refine v_obj g ol_X4_3 (by decide +kernel) ⟨Nat.le_of_ble_eq_true rfl, Nat.le_of_ble_eq_true rfl⟩ (Nat.le_of_ble_eq_true rfl) ?_ ob_i ob_c
  refine v_blk g [.aload_n 0, .aload_n 1] (pc' := 6) (lv' := [(0, .ref a), (1, .ref t)]) (st' := [.ref t, .ref a]) (by decide +kernel) rfl rfl ?_
  refine v_putF g (fs' := [.int 0, .int 0, .ref t, .null, .null, .int 0, .int 0]) ha fl_X4_9 rfl rfl rfl rfl (Nat.le_of_ble_eq_true rfl) rfl (by decide +kernel) ?_
  refine v_h (fun h1 eh1 => ?_)
  have h1_c : h1.2.1 = h.2.1 + 0 ∧ h1.2.2 = h.2.2 + 0 := zcs eh1 ⟨rfl, rfl⟩
  have h1_a : h1.1 a = some (oB 4 [.int 0, .int 0, .ref t, .null, .null, .int 0, .int 0]) := by rw [eh1]; exact z_s_self _ _ _
  refine v_blk g [.aload_n 0, .bipush 15] (pc' := 12) (lv' := [(0, .ref a), (1, .ref t)]) (st' := [.int (15 : Int32), .ref a]) (by decide +kernel) rfl rfl ?_
  refine v_newQ3 g 15 rfl (Nat.le_of_ble_eq_true rfl) kl_X4_15 (zcsk 0 0 1 15 h1_c.1 h1_c.2 (Nat.le_of_ble_eq_true rfl) (Nat.le_of_ble_eq_true rfl)) (by decide +kernel) (fun q hq => ?_)
  refine v_h (fun h2 eh2 => ?_)
  have h2_c : h2.2.1 = h.2.1 + 1 ∧ h2.2.2 = h.2.2 + 15 := zcn eh2 h1_c
  have h2_a : h2.1 a = some (oB 4 [.int 0, .int 0, .ref t, .null, .null, .int 0, .int 0]) := by rw [eh2]; exact z_no h1_a hq
  have h2_q : h2.1 q = some (aQ 3 15 (fun _ => none)) := by rw [eh2]; exact z_n_self _ _ _ _
  refine v_putF g (fs' := [.int 0, .int 0, .ref t, .ref q, .null, .int 0, .int 0]) h2_a fl_X4_17 rfl rfl rfl rfl (Nat.le_of_ble_eq_true rfl) rfl (by decide +kernel) ?_
  refine v_h (fun h3 eh3 => ?_)
  have h3_c : h3.2.1 = h.2.1 + 1 ∧ h3.2.2 = h.2.2 + 15 := zcs eh3 h2_c
  have h3_a : h3.1 a = some (oB 4 [.int 0, .int 0, .ref t, .ref q, .null, .int 0, .int 0]) := by rw [eh3]; exact z_s_self _ _ _
  have h3_q : h3.1 q = some (aQ 3 15 (fun _ => none)) := by rw [eh3]; exact z_so h2_q (z_ne h2_q h2_a rfl)
  refine v_blk g [.aload_n 0, .aconst_null] (pc' := 20) (lv' := [(0, .ref a), (1, .ref t)]) (st' := [.null, .ref a]) (by decide +kernel) rfl rfl ?_
  refine v_put g (fs' := [.int 0, .int 0, .ref t, .ref q, .null, .int 0, .int 0]) h3_a fl_X4_21 rfl rfl (Nat.le_of_ble_eq_true rfl) rfl (by decide +kernel) ?_
  refine v_h (fun h4 eh4 => ?_)
  have h4_c : h4.2.1 = h.2.1 + 1 ∧ h4.2.2 = h.2.2 + 15 := zcs eh4 h3_c
  have h4_a : h4.1 a = some (oB 4 [.int 0, .int 0, .ref t, .ref q, .null, .int 0, .int 0]) := by rw [eh4]; exact z_s_self _ _ _
  have h4_q : h4.1 q = some (aQ 3 15 (fun _ => none)) := by rw [eh4]; exact z_so h3_q (z_ne h3_q h3_a rfl)
  refine v_blk g [.aload_n 0, .iconst 0] (pc' := 25) (lv' := [(0, .ref a), (1, .ref t)]) (st' := [.int (0 : Int32), .ref a]) (by decide +kernel) rfl rfl ?_
  refine v_put g (fs' := [.int 0, .int 0, .ref t, .ref q, .null, .int (0 : Int32), .int 0]) h4_a fl_X4_25 rfl rfl (Nat.le_of_ble_eq_true rfl) rfl (by decide +kernel) ?_
  refine v_h (fun h5 eh5 => ?_)
  have h5_c : h5.2.1 = h.2.1 + 1 ∧ h5.2.2 = h.2.2 + 15 := zcs eh5 h4_c
  have h5_a : h5.1 a = some (oB 4 [.int 0, .int 0, .ref t, .ref q, .null, .int (0 : Int32), .int 0]) := by rw [eh5]; exact z_s_self _ _ _
  have h5_q : h5.1 q = some (aQ 3 15 (fun _ => none)) := by rw [eh5]; exact z_so h4_q (z_ne h4_q h4_a rfl)
  refine v_blk g [.aload_n 0, .iconst 0] (pc' := 30) (lv' := [(0, .ref a), (1, .ref t)]) (st' := [.int (0 : Int32), .ref a]) (by decide +kernel) rfl rfl ?_
  refine v_put g (fs' := [.int 0, .int 0, .ref t, .ref q, .null, .int (0 : Int32), .int (0 : Int32)]) h5_a fl_X4_29 rfl rfl (Nat.le_of_ble_eq_true rfl) rfl (by decide +kernel) ?_
  refine v_h (fun h6 eh6 => ?_)
  have h6_c : h6.2.1 = h.2.1 + 1 ∧ h6.2.2 = h.2.2 + 15 := zcs eh6 h5_c
  have h6_a : h6.1 a = some (oB 4 [.int 0, .int 0, .ref t, .ref q, .null, .int (0 : Int32), .int (0 : Int32)]) := by rw [eh6]; exact z_s_self _ _ _
  have h6_q : h6.1 q = some (aQ 3 15 (fun _ => none)) := by rw [eh6]; exact z_so h5_q (z_ne h5_q h5_a rfl)
  refine v_blk g [.aload_n 0, .iconst 0] (pc' := 35) (lv' := [(0, .ref a), (1, .ref t)]) (st' := [.int (0 : Int32), .ref a]) (by decide +kernel) rfl rfl ?_
  refine v_put g (fs' := [.int (0 : Int32), .int 0, .ref t, .ref q, .null, .int (0 : Int32), .int (0 : Int32)]) h6_a fl_X4_32 rfl rfl (Nat.le_of_ble_eq_true rfl) rfl (by decide +kernel) ?_
  refine v_h (fun h7 eh7 => ?_)
  have h7_c : h7.2.1 = h.2.1 + 1 ∧ h7.2.2 = h.2.2 + 15 := zcs eh7 h6_c
  have h7_a : h7.1 a = some (oB 4 [.int (0 : Int32), .int 0, .ref t, .ref q, .null, .int (0 : Int32), .int (0 : Int32)]) := by rw [eh7]; exact z_s_self _ _ _
  have h7_q : h7.1 q = some (aQ 3 15 (fun _ => none)) := by rw [eh7]; exact z_so h6_q (z_ne h6_q h6_a rfl)
  refine v_blk g [.aload_n 0, .iconst 0] (pc' := 40) (lv' := [(0, .ref a), (1, .ref t)]) (st' := [.int (0 : Int32), .ref a]) (by decide +kernel) rfl rfl ?_
  refine v_put g (fs' := [.int (0 : Int32), .int (0 : Int32), .ref t, .ref q, .null, .int (0 : Int32), .int (0 : Int32)]) h7_a fl_X4_35 rfl rfl (Nat.le_of_ble_eq_true rfl) rfl (by decide +kernel) ?_
  refine v_h (fun h8 eh8 => ?_)
  have h8_c : h8.2.1 = h.2.1 + 1 ∧ h8.2.2 = h.2.2 + 15 := zcs eh8 h7_c
  have h8_a : h8.1 a = some (oB 4 [.int (0 : Int32), .int (0 : Int32), .ref t, .ref q, .null, .int (0 : Int32), .int (0 : Int32)]) := by rw [eh8]; exact z_s_self _ _ _
  have h8_q : h8.1 q = some (aQ 3 15 (fun _ => none)) := by rw [eh8]; exact z_so h7_q (z_ne h7_q h7_a rfl)
  have qn : h.1 q = none := by
    cases hz : h.1 q with
    | none => rfl
    | some y =>
      by_cases e : q = a
      · rw [e, h1_a] at hq; cases hq
      · rw [eh1, z_so hz e] at hq; cases hq
  exact v_vret g z rfl (by decide +kernel) ⟨rfl, q, qn, h8_a, h8_q, h8_c.1, h8_c.2, fun b x hb hne => by rw [eh8, z_s_ne hne, eh7, z_s_ne hne, eh6, z_s_ne hne, eh5, z_s_ne hne, eh4, z_s_ne hne, eh3, z_s_ne hne, eh2]; exact z_no (by rw [eh1]; exact z_so hb hne) hq⟩ (zcrn 1 15 h8_c.1 h8_c.2 (Nat.le_of_ble_eq_true rfl) (Nat.le_of_ble_eq_true rfl))
