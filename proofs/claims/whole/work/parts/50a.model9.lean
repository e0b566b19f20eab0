/-! the reference: sets put together -/
def pP (PL : Nat → Int32) (t l : Nat) : Bool := decide (¬ PL (16384 * t + l) = 0)
def enu (p : Nat → Bool) (G : Nat → Int32) (x : Nat) : Prop := ∀ l, l < x → p l = true → G (fb_ct p l) = nI l

set_option maxRecDepth 100000 in
set_option maxHeartbeats 4000000 in
theorem m_cnt {F : zF} {h : zH} {m : Nat} {R : Nat → Nat} {tp fk fp cn ha un dm wk pm cu ct dt pt hg th at9 sz : Int32} {hl pd hlt pdt : Int64} (hm : h.1 m = some (oM R tp fk fp cn ha un dm wk hl pd pm cu ct dt hlt pdt pt hg th at9 sz)) {PL : Nat → Int32} (k20 : h.1 (R 20) = some (aZ 262144 PL)) {a t : Nat} {f : Nat → Int32} (ha : h.1 a = some (aI 16384 f)) (ht : t < 16) : zMet F yX8_count cX8_count 5 (some .int) { frames := 1, cells := 0, slots := 0, locals := 30 } [.ref m, .int (nI t), .ref a] h (fun v h2 => v = some (.int (nI (fb_ct (pP PL t) 16384))) ∧ ∃ G, h2 = z_s h a (aI 16384 G) ∧ enu (pP PL t) G 16384) := by
  refine zMet_of (lv := [(0, .ref m), (1, .int (nI t)), (2, .ref a)]) (by decide) (by simp [lg_sl, Value.category]) rfl ?_
  intro X g z
  refine v_blk g [.iconst 0, .istore_n 3, .iconst 0, .istore 4] (pc' := 5) (lv' := [(4, .int (0 : Int32)), (3, .int (0 : Int32)), (0, .ref m), (1, .int (nI t)), (2, .ref a)]) (st' := []) (by decide +kernel) rfl rfl ?_
  have key : ∀ i, i ≤ 16384 → ∀ G : Nat → Int32, enu (pP PL t) G i → zV F X (z_s h a (aI 16384 G)) 5 [(4, .int (nI i)), (3, .int (nI (fb_ct (pP PL t) i))), (0, .ref m), (1, .int (nI t)), (2, .ref a)] [] := by
    refine z_up (P := fun i => ∀ G : Nat → Int32, enu (pP PL t) G i → zV F X (z_s h a (aI 16384 G)) 5 [(4, .int (nI i)), (3, .int (nI (fb_ct (pP PL t) i))), (0, .ref m), (1, .int (nI t)), (2, .ref a)] []) 16384 ?_ ?_
    · intro G hG
      refine v_blk g [.iload 4, .sipush 16384] (pc' := 10) (lv' := [(4, .int (nI 16384)), (3, .int (nI (fb_ct (pP PL t) 16384))), (0, .ref m), (1, .int (nI t)), (2, .ref a)]) (st' := [.int (16384 : Int32), .int (nI 16384)]) (by decide +kernel) rfl rfl ?_
      refine v_icmp_ge g (off := 36) (tgt := 46) (by decide +kernel) (by decide) (fun _ => ?_) (fun c => absurd c (fun q => q (by decide)))
      refine v_blk g [.iload_n 3] (pc' := 47) (lv' := [(4, .int (nI 16384)), (3, .int (nI (fb_ct (pP PL t) 16384))), (0, .ref m), (1, .int (nI t)), (2, .ref a)]) (st' := [.int (nI (fb_ct (pP PL t) 16384))]) (by decide +kernel) rfl rfl ?_
      exact v_iret g z rfl (by decide +kernel) ⟨rfl, G, rfl, hG⟩ (zcrn 0 0 rfl rfl (Nat.le_of_ble_eq_true rfl) (Nat.le_of_ble_eq_true rfl))
    · intro i hi ih G hG
      have ci := fb_ct_le (pP PL t) i
      refine v_blk g [.iload 4, .sipush 16384] (pc' := 10) (lv' := [(4, .int (nI i)), (3, .int (nI (fb_ct (pP PL t) i))), (0, .ref m), (1, .int (nI t)), (2, .ref a)]) (st' := [.int (16384 : Int32), .int (nI i)]) (by decide +kernel) rfl rfl ?_
      refine v_icmp_ge g (off := 36) (tgt := 46) (by decide +kernel) (by decide) (fun c => absurd c (nI_ge (b := 16384) hi (by decide))) (fun _ => ?_)
      refine v_blk g [.aload_n 0] (pc' := 14) (lv' := [(4, .int (nI i)), (3, .int (nI (fb_ct (pP PL t) i))), (0, .ref m), (1, .int (nI t)), (2, .ref a)]) (st' := [.ref m]) (by decide +kernel) rfl rfl ?_
      refine v_get g (z_so hm (z_ne hm ha rfl)) fl_X8_80 rfl (by decide +kernel) ?_
      refine v_blk g [.sipush 16384, .iload_n 1, .imul, .iload 4, .iadd] (pc' := 25) (lv' := [(4, .int (nI i)), (3, .int (nI (fb_ct (pP PL t) i))), (0, .ref m), (1, .int (nI t)), (2, .ref a)]) (st' := [.int (((16384 : Int32) * (nI t)) + (nI i)), .ref (R 20)]) (by decide +kernel) rfl rfl ?_
      refine v_zald g (z_so k20 (z_ne k20 ha rfl)) (16384 * t + i) (by rw [show (16384 : Int32) = nI 16384 from rfl, pk_mul, nI_add]) (by omega) (Nat.le_of_ble_eq_true rfl) (by decide +kernel) ?_
      refine v_if_ne g (off := 6) (tgt := 32) (by decide +kernel) (by decide) (fun c => ?_) (fun c => ?_)
      · have pi : pP PL t i = true := decide_eq_true c
        refine v_blk g [.aload_n 2, .iload_n 3, .iload 4] (pc' := 36) (lv' := [(4, .int (nI i)), (3, .int (nI (fb_ct (pP PL t) i))), (0, .ref m), (1, .int (nI t)), (2, .ref a)]) (st' := [.int (nI i), .int (nI (fb_ct (pP PL t) i)), .ref a]) (by decide +kernel) rfl rfl ?_
        refine v_iast g (z_s_self _ _ _) (fb_ct (pP PL t) i) rfl (by omega) (Nat.le_of_ble_eq_true rfl) (by decide +kernel) ?_
        refine v_eqh (h' := z_s h a (aI 16384 (upd G (fb_ct (pP PL t) i) (nI i)))) (by rw [z_ss]) ?_
        refine v_blk g [.iinc 3 1, .iinc 4 1] (pc' := 43) (lv' := [(4, .int ((nI i) + (1 : Int32))), (3, .int ((nI (fb_ct (pP PL t) i)) + (1 : Int32))), (0, .ref m), (1, .int (nI t)), (2, .ref a)]) (st' := []) (by decide +kernel) rfl rfl ?_
        refine v_goto g (off := -38) (tgt := 5) (by decide +kernel) (by decide) ?_
        refine v_lv [0, 1, 2, 3, 4] (lv' := [(4, .int ((nI i) + (1 : Int32))), (3, .int ((nI (fb_ct (pP PL t) i)) + (1 : Int32))), (0, .ref m), (1, .int (nI t)), (2, .ref a)]) rfl ?_
        refine v_eq (by rw [nI_1, nI_1, fb_ct_succ, pi]; rfl) rfl (ih _ (fun l hl hp => ?_))
        rcases Nat.lt_or_ge l i with q | q
        · have : fb_ct (pP PL t) l < fb_ct (pP PL t) i := by have := fb_ct_mono (pP PL t) (show l + 1 ≤ i from q); rw [fb_ct_succ, hp] at this; simp at this; omega
          rw [pk_un (by omega)]; exact hG l q hp
        · rw [show l = i by omega, pk_us]
      · have pi : pP PL t i = false := decide_eq_false (fun q => q c)
        refine v_goto g (off := 11) (tgt := 40) (by decide +kernel) (by decide) ?_
        refine v_blk g [.iinc 4 1] (pc' := 43) (lv' := [(4, .int ((nI i) + (1 : Int32))), (3, .int (nI (fb_ct (pP PL t) i))), (0, .ref m), (1, .int (nI t)), (2, .ref a)]) (st' := []) (by decide +kernel) rfl rfl ?_
        refine v_goto g (off := -38) (tgt := 5) (by decide +kernel) (by decide) ?_
        refine v_lv [0, 1, 2, 3, 4] (lv' := [(4, .int ((nI i) + (1 : Int32))), (3, .int (nI (fb_ct (pP PL t) i))), (0, .ref m), (1, .int (nI t)), (2, .ref a)]) rfl ?_
        refine v_eq (by rw [nI_1, fb_ct_succ, pi]; rfl) rfl (ih _ (fun l hl hp => ?_))
        rcases Nat.lt_or_ge l i with q | q
        · exact hG l q hp
        · rw [show l = i by omega, pi] at hp; cases hp
  exact v_eqh (z_sid ha).symm (key 0 (by omega) f (fun l hl => absurd hl (Nat.not_lt_zero l)))
