/-! the reference: points -/
def mxV (v : Nat → Nat) : Nat → Nat
  | 0 => 0
  | k + 1 => if mxV v k < v k then v k else mxV v k
def mnV (v : Nat → Nat) : Nat → Nat
  | 0 => 9
  | k + 1 => if v k < mnV v k then v k else mnV v k
theorem mxV_le {v : Nat → Nat} (hv : ∀ k, v k ≤ 9) : ∀ k, mxV v k ≤ 9
  | 0 => by simp [mxV]
  | k + 1 => by rw [mxV]; split; exact hv k; exact mxV_le hv k
theorem mnV_le (v : Nat → Nat) : ∀ k, mnV v k ≤ 9
  | 0 => by simp [mnV]
  | k + 1 => by rw [mnV]; split; have := mnV_le v k; omega; exact mnV_le v k
def okO (O : Nat → Int32) : Prop := ∀ q, q < 14 → (O q = -1 ∨ ∃ k, k < 4 ∧ O q = nI k)
def grt (S : Nat → Bool) (W : Nat → Nat) : Nat → Int
  | 0 => -1
  | n + 1 => if S n then (if grt S W n < (wt W n : Int) then (wt W n : Int) else grt S W n) else grt S W n
theorem grt_top (S : Nat → Bool) (W : Nat → Nat) : ∀ n, isTop S W n (grt S W n)
  | 0 => ⟨fun n h => absurd h (Nat.not_lt_zero n), Or.inl rfl⟩
  | n + 1 => by
    obtain ⟨h1, h2⟩ := grt_top S W n
    rw [grt]
    by_cases hs : S n = true
    · rw [if_pos hs]
      by_cases hl : grt S W n < (wt W n : Int)
      · rw [if_pos hl]
        refine ⟨fun k hk hsk => ?_, Or.inr ⟨n, by omega, hs, rfl⟩⟩
        rcases Nat.lt_or_ge k n with q | q
        · have := h1 k q hsk; omega
        · rw [show k = n by omega]; omega
      · rw [if_neg hl]
        refine ⟨fun k hk hsk => ?_, ?_⟩
        · rcases Nat.lt_or_ge k n with q | q
          · exact h1 k q hsk
          · rw [show k = n by omega]; omega
        · rcases h2 with q | ⟨k, q1, q2, q3⟩
          · exact Or.inl q
          · exact Or.inr ⟨k, by omega, q2, q3⟩
    · rw [if_neg hs]
      refine ⟨fun k hk hsk => ?_, ?_⟩
      · rcases Nat.lt_or_ge k n with q | q
        · exact h1 k q hsk
        · rw [show k = n by omega] at hsk; exact absurd hsk hs
      · rcases h2 with q | ⟨k, q1, q2, q3⟩
        · exact Or.inl q
        · exact Or.inr ⟨k, by omega, q2, q3⟩
theorem bit1 {n m : Nat} (hn : n < 2 ^ 31) (hm : m < 31) : ((nI n >>> (nI m &&& (31 : Int32))) &&& (1 : Int32) = 0) ↔ n.testBit m = false := by
  have h2 : nI m &&& (31 : Int32) = nI m := by
    rw [pk_andN (by omega) 5 (by decide), Nat.mod_eq_of_lt (by omega)]
  have h3 : ((nI m).toBitVec.smod 32).toNat = m := by
    have := s_l m (by omega)
    rw [h2] at this
    exact this
  rw [h2, pk_shrN hn _ m h3, pk_andN (by have := Nat.div_le_self n (2 ^ m); omega) 1 (by decide)]
  rw [Nat.testBit_eq_decide_div_mod_eq]
  have h4 : n / 2 ^ m % 2 ^ 1 < 2 := Nat.mod_lt _ (by decide)
  constructor
  · intro e
    have := (nI_eq (a := n / 2 ^ m % 2 ^ 1) (b := 0) (by omega) (by decide)).mp e
    simp at this ⊢; omega
  · intro e
    have : n / 2 ^ m % 2 ^ 1 = 0 := by simp at e ⊢; omega
    rw [this]; rfl
theorem wO_none {O : Nat → Int32} {v : Nat → Nat} {o q : Nat} (h : O q = -1) : wO O v o q = o := by
  rw [wO, h, if_pos (by decide)]
theorem wO_some {O : Nat → Int32} {v : Nat → Nat} {o q k : Nat} (h : O q = nI k) (hk : k < 4) : wO O v o q = v k := by
  rw [wO, h, if_neg (nI_pos (by omega)), nI_clamp (by omega)]

set_option maxRecDepth 100000 in
set_option maxHeartbeats 4000000 in
theorem m_pointsOf {F : zF} {h : zH} {m : Nat} {R : Nat → Nat} {tp fk fp cn ha un dm wk pm cu ct dt pt hg th at9 sz : Int32} {hl pd hlt pdt : Int64} (hm : h.1 m = some (oM R tp fk fp cn ha un dm wk hl pd pm cu ct dt hlt pdt pt hg th at9 sz)) {SC : Nat → Int32} (k0 : h.1 (R 0) = some (aI 14 SC)) {PN : Nat → Int32} (k1 : h.1 (R 1) = some (aI 14 PN)) {V : Nat → Int32} (k2 : h.1 (R 2) = some (aI 4 V)) {v : Nat → Nat} {o : Nat} (hO : okO (mo SC PN)) (hV : nIs V v 4) {l : Nat} (hl9 : l < 16384) : zMet F yX8_pointsOf cX8_pointsOf 6 (some .int) { frames := 2, cells := 0, slots := 0, locals := 60 } [.ref m, .int (nI l), .int (nI o)] h (zP h (some (.int (nI (wt (wO (mo SC PN) v o) l))))) := by
  refine zMet_of (lv := [(0, .ref m), (1, .int (nI l)), (2, .int (nI o))]) (by decide) (by simp [lg_sl, Value.category]) rfl ?_
  intro X g z
  refine v_blk g [.iconst 0, .istore_n 3, .iconst 0, .istore 4] (pc' := 5) (lv' := [(4, .int (0 : Int32)), (3, .int (0 : Int32)), (0, .ref m), (1, .int (nI l)), (2, .int (nI o))]) (st' := []) (by decide +kernel) rfl rfl ?_
  have key : ∀ i, i ≤ 14 → zV F X h 5 [(4, .int (nI i)), (3, .int (nI (fb_sm (fun q => if l.testBit q then wO (mo SC PN) v o (0 + q) else 0) i))), (0, .ref m), (1, .int (nI l)), (2, .int (nI o))] [] := by
    refine z_up (P := fun i => zV F X h 5 [(4, .int (nI i)), (3, .int (nI (fb_sm (fun q => if l.testBit q then wO (mo SC PN) v o (0 + q) else 0) i))), (0, .ref m), (1, .int (nI l)), (2, .int (nI o))] []) 14 ?_ ?_
    · refine v_blk g [.iload 4, .bipush 14] (pc' := 9) (lv' := [(4, .int (nI 14)), (3, .int (nI (fb_sm (fun q => if l.testBit q then wO (mo SC PN) v o (0 + q) else 0) 14))), (0, .ref m), (1, .int (nI l)), (2, .int (nI o))]) (st' := [.int (14 : Int32), .int (nI 14)]) (by decide +kernel) rfl rfl ?_
      refine v_icmp_ge g (off := 49) (tgt := 58) (by decide +kernel) (by decide) (fun _ => ?_) (fun c => absurd c (fun q => q (by decide)))
      refine v_blk g [.iload_n 3] (pc' := 59) (lv' := [(4, .int (nI 14)), (3, .int (nI (fb_sm (fun q => if l.testBit q then wO (mo SC PN) v o (0 + q) else 0) 14))), (0, .ref m), (1, .int (nI l)), (2, .int (nI o))]) (st' := [.int (nI (fb_sm (fun q => if l.testBit q then wO (mo SC PN) v o (0 + q) else 0) 14))]) (by decide +kernel) rfl rfl ?_
      exact v_iret g z rfl (by decide +kernel) ⟨rfl, rfl⟩ (zcrn 0 0 rfl rfl (Nat.le_of_ble_eq_true rfl) (Nat.le_of_ble_eq_true rfl))
    · intro i hi ih
      refine v_blk g [.iload 4, .bipush 14] (pc' := 9) (lv' := [(4, .int (nI i)), (3, .int (nI (fb_sm (fun q => if l.testBit q then wO (mo SC PN) v o (0 + q) else 0) i))), (0, .ref m), (1, .int (nI l)), (2, .int (nI o))]) (st' := [.int (14 : Int32), .int (nI i)]) (by decide +kernel) rfl rfl ?_
      refine v_icmp_ge g (off := 49) (tgt := 58) (by decide +kernel) (by decide) (fun c => absurd c (nI_ge (b := 14) hi (by decide))) (fun _ => ?_)
      refine v_blk g [.iload_n 1, .iload 4, .ishr, .iconst 1, .iand] (pc' := 18) (lv' := [(4, .int (nI i)), (3, .int (nI (fb_sm (fun q => if l.testBit q then wO (mo SC PN) v o (0 + q) else 0) i))), (0, .ref m), (1, .int (nI l)), (2, .int (nI o))]) (st' := [.int (((nI l) >>> ((nI i) &&& (31 : Int32))) &&& (1 : Int32))]) (by decide +kernel) rfl rfl ?_
      refine v_if_ne g (off := 6) (tgt := 24) (by decide +kernel) (by decide) (fun c => ?_) (fun c => ?_)
      · have tb : l.testBit i = true := by cases e : l.testBit i with
          | true => rfl
          | false => exact absurd ((bit1 (by omega) (by omega)).mpr e) c
        refine v_blk g [.aload_n 0, .iload 4] (pc' := 27) (lv' := [(4, .int (nI i)), (3, .int (nI (fb_sm (fun q => if l.testBit q then wO (mo SC PN) v o (0 + q) else 0) i))), (0, .ref m), (1, .int (nI l)), (2, .int (nI o))]) (st' := [.int (nI i), .ref m]) (by decide +kernel) rfl rfl ?_
        refine v_callVp g (rest := []) (m_outcomeOf hm k0 k1 hi) cl_X8_104 hm rfl rfl (Nat.le_of_ble_eq_true rfl) (by decide +kernel) ⟨Nat.le_of_ble_eq_true rfl, Nat.le_of_ble_eq_true rfl⟩ (zcsn 0 0 rfl rfl (Nat.le_of_ble_eq_true rfl) (Nat.le_of_ble_eq_true rfl)) ?_
        show zV F X h 30 [(4, .int (nI i)), (3, .int (nI (fb_sm (fun q => if l.testBit q then wO (mo SC PN) v o (0 + q) else 0) i))), (0, .ref m), (1, .int (nI l)), (2, .int (nI o))] [.int (mo SC PN i)]
        refine v_blk g [.istore 5, .iload_n 3, .iload 5, .iconst (-1)] (pc' := 36) (lv' := [(5, .int (mo SC PN i)), (4, .int (nI i)), (3, .int (nI (fb_sm (fun q => if l.testBit q then wO (mo SC PN) v o (0 + q) else 0) i))), (0, .ref m), (1, .int (nI l)), (2, .int (nI o))]) (st' := [.int (-1 : Int32), .int (mo SC PN i), .int (nI (fb_sm (fun q => if l.testBit q then wO (mo SC PN) v o (0 + q) else 0) i))]) (by decide +kernel) rfl rfl ?_
        refine v_icmp_ne g (off := 7) (tgt := 43) (by decide +kernel) (by decide) (fun c2 => ?_) (fun c2 => ?_)
        · obtain ⟨k, hk4, ek⟩ := (hO i hi).resolve_left c2
          refine v_blk g [.aload_n 0] (pc' := 44) (lv' := [(5, .int (mo SC PN i)), (4, .int (nI i)), (3, .int (nI (fb_sm (fun q => if l.testBit q then wO (mo SC PN) v o (0 + q) else 0) i))), (0, .ref m), (1, .int (nI l)), (2, .int (nI o))]) (st' := [.ref m, .int (nI (fb_sm (fun q => if l.testBit q then wO (mo SC PN) v o (0 + q) else 0) i))]) (by decide +kernel) rfl rfl ?_
          refine v_get g hm fl_X8_16 rfl (by decide +kernel) ?_
          refine v_blk g [.iload 5] (pc' := 49) (lv' := [(5, .int (mo SC PN i)), (4, .int (nI i)), (3, .int (nI (fb_sm (fun q => if l.testBit q then wO (mo SC PN) v o (0 + q) else 0) i))), (0, .ref m), (1, .int (nI l)), (2, .int (nI o))]) (st' := [.int (mo SC PN i), .ref (R 2), .int (nI (fb_sm (fun q => if l.testBit q then wO (mo SC PN) v o (0 + q) else 0) i))]) (by decide +kernel) rfl rfl ?_
          refine v_iald g k2 k ek hk4 (Nat.le_of_ble_eq_true rfl) (by decide +kernel) ?_
          refine v_ti (z := nI (v k)) (hV k hk4) ?_
          refine v_blk g [.iadd, .istore_n 3, .iinc 4 1] (pc' := 55) (lv' := [(4, .int ((nI i) + (1 : Int32))), (3, .int ((nI (fb_sm (fun q => if l.testBit q then wO (mo SC PN) v o (0 + q) else 0) i)) + (nI (v k)))), (5, .int (mo SC PN i)), (0, .ref m), (1, .int (nI l)), (2, .int (nI o))]) (st' := []) (by decide +kernel) rfl rfl ?_
          refine v_goto g (off := -50) (tgt := 5) (by decide +kernel) (by decide) ?_
          refine v_lv [0, 1, 3, 4, 5] (lv' := [(4, .int ((nI i) + (1 : Int32))), (3, .int ((nI (fb_sm (fun q => if l.testBit q then wO (mo SC PN) v o (0 + q) else 0) i)) + (nI (v k)))), (0, .ref m), (1, .int (nI l)), (2, .int (nI o))]) rfl ?_
          exact v_eq (by rw [nI_1, fb_sm_succ, if_pos tb, Nat.zero_add, wO_some ek hk4, nI_add]) rfl ih
        · refine v_blk g [.iload_n 2] (pc' := 40) (lv' := [(5, .int (mo SC PN i)), (4, .int (nI i)), (3, .int (nI (fb_sm (fun q => if l.testBit q then wO (mo SC PN) v o (0 + q) else 0) i))), (0, .ref m), (1, .int (nI l)), (2, .int (nI o))]) (st' := [.int (nI o), .int (nI (fb_sm (fun q => if l.testBit q then wO (mo SC PN) v o (0 + q) else 0) i))]) (by decide +kernel) rfl rfl ?_
          refine v_goto g (off := 10) (tgt := 50) (by decide +kernel) (by decide) ?_
          refine v_blk g [.iadd, .istore_n 3, .iinc 4 1] (pc' := 55) (lv' := [(4, .int ((nI i) + (1 : Int32))), (3, .int ((nI (fb_sm (fun q => if l.testBit q then wO (mo SC PN) v o (0 + q) else 0) i)) + (nI o))), (5, .int (mo SC PN i)), (0, .ref m), (1, .int (nI l)), (2, .int (nI o))]) (st' := []) (by decide +kernel) rfl rfl ?_
          refine v_goto g (off := -50) (tgt := 5) (by decide +kernel) (by decide) ?_
          refine v_lv [0, 1, 3, 4, 5] (lv' := [(4, .int ((nI i) + (1 : Int32))), (3, .int ((nI (fb_sm (fun q => if l.testBit q then wO (mo SC PN) v o (0 + q) else 0) i)) + (nI o))), (0, .ref m), (1, .int (nI l)), (2, .int (nI o))]) rfl ?_
          exact v_eq (by rw [nI_1, fb_sm_succ, if_pos tb, Nat.zero_add, wO_none c2, nI_add]) rfl ih
      · refine v_goto g (off := 31) (tgt := 52) (by decide +kernel) (by decide) ?_
        refine v_blk g [.iinc 4 1] (pc' := 55) (lv' := [(4, .int ((nI i) + (1 : Int32))), (3, .int (nI (fb_sm (fun q => if l.testBit q then wO (mo SC PN) v o (0 + q) else 0) i))), (0, .ref m), (1, .int (nI l)), (2, .int (nI o))]) (st' := []) (by decide +kernel) rfl rfl ?_
        refine v_goto g (off := -50) (tgt := 5) (by decide +kernel) (by decide) ?_
        refine v_lv [0, 1, 2, 3, 4] (lv' := [(4, .int ((nI i) + (1 : Int32))), (3, .int (nI (fb_sm (fun q => if l.testBit q then wO (mo SC PN) v o (0 + q) else 0) i))), (0, .ref m), (1, .int (nI l)), (2, .int (nI o))]) rfl ?_
        exact v_eq (by rw [nI_1, fb_sm_succ, (bit1 (by omega) (by omega)).mp c]; rfl) rfl ih
  exact key 0 (by omega)

set_option maxRecDepth 100000 in
set_option maxHeartbeats 4000000 in
theorem m_most {F : zF} {h : zH} {m : Nat} {R : Nat → Nat} {tp fk fp cn ha un dm wk pm cu ct dt pt hg th at9 sz : Int32} {hl pd hlt pdt : Int64} (hm : h.1 m = some (oM R tp fk fp cn ha un dm wk hl pd pm cu ct dt hlt pdt pt hg th at9 sz)) {V : Nat → Int32} (k2 : h.1 (R 2) = some (aI 4 V)) {v : Nat → Nat} (hV : nIs V v 4) (hv9 : ∀ k, v k ≤ 9) : zMet F yX8_most cX8_most 3 (some .int) { frames := 1, cells := 0, slots := 0, locals := 30 } [.ref m] h (zP h (some (.int (nI (mxV v 4))))) := by
  refine zMet_of (lv := [(0, .ref m)]) (by decide) (by simp [lg_sl, Value.category]) rfl ?_
  intro X g z
  refine v_blk g [.iconst 0, .istore_n 1, .iconst 0, .istore_n 2] (pc' := 4) (lv' := [(2, .int (0 : Int32)), (1, .int (0 : Int32)), (0, .ref m)]) (st' := []) (by decide +kernel) rfl rfl ?_
  have key : ∀ i, i ≤ 4 → zV F X h 4 [(2, .int (nI i)), (1, .int (nI (mxV v i))), (0, .ref m)] [] := by
    refine z_up (P := fun i => zV F X h 4 [(2, .int (nI i)), (1, .int (nI (mxV v i))), (0, .ref m)] []) 4 ?_ ?_
    · refine v_blk g [.iload_n 2, .iconst 4] (pc' := 6) (lv' := [(2, .int (nI 4)), (1, .int (nI (mxV v 4))), (0, .ref m)]) (st' := [.int (4 : Int32), .int (nI 4)]) (by decide +kernel) rfl rfl ?_
      refine v_icmp_ge g (off := 30) (tgt := 36) (by decide +kernel) (by decide) (fun _ => ?_) (fun c => absurd c (fun q => q (by decide)))
      refine v_blk g [.iload_n 1] (pc' := 37) (lv' := [(2, .int (nI 4)), (1, .int (nI (mxV v 4))), (0, .ref m)]) (st' := [.int (nI (mxV v 4))]) (by decide +kernel) rfl rfl ?_
      exact v_iret g z rfl (by decide +kernel) ⟨rfl, rfl⟩ (zcrn 0 0 rfl rfl (Nat.le_of_ble_eq_true rfl) (Nat.le_of_ble_eq_true rfl))
    · intro i hi ih
      have v1 := hv9 i
      have v2 := mxV_le hv9 i
      refine v_blk g [.iload_n 2, .iconst 4] (pc' := 6) (lv' := [(2, .int (nI i)), (1, .int (nI (mxV v i))), (0, .ref m)]) (st' := [.int (4 : Int32), .int (nI i)]) (by decide +kernel) rfl rfl ?_
      refine v_icmp_ge g (off := 30) (tgt := 36) (by decide +kernel) (by decide) (fun c => absurd c (nI_ge (b := 4) hi (by decide))) (fun _ => ?_)
      refine v_blk g [.aload_n 0] (pc' := 10) (lv' := [(2, .int (nI i)), (1, .int (nI (mxV v i))), (0, .ref m)]) (st' := [.ref m]) (by decide +kernel) rfl rfl ?_
      refine v_get g hm fl_X8_16 rfl (by decide +kernel) ?_
      refine v_blk g [.iload_n 2] (pc' := 14) (lv' := [(2, .int (nI i)), (1, .int (nI (mxV v i))), (0, .ref m)]) (st' := [.int (nI i), .ref (R 2)]) (by decide +kernel) rfl rfl ?_
      refine v_iald g k2 i rfl hi (Nat.le_of_ble_eq_true rfl) (by decide +kernel) ?_
      refine v_ti (z := nI (v i)) (hV i hi) ?_
      refine v_blk g [.iload_n 1] (pc' := 16) (lv' := [(2, .int (nI i)), (1, .int (nI (mxV v i))), (0, .ref m)]) (st' := [.int (nI (mxV v i)), .int (nI (v i))]) (by decide +kernel) rfl rfl ?_
      refine v_icmp_le g (off := 12) (tgt := 28) (by decide +kernel) (by decide) (fun c => ?_) (fun c => ?_)
      · refine v_blk g [.iload_n 1, .istore_n 1, .iinc 2 1] (pc' := 33) (lv' := [(2, .int ((nI i) + (1 : Int32))), (1, .int (nI (mxV v i))), (0, .ref m)]) (st' := []) (by decide +kernel) rfl rfl ?_
        refine v_goto g (off := -29) (tgt := 4) (by decide +kernel) (by decide) ?_
        refine v_lv [0, 1, 2] (lv' := [(2, .int ((nI i) + (1 : Int32))), (1, .int (nI (mxV v i))), (0, .ref m)]) rfl ?_
        exact v_eq (by rw [nI_1, mxV, if_neg (fun q => by have := (nI_lei (by omega) (by omega)).mp c; omega)]) rfl ih
      · refine v_blk g [.aload_n 0] (pc' := 20) (lv' := [(2, .int (nI i)), (1, .int (nI (mxV v i))), (0, .ref m)]) (st' := [.ref m]) (by decide +kernel) rfl rfl ?_
        refine v_get g hm fl_X8_16 rfl (by decide +kernel) ?_
        refine v_blk g [.iload_n 2] (pc' := 24) (lv' := [(2, .int (nI i)), (1, .int (nI (mxV v i))), (0, .ref m)]) (st' := [.int (nI i), .ref (R 2)]) (by decide +kernel) rfl rfl ?_
        refine v_iald g k2 i rfl hi (Nat.le_of_ble_eq_true rfl) (by decide +kernel) ?_
        refine v_ti (z := nI (v i)) (hV i hi) ?_
        refine v_goto g (off := 4) (tgt := 29) (by decide +kernel) (by decide) ?_
        refine v_blk g [.istore_n 1, .iinc 2 1] (pc' := 33) (lv' := [(2, .int ((nI i) + (1 : Int32))), (1, .int (nI (v i))), (0, .ref m)]) (st' := []) (by decide +kernel) rfl rfl ?_
        refine v_goto g (off := -29) (tgt := 4) (by decide +kernel) (by decide) ?_
        refine v_lv [0, 1, 2] (lv' := [(2, .int ((nI i) + (1 : Int32))), (1, .int (nI (v i))), (0, .ref m)]) rfl ?_
        exact v_eq (by rw [nI_1, mxV, if_pos (Classical.byContradiction (fun q => c ((nI_lei (by omega) (by omega)).mpr (by omega))))]) rfl ih
  exact key 0 (by omega)

set_option maxRecDepth 100000 in
set_option maxHeartbeats 4000000 in
theorem m_fewest {F : zF} {h : zH} {m : Nat} {R : Nat → Nat} {tp fk fp cn ha un dm wk pm cu ct dt pt hg th at9 sz : Int32} {hl pd hlt pdt : Int64} (hm : h.1 m = some (oM R tp fk fp cn ha un dm wk hl pd pm cu ct dt hlt pdt pt hg th at9 sz)) {V : Nat → Int32} (k2 : h.1 (R 2) = some (aI 4 V)) {v : Nat → Nat} (hV : nIs V v 4) (hv9 : ∀ k, v k ≤ 9) : zMet F yX8_fewest cX8_fewest 3 (some .int) { frames := 1, cells := 0, slots := 0, locals := 30 } [.ref m] h (zP h (some (.int (nI (mnV v 4))))) := by
  refine zMet_of (lv := [(0, .ref m)]) (by decide) (by simp [lg_sl, Value.category]) rfl ?_
  intro X g z
  refine v_blk g [.bipush 9, .istore_n 1, .iconst 0, .istore_n 2] (pc' := 5) (lv' := [(2, .int (0 : Int32)), (1, .int (9 : Int32)), (0, .ref m)]) (st' := []) (by decide +kernel) rfl rfl ?_
  have key : ∀ i, i ≤ 4 → zV F X h 5 [(2, .int (nI i)), (1, .int (nI (mnV v i))), (0, .ref m)] [] := by
    refine z_up (P := fun i => zV F X h 5 [(2, .int (nI i)), (1, .int (nI (mnV v i))), (0, .ref m)] []) 4 ?_ ?_
    · refine v_blk g [.iload_n 2, .iconst 4] (pc' := 7) (lv' := [(2, .int (nI 4)), (1, .int (nI (mnV v 4))), (0, .ref m)]) (st' := [.int (4 : Int32), .int (nI 4)]) (by decide +kernel) rfl rfl ?_
      refine v_icmp_ge g (off := 30) (tgt := 37) (by decide +kernel) (by decide) (fun _ => ?_) (fun c => absurd c (fun q => q (by decide)))
      refine v_blk g [.iload_n 1] (pc' := 38) (lv' := [(2, .int (nI 4)), (1, .int (nI (mnV v 4))), (0, .ref m)]) (st' := [.int (nI (mnV v 4))]) (by decide +kernel) rfl rfl ?_
      exact v_iret g z rfl (by decide +kernel) ⟨rfl, rfl⟩ (zcrn 0 0 rfl rfl (Nat.le_of_ble_eq_true rfl) (Nat.le_of_ble_eq_true rfl))
    · intro i hi ih
      have v1 := hv9 i
      have v2 := mnV_le v i
      refine v_blk g [.iload_n 2, .iconst 4] (pc' := 7) (lv' := [(2, .int (nI i)), (1, .int (nI (mnV v i))), (0, .ref m)]) (st' := [.int (4 : Int32), .int (nI i)]) (by decide +kernel) rfl rfl ?_
      refine v_icmp_ge g (off := 30) (tgt := 37) (by decide +kernel) (by decide) (fun c => absurd c (nI_ge (b := 4) hi (by decide))) (fun _ => ?_)
      refine v_blk g [.aload_n 0] (pc' := 11) (lv' := [(2, .int (nI i)), (1, .int (nI (mnV v i))), (0, .ref m)]) (st' := [.ref m]) (by decide +kernel) rfl rfl ?_
      refine v_get g hm fl_X8_16 rfl (by decide +kernel) ?_
      refine v_blk g [.iload_n 2] (pc' := 15) (lv' := [(2, .int (nI i)), (1, .int (nI (mnV v i))), (0, .ref m)]) (st' := [.int (nI i), .ref (R 2)]) (by decide +kernel) rfl rfl ?_
      refine v_iald g k2 i rfl hi (Nat.le_of_ble_eq_true rfl) (by decide +kernel) ?_
      refine v_ti (z := nI (v i)) (hV i hi) ?_
      refine v_blk g [.iload_n 1] (pc' := 17) (lv' := [(2, .int (nI i)), (1, .int (nI (mnV v i))), (0, .ref m)]) (st' := [.int (nI (mnV v i)), .int (nI (v i))]) (by decide +kernel) rfl rfl ?_
      refine v_icmp_ge g (off := 12) (tgt := 29) (by decide +kernel) (by decide) (fun c => ?_) (fun c => ?_)
      · refine v_blk g [.iload_n 1, .istore_n 1, .iinc 2 1] (pc' := 34) (lv' := [(2, .int ((nI i) + (1 : Int32))), (1, .int (nI (mnV v i))), (0, .ref m)]) (st' := []) (by decide +kernel) rfl rfl ?_
        refine v_goto g (off := -29) (tgt := 5) (by decide +kernel) (by decide) ?_
        refine v_lv [0, 1, 2] (lv' := [(2, .int ((nI i) + (1 : Int32))), (1, .int (nI (mnV v i))), (0, .ref m)]) rfl ?_
        exact v_eq (by rw [nI_1, mnV, if_neg (fun q => by have := (nI_lei (by omega) (by omega)).mp c; omega)]) rfl ih
      · refine v_blk g [.aload_n 0] (pc' := 21) (lv' := [(2, .int (nI i)), (1, .int (nI (mnV v i))), (0, .ref m)]) (st' := [.ref m]) (by decide +kernel) rfl rfl ?_
        refine v_get g hm fl_X8_16 rfl (by decide +kernel) ?_
        refine v_blk g [.iload_n 2] (pc' := 25) (lv' := [(2, .int (nI i)), (1, .int (nI (mnV v i))), (0, .ref m)]) (st' := [.int (nI i), .ref (R 2)]) (by decide +kernel) rfl rfl ?_
        refine v_iald g k2 i rfl hi (Nat.le_of_ble_eq_true rfl) (by decide +kernel) ?_
        refine v_ti (z := nI (v i)) (hV i hi) ?_
        refine v_goto g (off := 4) (tgt := 30) (by decide +kernel) (by decide) ?_
        refine v_blk g [.istore_n 1, .iinc 2 1] (pc' := 34) (lv' := [(2, .int ((nI i) + (1 : Int32))), (1, .int (nI (v i))), (0, .ref m)]) (st' := []) (by decide +kernel) rfl rfl ?_
        refine v_goto g (off := -29) (tgt := 5) (by decide +kernel) (by decide) ?_
        refine v_lv [0, 1, 2] (lv' := [(2, .int ((nI i) + (1 : Int32))), (1, .int (nI (v i))), (0, .ref m)]) rfl ?_
        exact v_eq (by rw [nI_1, mnV, if_pos (Classical.byContradiction (fun q => c ((nI_lei (by omega) (by omega)).mpr (by omega))))]) rfl ih
  exact key 0 (by omega)
