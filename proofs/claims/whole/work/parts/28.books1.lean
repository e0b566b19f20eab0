/-! Books: questions -/
abbrev zD : Type := Int32 × Int32 × Int32 × Int64 × Int64 × Int64
abbrev oD (x : zD) : zE := oB 2 [.int x.1, .int x.2.1, .int x.2.2.1, .long x.2.2.2.1, .long x.2.2.2.2.1, .long x.2.2.2.2.2]
def x_at (C : Nat → Option Nat) (n : Nat) (v : Int32) : Option Nat := if v < 0 then none else if nI n ≤ v then none else C v.toNatClampNeg
theorem x_at_in {C : Nat → Option Nat} {n i : Nat} (hi : i < n) (hn : n ≤ 1000) : x_at C n (nI i) = C i := by
  rw [x_at, if_neg (nI_pos (by omega)), if_neg (nI_ge hi (by omega)), nI_clamp (by omega)]
theorem x_at_out {C : Nat → Option Nat} {n i : Nat} (hi : n ≤ i) (hn : i ≤ 1000) : x_at C n (nI i) = none := by
  rw [x_at, if_neg (nI_pos (by omega)), if_pos (nI_le hi (by omega))]
def sumL (k : Nat → Int64) : Nat → Int64
  | 0 => 0
  | n + 1 => sumL k n + k n
def sumI (k : Nat → Int32) : Nat → Int32
  | 0 => 0
  | n + 1 => sumI k n + k n

set_option maxRecDepth 100000 in
set_option maxHeartbeats 4000000 in
theorem c_Bk_couponAt {F : zF} {h : zH} {b oc cs ds pz pq ch dh ph : Nat} {wk : Int32} {hm pm : Int64} (hb : h.1 b = some (oB 0 [.int wk, .long hm, .long pm, .ref oc, .ref cs, .int (nI ch), .ref ds, .int (nI dh), .ref pz, .ref pq, .int (nI ph)])) {C : Nat → Option Nat} (hcs : h.1 cs = some (aQ 4 20 C)) (hn : ch ≤ 20) (v : Int32) : zMet F yX0_couponAt cX0_couponAt 2 (some (.object "PoolsHall$Coupon")) { frames := 1, cells := 0, slots := 0, locals := 30 } [.ref b, .int v] h (zP h (some (va_rf (x_at C ch v)))) := by
  refine zMet_of (lv := [(0, .ref b), (1, .int v)]) (by decide) (by simp [lg_sl, Value.category]) rfl ?_
  intro X g z
  refine v_blk g [.iload_n 1] (pc' := 1) (lv' := [(0, .ref b), (1, .int v)]) (st' := [.int v]) (by decide +kernel) rfl rfl ?_
  refine v_if_lt g (off := 26) (tgt := 27) (by decide +kernel) (by decide) (fun c0 => ?_) (fun c0 => ?_)
  · refine v_blk g [.aconst_null] (pc' := 28) (lv' := [(0, .ref b), (1, .int v)]) (st' := [.null]) (by decide +kernel) rfl rfl ?_
    exact v_aret (r := none) g z rfl (by decide +kernel) ⟨by rw [x_at, if_pos c0], rfl⟩ (zcrn 0 0 rfl rfl (Nat.le_of_ble_eq_true rfl) (Nat.le_of_ble_eq_true rfl))
  · refine v_blk g [.iload_n 1, .aload_n 0] (pc' := 6) (lv' := [(0, .ref b), (1, .int v)]) (st' := [.ref b, .int v]) (by decide +kernel) rfl rfl ?_
    refine v_get g hb fl_X0_52 rfl (by decide +kernel) ?_
    refine v_icmp_ge g (off := 18) (tgt := 27) (by decide +kernel) (by decide) (fun c1 => ?_) (fun c1 => ?_)
    · refine v_blk g [.aconst_null] (pc' := 28) (lv' := [(0, .ref b), (1, .int v)]) (st' := [.null]) (by decide +kernel) rfl rfl ?_
      exact v_aret (r := none) g z rfl (by decide +kernel) ⟨by rw [x_at, if_neg c0, if_pos c1], rfl⟩ (zcrn 0 0 rfl rfl (Nat.le_of_ble_eq_true rfl) (Nat.le_of_ble_eq_true rfl))
    · obtain ⟨k, hk, rfl⟩ : ∃ k : Nat, k < ch ∧ v = nI k := by
        rcases pk_ix v (n := ch) (by omega) with q | q | ⟨k, q1, q2⟩
        · exact absurd q c0
        · exact absurd q c1
        · exact ⟨k, q1, q2⟩
      refine v_blk g [.iload_n 1, .bipush 20] (pc' := 15) (lv' := [(0, .ref b), (1, .int (nI k))]) (st' := [.int (20 : Int32), .int (nI k)]) (by decide +kernel) rfl rfl ?_
      refine v_icmp_ge g (off := 12) (tgt := 27) (by decide +kernel) (by decide) (fun c => absurd c (nI_ge (b := 20) (by omega) (by decide))) (fun _ => ?_)
      refine v_blk g [.aload_n 0] (pc' := 19) (lv' := [(0, .ref b), (1, .int (nI k))]) (st' := [.ref b]) (by decide +kernel) rfl rfl ?_
      refine v_get g hb fl_X0_23 rfl (by decide +kernel) ?_
      refine v_blk g [.iload_n 1] (pc' := 23) (lv' := [(0, .ref b), (1, .int (nI k))]) (st' := [.int (nI k), .ref cs]) (by decide +kernel) rfl rfl ?_
      refine v_aald4 g hcs k rfl (by omega) (Nat.le_of_ble_eq_true rfl) (by decide +kernel) ?_
      refine v_goto g (off := 4) (tgt := 28) (by decide +kernel) (by decide) ?_
      exact v_aret (r := C k) g z rfl (by decide +kernel) ⟨by rw [x_at_in hk (by omega)], rfl⟩ (zcrn 0 0 rfl rfl (Nat.le_of_ble_eq_true rfl) (Nat.le_of_ble_eq_true rfl))

set_option maxRecDepth 100000 in
set_option maxHeartbeats 4000000 in
theorem c_Bk_divAt {F : zF} {h : zH} {b oc cs ds pz pq ch dh ph : Nat} {wk : Int32} {hm pm : Int64} (hb : h.1 b = some (oB 0 [.int wk, .long hm, .long pm, .ref oc, .ref cs, .int (nI ch), .ref ds, .int (nI dh), .ref pz, .ref pq, .int (nI ph)])) {C : Nat → Option Nat} (hds : h.1 ds = some (aQ 5 4 C)) (hn : dh ≤ 4) (v : Int32) : zMet F yX0_dividendAt cX0_dividendAt 2 (some (.object "PoolsHall$Dividend")) { frames := 1, cells := 0, slots := 0, locals := 30 } [.ref b, .int v] h (zP h (some (va_rf (x_at C dh v)))) := by
  refine zMet_of (lv := [(0, .ref b), (1, .int v)]) (by decide) (by simp [lg_sl, Value.category]) rfl ?_
  intro X g z
  refine v_blk g [.iload_n 1] (pc' := 1) (lv' := [(0, .ref b), (1, .int v)]) (st' := [.int v]) (by decide +kernel) rfl rfl ?_
  refine v_if_lt g (off := 25) (tgt := 26) (by decide +kernel) (by decide) (fun c0 => ?_) (fun c0 => ?_)
  · refine v_blk g [.aconst_null] (pc' := 27) (lv' := [(0, .ref b), (1, .int v)]) (st' := [.null]) (by decide +kernel) rfl rfl ?_
    exact v_aret (r := none) g z rfl (by decide +kernel) ⟨by rw [x_at, if_pos c0], rfl⟩ (zcrn 0 0 rfl rfl (Nat.le_of_ble_eq_true rfl) (Nat.le_of_ble_eq_true rfl))
  · refine v_blk g [.iload_n 1, .aload_n 0] (pc' := 6) (lv' := [(0, .ref b), (1, .int v)]) (st' := [.ref b, .int v]) (by decide +kernel) rfl rfl ?_
    refine v_get g hb fl_X0_55 rfl (by decide +kernel) ?_
    refine v_icmp_ge g (off := 17) (tgt := 26) (by decide +kernel) (by decide) (fun c1 => ?_) (fun c1 => ?_)
    · refine v_blk g [.aconst_null] (pc' := 27) (lv' := [(0, .ref b), (1, .int v)]) (st' := [.null]) (by decide +kernel) rfl rfl ?_
      exact v_aret (r := none) g z rfl (by decide +kernel) ⟨by rw [x_at, if_neg c0, if_pos c1], rfl⟩ (zcrn 0 0 rfl rfl (Nat.le_of_ble_eq_true rfl) (Nat.le_of_ble_eq_true rfl))
    · obtain ⟨k, hk, rfl⟩ : ∃ k : Nat, k < dh ∧ v = nI k := by
        rcases pk_ix v (n := dh) (by omega) with q | q | ⟨k, q1, q2⟩
        · exact absurd q c0
        · exact absurd q c1
        · exact ⟨k, q1, q2⟩
      refine v_blk g [.iload_n 1, .iconst 4] (pc' := 14) (lv' := [(0, .ref b), (1, .int (nI k))]) (st' := [.int (4 : Int32), .int (nI k)]) (by decide +kernel) rfl rfl ?_
      refine v_icmp_ge g (off := 12) (tgt := 26) (by decide +kernel) (by decide) (fun c => absurd c (nI_ge (b := 4) (by omega) (by decide))) (fun _ => ?_)
      refine v_blk g [.aload_n 0] (pc' := 18) (lv' := [(0, .ref b), (1, .int (nI k))]) (st' := [.ref b]) (by decide +kernel) rfl rfl ?_
      refine v_get g hb fl_X0_29 rfl (by decide +kernel) ?_
      refine v_blk g [.iload_n 1] (pc' := 22) (lv' := [(0, .ref b), (1, .int (nI k))]) (st' := [.int (nI k), .ref ds]) (by decide +kernel) rfl rfl ?_
      refine v_aald5 g hds k rfl (by omega) (Nat.le_of_ble_eq_true rfl) (by decide +kernel) ?_
      refine v_goto g (off := 4) (tgt := 27) (by decide +kernel) (by decide) ?_
      exact v_aret (r := C k) g z rfl (by decide +kernel) ⟨by rw [x_at_in hk (by omega)], rfl⟩ (zcrn 0 0 rfl rfl (Nat.le_of_ble_eq_true rfl) (Nat.le_of_ble_eq_true rfl))

set_option maxRecDepth 100000 in
set_option maxHeartbeats 4000000 in
theorem c_Bk_decided {F : zF} {h : zH} {b oc cs ds pz pq ch dh ph : Nat} {wk : Int32} {hm pm : Int64} (hb : h.1 b = some (oB 0 [.int wk, .long hm, .long pm, .ref oc, .ref cs, .int (nI ch), .ref ds, .int (nI dh), .ref pz, .ref pq, .int (nI ph)])) {O : Nat → Int32} (hoc : h.1 oc = some (aI 14 O)) : zMet F yX0_matchesDecided cX0_matchesDecided 3 (some .int) { frames := 1, cells := 0, slots := 0, locals := 30 } [.ref b] h (zP h (some (.int (nI (fb_ct (fun m => decide (¬ O m = -1)) 14))))) := by
  refine zMet_of (lv := [(0, .ref b)]) (by decide) (by simp [lg_sl, Value.category]) rfl ?_
  intro X g z
  refine v_blk g [.iconst 0, .istore_n 1, .iconst 0, .istore_n 2] (pc' := 4) (lv' := [(2, .int (0 : Int32)), (1, .int (0 : Int32)), (0, .ref b)]) (st' := []) (by decide +kernel) rfl rfl ?_
  have key : ∀ i, i ≤ 14 → zV F X h 4 [(2, .int (nI i)), (1, .int (nI (fb_ct (fun m => decide (¬ O m = -1)) i))), (0, .ref b)] [] := by
    refine z_up (P := fun i => zV F X h 4 [(2, .int (nI i)), (1, .int (nI (fb_ct (fun m => decide (¬ O m = -1)) i))), (0, .ref b)] []) 14 ?_ ?_
    · refine v_blk g [.iload_n 2, .bipush 14] (pc' := 7) (lv' := [(2, .int (nI 14)), (1, .int (nI (fb_ct (fun m => decide (¬ O m = -1)) 14))), (0, .ref b)]) (st' := [.int (14 : Int32), .int (nI 14)]) (by decide +kernel) rfl rfl ?_
      refine v_icmp_ge g (off := 27) (tgt := 34) (by decide +kernel) (by decide) (fun _ => ?_) (fun c => absurd c (fun q => q (by decide)))
      refine v_blk g [.iload_n 1] (pc' := 35) (lv' := [(2, .int (nI 14)), (1, .int (nI (fb_ct (fun m => decide (¬ O m = -1)) 14))), (0, .ref b)]) (st' := [.int (nI (fb_ct (fun m => decide (¬ O m = -1)) 14))]) (by decide +kernel) rfl rfl ?_
      exact v_iret g z rfl (by decide +kernel) ⟨rfl, rfl⟩ (zcrn 0 0 rfl rfl (Nat.le_of_ble_eq_true rfl) (Nat.le_of_ble_eq_true rfl))
    · intro i hi ih
      refine v_blk g [.iload_n 2, .bipush 14] (pc' := 7) (lv' := [(2, .int (nI i)), (1, .int (nI (fb_ct (fun m => decide (¬ O m = -1)) i))), (0, .ref b)]) (st' := [.int (14 : Int32), .int (nI i)]) (by decide +kernel) rfl rfl ?_
      refine v_icmp_ge g (off := 27) (tgt := 34) (by decide +kernel) (by decide) (fun c => absurd c (nI_ge (b := 14) hi (by decide))) (fun _ => ?_)
      refine v_blk g [.iload_n 1, .aload_n 0] (pc' := 12) (lv' := [(2, .int (nI i)), (1, .int (nI (fb_ct (fun m => decide (¬ O m = -1)) i))), (0, .ref b)]) (st' := [.ref b, .int (nI (fb_ct (fun m => decide (¬ O m = -1)) i))]) (by decide +kernel) rfl rfl ?_
      refine v_get g hb fl_X0_9 rfl (by decide +kernel) ?_
      refine v_blk g [.iload_n 2] (pc' := 16) (lv' := [(2, .int (nI i)), (1, .int (nI (fb_ct (fun m => decide (¬ O m = -1)) i))), (0, .ref b)]) (st' := [.int (nI i), .ref oc, .int (nI (fb_ct (fun m => decide (¬ O m = -1)) i))]) (by decide +kernel) rfl rfl ?_
      refine v_iald g hoc i rfl hi (Nat.le_of_ble_eq_true rfl) (by decide +kernel) ?_
      refine v_blk g [.iconst (-1)] (pc' := 18) (lv' := [(2, .int (nI i)), (1, .int (nI (fb_ct (fun m => decide (¬ O m = -1)) i))), (0, .ref b)]) (st' := [.int (-1 : Int32), .int (O i), .int (nI (fb_ct (fun m => decide (¬ O m = -1)) i))]) (by decide +kernel) rfl rfl ?_
      refine v_icmp_eq g (off := 7) (tgt := 25) (by decide +kernel) (by decide) (fun c => ?_) (fun c => ?_)
      · refine v_blk g [.iconst 0, .iadd, .istore_n 1, .iinc 2 1] (pc' := 31) (lv' := [(2, .int ((nI i) + (1 : Int32))), (1, .int ((nI (fb_ct (fun m => decide (¬ O m = -1)) i)) + (0 : Int32))), (0, .ref b)]) (st' := []) (by decide +kernel) rfl rfl ?_
        refine v_goto g (off := -27) (tgt := 4) (by decide +kernel) (by decide) ?_
        refine v_lv [0, 1, 2] (lv' := [(2, .int ((nI i) + (1 : Int32))), (1, .int ((nI (fb_ct (fun m => decide (¬ O m = -1)) i)) + (0 : Int32))), (0, .ref b)]) rfl ?_
        exact v_eq (by rw [nI_1, fb_ct_succ, show decide (¬ O i = -1) = false from decide_eq_false (fun q => q c), show (0 : Int32) = nI 0 from rfl, nI_add]; rfl) rfl ih
      · refine v_blk g [.iconst 1] (pc' := 22) (lv' := [(2, .int (nI i)), (1, .int (nI (fb_ct (fun m => decide (¬ O m = -1)) i))), (0, .ref b)]) (st' := [.int (1 : Int32), .int (nI (fb_ct (fun m => decide (¬ O m = -1)) i))]) (by decide +kernel) rfl rfl ?_
        refine v_goto g (off := 4) (tgt := 26) (by decide +kernel) (by decide) ?_
        refine v_blk g [.iadd, .istore_n 1, .iinc 2 1] (pc' := 31) (lv' := [(2, .int ((nI i) + (1 : Int32))), (1, .int ((nI (fb_ct (fun m => decide (¬ O m = -1)) i)) + (1 : Int32))), (0, .ref b)]) (st' := []) (by decide +kernel) rfl rfl ?_
        refine v_goto g (off := -27) (tgt := 4) (by decide +kernel) (by decide) ?_
        refine v_lv [0, 1, 2] (lv' := [(2, .int ((nI i) + (1 : Int32))), (1, .int ((nI (fb_ct (fun m => decide (¬ O m = -1)) i)) + (1 : Int32))), (0, .ref b)]) rfl ?_
        exact v_eq (by rw [nI_1, fb_ct_succ, show decide (¬ O i = -1) = true from decide_eq_true c, show (1 : Int32) = nI 1 from rfl, nI_add]; rfl) rfl ih
  exact key 0 (by omega)

set_option maxRecDepth 100000 in
set_option maxHeartbeats 4000000 in
theorem c_Bk_carried {F : zF} {h : zH} {b oc cs ds pz pq ch dh ph : Nat} {wk : Int32} {hm pm : Int64} (hb : h.1 b = some (oB 0 [.int wk, .long hm, .long pm, .ref oc, .ref cs, .int (nI ch), .ref ds, .int (nI dh), .ref pz, .ref pq, .int (nI ph)])) {D : Nat → Option Nat} {da : Nat → Nat} {E : Nat → zD} (hds : h.1 ds = some (aQ 5 4 D)) (hD : ∀ e, e < 4 → D e = some (da e)) (hdv : ∀ e, e < 4 → h.1 (da e) = some (oD (E e))) (hdh : dh ≤ 4) : zMet F yX0_carriedMoney cX0_carriedMoney 4 (some .long) { frames := 1, cells := 0, slots := 0, locals := 30 } [.ref b] h (zP h (some (.long (sumL (fun d => (E d).2.2.2.1) dh)))) := by
  refine zMet_of (lv := [(0, .ref b)]) (by decide) (by simp [lg_sl, Value.category]) rfl ?_
  intro X g z
  refine v_blk g [.lconst 0, .lstore_n 1, .iconst 0, .istore_n 3] (pc' := 4) (lv' := [(3, .int (0 : Int32)), (1, .long (0 : Int64)), (0, .ref b)]) (st' := []) (by decide +kernel) rfl rfl ?_
  have key : ∀ i, i ≤ dh → zV F X h 4 [(3, .int (nI i)), (1, .long (sumL (fun d => (E d).2.2.2.1) i)), (0, .ref b)] [] := by
    refine z_up (P := fun i => zV F X h 4 [(3, .int (nI i)), (1, .long (sumL (fun d => (E d).2.2.2.1) i)), (0, .ref b)] []) dh ?_ ?_
    · refine v_blk g [.iload_n 3, .aload_n 0] (pc' := 6) (lv' := [(3, .int (nI dh)), (1, .long (sumL (fun d => (E d).2.2.2.1) dh)), (0, .ref b)]) (st' := [.ref b, .int (nI dh)]) (by decide +kernel) rfl rfl ?_
      refine v_get g hb fl_X0_55 rfl (by decide +kernel) ?_
      refine v_icmp_ge g (off := 21) (tgt := 30) (by decide +kernel) (by decide) (fun _ => ?_) (fun c => absurd c (fun q => q (nI_le (Nat.le_refl _) (by omega))))
      refine v_blk g [.lload_n 1] (pc' := 31) (lv' := [(3, .int (nI dh)), (1, .long (sumL (fun d => (E d).2.2.2.1) dh)), (0, .ref b)]) (st' := [.long (sumL (fun d => (E d).2.2.2.1) dh)]) (by decide +kernel) rfl rfl ?_
      exact v_lret g z rfl (by decide +kernel) ⟨rfl, rfl⟩ (zcrn 0 0 rfl rfl (Nat.le_of_ble_eq_true rfl) (Nat.le_of_ble_eq_true rfl))
    · intro i hi ih
      refine v_blk g [.iload_n 3, .aload_n 0] (pc' := 6) (lv' := [(3, .int (nI i)), (1, .long (sumL (fun d => (E d).2.2.2.1) i)), (0, .ref b)]) (st' := [.ref b, .int (nI i)]) (by decide +kernel) rfl rfl ?_
      refine v_get g hb fl_X0_55 rfl (by decide +kernel) ?_
      refine v_icmp_ge g (off := 21) (tgt := 30) (by decide +kernel) (by decide) (fun c => absurd c (nI_ge hi (by omega))) (fun _ => ?_)
      refine v_blk g [.lload_n 1, .aload_n 0] (pc' := 14) (lv' := [(3, .int (nI i)), (1, .long (sumL (fun d => (E d).2.2.2.1) i)), (0, .ref b)]) (st' := [.ref b, .long (sumL (fun d => (E d).2.2.2.1) i)]) (by decide +kernel) rfl rfl ?_
      refine v_get g hb fl_X0_29 rfl (by decide +kernel) ?_
      refine v_blk g [.iload_n 3] (pc' := 18) (lv' := [(3, .int (nI i)), (1, .long (sumL (fun d => (E d).2.2.2.1) i)), (0, .ref b)]) (st' := [.int (nI i), .ref ds, .long (sumL (fun d => (E d).2.2.2.1) i)]) (by decide +kernel) rfl rfl ?_
      refine v_aald5 g hds i rfl (by omega) (Nat.le_of_ble_eq_true rfl) (by decide +kernel) ?_
      refine v_st (st' := [.ref (da i), .long (sumL (fun d => (E d).2.2.2.1) i)]) (by rw [show D i = some (da i) from hD i (by omega)]; rfl) ?_
      refine v_get g (hdv i (by omega)) fl_X0_93 rfl (by decide +kernel) ?_
      refine v_blk g [.ladd, .lstore_n 1, .iinc 3 1] (pc' := 27) (lv' := [(3, .int ((nI i) + (1 : Int32))), (1, .long ((sumL (fun d => (E d).2.2.2.1) i) + ((E i).2.2.2.1))), (0, .ref b)]) (st' := []) (by decide +kernel) rfl rfl ?_
      refine v_goto g (off := -23) (tgt := 4) (by decide +kernel) (by decide) ?_
      refine v_lv [0, 1, 2] (lv' := [(3, .int ((nI i) + (1 : Int32))), (1, .long ((sumL (fun d => (E d).2.2.2.1) i) + ((E i).2.2.2.1))), (0, .ref b)]) rfl ?_
      exact v_eq (by rw [nI_1]; rfl) rfl ih
  exact key 0 (by omega)

set_option maxRecDepth 100000 in
set_option maxHeartbeats 4000000 in
theorem c_Bk_shares {F : zF} {h : zH} {b oc cs ds pz pq ch dh ph : Nat} {wk : Int32} {hm pm : Int64} (hb : h.1 b = some (oB 0 [.int wk, .long hm, .long pm, .ref oc, .ref cs, .int (nI ch), .ref ds, .int (nI dh), .ref pz, .ref pq, .int (nI ph)])) {D : Nat → Option Nat} {da : Nat → Nat} {E : Nat → zD} (hds : h.1 ds = some (aQ 5 4 D)) (hD : ∀ e, e < 4 → D e = some (da e)) (hdv : ∀ e, e < 4 → h.1 (da e) = some (oD (E e))) (hdh : dh ≤ 4) : zMet F yX0_sharesTogether cX0_sharesTogether 3 (some .int) { frames := 1, cells := 0, slots := 0, locals := 30 } [.ref b] h (zP h (some (.int (sumI (fun d => (E d).2.1) dh)))) := by
  refine zMet_of (lv := [(0, .ref b)]) (by decide) (by simp [lg_sl, Value.category]) rfl ?_
  intro X g z
  refine v_blk g [.iconst 0, .istore_n 1, .iconst 0, .istore_n 2] (pc' := 4) (lv' := [(2, .int (0 : Int32)), (1, .int (0 : Int32)), (0, .ref b)]) (st' := []) (by decide +kernel) rfl rfl ?_
  have key : ∀ i, i ≤ dh → zV F X h 4 [(2, .int (nI i)), (1, .int (sumI (fun d => (E d).2.1) i)), (0, .ref b)] [] := by
    refine z_up (P := fun i => zV F X h 4 [(2, .int (nI i)), (1, .int (sumI (fun d => (E d).2.1) i)), (0, .ref b)] []) dh ?_ ?_
    · refine v_blk g [.iload_n 2, .aload_n 0] (pc' := 6) (lv' := [(2, .int (nI dh)), (1, .int (sumI (fun d => (E d).2.1) dh)), (0, .ref b)]) (st' := [.ref b, .int (nI dh)]) (by decide +kernel) rfl rfl ?_
      refine v_get g hb fl_X0_55 rfl (by decide +kernel) ?_
      refine v_icmp_ge g (off := 21) (tgt := 30) (by decide +kernel) (by decide) (fun _ => ?_) (fun c => absurd c (fun q => q (nI_le (Nat.le_refl _) (by omega))))
      refine v_blk g [.iload_n 1] (pc' := 31) (lv' := [(2, .int (nI dh)), (1, .int (sumI (fun d => (E d).2.1) dh)), (0, .ref b)]) (st' := [.int (sumI (fun d => (E d).2.1) dh)]) (by decide +kernel) rfl rfl ?_
      exact v_iret g z rfl (by decide +kernel) ⟨rfl, rfl⟩ (zcrn 0 0 rfl rfl (Nat.le_of_ble_eq_true rfl) (Nat.le_of_ble_eq_true rfl))
    · intro i hi ih
      refine v_blk g [.iload_n 2, .aload_n 0] (pc' := 6) (lv' := [(2, .int (nI i)), (1, .int (sumI (fun d => (E d).2.1) i)), (0, .ref b)]) (st' := [.ref b, .int (nI i)]) (by decide +kernel) rfl rfl ?_
      refine v_get g hb fl_X0_55 rfl (by decide +kernel) ?_
      refine v_icmp_ge g (off := 21) (tgt := 30) (by decide +kernel) (by decide) (fun c => absurd c (nI_ge hi (by omega))) (fun _ => ?_)
      refine v_blk g [.iload_n 1, .aload_n 0] (pc' := 14) (lv' := [(2, .int (nI i)), (1, .int (sumI (fun d => (E d).2.1) i)), (0, .ref b)]) (st' := [.ref b, .int (sumI (fun d => (E d).2.1) i)]) (by decide +kernel) rfl rfl ?_
      refine v_get g hb fl_X0_29 rfl (by decide +kernel) ?_
      refine v_blk g [.iload_n 2] (pc' := 18) (lv' := [(2, .int (nI i)), (1, .int (sumI (fun d => (E d).2.1) i)), (0, .ref b)]) (st' := [.int (nI i), .ref ds, .int (sumI (fun d => (E d).2.1) i)]) (by decide +kernel) rfl rfl ?_
      refine v_aald5 g hds i rfl (by omega) (Nat.le_of_ble_eq_true rfl) (by decide +kernel) ?_
      refine v_st (st' := [.ref (da i), .int (sumI (fun d => (E d).2.1) i)]) (by rw [show D i = some (da i) from hD i (by omega)]; rfl) ?_
      refine v_get g (hdv i (by omega)) fl_X0_86 rfl (by decide +kernel) ?_
      refine v_blk g [.iadd, .istore_n 1, .iinc 2 1] (pc' := 27) (lv' := [(2, .int ((nI i) + (1 : Int32))), (1, .int ((sumI (fun d => (E d).2.1) i) + ((E i).2.1))), (0, .ref b)]) (st' := []) (by decide +kernel) rfl rfl ?_
      refine v_goto g (off := -23) (tgt := 4) (by decide +kernel) (by decide) ?_
      refine v_lv [0, 1, 2] (lv' := [(2, .int ((nI i) + (1 : Int32))), (1, .int ((sumI (fun d => (E d).2.1) i) + ((E i).2.1))), (0, .ref b)]) rfl ?_
      exact v_eq (by rw [nI_1]; rfl) rfl ih
  exact key 0 (by omega)

set_option maxRecDepth 100000 in
set_option maxHeartbeats 4000000 in
theorem c_Bk_drop {F : zF} {h : zH} {b oc cs ds pz pq ch dh ph : Nat} {wk : Int32} {hm pm : Int64} (hb : h.1 b = some (oB 0 [.int wk, .long hm, .long pm, .ref oc, .ref cs, .int (nI ch), .ref ds, .int (nI dh), .ref pz, .ref pq, .int (nI ph)])) {D : Nat → Option Nat} {da : Nat → Nat} {E : Nat → zD} (hds : h.1 ds = some (aQ 5 4 D)) (hD : ∀ e, e < 4 → D e = some (da e)) (hdv : ∀ e, e < 4 → h.1 (da e) = some (oD (E e))) (hdh : dh ≤ 4) : zMet F yX0_dropDividends cX0_dropDividends 2 (some .int) { frames := 2, cells := 0, slots := 0, locals := 60 } [.ref b] h (zP (z_s h b (oB 0 [.int wk, .long (hm + sumL (fun d => (E d).2.2.2.1) dh), .long pm, .ref oc, .ref cs, .int (nI ch), .ref ds, .int (nI 0), .ref pz, .ref pq, .int (nI ph)])) (some (.int (nI dh)))) := by
  refine zMet_of (lv := [(0, .ref b)]) (by decide) (by simp [lg_sl, Value.category]) rfl ?_
  intro X g z
  refine v_blk g [.aload_n 0] (pc' := 1) (lv' := [(0, .ref b)]) (st' := [.ref b]) (by decide +kernel) rfl rfl ?_
  refine v_get g hb fl_X0_55 rfl (by decide +kernel) ?_
  refine v_blk g [.istore_n 1, .aload_n 0, .dup] (pc' := 7) (lv' := [(1, .int (nI dh)), (0, .ref b)]) (st' := [.ref b, .ref b]) (by decide +kernel) rfl rfl ?_
  refine v_get g hb fl_X0_45 rfl (by decide +kernel) ?_
  refine v_blk g [.aload_n 0] (pc' := 11) (lv' := [(1, .int (nI dh)), (0, .ref b)]) (st' := [.ref b, .long hm, .ref b]) (by decide +kernel) rfl rfl ?_
  refine v_callVp g (rest := [.long hm, .ref b]) (c_Bk_carried hb hds hD hdv hdh) cl_X0_89 hb rfl rfl (Nat.le_of_ble_eq_true rfl) (by decide +kernel) ⟨Nat.le_of_ble_eq_true rfl, Nat.le_of_ble_eq_true rfl⟩ (zcsn 0 0 rfl rfl (Nat.le_of_ble_eq_true rfl) (Nat.le_of_ble_eq_true rfl)) ?_
  show zV F X h 14 [(1, .int (nI dh)), (0, .ref b)] [.long (sumL (fun d => (E d).2.2.2.1) dh), .long hm, .ref b]
  refine v_blk g [.ladd] (pc' := 15) (lv' := [(1, .int (nI dh)), (0, .ref b)]) (st' := [.long (hm + (sumL (fun d => (E d).2.2.2.1) dh)), .ref b]) (by decide +kernel) rfl rfl ?_
  refine v_put g (fs' := [.int wk, .long (hm + (sumL (fun d => (E d).2.2.2.1) dh)), .long pm, .ref oc, .ref cs, .int (nI ch), .ref ds, .int (nI dh), .ref pz, .ref pq, .int (nI ph)]) hb fl_X0_45 rfl rfl (Nat.le_of_ble_eq_true rfl) rfl (by decide +kernel) ?_
  refine v_h (fun h1 eh1 => ?_)
  have h1_c : h1.2.1 = h.2.1 + 0 ∧ h1.2.2 = h.2.2 + 0 := zcs eh1 ⟨rfl, rfl⟩
  have h1_b : h1.1 b = some (oB 0 [.int wk, .long (hm + (sumL (fun d => (E d).2.2.2.1) dh)), .long pm, .ref oc, .ref cs, .int (nI ch), .ref ds, .int (nI dh), .ref pz, .ref pq, .int (nI ph)]) := by rw [eh1]; exact z_s_self _ _ _
  refine v_blk g [.aload_n 0, .iconst 0] (pc' := 20) (lv' := [(1, .int (nI dh)), (0, .ref b)]) (st' := [.int (0 : Int32), .ref b]) (by decide +kernel) rfl rfl ?_
  refine v_put g (fs' := [.int wk, .long (hm + (sumL (fun d => (E d).2.2.2.1) dh)), .long pm, .ref oc, .ref cs, .int (nI ch), .ref ds, .int (0 : Int32), .ref pz, .ref pq, .int (nI ph)]) h1_b fl_X0_55 rfl rfl (Nat.le_of_ble_eq_true rfl) rfl (by decide +kernel) ?_
  refine v_h (fun h2 eh2 => ?_)
  have h2_c : h2.2.1 = h.2.1 + 0 ∧ h2.2.2 = h.2.2 + 0 := zcs eh2 h1_c
  have h2_b : h2.1 b = some (oB 0 [.int wk, .long (hm + (sumL (fun d => (E d).2.2.2.1) dh)), .long pm, .ref oc, .ref cs, .int (nI ch), .ref ds, .int (0 : Int32), .ref pz, .ref pq, .int (nI ph)]) := by rw [eh2]; exact z_s_self _ _ _
  refine v_blk g [.iload_n 1] (pc' := 24) (lv' := [(1, .int (nI dh)), (0, .ref b)]) (st' := [.int (nI dh)]) (by decide +kernel) rfl rfl ?_
  exact v_iret g z rfl (by decide +kernel) ⟨rfl, by rw [eh2, eh1]; simp only [z_ss]; rfl⟩ (zcrn 0 0 h2_c.1 h2_c.2 (Nat.le_of_ble_eq_true rfl) (Nat.le_of_ble_eq_true rfl))

set_option maxRecDepth 100000 in
set_option maxHeartbeats 4000000 in
theorem c_Bk_next {F : zF} {h : zH} {b oc cs ds pz pq ch dh ph : Nat} {wk : Int32} {hm pm : Int64} (hb : h.1 b = some (oB 0 [.int wk, .long hm, .long pm, .ref oc, .ref cs, .int (nI ch), .ref ds, .int (nI dh), .ref pz, .ref pq, .int (nI ph)])) {O : Nat → Int32} (hoc : h.1 oc = some (aI 14 O)) : zMet F yX0_beginNextWeek cX0_beginNextWeek 1 none { frames := 2, cells := 0, slots := 0, locals := 60 } [.ref b] h (zP (z_s (z_s h b (oB 0 [.int (wk + 1), .long hm, .long pm, .ref oc, .ref cs, .int (nI 0), .ref ds, .int (nI dh), .ref pz, .ref pq, .int (nI ph)])) oc (aI 14 (mx (fun _ => (-1 : Int32)) O 14))) none) := by
  refine zMet_of (lv := [(0, .ref b)]) (by decide) (by simp [lg_sl, Value.category]) rfl ?_
  intro X g z
  refine v_blk g [.aload_n 0, .dup] (pc' := 2) (lv' := [(0, .ref b)]) (st' := [.ref b, .ref b]) (by decide +kernel) rfl rfl ?_
  refine v_get g hb fl_X0_41 rfl (by decide +kernel) ?_
  refine v_blk g [.iconst 1, .iadd] (pc' := 7) (lv' := [(0, .ref b)]) (st' := [.int (wk + (1 : Int32)), .ref b]) (by decide +kernel) rfl rfl ?_
  refine v_put g (fs' := [.int (wk + (1 : Int32)), .long hm, .long pm, .ref oc, .ref cs, .int (nI ch), .ref ds, .int (nI dh), .ref pz, .ref pq, .int (nI ph)]) hb fl_X0_41 rfl rfl (Nat.le_of_ble_eq_true rfl) rfl (by decide +kernel) ?_
  refine v_h (fun h1 eh1 => ?_)
  have h1_c : h1.2.1 = h.2.1 + 0 ∧ h1.2.2 = h.2.2 + 0 := zcs eh1 ⟨rfl, rfl⟩
  have h1_b : h1.1 b = some (oB 0 [.int (wk + (1 : Int32)), .long hm, .long pm, .ref oc, .ref cs, .int (nI ch), .ref ds, .int (nI dh), .ref pz, .ref pq, .int (nI ph)]) := by rw [eh1]; exact z_s_self _ _ _
  have h1_oc : h1.1 oc = some (aI 14 O) := by rw [eh1]; exact z_so hoc (Ne.symm (z_ne hb hoc rfl))
  refine v_blk g [.aload_n 0, .iconst 0] (pc' := 12) (lv' := [(0, .ref b)]) (st' := [.int (0 : Int32), .ref b]) (by decide +kernel) rfl rfl ?_
  refine v_put g (fs' := [.int (wk + (1 : Int32)), .long hm, .long pm, .ref oc, .ref cs, .int (0 : Int32), .ref ds, .int (nI dh), .ref pz, .ref pq, .int (nI ph)]) h1_b fl_X0_52 rfl rfl (Nat.le_of_ble_eq_true rfl) rfl (by decide +kernel) ?_
  refine v_h (fun h2 eh2 => ?_)
  have h2_c : h2.2.1 = h.2.1 + 0 ∧ h2.2.2 = h.2.2 + 0 := zcs eh2 h1_c
  have h2_b : h2.1 b = some (oB 0 [.int (wk + (1 : Int32)), .long hm, .long pm, .ref oc, .ref cs, .int (0 : Int32), .ref ds, .int (nI dh), .ref pz, .ref pq, .int (nI ph)]) := by rw [eh2]; exact z_s_self _ _ _
  have h2_oc : h2.1 oc = some (aI 14 O) := by rw [eh2]; exact z_so h1_oc (Ne.symm (z_ne hb hoc rfl))
  refine v_blk g [.aload_n 0] (pc' := 16) (lv' := [(0, .ref b)]) (st' := [.ref b]) (by decide +kernel) rfl rfl ?_
  refine v_get g h2_b fl_X0_9 rfl (by decide +kernel) ?_
  refine v_blk g [.iconst (-1)] (pc' := 20) (lv' := [(0, .ref b)]) (st' := [.int (-1 : Int32), .ref oc]) (by decide +kernel) rfl rfl ?_
  refine v_callSp g (rest := []) (c_fillI (-1) h2_oc (by decide)) cl_X0_15 rfl (Nat.le_of_ble_eq_true rfl) (by decide +kernel) ⟨Nat.le_of_ble_eq_true rfl, Nat.le_of_ble_eq_true rfl⟩ (zcsn 0 0 h2_c.1 h2_c.2 (Nat.le_of_ble_eq_true rfl) (Nat.le_of_ble_eq_true rfl)) ?_
  show zV F X (z_s h2 oc (aI 14 (mx (fun _ => (-1 : Int32)) O 14))) 23 [(0, .ref b)] []
  exact v_vret g z rfl (by decide +kernel) ⟨rfl, by rw [eh2, eh1]; simp only [z_ss]; rfl⟩ (zcrn 0 0 h2_c.1 h2_c.2 (Nat.le_of_ble_eq_true rfl) (Nat.le_of_ble_eq_true rfl))

set_option maxRecDepth 100000 in
set_option maxHeartbeats 4000000 in
theorem c_Bk_addCoupon {F : zF} {h : zH} {b oc cs ds pz pq ch dh ph : Nat} {wk : Int32} {hm pm : Int64} (hb : h.1 b = some (oB 0 [.int wk, .long hm, .long pm, .ref oc, .ref cs, .int (nI ch), .ref ds, .int (nI dh), .ref pz, .ref pq, .int (nI ph)])) {C : Nat → Option Nat} {cp li : Nat} {sz pr pa vd : Int32} (hcs : h.1 cs = some (aQ 4 20 C)) (hc : h.1 cp = some (oB 1 [.ref li, .int sz, .int pr, .int pa, .int vd])) (hn : ch < 20) : zMet F yX0_addCoupon cX0_addCoupon 2 (some .int) { frames := 1, cells := 0, slots := 0, locals := 30 } [.ref b, .ref cp] h (zP (z_s (z_s h cs (aQ 4 20 (va_up C ch (some cp)))) b (oB 0 [.int wk, .long hm, .long pm, .ref oc, .ref cs, .int (nI (ch + 1)), .ref ds, .int (nI dh), .ref pz, .ref pq, .int (nI ph)])) (some (.int (nI ch)))) := by
  refine zMet_of (lv := [(0, .ref b), (1, .ref cp)]) (by decide) (by simp [lg_sl, Value.category]) rfl ?_
  intro X g z
  refine v_blk g [.aload_n 0] (pc' := 1) (lv' := [(0, .ref b), (1, .ref cp)]) (st' := [.ref b]) (by decide +kernel) rfl rfl ?_
  refine v_get g hb fl_X0_52 rfl (by decide +kernel) ?_
  refine v_blk g [.bipush 20] (pc' := 6) (lv' := [(0, .ref b), (1, .ref cp)]) (st' := [.int (20 : Int32), .int (nI ch)]) (by decide +kernel) rfl rfl ?_
  refine v_icmp_lt g (off := 5) (tgt := 11) (by decide +kernel) (by decide) (fun _ => ?_) (fun c => absurd c (fun q => q (nI_lt (b := 20) hn (by decide))))
  refine v_blk g [.aload_n 0] (pc' := 12) (lv' := [(0, .ref b), (1, .ref cp)]) (st' := [.ref b]) (by decide +kernel) rfl rfl ?_
  refine v_get g hb fl_X0_23 rfl (by decide +kernel) ?_
  refine v_blk g [.aload_n 0] (pc' := 16) (lv' := [(0, .ref b), (1, .ref cp)]) (st' := [.ref b, .ref cs]) (by decide +kernel) rfl rfl ?_
  refine v_get g hb fl_X0_52 rfl (by decide +kernel) ?_
  refine v_blk g [.aload_n 1] (pc' := 20) (lv' := [(0, .ref b), (1, .ref cp)]) (st' := [.ref cp, .int (nI ch), .ref cs]) (by decide +kernel) rfl rfl ?_
  refine v_aast4 g (r := (some cp)) hcs (fun v e => by cases e; exact ⟨_, hc⟩) ch rfl hn (Nat.le_of_ble_eq_true rfl) (by decide +kernel) ?_
  refine v_h (fun h1 eh1 => ?_)
  have h1_c : h1.2.1 = h.2.1 + 0 ∧ h1.2.2 = h.2.2 + 0 := zcs eh1 ⟨rfl, rfl⟩
  have h1_b : h1.1 b = some (oB 0 [.int wk, .long hm, .long pm, .ref oc, .ref cs, .int (nI ch), .ref ds, .int (nI dh), .ref pz, .ref pq, .int (nI ph)]) := by rw [eh1]; exact z_so hb (z_ne hb hcs rfl)
  have h1_cs : h1.1 cs = some (aQ 4 20 (va_up C ch (some cp))) := by rw [eh1]; exact z_s_self _ _ _
  have h1_cp : h1.1 cp = some (oB 1 [.ref li, .int sz, .int pr, .int pa, .int vd]) := by rw [eh1]; exact z_so hc (Ne.symm (z_ne hcs hc rfl))
  refine v_blk g [.aload_n 0, .dup] (pc' := 23) (lv' := [(0, .ref b), (1, .ref cp)]) (st' := [.ref b, .ref b]) (by decide +kernel) rfl rfl ?_
  refine v_get g h1_b fl_X0_52 rfl (by decide +kernel) ?_
  refine v_blk g [.iconst 1, .iadd] (pc' := 28) (lv' := [(0, .ref b), (1, .ref cp)]) (st' := [.int ((nI ch) + (1 : Int32)), .ref b]) (by decide +kernel) rfl rfl ?_
  refine v_ti (z := nI (ch + 1)) (nI_1 ch) ?_
  refine v_put g (fs' := [.int wk, .long hm, .long pm, .ref oc, .ref cs, .int (nI (ch + 1)), .ref ds, .int (nI dh), .ref pz, .ref pq, .int (nI ph)]) h1_b fl_X0_52 rfl rfl (Nat.le_of_ble_eq_true rfl) rfl (by decide +kernel) ?_
  refine v_h (fun h2 eh2 => ?_)
  have h2_c : h2.2.1 = h.2.1 + 0 ∧ h2.2.2 = h.2.2 + 0 := zcs eh2 h1_c
  have h2_b : h2.1 b = some (oB 0 [.int wk, .long hm, .long pm, .ref oc, .ref cs, .int (nI (ch + 1)), .ref ds, .int (nI dh), .ref pz, .ref pq, .int (nI ph)]) := by rw [eh2]; exact z_s_self _ _ _
  have h2_cs : h2.1 cs = some (aQ 4 20 (va_up C ch (some cp))) := by rw [eh2]; exact z_so h1_cs (Ne.symm (z_ne hb hcs rfl))
  have h2_cp : h2.1 cp = some (oB 1 [.ref li, .int sz, .int pr, .int pa, .int vd]) := by rw [eh2]; exact z_so h1_cp (Ne.symm (z_ne hb hc rfl))
  refine v_blk g [.aload_n 0] (pc' := 32) (lv' := [(0, .ref b), (1, .ref cp)]) (st' := [.ref b]) (by decide +kernel) rfl rfl ?_
  refine v_get g h2_b fl_X0_52 rfl (by decide +kernel) ?_
  refine v_blk g [.iconst 1, .isub] (pc' := 37) (lv' := [(0, .ref b), (1, .ref cp)]) (st' := [.int ((nI (ch + 1)) - (1 : Int32))]) (by decide +kernel) rfl rfl ?_
  refine v_ti (z := nI ch) (nI_pred ch) ?_
  exact v_iret g z rfl (by decide +kernel) ⟨rfl, by rw [eh2, eh1]⟩ (zcrn 0 0 h2_c.1 h2_c.2 (Nat.le_of_ble_eq_true rfl) (Nat.le_of_ble_eq_true rfl))

def stk (K : Nat → Int32 × Int32 × Int32 × Int32) (q : Nat) : Int64 := if ¬ (K q).2.2.2 = 0 then 0 else ((K q).1 * (K q).2.1).toInt64

set_option maxRecDepth 100000 in
set_option maxHeartbeats 4000000 in
theorem c_Bk_stakes {F : zF} {h : zH} {b oc cs ds pz pq ch dh ph : Nat} {wk : Int32} {hm pm : Int64} (hb : h.1 b = some (oB 0 [.int wk, .long hm, .long pm, .ref oc, .ref cs, .int (nI ch), .ref ds, .int (nI dh), .ref pz, .ref pq, .int (nI ph)])) {C : Nat → Option Nat} {ca cl cw : Nat → Nat} {K : Nat → Int32 × Int32 × Int32 × Int32} (hcs : h.1 cs = some (aQ 4 20 C)) (hC : ∀ q, q < ch → C q = some (ca q)) (hca : ∀ q, q < ch → h.1 (ca q) = some (oB 1 [.ref (cl q), .int (K q).1, .int (K q).2.1, .int (K q).2.2.1, .int (K q).2.2.2])) (hn : ch ≤ 20) : zMet F yX0_stakesInPlay cX0_stakesInPlay 5 (some .long) { frames := 2, cells := 0, slots := 0, locals := 60 } [.ref b] h (zP h (some (.long (sumL (stk K) ch)))) := by
  refine zMet_of (lv := [(0, .ref b)]) (by decide) (by simp [lg_sl, Value.category]) rfl ?_
  intro X g z
  refine v_blk g [.lconst 0, .lstore_n 1, .iconst 0, .istore_n 3] (pc' := 4) (lv' := [(3, .int (0 : Int32)), (1, .long (0 : Int64)), (0, .ref b)]) (st' := []) (by decide +kernel) rfl rfl ?_
  have key : ∀ i, i ≤ ch → zV F X h 4 [(3, .int (nI i)), (1, .long (sumL (stk K) i)), (0, .ref b)] [] := by
    refine z_up (P := fun i => zV F X h 4 [(3, .int (nI i)), (1, .long (sumL (stk K) i)), (0, .ref b)] []) ch ?_ ?_
    · refine v_blk g [.iload_n 3, .aload_n 0] (pc' := 6) (lv' := [(3, .int (nI ch)), (1, .long (sumL (stk K) ch)), (0, .ref b)]) (st' := [.ref b, .int (nI ch)]) (by decide +kernel) rfl rfl ?_
      refine v_get g hb fl_X0_52 rfl (by decide +kernel) ?_
      refine v_icmp_ge g (off := 38) (tgt := 47) (by decide +kernel) (by decide) (fun _ => ?_) (fun c => absurd c (fun q => q (nI_le (Nat.le_refl _) (by omega))))
      refine v_blk g [.lload_n 1] (pc' := 48) (lv' := [(3, .int (nI ch)), (1, .long (sumL (stk K) ch)), (0, .ref b)]) (st' := [.long (sumL (stk K) ch)]) (by decide +kernel) rfl rfl ?_
      exact v_lret g z rfl (by decide +kernel) ⟨rfl, rfl⟩ (zcrn 0 0 rfl rfl (Nat.le_of_ble_eq_true rfl) (Nat.le_of_ble_eq_true rfl))
    · intro i hi ih
      refine v_blk g [.iload_n 3, .aload_n 0] (pc' := 6) (lv' := [(3, .int (nI i)), (1, .long (sumL (stk K) i)), (0, .ref b)]) (st' := [.ref b, .int (nI i)]) (by decide +kernel) rfl rfl ?_
      refine v_get g hb fl_X0_52 rfl (by decide +kernel) ?_
      refine v_icmp_ge g (off := 38) (tgt := 47) (by decide +kernel) (by decide) (fun c => absurd c (nI_ge hi (by omega))) (fun _ => ?_)
      refine v_blk g [.aload_n 0, .iload_n 3] (pc' := 14) (lv' := [(3, .int (nI i)), (1, .long (sumL (stk K) i)), (0, .ref b)]) (st' := [.int (nI i), .ref b]) (by decide +kernel) rfl rfl ?_
      refine v_callVp g (rest := []) (c_Bk_couponAt hb hcs hn _) cl_X0_96 hb rfl rfl (Nat.le_of_ble_eq_true rfl) (by decide +kernel) ⟨Nat.le_of_ble_eq_true rfl, Nat.le_of_ble_eq_true rfl⟩ (zcsn 0 0 rfl rfl (Nat.le_of_ble_eq_true rfl) (Nat.le_of_ble_eq_true rfl)) ?_
      show zV F X h 17 [(3, .int (nI i)), (1, .long (sumL (stk K) i)), (0, .ref b)] [va_rf (x_at C ch (nI i))]
      refine v_st (st' := [.ref (ca i)]) (by rw [show x_at C ch (nI i) = some (ca i) from (x_at_in hi (by omega)).trans (hC i hi)]; rfl) ?_
      refine v_blk g [.astore 4, .aload 4] (pc' := 21) (lv' := [(4, .ref (ca i)), (3, .int (nI i)), (1, .long (sumL (stk K) i)), (0, .ref b)]) (st' := [.ref (ca i)]) (by decide +kernel) rfl rfl ?_
      refine v_ifnull g (r := (some (ca i))) (off := 20) (tgt := 41) (by decide +kernel) (by decide) (fun q => nomatch q) (fun _ _ => ?_)
      refine v_blk g [.aload 4] (pc' := 26) (lv' := [(4, .ref (ca i)), (3, .int (nI i)), (1, .long (sumL (stk K) i)), (0, .ref b)]) (st' := [.ref (ca i)]) (by decide +kernel) rfl rfl ?_
      refine v_get g (hca i hi) fl_X0_100 rfl (by decide +kernel) ?_
      refine v_if_ne g (off := 12) (tgt := 41) (by decide +kernel) (by decide) (fun c => ?_) (fun c => ?_)
      · refine v_blk g [.iinc 3 1] (pc' := 44) (lv' := [(3, .int ((nI i) + (1 : Int32))), (4, .ref (ca i)), (1, .long (sumL (stk K) i)), (0, .ref b)]) (st' := []) (by decide +kernel) rfl rfl ?_
        refine v_goto g (off := -40) (tgt := 4) (by decide +kernel) (by decide) ?_
        refine v_lv [0, 2, 3] (lv' := [(3, .int ((nI i) + (1 : Int32))), (1, .long (sumL (stk K) i)), (0, .ref b)]) rfl ?_
        exact v_eq (by rw [nI_1, show sumL (stk K) (i + 1) = sumL (stk K) i + stk K i from rfl, stk, if_pos c, Int64.add_zero]) rfl ih
      · refine v_blk g [.lload_n 1, .aload 4] (pc' := 35) (lv' := [(4, .ref (ca i)), (3, .int (nI i)), (1, .long (sumL (stk K) i)), (0, .ref b)]) (st' := [.ref (ca i), .long (sumL (stk K) i)]) (by decide +kernel) rfl rfl ?_
        refine v_callVp g (rest := [.long (sumL (stk K) i)]) (c_Cou_stake (hca i hi)) cl_X0_104 (hca i hi) rfl rfl (Nat.le_of_ble_eq_true rfl) (by decide +kernel) ⟨Nat.le_of_ble_eq_true rfl, Nat.le_of_ble_eq_true rfl⟩ (zcsn 0 0 rfl rfl (Nat.le_of_ble_eq_true rfl) (Nat.le_of_ble_eq_true rfl)) ?_
        show zV F X h 38 [(4, .ref (ca i)), (3, .int (nI i)), (1, .long (sumL (stk K) i)), (0, .ref b)] [.int ((K i).1 * (K i).2.1), .long (sumL (stk K) i)]
        refine v_blk g [.i2l, .ladd, .lstore_n 1, .iinc 3 1] (pc' := 44) (lv' := [(3, .int ((nI i) + (1 : Int32))), (1, .long ((sumL (stk K) i) + (((K i).1 * (K i).2.1).toInt64))), (4, .ref (ca i)), (0, .ref b)]) (st' := []) (by decide +kernel) rfl rfl ?_
        refine v_goto g (off := -40) (tgt := 4) (by decide +kernel) (by decide) ?_
        refine v_lv [0, 1, 3] (lv' := [(3, .int ((nI i) + (1 : Int32))), (1, .long ((sumL (stk K) i) + (((K i).1 * (K i).2.1).toInt64))), (0, .ref b)]) rfl ?_
        exact v_eq (by rw [nI_1, show sumL (stk K) (i + 1) = sumL (stk K) i + stk K i from rfl, stk, if_neg (fun q => q c)]) rfl ih
  exact key 0 (by omega)

def x_prize (Z : Nat → Int64) (P : Nat → Int32) (n : Nat) (v p : Int32) : Int64 := if v < 0 then -1 else if nI n ≤ v then -1 else if p = -1 then Z v.toNatClampNeg else if p < 0 then -1 else if P v.toNatClampNeg ≤ p then -1 else if 0 < P v.toNatClampNeg then (if ¬ p = 0 then Z v.toNatClampNeg / (P v.toNatClampNeg).toInt64 else Z v.toNatClampNeg / (P v.toNatClampNeg).toInt64 + (Z v.toNatClampNeg - Z v.toNatClampNeg / (P v.toNatClampNeg).toInt64 * (P v.toNatClampNeg).toInt64)) else -1

set_option maxRecDepth 100000 in
set_option maxHeartbeats 4000000 in
theorem c_Bk_prize {F : zF} {h : zH} {b oc cs ds pz pq ch dh ph : Nat} {wk : Int32} {hm pm : Int64} (hb : h.1 b = some (oB 0 [.int wk, .long hm, .long pm, .ref oc, .ref cs, .int (nI ch), .ref ds, .int (nI dh), .ref pz, .ref pq, .int (nI ph)])) {Z : Nat → Int64} {P : Nat → Int32} (hpz : h.1 pz = some (aJ 20 Z)) (hpq : h.1 pq = some (aI 20 P)) (hn : ph ≤ 20) (v p : Int32) : zMet F yX0_prizeTold cX0_prizeTold 6 (some .long) { frames := 1, cells := 0, slots := 0, locals := 30 } [.ref b, .int v, .int p] h (zP h (some (.long (x_prize Z P ph v p)))) := by
  refine zMet_of (lv := [(0, .ref b), (1, .int v), (2, .int p)]) (by decide) (by simp [lg_sl, Value.category]) rfl ?_
  intro X g z
  refine v_blk g [.iload_n 1] (pc' := 1) (lv' := [(0, .ref b), (1, .int v), (2, .int p)]) (st' := [.int v]) (by decide +kernel) rfl rfl ?_
  refine v_if_lt g (off := 17) (tgt := 18) (by decide +kernel) (by decide) (fun c0 => ?_) (fun c0 => ?_)
  · refine v_ldc2 g kc_X0_149 (by decide +kernel) ?_
    exact v_lret g z rfl (by decide +kernel) ⟨by rw [x_prize, if_pos c0], rfl⟩ (zcrn 0 0 rfl rfl (Nat.le_of_ble_eq_true rfl) (Nat.le_of_ble_eq_true rfl))
  · refine v_blk g [.iload_n 1, .aload_n 0] (pc' := 6) (lv' := [(0, .ref b), (1, .int v), (2, .int p)]) (st' := [.ref b, .int v]) (by decide +kernel) rfl rfl ?_
    refine v_get g hb fl_X0_58 rfl (by decide +kernel) ?_
    refine v_icmp_ge g (off := 9) (tgt := 18) (by decide +kernel) (by decide) (fun c1 => ?_) (fun c1 => ?_)
    · refine v_ldc2 g kc_X0_149 (by decide +kernel) ?_
      exact v_lret g z rfl (by decide +kernel) ⟨by rw [x_prize, if_neg c0, if_pos c1], rfl⟩ (zcrn 0 0 rfl rfl (Nat.le_of_ble_eq_true rfl) (Nat.le_of_ble_eq_true rfl))
    · obtain ⟨k, hk, rfl⟩ : ∃ k : Nat, k < ph ∧ v = nI k := by
        rcases pk_ix v (n := ph) (by omega) with q | q | ⟨k, q1, q2⟩
        · exact absurd q c0
        · exact absurd q c1
        · exact ⟨k, q1, q2⟩
      have ek : (nI k).toNatClampNeg = k := nI_clamp (by omega)
      refine v_blk g [.iload_n 1, .bipush 20] (pc' := 15) (lv' := [(0, .ref b), (1, .int (nI k)), (2, .int p)]) (st' := [.int (20 : Int32), .int (nI k)]) (by decide +kernel) rfl rfl ?_
      refine v_icmp_lt g (off := 7) (tgt := 22) (by decide +kernel) (by decide) (fun _ => ?_) (fun c => absurd c (fun q => q (nI_lt (b := 20) (by omega) (by decide))))
      refine v_blk g [.aload_n 0] (pc' := 23) (lv' := [(0, .ref b), (1, .int (nI k)), (2, .int p)]) (st' := [.ref b]) (by decide +kernel) rfl rfl ?_
      refine v_get g hb fl_X0_38 rfl (by decide +kernel) ?_
      refine v_blk g [.iload_n 1] (pc' := 27) (lv' := [(0, .ref b), (1, .int (nI k)), (2, .int p)]) (st' := [.int (nI k), .ref pq]) (by decide +kernel) rfl rfl ?_
      refine v_iald g hpq k rfl (by omega) (Nat.le_of_ble_eq_true rfl) (by decide +kernel) ?_
      refine v_blk g [.istore_n 3, .iload_n 2, .iconst (-1)] (pc' := 31) (lv' := [(3, .int (P k)), (0, .ref b), (1, .int (nI k)), (2, .int p)]) (st' := [.int (-1 : Int32), .int p]) (by decide +kernel) rfl rfl ?_
      refine v_icmp_ne g (off := 10) (tgt := 41) (by decide +kernel) (by decide) (fun c2 => ?_) (fun c2 => ?_)
      · refine v_blk g [.iload_n 2] (pc' := 42) (lv' := [(3, .int (P k)), (0, .ref b), (1, .int (nI k)), (2, .int p)]) (st' := [.int p]) (by decide +kernel) rfl rfl ?_
        refine v_if_lt g (off := 12) (tgt := 54) (by decide +kernel) (by decide) (fun c3 => ?_) (fun c3 => ?_)
        · refine v_ldc2 g kc_X0_149 (by decide +kernel) ?_
          exact v_lret g z rfl (by decide +kernel) ⟨by rw [x_prize, if_neg c0, if_neg c1, if_neg c2, if_pos c3], rfl⟩ (zcrn 0 0 rfl rfl (Nat.le_of_ble_eq_true rfl) (Nat.le_of_ble_eq_true rfl))
        · refine v_blk g [.iload_n 2, .iload_n 3] (pc' := 47) (lv' := [(3, .int (P k)), (0, .ref b), (1, .int (nI k)), (2, .int p)]) (st' := [.int (P k), .int p]) (by decide +kernel) rfl rfl ?_
          refine v_icmp_ge g (off := 7) (tgt := 54) (by decide +kernel) (by decide) (fun c4 => ?_) (fun c4 => ?_)
          · refine v_ldc2 g kc_X0_149 (by decide +kernel) ?_
            exact v_lret g z rfl (by decide +kernel) ⟨by rw [x_prize, if_neg c0, if_neg c1, if_neg c2, if_neg c3, ek, if_pos c4], rfl⟩ (zcrn 0 0 rfl rfl (Nat.le_of_ble_eq_true rfl) (Nat.le_of_ble_eq_true rfl))
          · refine v_blk g [.iload_n 3] (pc' := 51) (lv' := [(3, .int (P k)), (0, .ref b), (1, .int (nI k)), (2, .int p)]) (st' := [.int (P k)]) (by decide +kernel) rfl rfl ?_
            refine v_if_gt g (off := 7) (tgt := 58) (by decide +kernel) (by decide) (fun c5 => ?_) (fun c5 => ?_)
            · have hz : ¬ (P k).toInt64 = 0 := fun q => by
                have h9 : (P k).toInt64 = (0 : Int32).toInt64 := q
                rw [(fa_wide_eq _ _).mp h9] at c5
                exact absurd c5 (by decide)
              refine v_blk g [.aload_n 0] (pc' := 59) (lv' := [(3, .int (P k)), (0, .ref b), (1, .int (nI k)), (2, .int p)]) (st' := [.ref b]) (by decide +kernel) rfl rfl ?_
              refine v_get g hb fl_X0_34 rfl (by decide +kernel) ?_
              refine v_blk g [.iload_n 1] (pc' := 63) (lv' := [(3, .int (P k)), (0, .ref b), (1, .int (nI k)), (2, .int p)]) (st' := [.int (nI k), .ref pz]) (by decide +kernel) rfl rfl ?_
              refine v_lald g hpz k rfl (by omega) (Nat.le_of_ble_eq_true rfl) (by decide +kernel) ?_
              refine v_blk g [.iload_n 3, .i2l] (pc' := 66) (lv' := [(3, .int (P k)), (0, .ref b), (1, .int (nI k)), (2, .int p)]) (st' := [.long ((P k).toInt64), .long (Z k)]) (by decide +kernel) rfl rfl ?_
              refine v_ldiv g (by decide +kernel) hz ?_
              refine v_blk g [.lstore 4, .iload_n 2] (pc' := 70) (lv' := [(4, .long ((Z k) / ((P k).toInt64))), (3, .int (P k)), (0, .ref b), (1, .int (nI k)), (2, .int p)]) (st' := [.int p]) (by decide +kernel) rfl rfl ?_
              refine v_if_ne g (off := 18) (tgt := 88) (by decide +kernel) (by decide) (fun c6 => ?_) (fun c6 => ?_)
              · refine v_blk g [.lload 4] (pc' := 90) (lv' := [(4, .long ((Z k) / ((P k).toInt64))), (3, .int (P k)), (0, .ref b), (1, .int (nI k)), (2, .int p)]) (st' := [.long ((Z k) / ((P k).toInt64))]) (by decide +kernel) rfl rfl ?_
                exact v_lret g z rfl (by decide +kernel) ⟨by rw [x_prize, if_neg c0, if_neg c1, if_neg c2, if_neg c3, ek, if_neg c4, if_pos c5, if_pos c6], rfl⟩ (zcrn 0 0 rfl rfl (Nat.le_of_ble_eq_true rfl) (Nat.le_of_ble_eq_true rfl))
              · refine v_blk g [.lload 4, .aload_n 0] (pc' := 76) (lv' := [(4, .long ((Z k) / ((P k).toInt64))), (3, .int (P k)), (0, .ref b), (1, .int (nI k)), (2, .int p)]) (st' := [.ref b, .long ((Z k) / ((P k).toInt64))]) (by decide +kernel) rfl rfl ?_
                refine v_get g hb fl_X0_34 rfl (by decide +kernel) ?_
                refine v_blk g [.iload_n 1] (pc' := 80) (lv' := [(4, .long ((Z k) / ((P k).toInt64))), (3, .int (P k)), (0, .ref b), (1, .int (nI k)), (2, .int p)]) (st' := [.int (nI k), .ref pz, .long ((Z k) / ((P k).toInt64))]) (by decide +kernel) rfl rfl ?_
                refine v_lald g hpz k rfl (by omega) (Nat.le_of_ble_eq_true rfl) (by decide +kernel) ?_
                refine v_blk g [.iload_n 3, .i2l] (pc' := 83) (lv' := [(4, .long ((Z k) / ((P k).toInt64))), (3, .int (P k)), (0, .ref b), (1, .int (nI k)), (2, .int p)]) (st' := [.long ((P k).toInt64), .long (Z k), .long ((Z k) / ((P k).toInt64))]) (by decide +kernel) rfl rfl ?_
                refine v_lrem g (by decide +kernel) hz ?_
                refine v_blk g [.ladd] (pc' := 85) (lv' := [(4, .long ((Z k) / ((P k).toInt64))), (3, .int (P k)), (0, .ref b), (1, .int (nI k)), (2, .int p)]) (st' := [.long (((Z k) / ((P k).toInt64)) + ((Z k) - (Z k) / ((P k).toInt64) * ((P k).toInt64)))]) (by decide +kernel) rfl rfl ?_
                refine v_goto g (off := 5) (tgt := 90) (by decide +kernel) (by decide) ?_
                exact v_lret g z rfl (by decide +kernel) ⟨by rw [x_prize, if_neg c0, if_neg c1, if_neg c2, if_neg c3, ek, if_neg c4, if_pos c5, if_neg (fun q => q c6)], rfl⟩ (zcrn 0 0 rfl rfl (Nat.le_of_ble_eq_true rfl) (Nat.le_of_ble_eq_true rfl))
            · refine v_ldc2 g kc_X0_149 (by decide +kernel) ?_
              exact v_lret g z rfl (by decide +kernel) ⟨by rw [x_prize, if_neg c0, if_neg c1, if_neg c2, if_neg c3, ek, if_neg c4, if_neg c5], rfl⟩ (zcrn 0 0 rfl rfl (Nat.le_of_ble_eq_true rfl) (Nat.le_of_ble_eq_true rfl))
      · refine v_blk g [.aload_n 0] (pc' := 35) (lv' := [(3, .int (P k)), (0, .ref b), (1, .int (nI k)), (2, .int p)]) (st' := [.ref b]) (by decide +kernel) rfl rfl ?_
        refine v_get g hb fl_X0_34 rfl (by decide +kernel) ?_
        refine v_blk g [.iload_n 1] (pc' := 39) (lv' := [(3, .int (P k)), (0, .ref b), (1, .int (nI k)), (2, .int p)]) (st' := [.int (nI k), .ref pz]) (by decide +kernel) rfl rfl ?_
        refine v_lald g hpz k rfl (by omega) (Nat.le_of_ble_eq_true rfl) (by decide +kernel) ?_
        exact v_lret g z rfl (by decide +kernel) ⟨by rw [x_prize, if_neg c0, if_neg c1, if_pos c2, ek], rfl⟩ (zcrn 0 0 rfl rfl (Nat.le_of_ble_eq_true rfl) (Nat.le_of_ble_eq_true rfl))
