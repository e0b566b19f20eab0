/-! the reference: coupons' questions -/
section VT
variable {F : zF} {X : zX} {y : MethodName} {cc : ByteArray} {nL : Nat} {ret : Option FieldType} {rm : Room} {cn : Nat × Nat} {h : zH} {pc : Nat} {lv lv' : zLv} {st st' : List Value}
theorem v_tabI (g : zG F X y cc nL ret rm cn) {dflt lo hi : Int} {offs : Array Int} {len : Nat} {x : Int32} (j : Nat) {off : Int} {tgt : Nat} (hd : decode cc pc = .ok (.tableswitch dflt lo hi offs, len)) (hj : x.toInt = lo + (j : Nat)) (hh : ¬ (lo + (j : Nat) > hi)) (he : offs[j]? = some off) (ht : (pc : Int) + off = (tgt : Int)) (kk : zV F X h tgt lv st) : zV F X h pc lv (.int x :: st) := by
  obtain ⟨l, D, dA, H0⟩ := F
  obtain ⟨p, e, R, s, m, args, below, meth, c, Q, nL'⟩ := X
  obtain ⟨rfl, rfl, hx, hb, hml, hr, hlk, hown, hnm, hts, hK, hc0, hn0⟩ := g
  intro H locs ls k9 n9 hR hL hl
  exact lv_tableIn hx hb hd (fun q => by omega) (fun q => by omega) (by rw [show (x.toInt - lo).toNat = j by omega]; exact he) (tgt := tgt) ht (kk H locs ls k9 n9 hR hL hl)
theorem v_tabO (g : zG F X y cc nL ret rm cn) {dflt lo hi : Int} {offs : Array Int} {len : Nat} {x : Int32} {tgt : Nat} (hd : decode cc pc = .ok (.tableswitch dflt lo hi offs, len)) (ho : x.toInt < lo ∨ hi < x.toInt) (ht : (pc : Int) + dflt = (tgt : Int)) (kk : zV F X h tgt lv st) : zV F X h pc lv (.int x :: st) := by
  obtain ⟨l, D, dA, H0⟩ := F
  obtain ⟨p, e, R, s, m, args, below, meth, c, Q, nL'⟩ := X
  obtain ⟨rfl, rfl, hx, hb, hml, hr, hlk, hown, hnm, hts, hK, hc0, hn0⟩ := g
  intro H locs ls k9 n9 hR hL hl
  exact lv_tableOut hx hb hd ho (tgt := tgt) ht (kk H locs ls k9 n9 hR hL hl)
end VT
def x_C (n : Nat) (v : Int32) : Int32 := if v < 0 then 0 else if nI n ≤ v then 0 else 1
theorem x_C_eq {n : Nat} (hn : n ≤ 1000) (v : Int32) : x_isIn v 0 (nI n - 1) = x_C n v := by
  have h1 : (nI n - 1).toInt = (n : Int) - 1 := by
    rw [show (1 : Int32) = nI 1 from rfl, pk_sub_toInt (by omega) (by omega)]; rfl
  have h2 : (nI n - 1 < v) ↔ (nI n ≤ v) := by rw [fa_lt, fa_le, h1, nI_toInt (by omega)]; omega
  unfold x_isIn x_C
  simp only [h2]
theorem x_C_k {n : Nat} {v : Int32} (hn : n ≤ 1000) (h : ¬ x_C n v = 0) : ∃ k, k < n ∧ v = nI k := by
  rcases pk_ix v (n := n) (by omega) with q | q | ⟨k, q1, q2⟩
  · exact absurd (by rw [x_C, if_pos q]) h
  · exact absurd (by unfold x_C; rw [if_pos q, ite_self]) h
  · exact ⟨k, q1, q2⟩
theorem x_C_in {n k : Nat} (hn : n ≤ 1000) (h : k < n) : x_C n (nI k) = 1 := by
  rw [x_C, if_neg (nI_pos (by omega)), if_neg (nI_ge h (by omega))]
theorem x_C_01 (n : Nat) (v : Int32) : x_C n v = 0 ∨ x_C n v = 1 := by
  unfold x_C
  split
  · exact Or.inl rfl
  · split
    · exact Or.inl rfl
    · exact Or.inr rfl
theorem one_bit : ∀ i, i < 32 → bt 1 i = decide (i = 0) := by decide +kernel
theorem sbit (x : Int32) {j : Nat} (hj : j < 32) : ((x >>> (nI j &&& (31 : Int32))) &&& (1 : Int32) = (1 : Int32)) ↔ bt x j = true := by
  have h0 : bt (x >>> (nI j &&& 31)) 0 = bt x j := by rw [b_sshr j hj x (by decide), if_pos (by omega)]; rfl
  constructor
  · intro e
    have e2 := congrArg (fun z => bt z 0) e
    simp only [b_and] at e2
    rw [h0, one_bit 0 (by decide)] at e2
    simpa using e2
  · intro e
    apply b_ext
    intro i hi
    rw [b_and, one_bit i hi]
    by_cases hz : i = 0
    · subst hz; rw [h0, e]; rfl
    · simp [hz]
def hs9 (LN : Nat → Int32) (q l : Nat) : Bool := bt (LN (512 * q + l / 32)) (l % 32)
def b01 (b : Bool) : Int32 := if b then 1 else 0
theorem b01_0 {b : Bool} : b01 b = 0 ↔ b = false := by cases b <;> simp [b01]
theorem b01_1 {b : Bool} : ¬ b01 b = 0 ↔ b = true := by cases b <;> simp [b01]
theorem b01_e {a b : Bool} : b01 a = b01 b ↔ a = b := by cases a <;> cases b <;> simp [b01]
theorem b01_or (b : Bool) : b01 b = 0 ∨ b01 b = 1 := by cases b <;> simp [b01]

set_option maxRecDepth 100000 in
set_option maxHeartbeats 4000000 in
theorem m_isCoupon {F : zF} {h : zH} {m : Nat} {R : Nat → Nat} {tp fk fp ha un dm wk pm cu ct dt pt hg th at9 sz : Int32} {hl pd hlt pdt : Int64} {n : Nat} (hm : h.1 m = some (oM R tp fk fp (nI n) ha un dm wk hl pd pm cu ct dt hlt pdt pt hg th at9 sz)) (hn : n ≤ 1000) (v : Int32) : zMet F yX8_isCoupon cX8_isCoupon 2 (some .boolean) { frames := 2, cells := 0, slots := 0, locals := 60 } [.ref m, .int v] h (zP h (some (.int (x_C n v)))) := by
  refine zMet_of (lv := [(0, .ref m), (1, .int v)]) (by decide) (by simp [lg_sl, Value.category]) rfl ?_
  intro X g z
  refine v_blk g [.iload_n 1, .i2l, .lconst 0, .aload_n 0] (pc' := 4) (lv' := [(0, .ref m), (1, .int v)]) (st' := [.ref m, .long (0 : Int64), .long v.toInt64]) (by decide +kernel) rfl rfl ?_
  refine v_get g hm fl_X8_177 rfl (by decide +kernel) ?_
  refine v_blk g [.iconst 1, .isub, .i2l] (pc' := 10) (lv' := [(0, .ref m), (1, .int v)]) (st' := [.long (((nI n) - (1 : Int32)).toInt64), .long (0 : Int64), .long v.toInt64]) (by decide +kernel) rfl rfl ?_
  refine v_callSp g (rest := []) (m_in _ _ _) cl_X8_94 rfl (Nat.le_of_ble_eq_true rfl) (by decide +kernel) ⟨Nat.le_of_ble_eq_true rfl, Nat.le_of_ble_eq_true rfl⟩ (zcsn 0 0 rfl rfl (Nat.le_of_ble_eq_true rfl) (Nat.le_of_ble_eq_true rfl)) ?_
  show zV F X h 13 [(0, .ref m), (1, .int v)] [.int (x_in v.toInt64 (0 : Int64) (nI n - (1 : Int32)).toInt64)]
  refine v_ti (z := x_C n v) ((in_eq v 0 (nI n - 1) rfl rfl).trans (x_C_eq hn v)) ?_
  exact v_zret g z rfl (x_C_01 n v) (by decide +kernel) ⟨rfl, rfl⟩ (zcrn 0 0 rfl rfl (Nat.le_of_ble_eq_true rfl) (Nat.le_of_ble_eq_true rfl))

set_option maxRecDepth 100000 in
set_option maxHeartbeats 4000000 in
theorem m_has {F : zF} {h : zH} {m : Nat} {R : Nat → Nat} {tp fk fp cn ha un dm wk pm cu ct dt pt hg th at9 sz : Int32} {hl pd hlt pdt : Int64} (hm : h.1 m = some (oM R tp fk fp cn ha un dm wk hl pd pm cu ct dt hlt pdt pt hg th at9 sz)) {LN : Nat → Int32} (k4 : h.1 (R 4) = some (aI 10240 LN)) {q l : Nat} (hq : q < 20) (hl9 : l < 16384) : zMet F yX8_has cX8_has 3 (some .boolean) { frames := 1, cells := 0, slots := 0, locals := 30 } [.ref m, .int (nI q), .int (nI l)] h (zP h (some (.int (b01 (hs9 LN q l))))) := by
  refine zMet_of (lv := [(0, .ref m), (1, .int (nI q)), (2, .int (nI l))]) (by decide) (by simp [lg_sl, Value.category]) rfl ?_
  intro X g z
  refine v_blk g [.aload_n 0] (pc' := 1) (lv' := [(0, .ref m), (1, .int (nI q)), (2, .int (nI l))]) (st' := [.ref m]) (by decide +kernel) rfl rfl ?_
  refine v_get g hm fl_X8_22 rfl (by decide +kernel) ?_
  refine v_blk g [.sipush 512, .iload_n 1, .imul, .iload_n 2, .bipush 32] (pc' := 12) (lv' := [(0, .ref m), (1, .int (nI q)), (2, .int (nI l))]) (st' := [.int (32 : Int32), .int (nI l), .int ((512 : Int32) * (nI q)), .ref (R 4)]) (by decide +kernel) rfl rfl ?_
  refine v_idiv g (by decide +kernel) (by decide) ?_
  refine v_ti (z := nI (l / 32)) (pk_div (by omega) (by decide) (by decide)) ?_
  refine v_blk g [.iadd] (pc' := 14) (lv' := [(0, .ref m), (1, .int (nI q)), (2, .int (nI l))]) (st' := [.int (((512 : Int32) * (nI q)) + (nI (l / 32))), .ref (R 4)]) (by decide +kernel) rfl rfl ?_
  refine v_ti (z := nI (512 * q + l / 32)) (by rw [show (512 : Int32) = nI 512 from rfl, pk_mul, nI_add]) ?_
  refine v_iald g k4 (512 * q + l / 32) rfl (by omega) (Nat.le_of_ble_eq_true rfl) (by decide +kernel) ?_
  refine v_blk g [.iload_n 2, .bipush 32] (pc' := 18) (lv' := [(0, .ref m), (1, .int (nI q)), (2, .int (nI l))]) (st' := [.int (32 : Int32), .int (nI l), .int (LN (512 * q + l / 32))]) (by decide +kernel) rfl rfl ?_
  refine v_irem g (by decide +kernel) (by decide) ?_
  refine v_ti (z := nI (l % 32)) (pk_rem (by omega) (by decide) (by decide)) ?_
  refine v_blk g [.ishr, .iconst 1, .iand, .iconst 1] (pc' := 23) (lv' := [(0, .ref m), (1, .int (nI q)), (2, .int (nI l))]) (st' := [.int (1 : Int32), .int (((LN (512 * q + l / 32)) >>> ((nI (l % 32)) &&& (31 : Int32))) &&& (1 : Int32))]) (by decide +kernel) rfl rfl ?_
  refine v_icmp_ne g (off := 7) (tgt := 30) (by decide +kernel) (by decide) (fun c => ?_) (fun c => ?_)
  · refine v_blk g [.iconst 0] (pc' := 31) (lv' := [(0, .ref m), (1, .int (nI q)), (2, .int (nI l))]) (st' := [.int (0 : Int32)]) (by decide +kernel) rfl rfl ?_
    exact v_zret g z rfl (by decide) (by decide +kernel) ⟨by rw [hs9, b01, if_neg (fun q => c ((sbit _ (by omega)).mpr q))], rfl⟩ (zcrn 0 0 rfl rfl (Nat.le_of_ble_eq_true rfl) (Nat.le_of_ble_eq_true rfl))
  · refine v_blk g [.iconst 1] (pc' := 27) (lv' := [(0, .ref m), (1, .int (nI q)), (2, .int (nI l))]) (st' := [.int (1 : Int32)]) (by decide +kernel) rfl rfl ?_
    refine v_goto g (off := 4) (tgt := 31) (by decide +kernel) (by decide) ?_
    exact v_zret g z rfl (by decide) (by decide +kernel) ⟨by rw [hs9, b01, if_pos ((sbit _ (by omega)).mp c)], rfl⟩ (zcrn 0 0 rfl rfl (Nat.le_of_ble_eq_true rfl) (Nat.le_of_ble_eq_true rfl))

set_option maxRecDepth 100000 in
set_option maxHeartbeats 4000000 in
theorem m_below0 {F : zF} {h : zH} {m : Nat} {R : Nat → Nat} {tp fk fp cn ha un dm wk pm cu ct dt pt hg th at9 sz : Int32} {hl pd hlt pdt : Int64} (hm : h.1 m = some (oM R tp fk fp cn ha un dm wk hl pd pm cu ct dt hlt pdt pt hg th at9 sz)) {LN : Nat → Int32} (k4 : h.1 (R 4) = some (aI 10240 LN)) {q N : Nat} (hq : q < 20) (hN : N ≤ 16384) : zMet F yX8_below0 cX8_below0 5 (some .int) { frames := 2, cells := 0, slots := 0, locals := 60 } [.ref m, .int (nI q), .int (nI N)] h (zP h (some (.int (nI (fb_ct (hs9 LN q) N))))) := by
  refine zMet_of (lv := [(0, .ref m), (1, .int (nI q)), (2, .int (nI N))]) (by decide) (by simp [lg_sl, Value.category]) rfl ?_
  intro X g z
  refine v_blk g [.iconst 0, .istore_n 3, .iconst 0, .istore 4] (pc' := 5) (lv' := [(4, .int (0 : Int32)), (3, .int (0 : Int32)), (0, .ref m), (1, .int (nI q)), (2, .int (nI N))]) (st' := []) (by decide +kernel) rfl rfl ?_
  have key : ∀ i, i ≤ N → zV F X h 5 [(4, .int (nI i)), (3, .int (nI (fb_ct (hs9 LN q) i))), (0, .ref m), (1, .int (nI q)), (2, .int (nI N))] [] := by
    refine z_up (P := fun i => zV F X h 5 [(4, .int (nI i)), (3, .int (nI (fb_ct (hs9 LN q) i))), (0, .ref m), (1, .int (nI q)), (2, .int (nI N))] []) N ?_ ?_
    · refine v_blk g [.iload 4, .iload_n 2] (pc' := 8) (lv' := [(4, .int (nI N)), (3, .int (nI (fb_ct (hs9 LN q) N))), (0, .ref m), (1, .int (nI q)), (2, .int (nI N))]) (st' := [.int (nI N), .int (nI N)]) (by decide +kernel) rfl rfl ?_
      refine v_icmp_ge g (off := 22) (tgt := 30) (by decide +kernel) (by decide) (fun _ => ?_) (fun c => absurd c (fun q => q (nI_le (Nat.le_refl _) (by omega))))
      refine v_blk g [.iload_n 3] (pc' := 31) (lv' := [(4, .int (nI N)), (3, .int (nI (fb_ct (hs9 LN q) N))), (0, .ref m), (1, .int (nI q)), (2, .int (nI N))]) (st' := [.int (nI (fb_ct (hs9 LN q) N))]) (by decide +kernel) rfl rfl ?_
      exact v_iret g z rfl (by decide +kernel) ⟨rfl, rfl⟩ (zcrn 0 0 rfl rfl (Nat.le_of_ble_eq_true rfl) (Nat.le_of_ble_eq_true rfl))
    · intro i hi ih
      refine v_blk g [.iload 4, .iload_n 2] (pc' := 8) (lv' := [(4, .int (nI i)), (3, .int (nI (fb_ct (hs9 LN q) i))), (0, .ref m), (1, .int (nI q)), (2, .int (nI N))]) (st' := [.int (nI N), .int (nI i)]) (by decide +kernel) rfl rfl ?_
      refine v_icmp_ge g (off := 22) (tgt := 30) (by decide +kernel) (by decide) (fun c => absurd c (nI_ge hi (by omega))) (fun _ => ?_)
      refine v_blk g [.aload_n 0, .iload_n 1, .iload 4] (pc' := 15) (lv' := [(4, .int (nI i)), (3, .int (nI (fb_ct (hs9 LN q) i))), (0, .ref m), (1, .int (nI q)), (2, .int (nI N))]) (st' := [.int (nI i), .int (nI q), .ref m]) (by decide +kernel) rfl rfl ?_
      refine v_callVp g (rest := []) (m_has hm k4 hq (by omega)) cl_X8_180 hm rfl rfl (Nat.le_of_ble_eq_true rfl) (by decide +kernel) ⟨Nat.le_of_ble_eq_true rfl, Nat.le_of_ble_eq_true rfl⟩ (zcsn 0 0 rfl rfl (Nat.le_of_ble_eq_true rfl) (Nat.le_of_ble_eq_true rfl)) ?_
      show zV F X h 18 [(4, .int (nI i)), (3, .int (nI (fb_ct (hs9 LN q) i))), (0, .ref m), (1, .int (nI q)), (2, .int (nI N))] [.int (b01 (hs9 LN q i))]
      refine v_if_eq g (off := 6) (tgt := 24) (by decide +kernel) (by decide) (fun c => ?_) (fun c => ?_)
      · refine v_blk g [.iinc 4 1] (pc' := 27) (lv' := [(4, .int ((nI i) + (1 : Int32))), (3, .int (nI (fb_ct (hs9 LN q) i))), (0, .ref m), (1, .int (nI q)), (2, .int (nI N))]) (st' := []) (by decide +kernel) rfl rfl ?_
        refine v_goto g (off := -22) (tgt := 5) (by decide +kernel) (by decide) ?_
        refine v_lv [0, 1, 2, 3, 4] (lv' := [(4, .int ((nI i) + (1 : Int32))), (3, .int (nI (fb_ct (hs9 LN q) i))), (0, .ref m), (1, .int (nI q)), (2, .int (nI N))]) rfl ?_
        exact v_eq (by rw [nI_1, fb_ct_succ, b01_0.mp c]; rfl) rfl ih
      · refine v_blk g [.iinc 3 1] (pc' := 24) (lv' := [(3, .int ((nI (fb_ct (hs9 LN q) i)) + (1 : Int32))), (4, .int (nI i)), (0, .ref m), (1, .int (nI q)), (2, .int (nI N))]) (st' := []) (by decide +kernel) rfl rfl ?_
        refine v_blk g [.iinc 4 1] (pc' := 27) (lv' := [(4, .int ((nI i) + (1 : Int32))), (3, .int ((nI (fb_ct (hs9 LN q) i)) + (1 : Int32))), (0, .ref m), (1, .int (nI q)), (2, .int (nI N))]) (st' := []) (by decide +kernel) rfl rfl ?_
        refine v_goto g (off := -22) (tgt := 5) (by decide +kernel) (by decide) ?_
        refine v_lv [0, 1, 2, 3, 4] (lv' := [(4, .int ((nI i) + (1 : Int32))), (3, .int ((nI (fb_ct (hs9 LN q) i)) + (1 : Int32))), (0, .ref m), (1, .int (nI q)), (2, .int (nI N))]) rfl ?_
        exact v_eq (by rw [nI_1, nI_1, fb_ct_succ, b01_1.mp c]; rfl) rfl ih
  exact key 0 (by omega)

set_option maxRecDepth 100000 in
set_option maxHeartbeats 4000000 in
theorem m_tear {F : zF} {h : zH} {m : Nat} {R : Nat → Nat} {tp fk fp ha un dm wk pm cu ct dt pt hg th at9 sz : Int32} {hl pd hlt pdt : Int64} {n : Nat} (hm : h.1 m = some (oM R tp fk fp (nI n) ha un dm wk hl pd pm cu ct dt hlt pdt pt hg th at9 sz)) {VD : Nat → Int32} (k7 : h.1 (R 7) = some (aZ 20 VD)) (hn : n ≤ 20) (v is9 : Int32) (h01 : is9 = 0 ∨ is9 = 1) : zMet F yX8_tear cX8_tear 3 (some .boolean) { frames := 3, cells := 0, slots := 0, locals := 90 } [.ref m, .int v, .int is9] h (zP (if x_C n v = 0 then z_s h m (oM R tp fk fp (nI n) ha un dm wk hl pd pm cu ct dt hlt pdt pt hg 0 at9 sz) else z_s (z_s h m (oM R tp fk fp (nI n) ha un dm wk hl pd pm cu ct dt hlt pdt pt hg 0 at9 sz)) (R 7) (aZ 20 (upd VD v.toNatClampNeg is9))) (some (.int (x_C n v)))) := by
  refine zMet_of (lv := [(0, .ref m), (1, .int v), (2, .int is9)]) (by decide) (by simp [lg_sl, Value.category]) rfl ?_
  intro X g z
  refine v_blk g [.aload_n 0, .iconst 0] (pc' := 2) (lv' := [(0, .ref m), (1, .int v), (2, .int is9)]) (st' := [.int (0 : Int32), .ref m]) (by decide +kernel) rfl rfl ?_
  refine v_put g (fs' := oMl R tp fk fp (nI n) ha un dm wk hl pd pm cu ct dt hlt pdt pt hg (0 : Int32) at9 sz) hm fl_X8_89 rfl rfl (Nat.le_of_ble_eq_true rfl) rfl (by decide +kernel) ?_
  refine v_h (fun h1 eh1 => ?_)
  have h1_c : h1.2.1 = h.2.1 + 0 ∧ h1.2.2 = h.2.2 + 0 := zcs eh1 ⟨rfl, rfl⟩
  have h1_m : h1.1 m = some (oM R tp fk fp (nI n) ha un dm wk hl pd pm cu ct dt hlt pdt pt hg (0 : Int32) at9 sz) := by rw [eh1]; exact z_s_self _ _ _
  have h1_R7 : h1.1 (R 7) = some (aZ 20 VD) := by rw [eh1]; exact z_so k7 (Ne.symm (z_ne hm k7 rfl))
  refine v_blk g [.aload_n 0, .iload_n 1] (pc' := 7) (lv' := [(0, .ref m), (1, .int v), (2, .int is9)]) (st' := [.int v, .ref m]) (by decide +kernel) rfl rfl ?_
  refine v_callVp g (rest := []) (m_isCoupon h1_m (by omega) v) cl_X8_183 h1_m rfl rfl (Nat.le_of_ble_eq_true rfl) (by decide +kernel) ⟨Nat.le_of_ble_eq_true rfl, Nat.le_of_ble_eq_true rfl⟩ (zcsn 0 0 h1_c.1 h1_c.2 (Nat.le_of_ble_eq_true rfl) (Nat.le_of_ble_eq_true rfl)) ?_
  show zV F X h1 10 [(0, .ref m), (1, .int v), (2, .int is9)] [.int (x_C n v)]
  refine v_if_ne g (off := 5) (tgt := 15) (by decide +kernel) (by decide) (fun c0 => ?_) (fun c0 => ?_)
  · obtain ⟨k, hk, rfl⟩ := x_C_k (by omega) c0
    have ek : (nI k).toNatClampNeg = k := nI_clamp (by omega)
    refine v_blk g [.aload_n 0] (pc' := 16) (lv' := [(0, .ref m), (1, .int (nI k)), (2, .int is9)]) (st' := [.ref m]) (by decide +kernel) rfl rfl ?_
    refine v_get g h1_m fl_X8_31 rfl (by decide +kernel) ?_
    refine v_blk g [.iload_n 1, .iload_n 2] (pc' := 21) (lv' := [(0, .ref m), (1, .int (nI k)), (2, .int is9)]) (st' := [.int is9, .int (nI k), .ref (R 7)]) (by decide +kernel) rfl rfl ?_
    refine v_zast g h1_R7 h01 k rfl (by omega) (Nat.le_of_ble_eq_true rfl) (by decide +kernel) ?_
    refine v_h (fun h2 eh2 => ?_)
    have h2_c : h2.2.1 = h.2.1 + 0 ∧ h2.2.2 = h.2.2 + 0 := zcs eh2 h1_c
    have h2_m : h2.1 m = some (oM R tp fk fp (nI n) ha un dm wk hl pd pm cu ct dt hlt pdt pt hg (0 : Int32) at9 sz) := by rw [eh2]; exact z_so h1_m (z_ne hm k7 rfl)
    have h2_R7 : h2.1 (R 7) = some (aZ 20 (upd VD k is9)) := by rw [eh2]; exact z_s_self _ _ _
    refine v_blk g [.iconst 1] (pc' := 23) (lv' := [(0, .ref m), (1, .int (nI k)), (2, .int is9)]) (st' := [.int (1 : Int32)]) (by decide +kernel) rfl rfl ?_
    exact v_zret g z rfl (by decide) (by decide +kernel) ⟨by rw [x_C_in (by omega) hk], by rw [x_C_in (by omega) hk, if_neg (by decide), eh2, eh1, ek]⟩ (zcrn 0 0 h2_c.1 h2_c.2 (Nat.le_of_ble_eq_true rfl) (Nat.le_of_ble_eq_true rfl))
  · refine v_blk g [.iconst 0] (pc' := 14) (lv' := [(0, .ref m), (1, .int v), (2, .int is9)]) (st' := [.int (0 : Int32)]) (by decide +kernel) rfl rfl ?_
    exact v_zret g z rfl (by decide) (by decide +kernel) ⟨by rw [c0], by rw [if_pos c0, eh1]⟩ (zcrn 0 0 h1_c.1 h1_c.2 (Nat.le_of_ble_eq_true rfl) (Nat.le_of_ble_eq_true rfl))
