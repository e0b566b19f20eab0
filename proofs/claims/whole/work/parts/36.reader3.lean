/-! the reader's sets: a stack of fifteen and a spare one -/
abbrev zS : Type := Option (Nat × Nat × (Nat → Int64))
def upT (T : Nat → zS) (k : Nat) (v : zS) : Nat → zS := fun j => if j = k then v else T j
def swT (T : Nat → zS) (i j : Nat) : Nat → zS := fun q => if q = i then T j else if q = j then T i else T q
theorem upT_s (T : Nat → zS) (k : Nat) (v : zS) : upT T k v k = v := by simp [upT]
theorem upT_o {T : Nat → zS} {k j : Nat} {v : zS} (h : j ≠ k) : upT T k v j = T j := by simp [upT, h]
def ls_ok (h : zH) (T : Nat → zS) : Prop := (∀ j, j < 16 → ∀ s w f, T j = some (s, w, f) → h.1 s = some (oB 3 [.ref w]) ∧ h.1 w = some (aJ 256 f)) ∧ (∀ i j, i < 16 → j < 16 → i ≠ j → ∀ s w f s2 w2 f2, T i = some (s, w, f) → T j = some (s2, w2, f2) → s ≠ s2 ∧ w ≠ w2)
def ow (a ss : Nat) (T : Nat → zS) (x : Nat) : Prop := x = a ∨ x = ss ∨ ∃ j s w f, j < 16 ∧ T j = some (s, w, f) ∧ (x = s ∨ x = w)
def fr (O O2 : Nat → Prop) (h h2 : zH) : Prop := (∀ x y, h.1 x = some y → ¬ O x → h2.1 x = some y) ∧ ∀ x, O2 x → O x ∨ h.1 x = none
theorem fr_refl {O : Nat → Prop} {h : zH} : fr O O h h := ⟨fun _ _ q _ => q, fun _ q => Or.inl q⟩
theorem fr_trans {O O2 O3 : Nat → Prop} {h h2 h3 : zH} (f : fr O O2 h h2) (g : fr O2 O3 h2 h3) : fr O O3 h h3 := by
  refine ⟨fun x y hx hO => g.1 x y (f.1 x y hx hO) (fun q => ?_), fun x hx => ?_⟩
  · rcases f.2 x q with q | q
    · exact hO q
    · rw [hx] at q; cases q
  · rcases g.2 x hx with q | q
    · exact f.2 x q
    · cases hy : h.1 x with
      | none => exact Or.inr rfl
      | some y =>
        refine Or.inl (Classical.byContradiction (fun hO => ?_))
        rw [f.1 x y hy hO] at q
        cases q
def nn (T : Nat → zS) : Nat → Nat
  | 0 => 0
  | k + 1 => nn T k + (match T k with | none => 1 | some _ => 0)
theorem nn_cong {T U : Nat → zS} : ∀ {k : Nat}, (∀ j, j < k → (T j).isNone = (U j).isNone) → nn T k = nn U k
  | 0, _ => rfl
  | k + 1, h => by
    have e := h k (by omega)
    unfold nn
    rw [nn_cong (fun j hj => h j (by omega))]
    cases hT : T k <;> cases hU : U k <;> rw [hT, hU] at e <;> first | rfl | cases e
theorem nn_new {T : Nat → zS} {k : Nat} {v : Nat × Nat × (Nat → Int64)} (hT : T k = none) : ∀ {n : Nat}, k < n → nn (upT T k (some v)) n + 1 = nn T n
  | 0, h => by omega
  | n + 1, h => by
    unfold nn
    by_cases e : n = k
    · subst e
      rw [upT_s, hT]
      have := nn_cong (T := upT T n (some v)) (U := T) (k := n) (fun j hj => by rw [upT_o (by omega)])
      simp only []
      omega
    · rw [upT_o e]
      have := nn_new hT (v := v) (n := n) (by omega)
      omega
theorem nn_old {T : Nat → zS} {k : Nat} {u v : Nat × Nat × (Nat → Int64)} (hT : T k = some u) (n : Nat) : nn (upT T k (some v)) n = nn T n := nn_cong (fun j _ => by
  by_cases e : j = k
  · subst e; rw [upT_s, hT]; rfl
  · rw [upT_o e])
theorem ls_upd {h h' : zH} {T : Nat → zS} {k a ss s w : Nat} {f' : Nat → Int64} {xs : List Value} {G : Nat → Option Nat} (hl : ls_ok h T) (hk : k < 16) (ha : h.1 a = some (oB 4 xs)) (hss : h.1 ss = some (aQ 3 15 G)) (h1 : h'.1 s = some (oB 3 [.ref w])) (h2 : h'.1 w = some (aJ 256 f')) (keep : ∀ x y, h.1 x = some y → x ≠ a → x ≠ ss → x ≠ w → h'.1 x = some y) (hd : (∃ f, T k = some (s, w, f)) ∨ (h.1 s = none ∧ h.1 w = none)) : ls_ok h' (upT T k (some (s, w, f'))) := by
  have dis : ∀ j, j < 16 → j ≠ k → ∀ s2 w2 f2, T j = some (s2, w2, f2) → s2 ≠ s ∧ w2 ≠ w := by
    intro j hj hjk s2 w2 f2 hT
    rcases hd with ⟨f, hTk⟩ | ⟨n1, n2⟩
    · exact hl.2 j k hj hk hjk _ _ _ _ _ _ hT hTk
    · obtain ⟨q1, q2⟩ := hl.1 j hj _ _ _ hT
      exact ⟨z_nn q1 n1, z_nn q2 n2⟩
  refine ⟨fun j hj s2 w2 f2 hT => ?_, fun i j hi hj hij s2 w2 f2 s3 w3 f3 hT hU => ?_⟩
  · by_cases e : j = k
    · subst e
      rw [upT_s] at hT
      cases hT
      exact ⟨h1, h2⟩
    · rw [upT_o e] at hT
      obtain ⟨q1, q2⟩ := hl.1 j hj _ _ _ hT
      obtain ⟨d1, d2⟩ := dis j hj e _ _ _ hT
      refine ⟨keep _ _ q1 (z_ne q1 ha rfl) (z_ne q1 hss rfl) ?_, keep _ _ q2 (z_ne q2 ha rfl) (z_ne q2 hss rfl) d2⟩
      rcases hd with ⟨f, hTk⟩ | ⟨n1, n2⟩
      · exact z_ne q1 (hl.1 k hk _ _ _ hTk).2 rfl
      · exact z_nn q1 n2
  · by_cases e : i = k
    · have e2 : j ≠ k := fun q => hij (e.trans q.symm)
      rw [e, upT_s] at hT
      rw [upT_o e2] at hU
      cases hT
      obtain ⟨d1, d2⟩ := dis j hj e2 _ _ _ hU
      exact ⟨Ne.symm d1, Ne.symm d2⟩
    · rw [upT_o e] at hT
      by_cases e2 : j = k
      · rw [e2, upT_s] at hU
        cases hU
        exact dis i hi e _ _ _ hT
      · rw [upT_o e2] at hU
        exact hl.2 i j hi hj hij _ _ _ _ _ _ hT hU
theorem fr_upd {h h' : zH} {T : Nat → zS} {k a ss s w : Nat} {f' : Nat → Int64} (hk : k < 16) (keep : ∀ x y, h.1 x = some y → x ≠ a → x ≠ ss → x ≠ w → h'.1 x = some y) (hd : (∃ f, T k = some (s, w, f)) ∨ (h.1 s = none ∧ h.1 w = none)) : fr (ow a ss T) (ow a ss (upT T k (some (s, w, f')))) h h' := by
  refine ⟨fun x y hx hO => keep x y hx (fun e => hO (Or.inl e)) (fun e => hO (Or.inr (Or.inl e))) (fun e => ?_), fun x hx => ?_⟩
  · rcases hd with ⟨f, hTk⟩ | ⟨n1, n2⟩
    · exact hO (Or.inr (Or.inr ⟨k, s, w, f, hk, hTk, Or.inr e⟩))
    · rw [e, n2] at hx; cases hx
  · rcases hx with q | q | ⟨j, s2, w2, f2, hj, hT, q⟩
    · exact Or.inl (Or.inl q)
    · exact Or.inl (Or.inr (Or.inl q))
    · by_cases e : j = k
      · rw [e, upT_s] at hT
        cases hT
        rcases hd with ⟨f, hTk⟩ | ⟨n1, n2⟩
        · exact Or.inl (Or.inr (Or.inr ⟨k, s, w, f, hk, hTk, q⟩))
        · rcases q with q | q
          · exact Or.inr (by rw [q]; exact n1)
          · exact Or.inr (by rw [q]; exact n2)
      · rw [upT_o e] at hT
        exact Or.inl (Or.inr (Or.inr ⟨j, s2, w2, f2, hj, hT, q⟩))
theorem swT_i (T : Nat → zS) (i j : Nat) : swT T i j i = T j := by simp [swT]
theorem swT_j {T : Nat → zS} {i j : Nat} (h : j ≠ i) : swT T i j j = T i := by simp [swT, h]
theorem swT_o {T : Nat → zS} {i j q : Nat} (h1 : q ≠ i) (h2 : q ≠ j) : swT T i j q = T q := by simp [swT, h1, h2]
theorem swT_ex {T : Nat → zS} {i j : Nat} (hi : i < 16) (hj : j < 16) {q : Nat} (hq : q < 16) : ∃ q2, q2 < 16 ∧ swT T i j q = T q2 ∧ (q2 = if q = i then j else if q = j then i else q) := by
  unfold swT
  by_cases h1 : q = i
  · exact ⟨j, hj, by simp [h1], by simp [h1]⟩
  · by_cases h2 : q = j
    · exact ⟨i, hi, by rw [if_neg h1, if_pos h2], by rw [if_neg h1, if_pos h2]⟩
    · exact ⟨q, hq, by simp [h1, h2], by simp [h1, h2]⟩
theorem ls_sw {h : zH} {T : Nat → zS} {i j : Nat} (hl : ls_ok h T) (hi : i < 16) (hj : j < 16) : ls_ok h (swT T i j) := by
  refine ⟨fun q hq s w f hT => ?_, fun q1 q2 h1 h2 hne s w f s2 w2 f2 hT hU => ?_⟩
  · obtain ⟨p, hp, e, -⟩ := swT_ex (T := T) hi hj hq
    rw [e] at hT
    exact hl.1 p hp _ _ _ hT
  · obtain ⟨p1, hp1, e1, g1⟩ := swT_ex (T := T) hi hj h1
    obtain ⟨p2, hp2, e2, g2⟩ := swT_ex (T := T) hi hj h2
    rw [e1] at hT
    rw [e2] at hU
    refine hl.2 p1 p2 hp1 hp2 ?_ _ _ _ _ _ _ hT hU
    rw [g1, g2]
    split <;> split <;> (try split) <;> (try split) <;> omega
theorem ow_sw {T : Nat → zS} {i j a ss x : Nat} (hi : i < 16) (hj : j < 16) (h : ow a ss (swT T i j) x) : ow a ss T x := by
  rcases h with q | q | ⟨q, s, w, f, hq, hT, e⟩
  · exact Or.inl q
  · exact Or.inr (Or.inl q)
  · obtain ⟨p, hp, e1, -⟩ := swT_ex (T := T) hi hj hq
    rw [e1] at hT
    exact Or.inr (Or.inr ⟨p, s, w, f, hp, hT, e⟩)
def bud (h : zH) (T : Nat → zS) (h2 : zH) (T2 : Nat → zS) : Prop := h2.2.1 + 2 * nn T2 16 = h.2.1 + 2 * nn T 16 ∧ h2.2.2 + 257 * nn T2 16 = h.2.2 + 257 * nn T 16
theorem bud_trans {h h2 h3 : zH} {T T2 T3 : Nat → zS} (b : bud h T h2 T2) (c : bud h2 T2 h3 T3) : bud h T h3 T3 := by
  unfold bud at *
  omega
/-- the reader's world -/
def RW (h : zH) (a t tb ss n : Nat) (B : Nat → Int32) (hg at9 fk fp : Int32) (sp : Option Nat) (G : Nat → Option Nat) (T : Nat → zS) : Prop := h.1 a = some (oB 4 [.int fk, .int fp, .ref t, .ref ss, va_rf sp, .int hg, .int at9]) ∧ h.1 t = some (oB 6 [.ref tb, .int (nI n)]) ∧ h.1 tb = some (aI 200 B) ∧ h.1 ss = some (aQ 3 15 G) ∧ sp = (T 15).map (fun q => q.1) ∧ (∀ j, j < 15 → G j = (T j).map (fun q => q.1)) ∧ ls_ok h T
/-- another number in one of the reader's own fields -/
theorem RW.num {h : zH} {a t tb ss n : Nat} {B : Nat → Int32} {hg at9 fk fp : Int32} {sp : Option Nat} {G : Nat → Option Nat} {T : Nat → zS} (r : RW h a t tb ss n B hg at9 fk fp sp G T) (hg' at' fk' fp' : Int32) : RW (z_s h a (oB 4 [.int fk', .int fp', .ref t, .ref ss, va_rf sp, .int hg', .int at'])) a t tb ss n B hg' at' fk' fp' sp G T := by
  obtain ⟨ha, ht, hb, hss, hsp, hG, hl⟩ := r
  refine ⟨z_s_self _ _ _, z_so ht (z_ne ht ha rfl), z_so hb (z_ne hb ha rfl), z_so hss (z_ne hss ha rfl), hsp, hG, fun j hj s w f hT => ?_, hl.2⟩
  obtain ⟨q1, q2⟩ := hl.1 j hj s w f hT
  exact ⟨z_so q1 (z_ne q1 ha rfl), z_so q2 (z_ne q2 ha rfl)⟩
theorem fr_num {h : zH} {a ss : Nat} {T : Nat → zS} {x : zE} : fr (ow a ss T) (ow a ss T) h (z_s h a x) := ⟨fun _ _ q hO => z_so q (fun e => hO (Or.inl e)), fun _ q => Or.inl q⟩
theorem bud_s {h : zH} {a : Nat} {T : Nat → zS} {x : zE} : bud h T (z_s h a x) T := ⟨rfl, rfl⟩
theorem vaT_up {G : Nat → Option Nat} {T : Nat → zS} (hG : ∀ j, j < 15 → G j = (T j).map (fun q => q.1)) {k s w : Nat} {f : Nat → Int64} {j : Nat} (hj : j < 15) : va_up G k (some s) j = (upT T k (some (s, w, f)) j).map (fun q => q.1) := by
  unfold va_up upT
  by_cases e : j = k
  · simp [e]
  · simp [e, hG j hj]
theorem vaT_sm {G : Nat → Option Nat} {T : Nat → zS} (hG : ∀ j, j < 15 → G j = (T j).map (fun q => q.1)) {k s w : Nat} {f f2 : Nat → Int64} (hT : T k = some (s, w, f)) {j : Nat} (hj : j < 15) : G j = (upT T k (some (s, w, f2)) j).map (fun q => q.1) := by
  unfold upT
  by_cases e : j = k
  · rw [hG j hj, e, hT]; simp
  · simp [e, hG j hj]

set_option maxRecDepth 100000 in
set_option maxHeartbeats 4000000 in
theorem c_PR_push {F : zF} {h : zH} {a t tb ss n : Nat} {B : Nat → Int32} {AT fk fp : Int32} {sp : Option Nat} {G : Nat → Option Nat} {T : Nat → zS} {k m9 : Nat} {v : Int32} (r : RW h a t tb ss n B (nI k) AT fk fp sp G T) (hk : k < 15) (hm : m9 < 16384) : zMet F yX4_pushChoices cX4_pushChoices 4 none { frames := 3, cells := 2 * nn T 16, slots := 257 * nn T 16, locals := 90 } [.ref a, .int (nI m9), .int v] h (fun v2 h2 => v2 = none ∧ ∃ G2 T2, RW h2 a t tb ss n B (nI (k + 1)) AT fk fp sp G2 T2 ∧ fr (ow a ss T) (ow a ss T2) h h2 ∧ bud h T h2 T2 ∧ (∀ j, j < k → T2 j = T j) ∧ ∃ s w f, T2 k = some (s, w, f) ∧ ∀ q, q < 16384 → (lb f q = true ↔ (q &&& m9 = q ∧ nI (fb_ct (fun t => q.testBit t) 32) = v))) := by
  refine zMet_of (lv := [(0, .ref a), (1, .int (nI m9)), (2, .int v)]) (by decide) (by simp [lg_sl, Value.category]) rfl ?_
  intro X g z
  obtain ⟨ha, ht, hb, hss, hsp, hG, hl⟩ := r
  refine v_blk g [.aload_n 0] (pc' := 1) (lv' := [(0, .ref a), (1, .int (nI m9)), (2, .int v)]) (st' := [.ref a]) (by decide +kernel) rfl rfl ?_
  refine v_get g ha fl_X4_25 rfl (by decide +kernel) ?_
  refine v_if_lt g (off := 12) (tgt := 16) (by decide +kernel) (by decide) (fun c => absurd c (nI_pos (by omega))) (fun _ => ?_)
  refine v_blk g [.aload_n 0] (pc' := 8) (lv' := [(0, .ref a), (1, .int (nI m9)), (2, .int v)]) (st' := [.ref a]) (by decide +kernel) rfl rfl ?_
  refine v_get g ha fl_X4_25 rfl (by decide +kernel) ?_
  refine v_blk g [.bipush 15] (pc' := 13) (lv' := [(0, .ref a), (1, .int (nI m9)), (2, .int v)]) (st' := [.int (15 : Int32), .int (nI k)]) (by decide +kernel) rfl rfl ?_
  refine v_icmp_lt g (off := 4) (tgt := 17) (by decide +kernel) (by decide) (fun _ => ?_) (fun c => absurd c (fun q => q (nI_lt (b := 15) hk (by decide))))
  refine v_blk g [.aload_n 0] (pc' := 18) (lv' := [(0, .ref a), (1, .int (nI m9)), (2, .int v)]) (st' := [.ref a]) (by decide +kernel) rfl rfl ?_
  refine v_get g ha fl_X4_17 rfl (by decide +kernel) ?_
  refine v_blk g [.aload_n 0] (pc' := 22) (lv' := [(0, .ref a), (1, .int (nI m9)), (2, .int v)]) (st' := [.ref a, .ref ss]) (by decide +kernel) rfl rfl ?_
  refine v_get g ha fl_X4_25 rfl (by decide +kernel) ?_
  refine v_aald3 g hss k rfl hk (Nat.le_of_ble_eq_true rfl) (by decide +kernel) ?_
  cases hT : T k with
  | none =>
    have nn9 := nn_new (T := T) (k := k) (v := (0, 0, fun _ => 0)) hT (n := 16) (by omega)
    refine v_st (st' := [.null]) (by rw [show G k = none from by rw [hG k hk, hT]; rfl]; rfl) ?_
    refine v_blk g [.astore_n 3, .aload_n 3] (pc' := 28) (lv' := [(3, .null), (0, .ref a), (1, .int (nI m9)), (2, .int v)]) (st' := [.null]) (by decide +kernel) rfl rfl ?_
    refine v_ifnonnull g (r := none) (off := 21) (tgt := 49) (by decide +kernel) (by decide) (fun _ q => nomatch q) (fun _ => ?_)
    refine v_new g nl_X4_15 (zcsk 0 0 1 1 rfl rfl (by dsimp only; omega) (by dsimp only; omega)) (by decide +kernel) (fun s9 hs9 => ?_)
    refine v_h (fun h1 eh1 => ?_)
    have h1_c : h1.2.1 = h.2.1 + 1 ∧ h1.2.2 = h.2.2 + 1 := zcn eh1 ⟨rfl, rfl⟩
    have h1_a : h1.1 a = some (oB 4 [.int fk, .int fp, .ref t, .ref ss, va_rf sp, .int (nI k), .int AT]) := by rw [eh1]; exact z_no ha hs9
    have h1_ss : h1.1 ss = some (aQ 3 15 G) := by rw [eh1]; exact z_no hss hs9
    have h1_s9 : h1.1 s9 = some (oB 3 [.null]) := by rw [eh1]; exact z_n_self _ _ _ _
    refine v_blk g [.dup] (pc' := 35) (lv' := [(3, .null), (0, .ref a), (1, .int (nI m9)), (2, .int v)]) (st' := [.ref s9, .ref s9]) (by decide +kernel) rfl rfl ?_
    refine v_callI g (rest := [.ref s9]) (c_LS_init h1_s9) cl_X4_51 rfl (Nat.le_of_ble_eq_true rfl) (by decide +kernel) ⟨Nat.le_of_ble_eq_true rfl, Nat.le_of_ble_eq_true rfl⟩ (zcsn 1 1 h1_c.1 h1_c.2 (by dsimp only; omega) (by dsimp only; omega)) (fun v9 h9 q9 => ?_)
    obtain ⟨rfl, w9, hw9, e7⟩ := q9
    show zV F X h9 38 [(3, .null), (0, .ref a), (1, .int (nI m9)), (2, .int v)] [.ref s9]
    have f9 : h.1 w9 = none := by cases hq : h.1 w9 with
      | none => rfl
      | some y => rw [eh1, z_no hq hs9] at hw9; cases hw9
    have n9 : w9 ≠ s9 := fun e => by rw [e, h1_s9] at hw9; cases hw9
    have h9_w9 : h9.1 w9 = some (aJ 256 (fun _ => 0)) := by rw [e7]; exact z_so (z_n_self _ _ _ _) n9
    have h9_s9 : h9.1 s9 = some (oB 3 [.ref w9]) := by rw [e7]; exact z_s_self _ _ _
    have h9_a : h9.1 a = some (oB 4 [.int fk, .int fp, .ref t, .ref ss, va_rf sp, .int (nI k), .int AT]) := by rw [e7]; exact z_so (z_no h1_a hw9) (z_nn ha hs9)
    have h9_ss : h9.1 ss = some (aQ 3 15 G) := by rw [e7]; exact z_so (z_no h1_ss hw9) (z_nn hss hs9)
    have h9_c : h9.2.1 = h.2.1 + 2 ∧ h9.2.2 = h.2.2 + 257 := zcs e7 (zcn (A := 1) (B := 1) rfl h1_c)
    refine v_blk g [.astore_n 3, .aload_n 0] (pc' := 40) (lv' := [(3, .ref s9), (0, .ref a), (1, .int (nI m9)), (2, .int v)]) (st' := [.ref a]) (by decide +kernel) rfl rfl ?_
    refine v_get g h9_a fl_X4_17 rfl (by decide +kernel) ?_
    refine v_blk g [.aload_n 0] (pc' := 44) (lv' := [(3, .ref s9), (0, .ref a), (1, .int (nI m9)), (2, .int v)]) (st' := [.ref a, .ref ss]) (by decide +kernel) rfl rfl ?_
    refine v_get g h9_a fl_X4_25 rfl (by decide +kernel) ?_
    refine v_blk g [.aload_n 3] (pc' := 48) (lv' := [(3, .ref s9), (0, .ref a), (1, .int (nI m9)), (2, .int v)]) (st' := [.ref s9, .int (nI k), .ref ss]) (by decide +kernel) rfl rfl ?_
    refine v_aast3 g (r := (some s9)) h9_ss (fun v q => by cases q; exact ⟨_, h9_s9⟩) k rfl hk (Nat.le_of_ble_eq_true rfl) (by decide +kernel) ?_
    refine v_h (fun h11 eh11 => ?_)
    have h11_c : h11.2.1 = h.2.1 + 2 ∧ h11.2.2 = h.2.2 + 257 := zcs eh11 h9_c
    have h11_a : h11.1 a = some (oB 4 [.int fk, .int fp, .ref t, .ref ss, va_rf sp, .int (nI k), .int AT]) := by rw [eh11]; exact z_so h9_a (z_ne ha hss rfl)
    have h11_ss : h11.1 ss = some (aQ 3 15 (va_up G k (some s9))) := by rw [eh11]; exact z_s_self _ _ _
    have h11_s9 : h11.1 s9 = some (oB 3 [.ref w9]) := by rw [eh11]; exact z_so h9_s9 (Ne.symm (z_ne h9_ss h9_s9 rfl))
    have h11_w9 : h11.1 w9 = some (aJ 256 (fun _ => 0)) := by rw [eh11]; exact z_so h9_w9 (Ne.symm (z_ne h9_ss h9_w9 rfl))
    refine v_blk g [.aload_n 3, .iload_n 1, .iload_n 2] (pc' := 52) (lv' := [(3, .ref s9), (0, .ref a), (1, .int (nI m9)), (2, .int v)]) (st' := [.int v, .int (nI m9), .ref s9]) (by decide +kernel) rfl rfl ?_
    refine v_callV g (rest := []) (c_LS_choices h11_s9 h11_w9 hm v) cl_X4_102 h11_s9 rfl rfl (Nat.le_of_ble_eq_true rfl) (by decide +kernel) ⟨Nat.le_of_ble_eq_true rfl, Nat.le_of_ble_eq_true rfl⟩ (zcsn 2 257 h11_c.1 h11_c.2 (by dsimp only; omega) (by dsimp only; omega)) (fun v9 h12 q9 => ?_)
    obtain ⟨rfl, G9, e9, hG9⟩ := q9
    show zV F X h12 55 [(3, .ref s9), (0, .ref a), (1, .int (nI m9)), (2, .int v)] []
    have eh12 := e9
    have h12_c : h12.2.1 = h.2.1 + 2 ∧ h12.2.2 = h.2.2 + 257 := zcs eh12 h11_c
    have h12_a : h12.1 a = some (oB 4 [.int fk, .int fp, .ref t, .ref ss, va_rf sp, .int (nI k), .int AT]) := by rw [eh12]; exact z_so h11_a (z_ne h9_a h9_w9 rfl)
    have h12_ss : h12.1 ss = some (aQ 3 15 (va_up G k (some s9))) := by rw [eh12]; exact z_so h11_ss (z_ne h9_ss h9_w9 rfl)
    have h12_s9 : h12.1 s9 = some (oB 3 [.ref w9]) := by rw [eh12]; exact z_so h11_s9 (Ne.symm n9)
    have h12_w9 : h12.1 w9 = some (aJ 256 G9) := by rw [eh12]; exact z_s_self _ _ _
    refine v_blk g [.aload_n 0, .dup] (pc' := 57) (lv' := [(3, .ref s9), (0, .ref a), (1, .int (nI m9)), (2, .int v)]) (st' := [.ref a, .ref a]) (by decide +kernel) rfl rfl ?_
    refine v_get g h12_a fl_X4_25 rfl (by decide +kernel) ?_
    refine v_blk g [.iconst 1, .iadd] (pc' := 62) (lv' := [(3, .ref s9), (0, .ref a), (1, .int (nI m9)), (2, .int v)]) (st' := [.int ((nI k) + (1 : Int32)), .ref a]) (by decide +kernel) rfl rfl ?_
    refine v_ti (z := nI (k + 1)) (nI_1 k) ?_
    refine v_put g (fs' := [.int fk, .int fp, .ref t, .ref ss, va_rf sp, .int (nI (k + 1)), .int AT]) h12_a fl_X4_25 rfl rfl (Nat.le_of_ble_eq_true rfl) rfl (by decide +kernel) ?_
    refine v_h (fun h10 eh10 => ?_)
    have h10_c : h10.2.1 = h.2.1 + 2 ∧ h10.2.2 = h.2.2 + 257 := zcs eh10 h12_c
    have h10_a : h10.1 a = some (oB 4 [.int fk, .int fp, .ref t, .ref ss, va_rf sp, .int (nI (k + 1)), .int AT]) := by rw [eh10]; exact z_s_self _ _ _
    have h10_ss : h10.1 ss = some (aQ 3 15 (va_up G k (some s9))) := by rw [eh10]; exact z_so h12_ss (Ne.symm (z_ne ha hss rfl))
    have h10_s9 : h10.1 s9 = some (oB 3 [.ref w9]) := by rw [eh10]; exact z_so h12_s9 (z_ne h9_s9 h9_a rfl)
    have h10_w9 : h10.1 w9 = some (aJ 256 G9) := by rw [eh10]; exact z_so h12_w9 (Ne.symm (z_ne h9_a h9_w9 rfl))
    have kp : ∀ x y, h.1 x = some y → x ≠ a → x ≠ ss → x ≠ w9 → h10.1 x = some y := fun x y hx x1 x2 x3 => by
      rw [eh10]; refine z_so ?_ x1
      rw [eh12]; refine z_so ?_ x3
      rw [eh11]; refine z_so ?_ x2
      rw [e7]; refine z_so ?_ (z_nn hx hs9)
      refine z_no ?_ hw9
      rw [eh1]; exact z_no hx hs9
    have fT : h10.1 t = some (oB 6 [.ref tb, .int (nI n)]) := kp _ _ ht (z_ne ht ha rfl) (z_ne ht hss rfl) (z_nn ht f9)
    have fB : h10.1 tb = some (aI 200 B) := kp _ _ hb (z_ne hb ha rfl) (z_ne hb hss rfl) (z_nn hb f9)
    have nn8 := nn_new (T := T) (k := k) (v := (s9, w9, G9)) hT (n := 16) (by omega)
    exact v_vret g z rfl (by decide +kernel) ⟨rfl, va_up G k (some s9), upT T k (some (s9, w9, G9)), ⟨h10_a, fT, fB, h10_ss, by rw [hsp, upT_o (by omega)], fun j hj => vaT_up hG hj, ls_upd hl (by omega) ha hss h10_s9 h10_w9 kp (Or.inr ⟨hs9, f9⟩)⟩, fr_upd (by omega) kp (Or.inr ⟨hs9, f9⟩), ⟨by omega, by omega⟩, fun j hj => upT_o (by omega), s9, w9, G9, upT_s _ _ _, hG9⟩ (zcrn 2 257 h10_c.1 h10_c.2 (by dsimp only; omega) (by dsimp only; omega))
  | some u9 =>
    obtain ⟨s9, w9, f9⟩ := u9
    obtain ⟨hs9, hw9⟩ := hl.1 k (by omega) _ _ _ hT
    refine v_st (st' := [.ref s9]) (by rw [show G k = some s9 from by rw [hG k hk, hT]; rfl]; rfl) ?_
    refine v_blk g [.astore_n 3, .aload_n 3] (pc' := 28) (lv' := [(3, .ref s9), (0, .ref a), (1, .int (nI m9)), (2, .int v)]) (st' := [.ref s9]) (by decide +kernel) rfl rfl ?_
    refine v_ifnonnull g (r := (some s9)) (off := 21) (tgt := 49) (by decide +kernel) (by decide) (fun _ _ => ?_) (fun q => nomatch q)
    refine v_blk g [.aload_n 3, .iload_n 1, .iload_n 2] (pc' := 52) (lv' := [(3, .ref s9), (0, .ref a), (1, .int (nI m9)), (2, .int v)]) (st' := [.int v, .int (nI m9), .ref s9]) (by decide +kernel) rfl rfl ?_
    refine v_callV g (rest := []) (c_LS_choices hs9 hw9 hm v) cl_X4_102 hs9 rfl rfl (Nat.le_of_ble_eq_true rfl) (by decide +kernel) ⟨Nat.le_of_ble_eq_true rfl, Nat.le_of_ble_eq_true rfl⟩ (zcsn 0 0 rfl rfl (by dsimp only; omega) (by dsimp only; omega)) (fun v9 h9 q9 => ?_)
    obtain ⟨rfl, G9, e9, hG9⟩ := q9
    show zV F X h9 55 [(3, .ref s9), (0, .ref a), (1, .int (nI m9)), (2, .int v)] []
    have eh9 := e9
    have h9_c : h9.2.1 = h.2.1 + 0 ∧ h9.2.2 = h.2.2 + 0 := zcs eh9 ⟨rfl, rfl⟩
    have h9_a : h9.1 a = some (oB 4 [.int fk, .int fp, .ref t, .ref ss, va_rf sp, .int (nI k), .int AT]) := by rw [eh9]; exact z_so ha (z_ne ha hw9 rfl)
    have h9_ss : h9.1 ss = some (aQ 3 15 G) := by rw [eh9]; exact z_so hss (z_ne hss hw9 rfl)
    have h9_s9 : h9.1 s9 = some (oB 3 [.ref w9]) := by rw [eh9]; exact z_so hs9 (z_ne hs9 hw9 rfl)
    have h9_w9 : h9.1 w9 = some (aJ 256 G9) := by rw [eh9]; exact z_s_self _ _ _
    refine v_blk g [.aload_n 0, .dup] (pc' := 57) (lv' := [(3, .ref s9), (0, .ref a), (1, .int (nI m9)), (2, .int v)]) (st' := [.ref a, .ref a]) (by decide +kernel) rfl rfl ?_
    refine v_get g h9_a fl_X4_25 rfl (by decide +kernel) ?_
    refine v_blk g [.iconst 1, .iadd] (pc' := 62) (lv' := [(3, .ref s9), (0, .ref a), (1, .int (nI m9)), (2, .int v)]) (st' := [.int ((nI k) + (1 : Int32)), .ref a]) (by decide +kernel) rfl rfl ?_
    refine v_ti (z := nI (k + 1)) (nI_1 k) ?_
    refine v_put g (fs' := [.int fk, .int fp, .ref t, .ref ss, va_rf sp, .int (nI (k + 1)), .int AT]) h9_a fl_X4_25 rfl rfl (Nat.le_of_ble_eq_true rfl) rfl (by decide +kernel) ?_
    refine v_h (fun h10 eh10 => ?_)
    have h10_c : h10.2.1 = h.2.1 + 0 ∧ h10.2.2 = h.2.2 + 0 := zcs eh10 h9_c
    have h10_a : h10.1 a = some (oB 4 [.int fk, .int fp, .ref t, .ref ss, va_rf sp, .int (nI (k + 1)), .int AT]) := by rw [eh10]; exact z_s_self _ _ _
    have h10_ss : h10.1 ss = some (aQ 3 15 G) := by rw [eh10]; exact z_so h9_ss (Ne.symm (z_ne ha hss rfl))
    have h10_s9 : h10.1 s9 = some (oB 3 [.ref w9]) := by rw [eh10]; exact z_so h9_s9 (Ne.symm (z_ne ha hs9 rfl))
    have h10_w9 : h10.1 w9 = some (aJ 256 G9) := by rw [eh10]; exact z_so h9_w9 (Ne.symm (z_ne ha hw9 rfl))
    have kp : ∀ x y, h.1 x = some y → x ≠ a → x ≠ ss → x ≠ w9 → h10.1 x = some y := fun x y hx x1 x2 x3 => by rw [eh10]; refine z_so ?_ x1; rw [eh9]; exact z_so hx x3
    have fT : h10.1 t = some (oB 6 [.ref tb, .int (nI n)]) := kp _ _ ht (z_ne ht ha rfl) (z_ne ht hss rfl) (z_ne ht hw9 rfl)
    have fB : h10.1 tb = some (aI 200 B) := kp _ _ hb (z_ne hb ha rfl) (z_ne hb hss rfl) (z_ne hb hw9 rfl)
    have nn8 := nn_old (T := T) (k := k) (v := (s9, w9, G9)) hT 16
    exact v_vret g z rfl (by decide +kernel) ⟨rfl, G, upT T k (some (s9, w9, G9)), ⟨h10_a, fT, fB, h10_ss, by rw [hsp, upT_o (by omega)], fun j hj => vaT_sm hG hT hj, ls_upd hl (by omega) ha hss h10_s9 h10_w9 kp (Or.inl ⟨_, hT⟩)⟩, fr_upd (by omega) kp (Or.inl ⟨_, hT⟩), ⟨by omega, by omega⟩, fun j hj => upT_o (by omega), s9, w9, G9, upT_s _ _ _, hG9⟩ (zcrn 0 0 h10_c.1 h10_c.2 (by dsimp only; omega) (by dsimp only; omega))
