/-! pure: the two sides' answers, made equal -/
section PU
variable {S T : Nat → Bool} {W U : Nat → Nat}
abbrev eqS (S T : Nat → Bool) : Prop := ∀ l, l < 16384 → S l = T l
theorem ct_eq (e : eqS S T) {n : Nat} (hn : n ≤ 16384) : fb_ct S n = fb_ct T n := fb_ct_cong (fun k hk => e k (by omega))
theorem line_eq (e : eqS S T) (i : Int32) : s_line S i = s_line T i := by
  have : ∀ k, s_nth S k = s_nth T k := fun k => first_cong (fun n hn => by rw [e n hn, ct_eq e (by omega)])
  simp only [s_line, this]
theorem unl_eq {S2 T2 : Nat → Bool} (e : eqS S T) (e2 : eqS S2 T2) : s_unl S S2 = s_unl T T2 := by
  have : fa_first (fun n => S n != S2 n) 16384 = fa_first (fun n => T n != T2 n) 16384 := first_cong (fun n hn => by rw [e n hn, e2 n hn])
  simp only [s_unl, this]
theorem or_eq : ∀ {n : Nat}, (∀ k, k < n → S k = T k) → s_or S n = s_or T n
  | 0, _ => rfl
  | n + 1, h => by simp only [s_or, or_eq (n := n) (fun k hk => h k (by omega)), h n (by omega)]
theorem an_eq : ∀ {n : Nat}, (∀ k, k < n → S k = T k) → s_an S n = s_an T n
  | 0, _ => rfl
  | n + 1, h => by simp only [s_an, an_eq (n := n) (fun k hk => h k (by omega)), h n (by omega)]
theorem wt_eq (e : ∀ m, m < 14 → W m = U m) (n : Nat) : wt W n = wt U n := by
  unfold wt wS
  exact fb_sm_cong (fun k hk => by rw [show 0 + k = k by omega, e k hk])
theorem grt_eq (hw : ∀ n, wt W n = wt U n) : ∀ {n : Nat}, (∀ k, k < n → S k = T k) → grt S W n = grt T U n
  | 0, _ => rfl
  | n + 1, h => by simp only [grt, grt_eq hw (n := n) (fun k hk => h k (by omega)), h n (by omega), hw]
theorem btw_eq (hw : ∀ n, wt W n = wt U n) (e : eqS S T) (L G : Int64) : fb_ct (btw S W L G) 16384 = fb_ct (btw T U L G) 16384 := fb_ct_cong (fun n hn => by simp only [btw, e n hn, hw])
theorem nIL {k : Nat} (hk : k < 2147483648) : (nI k).toInt64.toInt = (k : Int) := by rw [Int32.toInt_toInt64, nI_toInt hk]
theorem btw_at {L G : Int64} {n : Nat} (h : wt W n < 1000000) : btw S W L G n = (S n && decide (L.toInt ≤ (wt W n : Int) ∧ (wt W n : Int) ≤ G.toInt)) := by
  unfold btw x_in
  congr 1
  have e := nIL (k := wt W n) (by omega)
  apply decide_eq_decide.mpr
  by_cases c1 : (nI (wt W n)).toInt64 < L
  · rw [if_pos c1]; rw [fa_lt64, e] at c1
    exact ⟨fun q => absurd rfl q, fun q => by omega⟩
  · rw [if_neg c1]; rw [fa_lt64, e] at c1
    by_cases c2 : G < (nI (wt W n)).toInt64
    · rw [if_pos c2]; rw [fa_lt64, e] at c2
      exact ⟨fun q => absurd rfl q, fun q => by omega⟩
    · rw [if_neg c2]; rw [fa_lt64, e] at c2
      exact ⟨fun _ => by omega, fun _ => by decide⟩
/-- lines of at least a, less those of at least b: those between -/
theorem from_sub (S : Nat → Bool) (hW : ∀ m, W m ≤ 9) {L G : Int64} {a b : Int32} (ha : a.toInt = L.toInt) (hb : b.toInt = G.toInt + 1) (hab : a.toInt ≤ b.toInt) : fb_ct (btw S W L G) 16384 + s_from S W b = s_from S W a := by
  unfold s_from
  rw [← fb_ct_or]
  · refine fb_ct_cong (fun n hn => ?_)
    rw [btw_at (by have := wt_le hW n; omega)]
    cases S n
    · rfl
    · simp only [Bool.true_and]
      rw [← Bool.decide_or]
      exact decide_eq_decide.mpr (by omega)
  · intro k hk q
    rw [btw_at (by have := wt_le hW k; omega)] at q
    simp only [Bool.and_eq_true, decide_eq_true_eq] at q
    omega
theorem from_top (S : Nat → Bool) (hW : ∀ m, W m ≤ 9) {L : Int64} {a : Int32} (ha : a.toInt = L.toInt) : fb_ct (btw S W L 1000) 16384 = s_from S W a := by
  unfold s_from
  refine fb_ct_cong (fun n hn => ?_)
  have := wt_le hW n
  rw [btw_at (by omega), show (1000 : Int64).toInt = 1000 from rfl]
  congr 1
  exact decide_eq_decide.mpr (by omega)
theorem from_le (S : Nat → Bool) (W : Nat → Nat) (v : Int32) : s_from S W v ≤ 16384 := fb_ct_le _ _
theorem nI_subs {a b c : Nat} (h : a + b = c) (hc : c < 2147483648) : nI c - nI b = nI a := by
  rw [← h]
  have : nI (a + b) = nI a + nI b := by rw [nI_add]
  rw [this]
  exact Int32.add_sub_cancel _ _
theorem win_eq (hW : ∀ m, W m ≤ 9) (p : Int32) : (if x_isIn p 0 126 = 0 then 0 else nI (s_from S W p) - nI (s_from S W (p + 1))) = nI (fb_ct (btw S W p.toInt64 p.toInt64) 16384) := by
  by_cases c : x_isIn p 0 126 = 0
  · rw [if_pos c]
    have : fb_ct (btw S W p.toInt64 p.toInt64) 16384 = 0 := fb_ct_zero.mpr (fun n hn => by
      have := wt_le hW n
      rw [btw_at (by omega)]
      have hp : ¬ (0 ≤ p.toInt ∧ p.toInt ≤ 126) := fun q => (isIn_p.mpr ⟨(fa_le 0 p).mpr q.1, (fa_le p 126).mpr q.2⟩) c
      rw [decide_eq_false (by rw [Int32.toInt_toInt64]; omega), Bool.and_false])
    rw [this]; rfl
  · rw [if_neg c]
    obtain ⟨k, hk, rfl⟩ := isIn_k (N := 126) (by decide) c
    have e1 := nI_toInt (n := k) (by omega)
    have e2 := nI_toInt (n := k + 1) (by omega)
    have := from_sub (a := nI k) (b := nI (k + 1)) (L := (nI k).toInt64) (G := (nI k).toInt64) S hW (by rw [Int32.toInt_toInt64]) (by rw [Int32.toInt_toInt64]; omega) (by omega)
    rw [show nI k + 1 = nI (k + 1) from nI_1 k]
    exact nI_subs this (by have := from_le S W (nI k); omega)
end PU
